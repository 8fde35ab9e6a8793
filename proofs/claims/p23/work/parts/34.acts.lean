set_option maxRecDepth 100000 in
set_option maxHeartbeats 4000000 in
theorem k_L_acts (l : Launch) (hl0 : l.stackTraces = false) (g : gG) (X : XS) (L : LAr) (n : Nat) (hR : LR n (X, L, []) (X, L, [])) (wy zz : Nat) (hwy : wy < 18) (hzz : zz < 1000000000) : Met l yL_acts (wA yL_acts cL_acts 19 (some .boolean)) ({ frames := 8, cells := 200, slots := 1200, locals := 310 }) (PW g (X, L, []) [.ref (gA g 0), .ref (gA g 17), .ref (gA g 18), .ref (gA g 19), .ref (gA g 20), .ref (gA g 21), .ref (gA g 22), .ref (gA g 23), .ref (gA g 24), .int (nI wy), .int (nI zz)]) (AQ g) 200 1200 (Ab g) := by
  refine metI (by decide +kernel) (Nat.le_of_ble_eq_true rfl) ?_
  intro p e s m below meth c C hb hml hret hlk hP ls hl
  have C : CW g RL p s m ([.ref (gA g 0), .ref (gA g 17), .ref (gA g 18), .ref (gA g 19), .ref (gA g 20), .ref (gA g 21), .ref (gA g 22), .ref (gA g 23), .ref (gA g 24), .int (nI wy), .int (nI zz)] : List Value).toArray := C
  have hS : va_S (Ab g) s.heap s.heap [] := va_S.rf
  have hl : lv_has ls 19 [(0, .ref (gA g 0)), (1, .ref (gA g 17)), (2, .ref (gA g 18)), (3, .ref (gA g 19)), (4, .ref (gA g 20)), (5, .ref (gA g 21)), (6, .ref (gA g 22)), (7, .ref (gA g 23)), (8, .ref (gA g 24)), (9, .int (nI wy)), (10, .int (nI zz))] := hl
  have hn12 := lr_n hR
  have hI : XI n (X, L, []) := hR.1.1
  have K0 : W p l e ({ frames := 8, cells := 200, slots := 1200, locals := 310 }) s m ([.ref (gA g 0), .ref (gA g 17), .ref (gA g 18), .ref (gA g 19), .ref (gA g 20), .ref (gA g 21), .ref (gA g 22), .ref (gA g 23), .ref (gA g 24), .int (nI wy), .int (nI zz)] : List Value).toArray below meth c s.heap [] 0 0 (MQ below (AQ g) ([.ref (gA g 0), .ref (gA g 17), .ref (gA g 18), .ref (gA g 19), .ref (gA g 20), .ref (gA g 21), .ref (gA g 22), .ref (gA g 23), .ref (gA g 24), .int (nI wy), .int (nI zz)] : List Value).toArray s 200 1200 (Ab g)) (F0 m 220 ls []) := by
    have K1 : ∀ (r : Nat), (n = 0 → r = 0) → (0 < n → r < n) → W p l e ({ frames := 8, cells := 200, slots := 1200, locals := 310 }) s m ([.ref (gA g 0), .ref (gA g 17), .ref (gA g 18), .ref (gA g 19), .ref (gA g 20), .ref (gA g 21), .ref (gA g 22), .ref (gA g 23), .ref (gA g 24), .int (nI wy), .int (nI zz)] : List Value).toArray below meth c s.heap [] 0 0 (MQ below (AQ g) ([.ref (gA g 0), .ref (gA g 17), .ref (gA g 18), .ref (gA g 19), .ref (gA g 20), .ref (gA g 21), .ref (gA g 22), .ref (gA g 23), .ref (gA g 24), .int (nI wy), .int (nI zz)] : List Value).toArray s 200 1200 (Ab g)) (F0 m 238 ls [.int (nI r)]) := by
      intro r hr0 hr1
      refine lv_istore (lv' := [(11, .int (nI r)), (0, .ref (gA g 0)), (1, .ref (gA g 17)), (2, .ref (gA g 18)), (3, .ref (gA g 19)), (4, .ref (gA g 20)), (5, .ref (gA g 21)), (6, .ref (gA g 22)), (7, .ref (gA g 23)), (8, .ref (gA g 24)), (9, .int (nI wy)), (10, .int (nI zz))]) C.1 hb dL_acts_238 hl (by decide) rfl (fun ls hl => ?_)
      have K3 : W p l e ({ frames := 8, cells := 200, slots := 1200, locals := 310 }) s m ([.ref (gA g 0), .ref (gA g 17), .ref (gA g 18), .ref (gA g 19), .ref (gA g 20), .ref (gA g 21), .ref (gA g 22), .ref (gA g 23), .ref (gA g 24), .int (nI wy), .int (nI zz)] : List Value).toArray below meth c s.heap [] 0 0 (MQ below (AQ g) ([.ref (gA g 0), .ref (gA g 17), .ref (gA g 18), .ref (gA g 19), .ref (gA g 20), .ref (gA g 21), .ref (gA g 22), .ref (gA g 23), .ref (gA g 24), .int (nI wy), .int (nI zz)] : List Value).toArray s 200 1200 (Ab g)) (F0 m 358 ls []) := by
        refine lv_iload C.1 hb dL_acts_358 (lv_at hl 10 rfl) ?_
        refine lv_bipush (v := 7) C.1 hb dL_acts_360 (by decide) ?_
        refine lv_icmp_ge (tgt := 468) C.1 hb dL_acts_362 (by decide) (fun c143 => ?_) (fun c143 => ?_)
        · refine lv_iload C.1 hb dL_acts_468 (lv_at hl 10 rfl) ?_
          refine lv_bipush (v := 7) C.1 hb dL_acts_470 (by decide) ?_
          refine lv_icmp_ne (tgt := 556) C.1 hb dL_acts_472 (by decide) (fun c144 => ?_) (fun c144 => ?_)
          · obtain ⟨t, ht, et⟩ : ∃ t, t < 3 ∧ zz % 3 = t := ⟨zz % 3, Nat.mod_lt _ (by decide), rfl⟩
            have h4 := levN_4 t
            have h3 := levN_3 t
            refine lv_iload C.1 hb dL_acts_556 (lv_at hl 11 rfl) ?_
            refine lv_iconst (v := 3) C.1 hb dL_acts_558 (by decide) ?_
            refine lv_irem C.1 hb dL_acts_559 (by decide) ?_
            refine toI (pk_rem (a := zz) (d := 3) (by omega) (by decide) (by decide)) ?_
            refine toI (show _ = nI t from (by rw [et])) ?_
            refine lv_istore (lv' := [(12, .int (nI t)), (11, .int (nI r)), (0, .ref (gA g 0)), (1, .ref (gA g 17)), (2, .ref (gA g 18)), (3, .ref (gA g 19)), (4, .ref (gA g 20)), (5, .ref (gA g 21)), (6, .ref (gA g 22)), (7, .ref (gA g 23)), (8, .ref (gA g 24)), (9, .int (nI wy)), (10, .int (nI zz))]) C.1 hb dL_acts_560 hl (by decide) rfl (fun ls hl => ?_)
            refine lv_iload C.1 hb dL_acts_562 (lv_at hl 11 rfl) ?_
            refine lv_bipush (v := 10) C.1 hb dL_acts_564 (by decide) ?_
            refine lv_icmp_ge (tgt := 656) C.1 hb dL_acts_566 (by decide) (fun c145 => ?_) (fun c145 => ?_)
            · refine lv_iload C.1 hb dL_acts_656 (lv_at hl 11 rfl) ?_
              refine lv_bipush (v := 13) C.1 hb dL_acts_658 (by decide) ?_
              refine lv_icmp_ge (tgt := 694) C.1 hb dL_acts_660 (by decide) (fun c146 => ?_) (fun c146 => ?_)
              · refine lv_iload C.1 hb dL_acts_694 (lv_at hl 11 rfl) ?_
                refine lv_bipush (v := 13) C.1 hb dL_acts_696 (by decide) ?_
                refine lv_icmp_ne (tgt := 801) C.1 hb dL_acts_698 (by decide) (fun c147 => ?_) (fun c147 => ?_)
                · refine lv_iload C.1 hb dL_acts_801 (lv_at hl 11 rfl) ?_
                  refine lv_bipush (v := 16) C.1 hb dL_acts_803 (by decide) ?_
                  refine lv_icmp_ge (tgt := 839) C.1 hb dL_acts_805 (by decide) (fun c148 => ?_) (fun c148 => ?_)
                  · refine lv_aload_n C.1 hb dL_acts_839 rfl (lv_at hl 3 rfl) ?_
                    refine lv_aload_n C.1 hb dL_acts_840 rfl (lv_at hl 4 rfl) ?_
                    refine lv_aload C.1 hb dL_acts_841 (lv_at hl 6 rfl) ?_
                    refine lv_aload C.1 hb dL_acts_843 (lv_at hl 7 rfl) ?_
                    refine lv_aload C.1 hb dL_acts_845 (lv_at hl 8 rfl) ?_
                    refine lv_aload C.1 hb dL_acts_847 (lv_at hl 9 rfl) ?_
                    refine lv_aload C.1 hb dL_acts_849 (lv_at hl 10 rfl) ?_
                    refine lv_iconst (v := 1) C.1 hb dL_acts_851 (by decide) ?_
                    refine run_rd (cRunS (As := [.ref (gA g 17), .ref (gA g 18), .ref (gA g 20), .ref (gA g 21), .ref (gA g 22), .ref (gA g 23), .ref (gA g 24), .int 1]) (rest := []) C hb (hml.trans hl.1.symm) hP hS (k_L_all1 l g (X, L, []) n (X, L, []) hR) wm_224 wm_225 wm_226 wm_2 (n := 8) (by decide +kernel) rfl ⟨rfl, rfl, Nat.le_of_ble_eq_true rfl, Nat.le_of_ble_eq_true rfl⟩ (Nat.le_of_ble_eq_true rfl) rfl ⟨by show 0 + 0 ≤ 200; omega, by show 0 + 0 ≤ 1200; omega⟩ dL_acts_852) ?_
                    refine lv_lstore (lv' := [(13, .long (xTot (xIa (X, L, []) 1) (xCapP (X, L, [])) n)), (12, .int (nI t)), (11, .int (nI r)), (0, .ref (gA g 0)), (1, .ref (gA g 17)), (2, .ref (gA g 18)), (3, .ref (gA g 19)), (4, .ref (gA g 20)), (5, .ref (gA g 21)), (6, .ref (gA g 22)), (7, .ref (gA g 23)), (8, .ref (gA g 24)), (9, .int (nI wy)), (10, .int (nI zz))]) C.1 hb dL_acts_855 hl (by decide) rfl (fun ls hl => ?_)
                    refine lv_lload C.1 hb dL_acts_857 (lv_at hl 0 rfl) ?_
                    refine lv_lconst (v := 0) C.1 hb dL_acts_859 (by decide) ?_
                    refine lc_eq (tgt := 950) C hb dL_acts_860 dL_acts_861 (by decide) (fun c149 => ?_) (fun c149 => ?_)
                    · refine lv_aload_n C.1 hb dL_acts_950 rfl (lv_at hl 3 rfl) ?_
                      refine run_wr (cRunX (As := []) (rest := []) C hb (hml.trans hl.1.symm) hP hS rfl (k_X0_spread l g (X, L, []) n hI) wm_230 wm_231 wm_232 wm_233 wm_12 (n := 0) (by decide +kernel) rfl ⟨rfl, rfl, Nat.le_of_ble_eq_true rfl, Nat.le_of_ble_eq_true rfl⟩ (Nat.le_of_ble_eq_true rfl) rfl ⟨by show 0 + 0 ≤ 200; omega, by show 0 + 0 ≤ 1200; omega⟩ dL_acts_951) hS (fun H locs hP hS => ?_)
                      refine toI (show _ = xSc (X, L, []) 4 from (by rw [a_spread0 hR c149])) ?_
                      have hP : HW g (X, L, []) H := hP.cg (a_spread0 hR c149)
                      refine lv_aload C.1 hb dL_acts_954 (lv_at hl 11 rfl) ?_
                      refine lv_iconst (v := 3) C.1 hb dL_acts_956 (by decide) ?_
                      refine ldA_m (j := 3) C hb hP (by decide) (by decide) dL_acts_957 ?_
                      refine toI (lr_m3 hR) ?_
                      refine lv_icmp_ne (tgt := 965) C.1 hb dL_acts_958 (by decide) (fun c9 => absurd (rfl : xSc (X, L, []) 4 = xSc (X, L, []) 4) c9) (fun _ => ?_)
                      refine lv_iconst (v := 1) C.1 hb dL_acts_961 (by decide) ?_
                      refine lv_goto (tgt := 966) C.1 hb dL_acts_962 (by decide) ?_
                      exact acZ (by omega) (by omega) C hb hret hlk hP hS dL_acts_966 rfl hR rfl
                    · have hA := a_spread1 hR c149
                      refine lv_aload_n C.1 hb dL_acts_864 rfl (lv_at hl 4 rfl) ?_
                      refine lv_aload_n C.1 hb dL_acts_865 rfl (lv_at hl 5 rfl) ?_
                      refine lv_aload C.1 hb dL_acts_866 (lv_at hl 7 rfl) ?_
                      refine lv_aload C.1 hb dL_acts_868 (lv_at hl 8 rfl) ?_
                      refine lv_aload C.1 hb dL_acts_870 (lv_at hl 9 rfl) ?_
                      refine lv_aload C.1 hb dL_acts_872 (lv_at hl 10 rfl) ?_
                      refine lv_aload C.1 hb dL_acts_874 (lv_at hl 11 rfl) ?_
                      refine lv_iconst (v := 0) C.1 hb dL_acts_876 (by decide) ?_
                      refine run_rd (cRunS (As := [.ref (gA g 17), .ref (gA g 18), .ref (gA g 20), .ref (gA g 21), .ref (gA g 22), .ref (gA g 23), .ref (gA g 24), .int 0]) (rest := []) C hb (hml.trans hl.1.symm) hP hS (k_L_all0 l g (X, L, []) n (X, L, []) hR) wm_224 wm_225 wm_226 wm_2 (n := 8) (by decide +kernel) rfl ⟨rfl, rfl, Nat.le_of_ble_eq_true rfl, Nat.le_of_ble_eq_true rfl⟩ (Nat.le_of_ble_eq_true rfl) rfl ⟨by show 0 + 0 ≤ 200; omega, by show 0 + 0 ≤ 1200; omega⟩ dL_acts_877) ?_
                      refine lv_ldc2 (v := 10000) C.1 hb C.2.1 (C.2.2.1 _ wm_110) dL_acts_880 ?_
                      refine lv_lmul C.1 hb dL_acts_883 ?_
                      refine lv_lload C.1 hb dL_acts_884 (lv_at hl 0 rfl) ?_
                      refine lv_ldiv C.1 hb dL_acts_886 c149 ?_
                      refine toL (show _ = 10000 * xTot (xIa (X, L, []) 1) (xLng (X, L, []) 3) n / xTot (xIa (X, L, []) 1) (xCapP (X, L, [])) n from (by rw [Int64.mul_comm])) ?_
                      refine lv_lstore (lv' := [(15, .long (10000 * xTot (xIa (X, L, []) 1) (xLng (X, L, []) 3) n / xTot (xIa (X, L, []) 1) (xCapP (X, L, [])) n)), (13, .long (xTot (xIa (X, L, []) 1) (xCapP (X, L, [])) n)), (12, .int (nI t)), (11, .int (nI r)), (0, .ref (gA g 0)), (1, .ref (gA g 17)), (2, .ref (gA g 18)), (3, .ref (gA g 19)), (4, .ref (gA g 20)), (5, .ref (gA g 21)), (6, .ref (gA g 22)), (7, .ref (gA g 23)), (8, .ref (gA g 24)), (9, .int (nI wy)), (10, .int (nI zz))]) C.1 hb dL_acts_887 hl (by decide) rfl (fun ls hl => ?_)
                      refine lv_aload C.1 hb dL_acts_889 (lv_at hl 12 rfl) ?_
                      refine lv_iconst (v := 3) C.1 hb dL_acts_891 (by decide) ?_
                      refine ldA_m (j := 3) C hb hP (by decide) (by decide) dL_acts_892 ?_
                      refine toI (lr_m3 hR) ?_
                      refine lv_i2l C.1 hb dL_acts_893 rfl ?_
                      refine lv_lload C.1 hb dL_acts_894 (lv_at hl 0 rfl) ?_
                      refine lv_ldc2 (v := 1000000) C.1 hb C.2.1 (C.2.2.1 _ wm_111) dL_acts_896 ?_
                      refine lc_ge (tgt := 908) C hb dL_acts_899 dL_acts_900 (by decide) (fun c150 => ?_) (fun c150 => ?_)
                      · refine lv_ldc2 (v := 1000000) C.1 hb C.2.1 (C.2.2.1 _ wm_111) dL_acts_908 ?_
                        refine lv_lmul C.1 hb dL_acts_911 ?_
                        refine lv_ldc2 (v := 10000) C.1 hb C.2.1 (C.2.2.1 _ wm_110) dL_acts_912 ?_
                        refine lv_ldiv C.1 hb dL_acts_915 (by decide) ?_
                        refine toL (show _ = sprV (X, L, []) n from (spr_ge c150)) ?_
                        refine lv_lstore (lv' := [(17, .long (sprV (X, L, []) n)), (15, .long (10000 * xTot (xIa (X, L, []) 1) (xLng (X, L, []) 3) n / xTot (xIa (X, L, []) 1) (xCapP (X, L, [])) n)), (13, .long (xTot (xIa (X, L, []) 1) (xCapP (X, L, [])) n)), (12, .int (nI t)), (11, .int (nI r)), (0, .ref (gA g 0)), (1, .ref (gA g 17)), (2, .ref (gA g 18)), (3, .ref (gA g 19)), (4, .ref (gA g 20)), (5, .ref (gA g 21)), (6, .ref (gA g 22)), (7, .ref (gA g 23)), (8, .ref (gA g 24)), (9, .int (nI wy)), (10, .int (nI zz))]) C.1 hb dL_acts_916 hl (by decide) rfl (fun ls hl => ?_)
                        refine lv_aload C.1 hb dL_acts_918 (lv_at hl 13 rfl) ?_
                        refine lv_iconst (v := 3) C.1 hb dL_acts_920 (by decide) ?_
                        have K12 : W p l e ({ frames := 8, cells := 200, slots := 1200, locals := 310 }) s m ([.ref (gA g 0), .ref (gA g 17), .ref (gA g 18), .ref (gA g 19), .ref (gA g 20), .ref (gA g 21), .ref (gA g 22), .ref (gA g 23), .ref (gA g 24), .int (nI wy), .int (nI zz)] : List Value).toArray below meth c s.heap [] 0 0 (MQ below (AQ g) ([.ref (gA g 0), .ref (gA g 17), .ref (gA g 18), .ref (gA g 19), .ref (gA g 20), .ref (gA g 21), .ref (gA g 22), .ref (gA g 23), .ref (gA g 24), .int (nI wy), .int (nI zz)] : List Value).toArray s 200 1200 (Ab g)) (F0 m 949 ls [.int (xSpr1 (X, L, []) n), .int 3, .ref (gA g 24)]) := by
                          refine stA_m (j := 3) C hb hP hS (by decide) (by decide) dL_acts_949 (fun H locs hP hS => ?_)
                          have hP : HW g (X, lM L 3 (xSpr1 (X, L, []) n), []) H := hP
                          refine lv_aload_n C.1 hb dL_acts_950 rfl (lv_at hl 5 rfl) ?_
                          refine run_wr (cRunX (As := []) (rest := []) C hb (hml.trans hl.1.symm) hP hS rfl (k_X0_spread l g (X, lM L 3 (xSpr1 (X, L, []) n), []) n hI) wm_230 wm_231 wm_232 wm_233 wm_12 (n := 0) (by decide +kernel) rfl ⟨rfl, rfl, Nat.le_of_ble_eq_true rfl, Nat.le_of_ble_eq_true rfl⟩ (Nat.le_of_ble_eq_true rfl) rfl ⟨by show 0 + 0 ≤ 200; omega, by show 0 + 0 ≤ 1200; omega⟩ dL_acts_951) hS (fun H locs hP hS => ?_)
                          refine toI (show _ = xSpr1 (X, L, []) n from hA.1) ?_
                          refine lv_aload C.1 hb dL_acts_954 (lv_at hl 13 rfl) ?_
                          refine lv_iconst (v := 3) C.1 hb dL_acts_956 (by decide) ?_
                          refine ldA_m (j := 3) C hb hP (by decide) (by decide) dL_acts_957 ?_
                          refine toI (show (xSpread (X, lM L 3 (xSpr1 (X, L, []) n), []) n).2.1 7 3 = xSpr1 (X, L, []) n by rw [spr_2]; rfl) ?_
                          refine lv_icmp_ne (tgt := 965) C.1 hb dL_acts_958 (by decide) (fun c9 => absurd (rfl : xSpr1 (X, L, []) n = xSpr1 (X, L, []) n) c9) (fun _ => ?_)
                          refine lv_iconst (v := 1) C.1 hb dL_acts_961 (by decide) ?_
                          refine lv_goto (tgt := 966) C.1 hb dL_acts_962 (by decide) ?_
                          exact acZ (by omega) (by omega) C hb hret hlk hP hS dL_acts_966 rfl hA.2.1 hA.2.2
                        refine lv_lload C.1 hb dL_acts_921 (lv_at hl 0 rfl) ?_
                        refine lv_lconst (v := 1) C.1 hb dL_acts_923 (by decide) ?_
                        refine lc_ge (tgt := 932) C hb dL_acts_924 dL_acts_925 (by decide) (fun c151 => ?_) (fun c151 => ?_)
                        · refine lv_lload C.1 hb dL_acts_932 (lv_at hl 0 rfl) ?_
                          refine lv_ldc2 (v := 1000000) C.1 hb C.2.1 (C.2.2.1 _ wm_111) dL_acts_934 ?_
                          refine lc_le (tgt := 946) C hb dL_acts_937 dL_acts_938 (by decide) (fun c152 => ?_) (fun c152 => ?_)
                          · refine lv_lload C.1 hb dL_acts_946 (lv_at hl 0 rfl) ?_
                            refine lv_l2i C.1 hb dL_acts_948 rfl ?_
                            refine toI (show _ = xSpr1 (X, L, []) n from (by rw [spr_eq, if_neg (Int64.not_lt.mpr c151), if_neg (Int64.not_lt.mpr c152)])) ?_
                            exact K12
                          · refine lv_ldc (v := 1000000) C.1 hb C.2.1 (C.2.2.1 _ wm_106) dL_acts_941 ?_
                            refine lv_goto (tgt := 949) C.1 hb dL_acts_943 (by decide) ?_
                            refine toI (show _ = xSpr1 (X, L, []) n from (by rw [spr_eq, if_neg (Int64.not_lt.mpr c151), if_pos (Int64.not_le.mp c152)])) ?_
                            exact K12
                        · refine lv_iconst (v := 1) C.1 hb dL_acts_928 (by decide) ?_
                          refine lv_goto (tgt := 949) C.1 hb dL_acts_929 (by decide) ?_
                          refine toI (show _ = xSpr1 (X, L, []) n from (by rw [spr_eq, if_pos (Int64.not_le.mp c151)])) ?_
                          exact K12
                      · refine lv_lload C.1 hb dL_acts_903 (lv_at hl 0 rfl) ?_
                        refine lv_goto (tgt := 911) C.1 hb dL_acts_905 (by decide) ?_
                        refine lv_lmul C.1 hb dL_acts_911 ?_
                        refine lv_ldc2 (v := 10000) C.1 hb C.2.1 (C.2.2.1 _ wm_110) dL_acts_912 ?_
                        refine lv_ldiv C.1 hb dL_acts_915 (by decide) ?_
                        refine toL (show _ = sprV (X, L, []) n from (spr_lt c150)) ?_
                        refine lv_lstore (lv' := [(17, .long (sprV (X, L, []) n)), (15, .long (10000 * xTot (xIa (X, L, []) 1) (xLng (X, L, []) 3) n / xTot (xIa (X, L, []) 1) (xCapP (X, L, [])) n)), (13, .long (xTot (xIa (X, L, []) 1) (xCapP (X, L, [])) n)), (12, .int (nI t)), (11, .int (nI r)), (0, .ref (gA g 0)), (1, .ref (gA g 17)), (2, .ref (gA g 18)), (3, .ref (gA g 19)), (4, .ref (gA g 20)), (5, .ref (gA g 21)), (6, .ref (gA g 22)), (7, .ref (gA g 23)), (8, .ref (gA g 24)), (9, .int (nI wy)), (10, .int (nI zz))]) C.1 hb dL_acts_916 hl (by decide) rfl (fun ls hl => ?_)
                        refine lv_aload C.1 hb dL_acts_918 (lv_at hl 13 rfl) ?_
                        refine lv_iconst (v := 3) C.1 hb dL_acts_920 (by decide) ?_
                        have K12 : W p l e ({ frames := 8, cells := 200, slots := 1200, locals := 310 }) s m ([.ref (gA g 0), .ref (gA g 17), .ref (gA g 18), .ref (gA g 19), .ref (gA g 20), .ref (gA g 21), .ref (gA g 22), .ref (gA g 23), .ref (gA g 24), .int (nI wy), .int (nI zz)] : List Value).toArray below meth c s.heap [] 0 0 (MQ below (AQ g) ([.ref (gA g 0), .ref (gA g 17), .ref (gA g 18), .ref (gA g 19), .ref (gA g 20), .ref (gA g 21), .ref (gA g 22), .ref (gA g 23), .ref (gA g 24), .int (nI wy), .int (nI zz)] : List Value).toArray s 200 1200 (Ab g)) (F0 m 949 ls [.int (xSpr1 (X, L, []) n), .int 3, .ref (gA g 24)]) := by
                          refine stA_m (j := 3) C hb hP hS (by decide) (by decide) dL_acts_949 (fun H locs hP hS => ?_)
                          have hP : HW g (X, lM L 3 (xSpr1 (X, L, []) n), []) H := hP
                          refine lv_aload_n C.1 hb dL_acts_950 rfl (lv_at hl 5 rfl) ?_
                          refine run_wr (cRunX (As := []) (rest := []) C hb (hml.trans hl.1.symm) hP hS rfl (k_X0_spread l g (X, lM L 3 (xSpr1 (X, L, []) n), []) n hI) wm_230 wm_231 wm_232 wm_233 wm_12 (n := 0) (by decide +kernel) rfl ⟨rfl, rfl, Nat.le_of_ble_eq_true rfl, Nat.le_of_ble_eq_true rfl⟩ (Nat.le_of_ble_eq_true rfl) rfl ⟨by show 0 + 0 ≤ 200; omega, by show 0 + 0 ≤ 1200; omega⟩ dL_acts_951) hS (fun H locs hP hS => ?_)
                          refine toI (show _ = xSpr1 (X, L, []) n from hA.1) ?_
                          refine lv_aload C.1 hb dL_acts_954 (lv_at hl 13 rfl) ?_
                          refine lv_iconst (v := 3) C.1 hb dL_acts_956 (by decide) ?_
                          refine ldA_m (j := 3) C hb hP (by decide) (by decide) dL_acts_957 ?_
                          refine toI (show (xSpread (X, lM L 3 (xSpr1 (X, L, []) n), []) n).2.1 7 3 = xSpr1 (X, L, []) n by rw [spr_2]; rfl) ?_
                          refine lv_icmp_ne (tgt := 965) C.1 hb dL_acts_958 (by decide) (fun c9 => absurd (rfl : xSpr1 (X, L, []) n = xSpr1 (X, L, []) n) c9) (fun _ => ?_)
                          refine lv_iconst (v := 1) C.1 hb dL_acts_961 (by decide) ?_
                          refine lv_goto (tgt := 966) C.1 hb dL_acts_962 (by decide) ?_
                          exact acZ (by omega) (by omega) C hb hret hlk hP hS dL_acts_966 rfl hA.2.1 hA.2.2
                        refine lv_lload C.1 hb dL_acts_921 (lv_at hl 0 rfl) ?_
                        refine lv_lconst (v := 1) C.1 hb dL_acts_923 (by decide) ?_
                        refine lc_ge (tgt := 932) C hb dL_acts_924 dL_acts_925 (by decide) (fun c153 => ?_) (fun c153 => ?_)
                        · refine lv_lload C.1 hb dL_acts_932 (lv_at hl 0 rfl) ?_
                          refine lv_ldc2 (v := 1000000) C.1 hb C.2.1 (C.2.2.1 _ wm_111) dL_acts_934 ?_
                          refine lc_le (tgt := 946) C hb dL_acts_937 dL_acts_938 (by decide) (fun c154 => ?_) (fun c154 => ?_)
                          · refine lv_lload C.1 hb dL_acts_946 (lv_at hl 0 rfl) ?_
                            refine lv_l2i C.1 hb dL_acts_948 rfl ?_
                            refine toI (show _ = xSpr1 (X, L, []) n from (by rw [spr_eq, if_neg (Int64.not_lt.mpr c153), if_neg (Int64.not_lt.mpr c154)])) ?_
                            exact K12
                          · refine lv_ldc (v := 1000000) C.1 hb C.2.1 (C.2.2.1 _ wm_106) dL_acts_941 ?_
                            refine lv_goto (tgt := 949) C.1 hb dL_acts_943 (by decide) ?_
                            refine toI (show _ = xSpr1 (X, L, []) n from (by rw [spr_eq, if_neg (Int64.not_lt.mpr c153), if_pos (Int64.not_le.mp c154)])) ?_
                            exact K12
                        · refine lv_iconst (v := 1) C.1 hb dL_acts_928 (by decide) ?_
                          refine lv_goto (tgt := 949) C.1 hb dL_acts_929 (by decide) ?_
                          refine toI (show _ = xSpr1 (X, L, []) n from (by rw [spr_eq, if_pos (Int64.not_le.mp c153)])) ?_
                          exact K12
                  · refine lv_aload_n C.1 hb dL_acts_808 rfl (lv_at hl 2 rfl) ?_
                    refine lv_iload C.1 hb dL_acts_809 (lv_at hl 0 rfl) ?_
                    refine run_txn (cRunTX (As := [.int (nI t)]) (rest := []) C hb (hml.trans hl.1.symm) hP hS rfl (k_X0_smooth l hl0 g (X, L, []) n hI (nI t)) wm_201 wm_202 wm_203 wm_204 wm_12 (n := 1) (by decide +kernel) rfl ⟨rfl, rfl, Nat.le_of_ble_eq_true rfl, Nat.le_of_ble_eq_true rfl⟩ (Nat.le_of_ble_eq_true rfl) rfl ⟨by show 0 + 1 ≤ 200; omega, by show 0 + 6 ≤ 1200; omega⟩ dL_acts_811) (ex_tr ht) hS (fun H locs hP hS => ?_)
                    refine toI (show _ = nI (xV_smooth (X, L, []) n t) from (by rw [tN_nI (by omega)])) ?_
                    have hP : HW g ((xSmS (X, L, []) n t).1, L, []) H := hP.cg (by unfold xR_smooth; rw [if_pos (has_tr ht), tN_nI (by omega)]; exact Prod.ext rfl (sm_2 (X, L, []) n t))
                    refine lv_aload_n C.1 hb dL_acts_814 rfl (lv_at hl 3 rfl) ?_
                    refine lv_aload_n C.1 hb dL_acts_815 rfl (lv_at hl 4 rfl) ?_
                    refine lv_aload_n C.1 hb dL_acts_816 rfl (lv_at hl 5 rfl) ?_
                    refine lv_aload C.1 hb dL_acts_817 (lv_at hl 6 rfl) ?_
                    refine lv_aload C.1 hb dL_acts_819 (lv_at hl 8 rfl) ?_
                    refine lv_aload C.1 hb dL_acts_821 (lv_at hl 9 rfl) ?_
                    refine lv_aload C.1 hb dL_acts_823 (lv_at hl 10 rfl) ?_
                    refine lv_iload C.1 hb dL_acts_825 (lv_at hl 0 rfl) ?_
                    refine run_wc (cRunC (As := [.ref (gA g 17), .ref (gA g 18), .ref (gA g 19), .ref (gA g 20), .ref (gA g 22), .ref (gA g 23), .ref (gA g 24), .int (nI t)]) (rest := [.int (nI (xV_smooth (X, L, []) n t))]) C hb (hml.trans hl.1.symm) hP hS (k_L_smooth l hl0 g ((xSmS (X, L, []) n t).1) L n (X, L, []) hR t ht) wm_221 wm_222 wm_223 wm_2 (n := 8) (by decide +kernel) rfl ⟨rfl, rfl, Nat.le_of_ble_eq_true rfl, Nat.le_of_ble_eq_true rfl⟩ (Nat.le_of_ble_eq_true rfl) rfl ⟨by show 0 + 1 + 3 ≤ 200; omega, by show 0 + 6 + 12 ≤ 1200; omega⟩ dL_acts_827) hS (fun H locs hP hS => ?_)
                    refine lv_icmp_ne (tgt := 837) C.1 hb dL_acts_830 (by decide) (fun c9 => absurd (rfl : nI (xV_smooth (X, L, []) n t) = nI (xV_smooth (X, L, []) n t)) c9) (fun _ => ?_)
                    refine lv_iconst (v := 1) C.1 hb dL_acts_833 (by decide) ?_
                    refine lv_goto (tgt := 838) C.1 hb dL_acts_834 (by decide) ?_
                    exact acZ (by omega) (by omega) C hb hret hlk hP hS dL_acts_838 rfl (lr_self (a_smooth hR ht (Y := X) (E := [])) rfl rfl) rfl
                · refine lv_iconst (v := 0) C.1 hb dL_acts_701 (by decide) ?_
                  refine lv_istore (lv' := [(13, .int 0), (12, .int (nI t)), (11, .int (nI r)), (0, .ref (gA g 0)), (1, .ref (gA g 17)), (2, .ref (gA g 18)), (3, .ref (gA g 19)), (4, .ref (gA g 20)), (5, .ref (gA g 21)), (6, .ref (gA g 22)), (7, .ref (gA g 23)), (8, .ref (gA g 24)), (9, .int (nI wy)), (10, .int (nI zz))]) C.1 hb dL_acts_702 hl (by decide) rfl (fun ls hl => ?_)
                  refine lv_iconst (v := 1) C.1 hb dL_acts_704 (by decide) ?_
                  refine lv_istore (lv' := [(14, .int 1), (13, .int 0), (12, .int (nI t)), (11, .int (nI r)), (0, .ref (gA g 0)), (1, .ref (gA g 17)), (2, .ref (gA g 18)), (3, .ref (gA g 19)), (4, .ref (gA g 20)), (5, .ref (gA g 21)), (6, .ref (gA g 22)), (7, .ref (gA g 23)), (8, .ref (gA g 24)), (9, .int (nI wy)), (10, .int (nI zz))]) C.1 hb dL_acts_705 hl (by decide) rfl (fun ls hl => ?_)
                  have K11 : ∀ (i : Nat) (T : WS) (L2 : LAr), i ≤ 60 → LR n T (X, L2, []) → (i, T) = xSettle n 60 1 (X, L, []) → ∀ (H : Heap) (locs : List Loc), HW g (X, L2, []) H → va_S (Ab g) s.heap H locs → ∀ ls : Array Slot, lv_has ls 19 [(0, .ref (gA g 0)), (1, .ref (gA g 17)), (2, .ref (gA g 18)), (3, .ref (gA g 19)), (4, .ref (gA g 20)), (5, .ref (gA g 21)), (6, .ref (gA g 22)), (7, .ref (gA g 23)), (8, .ref (gA g 24)), (9, .int (nI wy)), (10, .int (nI zz)), (11, .int (nI r)), (12, .int (nI t)), (13, .int (nI i))] → W p l e ({ frames := 8, cells := 200, slots := 1200, locals := 310 }) s m ([.ref (gA g 0), .ref (gA g 17), .ref (gA g 18), .ref (gA g 19), .ref (gA g 20), .ref (gA g 21), .ref (gA g 22), .ref (gA g 23), .ref (gA g 24), .int (nI wy), .int (nI zz)] : List Value).toArray below meth c H locs 180 720 (MQ below (AQ g) ([.ref (gA g 0), .ref (gA g 17), .ref (gA g 18), .ref (gA g 19), .ref (gA g 20), .ref (gA g 21), .ref (gA g 22), .ref (gA g 23), .ref (gA g 24), .int (nI wy), .int (nI zz)] : List Value).toArray s 200 1200 (Ab g)) (F0 m 786 ls []) := by
                    intro i T L2 hi hT he H locs hP hS ls hl
                    have hI2 : XI n (X, L2, []) := hR.1.1
                    refine lv_aload_n C.1 hb dL_acts_786 rfl (lv_at hl 0 rfl) ?_
                    refine run_wr (cRunX (As := []) (rest := []) C hb (hml.trans hl.1.symm) hP hS rfl (k_X0_settle l g (X, L2, []) n hI2) wm_52 wm_53 wm_54 wm_55 wm_12 (n := 0) (by decide +kernel) rfl ⟨rfl, rfl, Nat.le_of_ble_eq_true rfl, Nat.le_of_ble_eq_true rfl⟩ (Nat.le_of_ble_eq_true rfl) rfl ⟨by show 180 + 0 ≤ 200; omega, by show 720 + 0 ≤ 1200; omega⟩ dL_acts_787) hS (fun H locs hP hS => ?_)
                    refine toI (show _ = nI i from (by rw [settle_cg n (L2, []) (L, []), ← he])) ?_
                    have hP : HW g (T.1, L2, []) H := hP.cg (by rw [settle_cg n (L2, []) (L, []), ← he])
                    refine lv_iload C.1 hb dL_acts_790 (lv_at hl 13 rfl) ?_
                    refine lv_icmp_ne (tgt := 799) C.1 hb dL_acts_792 (by decide) (fun c9 => absurd (rfl : nI i = nI i) c9) (fun _ => ?_)
                    refine lv_iconst (v := 1) C.1 hb dL_acts_795 (by decide) ?_
                    refine lv_goto (tgt := 800) C.1 hb dL_acts_796 (by decide) ?_
                    exact acZ (by omega) (by omega) C hb hret hlk hP hS dL_acts_800 rfl (lr_self hT rfl rfl) rfl
                  have key : ∀ (f i : Nat), i + f = 60 → ∀ (T : WS) (L2 : LAr), LR n T (X, L2, []) → xSettle n f (i + 1) T = xSettle n 60 1 (X, L, []) → ∀ (H : Heap) (locs : List Loc), HW g (X, L2, []) H → va_S (Ab g) s.heap H locs → ∀ ls : Array Slot, lv_has ls 19 [(0, .ref (gA g 0)), (1, .ref (gA g 17)), (2, .ref (gA g 18)), (3, .ref (gA g 19)), (4, .ref (gA g 20)), (5, .ref (gA g 21)), (6, .ref (gA g 22)), (7, .ref (gA g 23)), (8, .ref (gA g 24)), (9, .int (nI wy)), (10, .int (nI zz)), (11, .int (nI r)), (12, .int (nI t)), (13, .int (nI i)), (14, .int 1)] → W p l e ({ frames := 8, cells := 200, slots := 1200, locals := 310 }) s m ([.ref (gA g 0), .ref (gA g 17), .ref (gA g 18), .ref (gA g 19), .ref (gA g 20), .ref (gA g 21), .ref (gA g 22), .ref (gA g 23), .ref (gA g 24), .int (nI wy), .int (nI zz)] : List Value).toArray below meth c H locs (3 * i) (12 * i) (MQ below (AQ g) ([.ref (gA g 0), .ref (gA g 17), .ref (gA g 18), .ref (gA g 19), .ref (gA g 20), .ref (gA g 21), .ref (gA g 22), .ref (gA g 23), .ref (gA g 24), .int (nI wy), .int (nI zz)] : List Value).toArray s 200 1200 (Ab g)) (F0 m 707 ls []) := by
                    intro f
                    induction f with
                    | zero =>
                      intro i hif T L2 hT he H locs hP hS ls hl
                      refine lv_iload C.1 hb dL_acts_707 (lv_at hl 14 rfl) ?_
                      refine lv_if_eq (tgt := 786) C.1 hb dL_acts_709 (by decide) (fun c9 => absurd c9 (by decide)) (fun _ => ?_)
                      refine lv_iload C.1 hb dL_acts_712 (lv_at hl 13 rfl) ?_
                      refine lv_bipush (v := 60) C.1 hb dL_acts_714 (by decide) ?_
                      refine lv_icmp_ge (tgt := 786) C.1 hb dL_acts_716 (by decide) (fun _ => ?_) (fun c9 => absurd ((nI_leI (a := 60) (b := i) (by decide) (by omega)).mpr (by omega)) c9)
                      refine W.widen (k := 180) (n := 720) (by omega) (by omega) ?_
                      exact K11 i T L2 (by omega) hT (show (i, T) = _ by rw [← he, show i = 60 by omega]; rfl) _ _ hP hS ls (lv_sub hl [0, 1, 2, 3, 4, 5, 6, 7, 8, 9, 10, 11, 12, 13] rfl)
                    | succ f ih =>
                      intro i hif T L2 hT he H locs hP hS ls hl
                      refine lv_iload C.1 hb dL_acts_707 (lv_at hl 14 rfl) ?_
                      refine lv_if_eq (tgt := 786) C.1 hb dL_acts_709 (by decide) (fun c9 => absurd c9 (by decide)) (fun _ => ?_)
                      refine lv_iload C.1 hb dL_acts_712 (lv_at hl 13 rfl) ?_
                      refine lv_bipush (v := 60) C.1 hb dL_acts_714 (by decide) ?_
                      refine lv_icmp_ge (tgt := 786) C.1 hb dL_acts_716 (by decide) (fun c9 => absurd c9 (fun q => absurd ((nI_leI (a := 60) (b := i) (by decide) (by omega)).mp q) (by omega))) (fun _ => ?_)
                      refine lv_aload_n C.1 hb dL_acts_719 rfl (lv_at hl 1 rfl) ?_
                      refine lv_aload_n C.1 hb dL_acts_720 rfl (lv_at hl 2 rfl) ?_
                      refine lv_aload_n C.1 hb dL_acts_721 rfl (lv_at hl 3 rfl) ?_
                      refine lv_aload C.1 hb dL_acts_722 (lv_at hl 4 rfl) ?_
                      refine lv_aload C.1 hb dL_acts_724 (lv_at hl 6 rfl) ?_
                      refine lv_aload C.1 hb dL_acts_726 (lv_at hl 7 rfl) ?_
                      refine lv_aload C.1 hb dL_acts_728 (lv_at hl 8 rfl) ?_
                      refine lv_iconst (v := 0) C.1 hb dL_acts_730 (by decide) ?_
                      refine run_wc (cRunC (As := [.ref (gA g 17), .ref (gA g 18), .ref (gA g 19), .ref (gA g 20), .ref (gA g 22), .ref (gA g 23), .ref (gA g 24), .int 0]) (rest := []) C hb (hml.trans hl.1.symm) hP hS (k_L_pass l hl0 g X L2 n T hT 0 (by decide)) wm_187 wm_188 wm_189 wm_2 (n := 8) (by decide +kernel) rfl ⟨rfl, rfl, Nat.le_of_ble_eq_true rfl, Nat.le_of_ble_eq_true rfl⟩ (Nat.le_of_ble_eq_true rfl) rfl ⟨by show 3 * i + 1 ≤ 200; omega, by show 12 * i + 4 ≤ 1200; omega⟩ dL_acts_731) hS (fun H locs hP hS => ?_)
                      have hT1 : LR n (xPass T n 0) (X, (lPut L2 0 (xFound T n 0) (levN 0)), []) := a_pass (S := (X, L2, [])) hT (by decide)
                      refine lv_aload_n C.1 hb dL_acts_734 rfl (lv_at hl 1 rfl) ?_
                      refine lv_aload_n C.1 hb dL_acts_735 rfl (lv_at hl 2 rfl) ?_
                      refine lv_aload_n C.1 hb dL_acts_736 rfl (lv_at hl 3 rfl) ?_
                      refine lv_aload C.1 hb dL_acts_737 (lv_at hl 4 rfl) ?_
                      refine lv_aload C.1 hb dL_acts_739 (lv_at hl 6 rfl) ?_
                      refine lv_aload C.1 hb dL_acts_741 (lv_at hl 7 rfl) ?_
                      refine lv_aload C.1 hb dL_acts_743 (lv_at hl 8 rfl) ?_
                      refine lv_iconst (v := 1) C.1 hb dL_acts_745 (by decide) ?_
                      refine run_wc (cRunC (As := [.ref (gA g 17), .ref (gA g 18), .ref (gA g 19), .ref (gA g 20), .ref (gA g 22), .ref (gA g 23), .ref (gA g 24), .int 1]) (rest := [.int (nI (xPassC T n 0))]) C hb (hml.trans hl.1.symm) hP hS (k_L_pass l hl0 g X (lPut L2 0 (xFound T n 0) (levN 0)) n (xPass T n 0) hT1 1 (by decide)) wm_187 wm_188 wm_189 wm_2 (n := 8) (by decide +kernel) rfl ⟨rfl, rfl, Nat.le_of_ble_eq_true rfl, Nat.le_of_ble_eq_true rfl⟩ (Nat.le_of_ble_eq_true rfl) rfl ⟨by show 3 * i + 1 + 1 ≤ 200; omega, by show 12 * i + 4 + 4 ≤ 1200; omega⟩ dL_acts_746) hS (fun H locs hP hS => ?_)
                      have hT2 : LR n (xPass (xPass T n 0) n 1) (X, (lPut (lPut L2 0 (xFound T n 0) (levN 0)) 1 (xFound (xPass T n 0) n 1) (levN 1)), []) := a_pass (S := (X, (lPut L2 0 (xFound T n 0) (levN 0)), [])) hT1 (by decide)
                      refine lv_iadd C.1 hb dL_acts_749 ?_
                      refine toI (show _ = nI (xPassC T n 0 + xPassC (xPass T n 0) n 1) from (nI_add _ _)) ?_
                      refine lv_aload_n C.1 hb dL_acts_750 rfl (lv_at hl 1 rfl) ?_
                      refine lv_aload_n C.1 hb dL_acts_751 rfl (lv_at hl 2 rfl) ?_
                      refine lv_aload_n C.1 hb dL_acts_752 rfl (lv_at hl 3 rfl) ?_
                      refine lv_aload C.1 hb dL_acts_753 (lv_at hl 4 rfl) ?_
                      refine lv_aload C.1 hb dL_acts_755 (lv_at hl 6 rfl) ?_
                      refine lv_aload C.1 hb dL_acts_757 (lv_at hl 7 rfl) ?_
                      refine lv_aload C.1 hb dL_acts_759 (lv_at hl 8 rfl) ?_
                      refine lv_iconst (v := 2) C.1 hb dL_acts_761 (by decide) ?_
                      refine run_wc (cRunC (As := [.ref (gA g 17), .ref (gA g 18), .ref (gA g 19), .ref (gA g 20), .ref (gA g 22), .ref (gA g 23), .ref (gA g 24), .int 2]) (rest := [.int (nI (xPassC T n 0 + xPassC (xPass T n 0) n 1))]) C hb (hml.trans hl.1.symm) hP hS (k_L_pass l hl0 g X (lPut (lPut L2 0 (xFound T n 0) (levN 0)) 1 (xFound (xPass T n 0) n 1) (levN 1)) n (xPass (xPass T n 0) n 1) hT2 2 (by decide)) wm_187 wm_188 wm_189 wm_2 (n := 8) (by decide +kernel) rfl ⟨rfl, rfl, Nat.le_of_ble_eq_true rfl, Nat.le_of_ble_eq_true rfl⟩ (Nat.le_of_ble_eq_true rfl) rfl ⟨by show 3 * i + 1 + 1 + 1 ≤ 200; omega, by show 12 * i + 4 + 4 + 4 ≤ 1200; omega⟩ dL_acts_762) hS (fun H locs hP hS => ?_)
                      refine lv_iadd C.1 hb dL_acts_765 ?_
                      refine toI (show _ = nI (xRoundC T n 3) from ((nI_add _ _).trans (congrArg nI (show xPassC T n 0 + xPassC (xPass T n 0) n 1 + xPassC (xPass (xPass T n 0) n 1) n 2 = 0 + xPassC T n 0 + xPassC (xPass T n 0) n 1 + xPassC (xPass (xPass T n 0) n 1) n 2 by omega)))) ?_
                      have hTr : LR n (xRound T n 3) (X, (lPut (lPut (lPut L2 0 (xFound T n 0) (levN 0)) 1 (xFound (xPass T n 0) n 1) (levN 1)) 2 (xFound (xPass (xPass T n 0) n 1) n 2) (levN 2)), []) := a_pass (S := (X, (lPut (lPut L2 0 (xFound T n 0) (levN 0)) 1 (xFound (xPass T n 0) n 1) (levN 1)), [])) hT2 (by decide)
                      have hrc := xRoundC_le T n 3
                      refine lv_istore (lv' := [(15, .int (nI (xRoundC T n 3))), (0, .ref (gA g 0)), (1, .ref (gA g 17)), (2, .ref (gA g 18)), (3, .ref (gA g 19)), (4, .ref (gA g 20)), (5, .ref (gA g 21)), (6, .ref (gA g 22)), (7, .ref (gA g 23)), (8, .ref (gA g 24)), (9, .int (nI wy)), (10, .int (nI zz)), (11, .int (nI r)), (12, .int (nI t)), (13, .int (nI i)), (14, .int 1)]) C.1 hb dL_acts_766 hl (by decide) rfl (fun ls hl => ?_)
                      refine lv_iload C.1 hb dL_acts_768 (lv_at hl 0 rfl) ?_
                      refine lv_if_le (tgt := 777) C.1 hb dL_acts_770 (by decide) (fun c155 => ?_) (fun c155 => ?_)
                      · have hc0 : xRoundC T n 3 = 0 := by have := (nI_leI (a := xRoundC T n 3) (b := 0) (by omega) (by decide)).mp c155; omega
                        refine lv_iconst (v := 0) C.1 hb dL_acts_777 (by decide) ?_
                        refine lv_istore (lv' := [(14, .int 0), (15, .int (nI (xRoundC T n 3))), (0, .ref (gA g 0)), (1, .ref (gA g 17)), (2, .ref (gA g 18)), (3, .ref (gA g 19)), (4, .ref (gA g 20)), (5, .ref (gA g 21)), (6, .ref (gA g 22)), (7, .ref (gA g 23)), (8, .ref (gA g 24)), (9, .int (nI wy)), (10, .int (nI zz)), (11, .int (nI r)), (12, .int (nI t)), (13, .int (nI i))]) C.1 hb dL_acts_778 hl (by decide) rfl (fun ls hl => ?_)
                        refine lv_iinc (v := nI (i + 1)) (lv' := [(13, .int (nI (i + 1))), (14, .int 0), (15, .int (nI (xRoundC T n 3))), (0, .ref (gA g 0)), (1, .ref (gA g 17)), (2, .ref (gA g 18)), (3, .ref (gA g 19)), (4, .ref (gA g 20)), (5, .ref (gA g 21)), (6, .ref (gA g 22)), (7, .ref (gA g 23)), (8, .ref (gA g 24)), (9, .int (nI wy)), (10, .int (nI zz)), (11, .int (nI r)), (12, .int (nI t))]) C.1 hb dL_acts_780 hl (k := 15) rfl (nI_1 i) (by decide) rfl (fun ls hl => ?_)
                        refine lv_goto (tgt := 707) C.1 hb dL_acts_783 (by decide) ?_
                        refine lv_iload C.1 hb dL_acts_707 (lv_at hl 1 rfl) ?_
                        refine lv_if_eq (tgt := 786) C.1 hb dL_acts_709 (by decide) (fun _ => ?_) (fun c9 => absurd (by decide) c9)
                        refine W.widen (k := 180) (n := 720) (by omega) (by omega) ?_
                        exact K11 (i + 1) (xRound T n 3) _ (by omega) hTr ((if_pos hc0).symm.trans he) _ _ hP hS ls (lv_sub hl [3, 4, 5, 6, 7, 8, 9, 10, 11, 12, 13, 14, 15, 0] rfl)
                      · have hc0 : ¬ xRoundC T n 3 = 0 := fun q => c155 (by rw [q]; decide)
                        refine lv_iconst (v := 1) C.1 hb dL_acts_773 (by decide) ?_
                        refine lv_goto (tgt := 778) C.1 hb dL_acts_774 (by decide) ?_
                        refine lv_istore (lv' := [(14, .int 1), (15, .int (nI (xRoundC T n 3))), (0, .ref (gA g 0)), (1, .ref (gA g 17)), (2, .ref (gA g 18)), (3, .ref (gA g 19)), (4, .ref (gA g 20)), (5, .ref (gA g 21)), (6, .ref (gA g 22)), (7, .ref (gA g 23)), (8, .ref (gA g 24)), (9, .int (nI wy)), (10, .int (nI zz)), (11, .int (nI r)), (12, .int (nI t)), (13, .int (nI i))]) C.1 hb dL_acts_778 hl (by decide) rfl (fun ls hl => ?_)
                        refine lv_iinc (v := nI (i + 1)) (lv' := [(13, .int (nI (i + 1))), (14, .int 1), (15, .int (nI (xRoundC T n 3))), (0, .ref (gA g 0)), (1, .ref (gA g 17)), (2, .ref (gA g 18)), (3, .ref (gA g 19)), (4, .ref (gA g 20)), (5, .ref (gA g 21)), (6, .ref (gA g 22)), (7, .ref (gA g 23)), (8, .ref (gA g 24)), (9, .int (nI wy)), (10, .int (nI zz)), (11, .int (nI r)), (12, .int (nI t))]) C.1 hb dL_acts_780 hl (k := 15) rfl (nI_1 i) (by decide) rfl (fun ls hl => ?_)
                        refine lv_goto (tgt := 707) C.1 hb dL_acts_783 (by decide) ?_
                        refine W.widen (k := 3 * (i + 1)) (n := 12 * (i + 1)) (by omega) (by omega) ?_
                        exact ih (i + 1) (by omega) (xRound T n 3) _ hTr ((if_neg hc0).symm.trans he) _ _ hP hS ls (lv_sub hl [3, 4, 5, 6, 7, 8, 9, 10, 11, 12, 13, 14, 15, 0, 1] rfl)
                  refine W.widen (k := 3 * 0) (n := 12 * 0) (by omega) (by omega) ?_
                  exact key 60 0 (by omega) (X, L, []) L hR rfl _ _ hP hS ls (lv_sub hl [4, 5, 6, 7, 8, 9, 10, 11, 12, 13, 14, 3, 2, 1, 0] rfl)
              · refine lv_aload_n C.1 hb dL_acts_663 rfl (lv_at hl 2 rfl) ?_
                refine lv_iload C.1 hb dL_acts_664 (lv_at hl 0 rfl) ?_
                refine run_txn (cRunTX (As := [.int (nI t)]) (rest := []) C hb (hml.trans hl.1.symm) hP hS rfl (k_X0_pass l hl0 g (X, L, []) n hI (nI t)) wm_183 wm_184 wm_185 wm_186 wm_12 (n := 1) (by decide +kernel) rfl ⟨rfl, rfl, Nat.le_of_ble_eq_true rfl, Nat.le_of_ble_eq_true rfl⟩ (Nat.le_of_ble_eq_true rfl) rfl ⟨by show 0 + 1 ≤ 200; omega, by show 0 + 6 ≤ 1200; omega⟩ dL_acts_666) (ex_tr ht) hS (fun H locs hP hS => ?_)
                refine toI (show _ = nI (xPassC (X, L, []) n t) from (by rw [tN_nI (by omega)])) ?_
                have hP : HW g ((xPass (X, L, []) n t).1, L, []) H := hP.cg (by unfold xR_pass; rw [if_pos (has_tr ht), tN_nI (by omega)]; rfl)
                refine lv_aload_n C.1 hb dL_acts_669 rfl (lv_at hl 3 rfl) ?_
                refine lv_aload_n C.1 hb dL_acts_670 rfl (lv_at hl 4 rfl) ?_
                refine lv_aload_n C.1 hb dL_acts_671 rfl (lv_at hl 5 rfl) ?_
                refine lv_aload C.1 hb dL_acts_672 (lv_at hl 6 rfl) ?_
                refine lv_aload C.1 hb dL_acts_674 (lv_at hl 8 rfl) ?_
                refine lv_aload C.1 hb dL_acts_676 (lv_at hl 9 rfl) ?_
                refine lv_aload C.1 hb dL_acts_678 (lv_at hl 10 rfl) ?_
                refine lv_iload C.1 hb dL_acts_680 (lv_at hl 0 rfl) ?_
                refine run_wc (cRunC (As := [.ref (gA g 17), .ref (gA g 18), .ref (gA g 19), .ref (gA g 20), .ref (gA g 22), .ref (gA g 23), .ref (gA g 24), .int (nI t)]) (rest := [.int (nI (xPassC (X, L, []) n t))]) C hb (hml.trans hl.1.symm) hP hS (k_L_pass l hl0 g ((xPass (X, L, []) n t).1) L n (X, L, []) hR t ht) wm_187 wm_188 wm_189 wm_2 (n := 8) (by decide +kernel) rfl ⟨rfl, rfl, Nat.le_of_ble_eq_true rfl, Nat.le_of_ble_eq_true rfl⟩ (Nat.le_of_ble_eq_true rfl) rfl ⟨by show 0 + 1 + 1 ≤ 200; omega, by show 0 + 6 + 4 ≤ 1200; omega⟩ dL_acts_682) hS (fun H locs hP hS => ?_)
                refine lv_icmp_ne (tgt := 692) C.1 hb dL_acts_685 (by decide) (fun c9 => absurd (rfl : nI (xPassC (X, L, []) n t) = nI (xPassC (X, L, []) n t)) c9) (fun _ => ?_)
                refine lv_iconst (v := 1) C.1 hb dL_acts_688 (by decide) ?_
                refine lv_goto (tgt := 693) C.1 hb dL_acts_689 (by decide) ?_
                exact acZ (by omega) (by omega) C hb hret hlk hP hS dL_acts_693 rfl (lr_self (a_pass hR ht (Y := X) (E := [])) rfl rfl) rfl
            · refine lv_iload C.1 hb dL_acts_569 (lv_at hl 12 rfl) ?_
              refine lv_iconst (v := 3) C.1 hb dL_acts_571 (by decide) ?_
              refine lv_idiv C.1 hb dL_acts_572 (by decide) ?_
              refine toI (pk_div (a := zz) (d := 3) (by omega) (by decide) (by decide)) ?_
              refine lv_iload C.1 hb dL_acts_573 (lv_at hl 0 rfl) ?_
              refine run_rd (cRunS (As := [.int (nI t)]) (rest := [.int (nI (zz / 3))]) C hb (hml.trans hl.1.symm) hP hS (k_L_many l g (X, L, []) t ht) wm_175 wm_176 wm_177 wm_2 (n := 1) (by decide +kernel) rfl ⟨rfl, rfl, Nat.le_of_ble_eq_true rfl, Nat.le_of_ble_eq_true rfl⟩ (Nat.le_of_ble_eq_true rfl) rfl ⟨by show 0 + 0 ≤ 200; omega, by show 0 + 0 ≤ 1200; omega⟩ dL_acts_575) ?_
              obtain ⟨lv, hlv, elv⟩ : ∃ lv, lv < levN t ∧ (zz / 3) % (levN t) = lv := ⟨_, Nat.mod_lt _ (by omega), rfl⟩
              refine lv_irem C.1 hb dL_acts_578 (nI_ne0 (by omega) (by omega)) ?_
              refine toI (pk_rem (a := (zz / 3)) (d := (levN t)) (by omega) (by omega) (by omega)) ?_
              refine toI (show _ = nI lv from (by rw [elv])) ?_
              refine lv_istore (lv' := [(13, .int (nI lv)), (12, .int (nI t)), (11, .int (nI r)), (0, .ref (gA g 0)), (1, .ref (gA g 17)), (2, .ref (gA g 18)), (3, .ref (gA g 19)), (4, .ref (gA g 20)), (5, .ref (gA g 21)), (6, .ref (gA g 22)), (7, .ref (gA g 23)), (8, .ref (gA g 24)), (9, .int (nI wy)), (10, .int (nI zz))]) C.1 hb dL_acts_579 hl (by decide) rfl (fun ls hl => ?_)
              refine lv_aload C.1 hb dL_acts_581 (lv_at hl 10 rfl) ?_
              refine lv_iconst (v := 4) C.1 hb dL_acts_583 (by decide) ?_
              refine lv_iload C.1 hb dL_acts_584 (lv_at hl 1 rfl) ?_
              refine lv_imul C.1 hb dL_acts_586 ?_
              refine lv_iload C.1 hb dL_acts_587 (lv_at hl 0 rfl) ?_
              refine lv_iadd C.1 hb dL_acts_589 ?_
              refine ldA_f (j := (4 * t + lv)) C hb hP (ix4 t lv) (by omega) dL_acts_590 ?_
              refine toI (lr_f hR ht hlv) ?_
              refine lv_istore (lv' := [(14, .int (xFac (X, L, []) t lv)), (13, .int (nI lv)), (12, .int (nI t)), (11, .int (nI r)), (0, .ref (gA g 0)), (1, .ref (gA g 17)), (2, .ref (gA g 18)), (3, .ref (gA g 19)), (4, .ref (gA g 20)), (5, .ref (gA g 21)), (6, .ref (gA g 22)), (7, .ref (gA g 23)), (8, .ref (gA g 24)), (9, .int (nI wy)), (10, .int (nI zz))]) C.1 hb dL_acts_591 hl (by decide) rfl (fun ls hl => ?_)
              refine lv_aload C.1 hb dL_acts_593 (lv_at hl 11 rfl) ?_
              refine lv_iconst (v := 4) C.1 hb dL_acts_595 (by decide) ?_
              refine lv_iload C.1 hb dL_acts_596 (lv_at hl 2 rfl) ?_
              refine lv_imul C.1 hb dL_acts_598 ?_
              refine lv_iload C.1 hb dL_acts_599 (lv_at hl 1 rfl) ?_
              refine lv_iadd C.1 hb dL_acts_601 ?_
              have K10 : ∀ (vf : Nat), 100 ≤ vf → vf ≤ 100000 → W p l e ({ frames := 8, cells := 200, slots := 1200, locals := 310 }) s m ([.ref (gA g 0), .ref (gA g 17), .ref (gA g 18), .ref (gA g 19), .ref (gA g 20), .ref (gA g 21), .ref (gA g 22), .ref (gA g 23), .ref (gA g 24), .int (nI wy), .int (nI zz)] : List Value).toArray below meth c s.heap [] 0 0 (MQ below (AQ g) ([.ref (gA g 0), .ref (gA g 17), .ref (gA g 18), .ref (gA g 19), .ref (gA g 20), .ref (gA g 21), .ref (gA g 22), .ref (gA g 23), .ref (gA g 24), .int (nI wy), .int (nI zz)] : List Value).toArray s 200 1200 (Ab g)) (F0 m 626 ls [.int (nI vf), .int ((4 * (nI t)) + (nI lv)), .ref (gA g 23)]) := by
                intro vf hf1 hf2
                refine stA_f (j := (4 * t + lv)) C hb hP hS (ix4 t lv) (by omega) dL_acts_626 (fun H locs hP hS => ?_)
                have hP : HW g (X, lF L t lv (nI vf), []) H := hP
                have hA := a_fac hR ht hlv hf1 hf2
                refine lv_aload_n C.1 hb dL_acts_627 rfl (lv_at hl 4 rfl) ?_
                refine lv_iload C.1 hb dL_acts_628 (lv_at hl 2 rfl) ?_
                refine lv_iload C.1 hb dL_acts_630 (lv_at hl 1 rfl) ?_
                refine lv_aload C.1 hb dL_acts_632 (lv_at hl 11 rfl) ?_
                refine lv_iconst (v := 4) C.1 hb dL_acts_634 (by decide) ?_
                refine lv_iload C.1 hb dL_acts_635 (lv_at hl 2 rfl) ?_
                refine lv_imul C.1 hb dL_acts_637 ?_
                refine lv_iload C.1 hb dL_acts_638 (lv_at hl 1 rfl) ?_
                refine lv_iadd C.1 hb dL_acts_640 ?_
                refine ldA_f (j := (4 * t + lv)) C hb hP (ix4 t lv) (by omega) dL_acts_641 ?_
                refine toI (show lA (X, lF L t lv (nI vf), []) 6 (4 * t + lv) = nI vf from pk_us) ?_
                refine run_txn (cRunTX (As := [.int (nI t), .int (nI lv), .int (nI vf)]) (rest := []) C hb (hml.trans hl.1.symm) hP hS rfl (k_X0_setFactor l hl0 g (X, lF L t lv (nI vf), []) n hI (nI t) (nI lv) (nI vf)) wm_178 wm_179 wm_180 wm_181 wm_12 (n := 3) (by decide +kernel) rfl ⟨rfl, rfl, Nat.le_of_ble_eq_true rfl, Nat.le_of_ble_eq_true rfl⟩ (Nat.le_of_ble_eq_true rfl) rfl ⟨by show 0 + 1 ≤ 200; omega, by show 0 + 6 ≤ 1200; omega⟩ dL_acts_642) hA.1 hS (fun H locs hP hS => ?_)
                refine toI (show _ = xFac (X, L, []) t lv from (by rw [tN_nI (by omega), tN_nI (by omega)])) ?_
                refine lv_iload C.1 hb dL_acts_645 (lv_at hl 0 rfl) ?_
                refine lv_icmp_ne (tgt := 654) C.1 hb dL_acts_647 (by decide) (fun c9 => absurd (rfl : xFac (X, L, []) t lv = xFac (X, L, []) t lv) c9) (fun _ => ?_)
                refine lv_iconst (v := 1) C.1 hb dL_acts_650 (by decide) ?_
                refine lv_goto (tgt := 655) C.1 hb dL_acts_651 (by decide) ?_
                exact acZ (by omega) (by omega) C hb hret hlk hP hS dL_acts_655 rfl hA.2.1 hA.2.2
              refine lv_bipush (v := 100) C.1 hb dL_acts_602 (by decide) ?_
              refine lv_iload C.1 hb dL_acts_604 (lv_at hl 14 rfl) ?_
              refine lv_bipush (v := 12) C.1 hb dL_acts_606 (by decide) ?_
              refine lv_idiv C.1 hb dL_acts_608 (by decide) ?_
              refine toI (pk_div (a := zz) (d := 12) (by omega) (by decide) (by decide)) ?_
              refine lv_iload C.1 hb dL_acts_609 (lv_at hl 14 rfl) ?_
              refine lv_iconst (v := 4) C.1 hb dL_acts_611 (by decide) ?_
              refine lv_irem C.1 hb dL_acts_612 (by decide) ?_
              refine toI (pk_rem (a := zz) (d := 4) (by omega) (by decide) (by decide)) ?_
              refine lv_if_ne (tgt := 621) C.1 hb dL_acts_613 (by decide) (fun c156 => ?_) (fun c156 => ?_)
              · refine lv_sipush (v := 15000) C.1 hb dL_acts_621 (by decide) ?_
                refine lv_irem C.1 hb dL_acts_624 (by decide) ?_
                refine toI (pk_rem (a := (zz / 12)) (d := 15000) (by omega) (by decide) (by decide)) ?_
                refine lv_iadd C.1 hb dL_acts_625 ?_
                refine toI (show _ = nI (100 + ((zz / 12) % 15000)) from (nI_add 100 _)) ?_
                exact K10 _ (by omega) (by omega)
              · refine lv_ldc (v := 99901) C.1 hb C.2.1 (C.2.2.1 _ wm_109) dL_acts_616 ?_
                refine lv_goto (tgt := 624) C.1 hb dL_acts_618 (by decide) ?_
                refine lv_irem C.1 hb dL_acts_624 (by decide) ?_
                refine toI (pk_rem (a := (zz / 12)) (d := 99901) (by omega) (by decide) (by decide)) ?_
                refine lv_iadd C.1 hb dL_acts_625 ?_
                refine toI (show _ = nI (100 + ((zz / 12) % 99901)) from (nI_add 100 _)) ?_
                exact K10 _ (by omega) (by omega)
          · refine lv_aload C.1 hb dL_acts_475 (lv_at hl 9 rfl) ?_
            refine lv_iconst (v := 1) C.1 hb dL_acts_477 (by decide) ?_
            refine ldA_m (j := 1) C hb hP (by decide) (by decide) dL_acts_478 ?_
            refine lv_istore (lv' := [(12, .int (lA (X, L, []) 7 1)), (11, .int (nI r)), (0, .ref (gA g 0)), (1, .ref (gA g 17)), (2, .ref (gA g 18)), (3, .ref (gA g 19)), (4, .ref (gA g 20)), (5, .ref (gA g 21)), (6, .ref (gA g 22)), (7, .ref (gA g 23)), (8, .ref (gA g 24)), (9, .int (nI wy)), (10, .int (nI zz))]) C.1 hb dL_acts_479 hl (by decide) rfl (fun ls hl => ?_)
            refine lv_aload C.1 hb dL_acts_481 (lv_at hl 10 rfl) ?_
            refine lv_iconst (v := 1) C.1 hb dL_acts_483 (by decide) ?_
            have K8 : ∀ (vc : Nat), vc ≤ 1000 → W p l e ({ frames := 8, cells := 200, slots := 1200, locals := 310 }) s m ([.ref (gA g 0), .ref (gA g 17), .ref (gA g 18), .ref (gA g 19), .ref (gA g 20), .ref (gA g 21), .ref (gA g 22), .ref (gA g 23), .ref (gA g 24), .int (nI wy), .int (nI zz)] : List Value).toArray below meth c s.heap [] 0 0 (MQ below (AQ g) ([.ref (gA g 0), .ref (gA g 17), .ref (gA g 18), .ref (gA g 19), .ref (gA g 20), .ref (gA g 21), .ref (gA g 22), .ref (gA g 23), .ref (gA g 24), .int (nI wy), .int (nI zz)] : List Value).toArray s 200 1200 (Ab g)) (F0 m 503 ls [.int (nI vc), .int 1, .ref (gA g 24)]) := by
              intro vc hc1
              refine stA_m (j := 1) C hb hP hS (by decide) (by decide) dL_acts_503 (fun H locs hP hS => ?_)
              have hP : HW g (X, lM L 1 (nI vc), []) H := hP
              refine lv_aload C.1 hb dL_acts_504 (lv_at hl 10 rfl) ?_
              refine lv_iconst (v := 2) C.1 hb dL_acts_506 (by decide) ?_
              have K9 : ∀ (v : Int32), (v = -1 ∨ NB 1000 v) → W p l e ({ frames := 8, cells := 200, slots := 1200, locals := 310 }) s m ([.ref (gA g 0), .ref (gA g 17), .ref (gA g 18), .ref (gA g 19), .ref (gA g 20), .ref (gA g 21), .ref (gA g 22), .ref (gA g 23), .ref (gA g 24), .int (nI wy), .int (nI zz)] : List Value).toArray below meth c H locs 0 0 (MQ below (AQ g) ([.ref (gA g 0), .ref (gA g 17), .ref (gA g 18), .ref (gA g 19), .ref (gA g 20), .ref (gA g 21), .ref (gA g 22), .ref (gA g 23), .ref (gA g 24), .int (nI wy), .int (nI zz)] : List Value).toArray s 200 1200 (Ab g)) (F0 m 532 ls [.int v, .int 2, .ref (gA g 24)]) := by
                intro v hvo
                refine stA_m (j := 2) C hb hP hS (by decide) (by decide) dL_acts_532 (fun H locs hP hS => ?_)
                have hP : HW g (X, lM (lM L 1 (nI vc)) 2 v, []) H := hP
                have hA := a_rules hR hc1 hvo
                refine lv_aload_n C.1 hb dL_acts_533 rfl (lv_at hl 2 rfl) ?_
                refine lv_aload C.1 hb dL_acts_534 (lv_at hl 10 rfl) ?_
                refine lv_iconst (v := 1) C.1 hb dL_acts_536 (by decide) ?_
                refine ldA_m (j := 1) C hb hP (by decide) (by decide) dL_acts_537 ?_
                refine toI (show lM (lM L 1 (nI vc)) 2 v 7 1 = nI vc from rfl) ?_
                refine lv_aload C.1 hb dL_acts_538 (lv_at hl 10 rfl) ?_
                refine lv_iconst (v := 2) C.1 hb dL_acts_540 (by decide) ?_
                refine ldA_m (j := 2) C hb hP (by decide) (by decide) dL_acts_541 ?_
                refine toI (show lM (lM L 1 (nI vc)) 2 v 7 2 = v from rfl) ?_
                refine run_txn (cRunTX (As := [.int (nI vc), .int v]) (rest := []) C hb (hml.trans hl.1.symm) hP hS rfl (k_X0_setRules l hl0 g (X, lM (lM L 1 (nI vc)) 2 v, []) (nI vc) v) wm_171 wm_172 wm_173 wm_174 wm_12 (n := 2) (by decide +kernel) rfl ⟨rfl, rfl, Nat.le_of_ble_eq_true rfl, Nat.le_of_ble_eq_true rfl⟩ (Nat.le_of_ble_eq_true rfl) rfl ⟨by show 0 + 1 ≤ 200; omega, by show 0 + 6 ≤ 1200; omega⟩ dL_acts_542) hA.1 hS (fun H locs hP hS => ?_)
                refine toI (show _ = lA (X, L, []) 7 1 from (lr_m1 hR).symm) ?_
                refine lv_iload C.1 hb dL_acts_545 (lv_at hl 0 rfl) ?_
                refine lv_icmp_ne (tgt := 554) C.1 hb dL_acts_547 (by decide) (fun c9 => absurd (rfl : lA (X, L, []) 7 1 = lA (X, L, []) 7 1) c9) (fun _ => ?_)
                refine lv_iconst (v := 1) C.1 hb dL_acts_550 (by decide) ?_
                refine lv_goto (tgt := 555) C.1 hb dL_acts_551 (by decide) ?_
                exact acZ (by omega) (by omega) C hb hret hlk hP hS dL_acts_555 rfl hA.2.1 hA.2.2
              refine lv_iload C.1 hb dL_acts_507 (lv_at hl 12 rfl) ?_
              refine lv_sipush (v := 600) C.1 hb dL_acts_509 (by decide) ?_
              refine lv_idiv C.1 hb dL_acts_512 (by decide) ?_
              refine toI (pk_div (a := zz) (d := 600) (by omega) (by decide) (by decide)) ?_
              refine lv_iconst (v := 4) C.1 hb dL_acts_513 (by decide) ?_
              refine lv_irem C.1 hb dL_acts_514 (by decide) ?_
              refine toI (pk_rem (a := (zz / 600)) (d := 4) (by omega) (by decide) (by decide)) ?_
              refine lv_if_ne (tgt := 522) C.1 hb dL_acts_515 (by decide) (fun c157 => ?_) (fun c157 => ?_)
              · refine lv_iload C.1 hb dL_acts_522 (lv_at hl 12 rfl) ?_
                refine lv_sipush (v := 2400) C.1 hb dL_acts_524 (by decide) ?_
                refine lv_idiv C.1 hb dL_acts_527 (by decide) ?_
                refine toI (pk_div (a := zz) (d := 2400) (by omega) (by decide) (by decide)) ?_
                refine lv_sipush (v := 150) C.1 hb dL_acts_528 (by decide) ?_
                refine lv_irem C.1 hb dL_acts_531 (by decide) ?_
                refine toI (pk_rem (a := (zz / 2400)) (d := 150) (by omega) (by decide) (by decide)) ?_
                exact K9 _ (Or.inr ⟨_, by omega, rfl⟩)
              · refine lv_iconst (v := (-1)) C.1 hb dL_acts_518 (by decide) ?_
                refine lv_goto (tgt := 532) C.1 hb dL_acts_519 (by decide) ?_
                exact K9 (-1) (Or.inl rfl)
            refine lv_iload C.1 hb dL_acts_484 (lv_at hl 12 rfl) ?_
            refine lv_iconst (v := 3) C.1 hb dL_acts_486 (by decide) ?_
            refine lv_irem C.1 hb dL_acts_487 (by decide) ?_
            refine toI (pk_rem (a := zz) (d := 3) (by omega) (by decide) (by decide)) ?_
            refine lv_if_ne (tgt := 495) C.1 hb dL_acts_488 (by decide) (fun c158 => ?_) (fun c158 => ?_)
            · refine lv_iload C.1 hb dL_acts_495 (lv_at hl 12 rfl) ?_
              refine lv_iconst (v := 3) C.1 hb dL_acts_497 (by decide) ?_
              refine lv_idiv C.1 hb dL_acts_498 (by decide) ?_
              refine toI (pk_div (a := zz) (d := 3) (by omega) (by decide) (by decide)) ?_
              refine lv_sipush (v := 200) C.1 hb dL_acts_499 (by decide) ?_
              refine lv_irem C.1 hb dL_acts_502 (by decide) ?_
              refine toI (pk_rem (a := (zz / 3)) (d := 200) (by omega) (by decide) (by decide)) ?_
              exact K8 _ (by omega)
            · refine lv_iconst (v := 0) C.1 hb dL_acts_491 (by decide) ?_
              refine lv_goto (tgt := 503) C.1 hb dL_acts_492 (by decide) ?_
              exact K8 0 (by omega)
        · have K6 : xHasRow (X, L, []) (nI r) = false → W p l e ({ frames := 8, cells := 200, slots := 1200, locals := 310 }) s m ([.ref (gA g 0), .ref (gA g 17), .ref (gA g 18), .ref (gA g 19), .ref (gA g 20), .ref (gA g 21), .ref (gA g 22), .ref (gA g 23), .ref (gA g 24), .int (nI wy), .int (nI zz)] : List Value).toArray below meth c s.heap [] 0 0 (MQ below (AQ g) ([.ref (gA g 0), .ref (gA g 17), .ref (gA g 18), .ref (gA g 19), .ref (gA g 20), .ref (gA g 21), .ref (gA g 22), .ref (gA g 23), .ref (gA g 24), .int (nI wy), .int (nI zz)] : List Value).toArray s 200 1200 (Ab g)) (F0 m 381 ls []) := by
            intro hno
            refine lv_aload_n C.1 hb dL_acts_381 rfl (lv_at hl 1 rfl) ?_
            refine lv_iconst (v := 3) C.1 hb dL_acts_382 (by decide) ?_
            refine lv_iload C.1 hb dL_acts_383 (lv_at hl 0 rfl) ?_
            refine run_wc (cRunL (As := [.ref (gA g 0), .int 3, .int (nI r)]) (rest := []) C hb (hml.trans hl.1.symm) hP hS (k_L_rowTold3 l hl0 g (X, L, []) n hI r (by omega) hno) wm_130 wm_131 wm_132 wm_2 (n := 3) (by decide +kernel) rfl ⟨rfl, rfl, Nat.le_of_ble_eq_true rfl, Nat.le_of_ble_eq_true rfl⟩ (Nat.le_of_ble_eq_true rfl) rfl ⟨by show 0 + 1 ≤ 200; omega, by show 0 + 6 ≤ 1200; omega⟩ dL_acts_385) hS (fun H locs hP hS => ?_)
            refine lv_ldc2 (v := -5) C.1 hb C.2.1 (C.2.2.1 _ wm_107) dL_acts_388 ?_
            refine lc_ne (tgt := 399) C hb dL_acts_391 dL_acts_392 (by decide) (fun c9 => absurd (rfl : (-5 : Int64) = -5) c9) (fun _ => ?_)
            refine lv_iconst (v := 1) C.1 hb dL_acts_395 (by decide) ?_
            refine lv_goto (tgt := 400) C.1 hb dL_acts_396 (by decide) ?_
            exact acZ (by omega) (by omega) C hb hret hlk hP hS dL_acts_400 rfl hR rfl
          refine lv_aload C.1 hb dL_acts_365 (lv_at hl 9 rfl) ?_
          refine lv_iconst (v := 0) C.1 hb dL_acts_367 (by decide) ?_
          refine ldA_m (j := 0) C hb hP (by decide) (by decide) dL_acts_368 ?_
          refine toI (show lA (X, L, []) 7 0 = nI n from (lr_m0 hR : lA (X, L, []) 7 0 = nI n)) ?_
          refine lv_if_eq (tgt := 381) C.1 hb dL_acts_369 (by decide) (fun c159 => ?_) (fun c159 => ?_)
          · have hn0 : n = 0 := (nI_eq (a := n) (b := 0) (by omega) (by decide)).mp c159
            exact K6 (by rw [hr0 hn0]; exact row_0 hR.1 hn0)
          · have hn0 : 0 < n := Nat.pos_of_ne_zero (fun q => c159 (by rw [q]; rfl))
            have hrn := hr1 hn0
            refine lv_aload C.1 hb dL_acts_372 (lv_at hl 7 rfl) ?_
            refine lv_iload C.1 hb dL_acts_374 (lv_at hl 0 rfl) ?_
            refine ldA_g (j := r) C hb hP rfl (by omega) dL_acts_376 ?_
            refine lv_iconst (v := 1) C.1 hb dL_acts_377 (by decide) ?_
            refine lv_icmp_ne (tgt := 401) C.1 hb dL_acts_378 (by decide) (fun c160 => ?_) (fun c160 => ?_)
            · have hv := lr_g0 hR hrn c160
              refine lv_aload C.1 hb dL_acts_401 (lv_at hl 6 rfl) ?_
              refine lv_iload C.1 hb dL_acts_403 (lv_at hl 0 rfl) ?_
              refine ldA_o (j := r) C hb hP rfl (by omega) dL_acts_405 ?_
              refine lv_istore (lv' := [(12, .int (lA (X, L, []) 4 r)), (11, .int (nI r)), (0, .ref (gA g 0)), (1, .ref (gA g 17)), (2, .ref (gA g 18)), (3, .ref (gA g 19)), (4, .ref (gA g 20)), (5, .ref (gA g 21)), (6, .ref (gA g 22)), (7, .ref (gA g 23)), (8, .ref (gA g 24)), (9, .int (nI wy)), (10, .int (nI zz))]) C.1 hb dL_acts_406 hl (by decide) rfl (fun ls hl => ?_)
              refine lv_aload C.1 hb dL_acts_408 (lv_at hl 7 rfl) ?_
              refine lv_iload C.1 hb dL_acts_410 (lv_at hl 1 rfl) ?_
              have K7 : ∀ (v : Int32), (v = -1 ∨ NB 10000000 v) → W p l e ({ frames := 8, cells := 200, slots := 1200, locals := 310 }) s m ([.ref (gA g 0), .ref (gA g 17), .ref (gA g 18), .ref (gA g 19), .ref (gA g 20), .ref (gA g 21), .ref (gA g 22), .ref (gA g 23), .ref (gA g 24), .int (nI wy), .int (nI zz)] : List Value).toArray below meth c s.heap [] 0 0 (MQ below (AQ g) ([.ref (gA g 0), .ref (gA g 17), .ref (gA g 18), .ref (gA g 19), .ref (gA g 20), .ref (gA g 21), .ref (gA g 22), .ref (gA g 23), .ref (gA g 24), .int (nI wy), .int (nI zz)] : List Value).toArray s 200 1200 (Ab g)) (F0 m 445 ls [.int v, .int (nI r), .ref (gA g 21)]) := by
                intro v hvo
                refine stA_o (j := r) C hb hP hS rfl (by omega) dL_acts_445 (fun H locs hP hS => ?_)
                have hP : HW g (X, lO L r v, []) H := hP
                have hA := a_old hR hrn hv hvo
                refine lv_aload_n C.1 hb dL_acts_446 rfl (lv_at hl 2 rfl) ?_
                refine lv_iload C.1 hb dL_acts_447 (lv_at hl 1 rfl) ?_
                refine lv_aload C.1 hb dL_acts_449 (lv_at hl 7 rfl) ?_
                refine lv_iload C.1 hb dL_acts_451 (lv_at hl 1 rfl) ?_
                refine ldA_o (j := r) C hb hP rfl (by omega) dL_acts_453 ?_
                refine toI (show lA (X, lO L r v, []) 4 r = v from pk_us) ?_
                refine run_txn (cRunTX (As := [.int (nI r), .int v]) (rest := []) C hb (hml.trans hl.1.symm) hP hS rfl (k_X0_setOld l hl0 g (X, lO L r v, []) n hI (nI r) v) wm_162 wm_163 wm_164 wm_165 wm_12 (n := 2) (by decide +kernel) rfl ⟨rfl, rfl, Nat.le_of_ble_eq_true rfl, Nat.le_of_ble_eq_true rfl⟩ (Nat.le_of_ble_eq_true rfl) rfl ⟨by show 0 + 1 ≤ 200; omega, by show 0 + 6 ≤ 1200; omega⟩ dL_acts_454) hA.1 hS (fun H locs hP hS => ?_)
                refine toI (show _ = lA (X, L, []) 4 r from (by rw [tN_nI (by omega)]; exact (lr_o hR hrn).symm)) ?_
                refine lv_iload C.1 hb dL_acts_457 (lv_at hl 0 rfl) ?_
                refine lv_icmp_ne (tgt := 466) C.1 hb dL_acts_459 (by decide) (fun c9 => absurd (rfl : lA (X, L, []) 4 r = lA (X, L, []) 4 r) c9) (fun _ => ?_)
                refine lv_iconst (v := 1) C.1 hb dL_acts_462 (by decide) ?_
                refine lv_goto (tgt := 467) C.1 hb dL_acts_463 (by decide) ?_
                exact acZ (by omega) (by omega) C hb hret hlk hP hS dL_acts_467 rfl hA.2.1 hA.2.2
              refine lv_iload C.1 hb dL_acts_412 (lv_at hl 12 rfl) ?_
              refine lv_bipush (v := 9) C.1 hb dL_acts_414 (by decide) ?_
              refine lv_irem C.1 hb dL_acts_416 (by decide) ?_
              refine toI (pk_rem (a := zz) (d := 9) (by omega) (by decide) (by decide)) ?_
              refine lv_if_ne (tgt := 424) C.1 hb dL_acts_417 (by decide) (fun c161 => ?_) (fun c161 => ?_)
              · refine lv_iload C.1 hb dL_acts_424 (lv_at hl 12 rfl) ?_
                refine lv_bipush (v := 12) C.1 hb dL_acts_426 (by decide) ?_
                refine lv_idiv C.1 hb dL_acts_428 (by decide) ?_
                refine toI (pk_div (a := zz) (d := 12) (by omega) (by decide) (by decide)) ?_
                refine lv_iload C.1 hb dL_acts_429 (lv_at hl 12 rfl) ?_
                refine lv_iconst (v := 3) C.1 hb dL_acts_431 (by decide) ?_
                refine lv_irem C.1 hb dL_acts_432 (by decide) ?_
                refine toI (pk_rem (a := zz) (d := 3) (by omega) (by decide) (by decide)) ?_
                refine lv_if_ne (tgt := 441) C.1 hb dL_acts_433 (by decide) (fun c162 => ?_) (fun c162 => ?_)
                · refine lv_sipush (v := 2000) C.1 hb dL_acts_441 (by decide) ?_
                  refine lv_irem C.1 hb dL_acts_444 (by decide) ?_
                  refine toI (pk_rem (a := (zz / 12)) (d := 2000) (by omega) (by decide) (by decide)) ?_
                  exact K7 _ (Or.inr ⟨_, by omega, rfl⟩)
                · refine lv_ldc (v := 3000000) C.1 hb C.2.1 (C.2.2.1 _ wm_108) dL_acts_436 ?_
                  refine lv_goto (tgt := 444) C.1 hb dL_acts_438 (by decide) ?_
                  refine lv_irem C.1 hb dL_acts_444 (by decide) ?_
                  refine toI (pk_rem (a := (zz / 12)) (d := 3000000) (by omega) (by decide) (by decide)) ?_
                  exact K7 _ (Or.inr ⟨_, by omega, rfl⟩)
              · refine lv_iconst (v := (-1)) C.1 hb dL_acts_420 (by decide) ?_
                refine lv_goto (tgt := 445) C.1 hb dL_acts_421 (by decide) ?_
                exact K7 (-1) (Or.inl rfl)
            · exact K6 (row_gone hR.1 hrn (lr_g1 hR hrn c160))
      refine lv_iload C.1 hb dL_acts_240 (lv_at hl 10 rfl) ?_
      refine lv_iconst (v := 4) C.1 hb dL_acts_242 (by decide) ?_
      refine lv_icmp_ne (tgt := 358) C.1 hb dL_acts_243 (by decide) (fun c163 => ?_) (fun c163 => ?_)
      · exact K3
      · refine lv_iload C.1 hb dL_acts_246 (lv_at hl 11 rfl) ?_
        refine lv_iconst (v := 4) C.1 hb dL_acts_248 (by decide) ?_
        refine lv_irem C.1 hb dL_acts_249 (by decide) ?_
        refine toI (pk_rem (a := zz) (d := 4) (by omega) (by decide) (by decide)) ?_
        refine lv_if_ne (tgt := 358) C.1 hb dL_acts_250 (by decide) (fun c164 => ?_) (fun c164 => ?_)
        · exact K3
        · have K5 : ∀ (cn : Nat), (cn = 0 ∧ xHasRow (X, L, []) (nI r) = false ∨ cn = 1 ∧ r < n ∧ ¬ xIa (X, L, []) 1 r = 0) → W p l e ({ frames := 8, cells := 200, slots := 1200, locals := 310 }) s m ([.ref (gA g 0), .ref (gA g 17), .ref (gA g 18), .ref (gA g 19), .ref (gA g 20), .ref (gA g 21), .ref (gA g 22), .ref (gA g 23), .ref (gA g 24), .int (nI wy), .int (nI zz)] : List Value).toArray below meth c s.heap [] 0 0 (MQ below (AQ g) ([.ref (gA g 0), .ref (gA g 17), .ref (gA g 18), .ref (gA g 19), .ref (gA g 20), .ref (gA g 21), .ref (gA g 22), .ref (gA g 23), .ref (gA g 24), .int (nI wy), .int (nI zz)] : List Value).toArray s 200 1200 (Ab g)) (F0 m 273 ls [.int (nI cn)]) := by
            intro cn hcn
            refine lv_istore (lv' := [(12, .int (nI cn)), (11, .int (nI r)), (0, .ref (gA g 0)), (1, .ref (gA g 17)), (2, .ref (gA g 18)), (3, .ref (gA g 19)), (4, .ref (gA g 20)), (5, .ref (gA g 21)), (6, .ref (gA g 22)), (7, .ref (gA g 23)), (8, .ref (gA g 24)), (9, .int (nI wy)), (10, .int (nI zz))]) C.1 hb dL_acts_273 hl (by decide) rfl (fun ls hl => ?_)
            refine lv_iconst (v := 0) C.1 hb dL_acts_275 (by decide) ?_
            refine lv_istore (lv' := [(13, .int 0), (12, .int (nI cn)), (11, .int (nI r)), (0, .ref (gA g 0)), (1, .ref (gA g 17)), (2, .ref (gA g 18)), (3, .ref (gA g 19)), (4, .ref (gA g 20)), (5, .ref (gA g 21)), (6, .ref (gA g 22)), (7, .ref (gA g 23)), (8, .ref (gA g 24)), (9, .int (nI wy)), (10, .int (nI zz))]) C.1 hb dL_acts_276 hl (by decide) rfl (fun ls hl => ?_)
            refine lv_iconst (v := 0) C.1 hb dL_acts_278 (by decide) ?_
            refine lv_istore (lv' := [(14, .int 0), (13, .int 0), (12, .int (nI cn)), (11, .int (nI r)), (0, .ref (gA g 0)), (1, .ref (gA g 17)), (2, .ref (gA g 18)), (3, .ref (gA g 19)), (4, .ref (gA g 20)), (5, .ref (gA g 21)), (6, .ref (gA g 22)), (7, .ref (gA g 23)), (8, .ref (gA g 24)), (9, .int (nI wy)), (10, .int (nI zz))]) C.1 hb dL_acts_279 hl (by decide) rfl (fun ls hl => ?_)
            have key : ∀ f k : Nat, n - k < f → k ≤ n → ∀ (H : Heap) (locs : List Loc), HW g (X, L, []) H → va_S (Ab g) s.heap H locs → ∀ ls : Array Slot, lv_has ls 19 [(0, .ref (gA g 0)), (1, .ref (gA g 17)), (2, .ref (gA g 18)), (3, .ref (gA g 19)), (4, .ref (gA g 20)), (5, .ref (gA g 21)), (6, .ref (gA g 22)), (7, .ref (gA g 23)), (8, .ref (gA g 24)), (9, .int (nI wy)), (10, .int (nI zz)), (11, .int (nI r)), (12, .int (nI cn)), (13, .int (nI (xCnt (xLiv (X, L, [])) k))), (14, .int (nI k))] → W p l e ({ frames := 8, cells := 200, slots := 1200, locals := 310 }) s m ([.ref (gA g 0), .ref (gA g 17), .ref (gA g 18), .ref (gA g 19), .ref (gA g 20), .ref (gA g 21), .ref (gA g 22), .ref (gA g 23), .ref (gA g 24), .int (nI wy), .int (nI zz)] : List Value).toArray below meth c H locs 0 0 (MQ below (AQ g) ([.ref (gA g 0), .ref (gA g 17), .ref (gA g 18), .ref (gA g 19), .ref (gA g 20), .ref (gA g 21), .ref (gA g 22), .ref (gA g 23), .ref (gA g 24), .int (nI wy), .int (nI zz)] : List Value).toArray s 200 1200 (Ab g)) (F0 m 281 ls []) := by
              intro f
              induction f with
              | zero => intro k h; exact absurd h (Nat.not_lt_zero _)
              | succ f ih =>
                intro k hfk hk  H locs hP hS ls hl
                refine lv_iload C.1 hb dL_acts_281 (lv_at hl 14 rfl) ?_
                refine lv_aload C.1 hb dL_acts_283 (lv_at hl 8 rfl) ?_
                refine lv_iconst (v := 0) C.1 hb dL_acts_285 (by decide) ?_
                refine ldA_m (j := 0) C hb hP (by decide) (by decide) dL_acts_286 ?_
                refine toI (show lA (X, L, []) 7 0 = nI n from (lr_m0 hR : lA (X, L, []) 7 0 = nI n)) ?_
                refine lv_icmp_ge (tgt := 308) C.1 hb dL_acts_287 (by decide) (fun c165 => ?_) (fun c165 => ?_)
                · have hin : k = n := by have := le_nI (a := n) (b := k) (by omega) (by omega) c165; omega
                  rw [hin] at hl
                  refine lv_iload C.1 hb dL_acts_308 (lv_at hl 12 rfl) ?_
                  refine lv_if_ne (tgt := 333) C.1 hb dL_acts_310 (by decide) (fun c166 => ?_) (fun c166 => ?_)
                  · obtain ⟨hrn, hv⟩ : r < n ∧ ¬ xIa (X, L, []) 1 r = 0 := hcn.elim (fun q => absurd (by rw [q.1]; rfl) c166) (fun q => q.2)
                    refine lv_aload C.1 hb dL_acts_333 (lv_at hl 6 rfl) ?_
                    refine lv_iload C.1 hb dL_acts_335 (lv_at hl 11 rfl) ?_
                    refine lv_iconst (v := 1) C.1 hb dL_acts_337 (by decide) ?_
                    refine stA_g (j := r) C hb hP hS rfl (by omega) dL_acts_338 (fun H locs hP hS => ?_)
                    have hP : HW g (X, lG L r, []) H := hP
                    have hA := a_wd hR hrn hv
                    refine lv_aload_n C.1 hb dL_acts_339 rfl (lv_at hl 0 rfl) ?_
                    refine lv_iload C.1 hb dL_acts_340 (lv_at hl 11 rfl) ?_
                    refine run_txn (cRunTX (As := [.int (nI r)]) (rest := []) C hb (hml.trans hl.1.symm) hP hS rfl (k_X0_withdraw l hl0 g (X, lG L r, []) n hI (nI r)) wm_167 wm_168 wm_169 wm_170 wm_12 (n := 1) (by decide +kernel) rfl ⟨rfl, rfl, Nat.le_of_ble_eq_true rfl, Nat.le_of_ble_eq_true rfl⟩ (Nat.le_of_ble_eq_true rfl) rfl ⟨by show 0 + 1 ≤ 200; omega, by show 0 + 6 ≤ 1200; omega⟩ dL_acts_342) hA.1 hS (fun H locs hP hS => ?_)
                    refine lv_iload C.1 hb dL_acts_345 (lv_at hl 13 rfl) ?_
                    refine lv_iconst (v := 1) C.1 hb dL_acts_347 (by decide) ?_
                    refine lv_isub C.1 hb dL_acts_348 ?_
                    refine lv_icmp_ne (tgt := 356) C.1 hb dL_acts_349 (by decide) (fun c9 => absurd (show xSc (X, lG L r, []) 1 - 1 = nI (xCnt (xLiv (X, L, [])) n) - 1 by rw [show xSc (X, lG L r, []) 1 = nI (xCnt (xLiv (X, L, [])) n) from lr_rows hR]) c9) (fun _ => ?_)
                    refine lv_iconst (v := 1) C.1 hb dL_acts_352 (by decide) ?_
                    refine lv_goto (tgt := 357) C.1 hb dL_acts_353 (by decide) ?_
                    exact acZ (by omega) (by omega) C hb hret hlk hP hS dL_acts_357 rfl hA.2.1 hA.2.2
                  · have hno : xHasRow (X, L, []) (nI r) = false := hcn.elim (fun q => q.2) (fun q => absurd c166 (by rw [q.1]; decide))
                    refine lv_aload_n C.1 hb dL_acts_313 rfl (lv_at hl 0 rfl) ?_
                    refine lv_iconst (v := 3) C.1 hb dL_acts_314 (by decide) ?_
                    refine lv_iload C.1 hb dL_acts_315 (lv_at hl 11 rfl) ?_
                    refine run_wc (cRunL (As := [.ref (gA g 0), .int 3, .int (nI r)]) (rest := []) C hb (hml.trans hl.1.symm) hP hS (k_L_rowTold3 l hl0 g (X, L, []) n hI r (by omega) hno) wm_130 wm_131 wm_132 wm_2 (n := 3) (by decide +kernel) rfl ⟨rfl, rfl, Nat.le_of_ble_eq_true rfl, Nat.le_of_ble_eq_true rfl⟩ (Nat.le_of_ble_eq_true rfl) rfl ⟨by show 0 + 1 ≤ 200; omega, by show 0 + 6 ≤ 1200; omega⟩ dL_acts_317) hS (fun H locs hP hS => ?_)
                    refine lv_ldc2 (v := -5) C.1 hb C.2.1 (C.2.2.1 _ wm_107) dL_acts_320 ?_
                    refine lc_ne (tgt := 331) C hb dL_acts_323 dL_acts_324 (by decide) (fun c9 => absurd (rfl : (-5 : Int64) = -5) c9) (fun _ => ?_)
                    refine lv_iconst (v := 1) C.1 hb dL_acts_327 (by decide) ?_
                    refine lv_goto (tgt := 332) C.1 hb dL_acts_328 (by decide) ?_
                    exact acZ (by omega) (by omega) C hb hret hlk hP hS dL_acts_332 rfl hR rfl
                · have hlt : k < n := nle_nI (a := n) (b := k) (by omega) (by omega) c165
                  refine lv_iload C.1 hb dL_acts_290 (lv_at hl 13 rfl) ?_
                  refine lv_iconst (v := 1) C.1 hb dL_acts_292 (by decide) ?_
                  refine lv_aload C.1 hb dL_acts_293 (lv_at hl 6 rfl) ?_
                  refine lv_iload C.1 hb dL_acts_295 (lv_at hl 14 rfl) ?_
                  refine ldA_g (j := k) C hb hP rfl (by omega) dL_acts_297 ?_
                  refine lv_isub C.1 hb dL_acts_298 ?_
                  refine lv_iadd C.1 hb dL_acts_299 ?_
                  refine toI (show _ = nI (xCnt (xLiv (X, L, [])) (k + 1)) from (lr_cnt hR hlt)) ?_
                  refine lv_istore (lv' := [(13, .int (nI (xCnt (xLiv (X, L, [])) (k + 1)))), (0, .ref (gA g 0)), (1, .ref (gA g 17)), (2, .ref (gA g 18)), (3, .ref (gA g 19)), (4, .ref (gA g 20)), (5, .ref (gA g 21)), (6, .ref (gA g 22)), (7, .ref (gA g 23)), (8, .ref (gA g 24)), (9, .int (nI wy)), (10, .int (nI zz)), (11, .int (nI r)), (12, .int (nI cn)), (14, .int (nI k))]) C.1 hb dL_acts_300 hl (by decide) rfl (fun ls hl => ?_)
                  refine lv_iinc (v := nI (k + 1)) (lv' := [(14, .int (nI (k + 1))), (13, .int (nI (xCnt (xLiv (X, L, [])) (k + 1)))), (0, .ref (gA g 0)), (1, .ref (gA g 17)), (2, .ref (gA g 18)), (3, .ref (gA g 19)), (4, .ref (gA g 20)), (5, .ref (gA g 21)), (6, .ref (gA g 22)), (7, .ref (gA g 23)), (8, .ref (gA g 24)), (9, .int (nI wy)), (10, .int (nI zz)), (11, .int (nI r)), (12, .int (nI cn))]) C.1 hb dL_acts_302 hl (k := 14) rfl (nI_1 k) (by decide) rfl (fun ls hl => ?_)
                  refine lv_goto (tgt := 281) C.1 hb dL_acts_305 (by decide) ?_
                  exact ih (k + 1) (by omega) (by omega)  _ _ hP hS ls (lv_sub hl [2, 3, 4, 5, 6, 7, 8, 9, 10, 11, 12, 13, 14, 1, 0] rfl)
            exact key (n - 0 + 1) 0 (by omega) (by omega)  _ _ hP hS ls (lv_sub hl [4, 5, 6, 7, 8, 9, 10, 11, 12, 13, 14, 3, 2, 1, 0] rfl)
          refine lv_aload C.1 hb dL_acts_253 (lv_at hl 9 rfl) ?_
          refine lv_iconst (v := 0) C.1 hb dL_acts_255 (by decide) ?_
          refine ldA_m (j := 0) C hb hP (by decide) (by decide) dL_acts_256 ?_
          refine toI (show lA (X, L, []) 7 0 = nI n from (lr_m0 hR : lA (X, L, []) 7 0 = nI n)) ?_
          refine lv_if_le (tgt := 272) C.1 hb dL_acts_257 (by decide) (fun c167 => ?_) (fun c167 => ?_)
          · have hn0 : n = 0 := by have := (nI_leI (a := n) (b := 0) (by omega) (by decide)).mp c167; omega
            refine lv_iconst (v := 0) C.1 hb dL_acts_272 (by decide) ?_
            exact K5 0 (Or.inl ⟨rfl, (by rw [hr0 hn0]; exact row_0 hR.1 hn0)⟩)
          · have hn0 : 0 < n := Nat.pos_of_ne_zero (fun q => c167 (by rw [q]; decide))
            have hrn := hr1 hn0
            refine lv_aload C.1 hb dL_acts_260 (lv_at hl 7 rfl) ?_
            refine lv_iload C.1 hb dL_acts_262 (lv_at hl 0 rfl) ?_
            refine ldA_g (j := r) C hb hP rfl (by omega) dL_acts_264 ?_
            refine lv_if_ne (tgt := 272) C.1 hb dL_acts_265 (by decide) (fun c168 => ?_) (fun c168 => ?_)
            · refine lv_iconst (v := 0) C.1 hb dL_acts_272 (by decide) ?_
              exact K5 0 (Or.inl ⟨rfl, row_gone hR.1 hrn (lr_z1 hR hrn c168)⟩)
            · refine lv_iconst (v := 1) C.1 hb dL_acts_268 (by decide) ?_
              refine lv_goto (tgt := 273) C.1 hb dL_acts_269 (by decide) ?_
              exact K5 1 (Or.inr ⟨rfl, hrn, lr_z0 hR hrn c168⟩)
    refine lv_aload C.1 hb dL_acts_220 (lv_at hl 8 rfl) ?_
    refine lv_iconst (v := 0) C.1 hb dL_acts_222 (by decide) ?_
    refine ldA_m (j := 0) C hb hP (by decide) (by decide) dL_acts_223 ?_
    refine toI (show lA (X, L, []) 7 0 = nI n from (lr_m0 hR : lA (X, L, []) 7 0 = nI n)) ?_
    refine lv_if_ne (tgt := 231) C.1 hb dL_acts_224 (by decide) (fun c169 => ?_) (fun c169 => ?_)
    · have hn0 : 0 < n := Nat.pos_of_ne_zero (fun q => c169 (by rw [q]; rfl))
      have hmod : zz % n < n := Nat.mod_lt _ hn0
      refine lv_iload C.1 hb dL_acts_231 (lv_at hl 10 rfl) ?_
      refine lv_aload C.1 hb dL_acts_233 (lv_at hl 8 rfl) ?_
      refine lv_iconst (v := 0) C.1 hb dL_acts_235 (by decide) ?_
      refine ldA_m (j := 0) C hb hP (by decide) (by decide) dL_acts_236 ?_
      refine toI (show lA (X, L, []) 7 0 = nI n from (lr_m0 hR : lA (X, L, []) 7 0 = nI n)) ?_
      refine lv_irem C.1 hb dL_acts_237 (nI_ne0 hn0 (by omega)) ?_
      refine toI (pk_rem (a := zz) (d := n) (by omega) hn0 (by omega)) ?_
      exact K1 _ (fun q => absurd q (by omega)) (fun _ => hmod)
    · have hn0 : n = 0 := (nI_eq (a := n) (b := 0) (by omega) (by decide)).mp c169
      refine lv_iconst (v := 0) C.1 hb dL_acts_227 (by decide) ?_
      refine lv_goto (tgt := 238) C.1 hb dL_acts_228 (by decide) ?_
      exact K1 0 (fun _ => rfl) (fun q => absurd q (by omega))
  refine lv_iload C.1 hb dL_acts_0 (lv_at hl 9 rfl) ?_
  refine lv_iconst (v := 4) C.1 hb dL_acts_2 (by decide) ?_
  refine lv_icmp_ge (tgt := 220) C.1 hb dL_acts_3 (by decide) (fun c170 => ?_) (fun c170 => ?_)
  · exact K0
  · refine lv_aload C.1 hb dL_acts_6 (lv_at hl 8 rfl) ?_
    refine lv_iconst (v := 0) C.1 hb dL_acts_8 (by decide) ?_
    refine ldA_m (j := 0) C hb hP (by decide) (by decide) dL_acts_9 ?_
    refine toI (show lA (X, L, []) 7 0 = nI n from (lr_m0 hR : lA (X, L, []) 7 0 = nI n)) ?_
    refine lv_bipush (v := 12) C.1 hb dL_acts_10 (by decide) ?_
    refine lv_icmp_ge (tgt := 220) C.1 hb dL_acts_12 (by decide) (fun c171 => ?_) (fun c171 => ?_)
    · exact K0
    · have hlt : n < 12 := nle_nI (a := 12) (b := n) (by decide) (by omega) c171
      refine lv_aload C.1 hb dL_acts_15 (lv_at hl 8 rfl) ?_
      refine lv_iconst (v := 0) C.1 hb dL_acts_17 (by decide) ?_
      refine ldA_m (j := 0) C hb hP (by decide) (by decide) dL_acts_18 ?_
      refine toI (show lA (X, L, []) 7 0 = nI n from (lr_m0 hR : lA (X, L, []) 7 0 = nI n)) ?_
      refine lv_istore (lv' := [(11, .int (nI n)), (0, .ref (gA g 0)), (1, .ref (gA g 17)), (2, .ref (gA g 18)), (3, .ref (gA g 19)), (4, .ref (gA g 20)), (5, .ref (gA g 21)), (6, .ref (gA g 22)), (7, .ref (gA g 23)), (8, .ref (gA g 24)), (9, .int (nI wy)), (10, .int (nI zz))]) C.1 hb dL_acts_19 hl (by decide) rfl (fun ls hl => ?_)
      refine lv_aload_n C.1 hb dL_acts_21 rfl (lv_at hl 2 rfl) ?_
      refine lv_iconst (v := 3) C.1 hb dL_acts_22 (by decide) ?_
      refine lv_iload C.1 hb dL_acts_23 (lv_at hl 0 rfl) ?_
      refine lv_imul C.1 hb dL_acts_25 ?_
      refine lv_iload C.1 hb dL_acts_26 (lv_at hl 11 rfl) ?_
      refine lv_iconst (v := 4) C.1 hb dL_acts_28 (by decide) ?_
      refine lv_irem C.1 hb dL_acts_29 (by decide) ?_
      refine toI (pk_rem (a := zz) (d := 4) (by omega) (by decide) (by decide)) ?_
      refine stA_l (j := (3 * n)) C hb hP hS (pk_mul 3 n) (by omega) dL_acts_30 (fun H locs hP hS => ?_)
      have hP : HW g (X, lA1 L n (nI (zz % 4)), []) H := hP
      refine lv_aload_n C.1 hb dL_acts_31 rfl (lv_at hl 2 rfl) ?_
      refine lv_iconst (v := 3) C.1 hb dL_acts_32 (by decide) ?_
      refine lv_iload C.1 hb dL_acts_33 (lv_at hl 0 rfl) ?_
      refine lv_imul C.1 hb dL_acts_35 ?_
      refine lv_iconst (v := 1) C.1 hb dL_acts_36 (by decide) ?_
      refine lv_iadd C.1 hb dL_acts_37 ?_
      refine lv_iload C.1 hb dL_acts_38 (lv_at hl 11 rfl) ?_
      refine lv_iconst (v := 4) C.1 hb dL_acts_40 (by decide) ?_
      refine lv_idiv C.1 hb dL_acts_41 (by decide) ?_
      refine toI (pk_div (a := zz) (d := 4) (by omega) (by decide) (by decide)) ?_
      refine lv_iconst (v := 3) C.1 hb dL_acts_42 (by decide) ?_
      refine lv_irem C.1 hb dL_acts_43 (by decide) ?_
      refine toI (pk_rem (a := (zz / 4)) (d := 3) (by omega) (by decide) (by decide)) ?_
      refine stA_l (j := (3 * n + 1)) C hb hP hS (ix3 n 1) (by omega) dL_acts_44 (fun H locs hP hS => ?_)
      have hP : HW g (X, lA2 L n (nI (zz % 4)) (nI ((zz / 4) % 3)), []) H := hP
      refine lv_aload_n C.1 hb dL_acts_45 rfl (lv_at hl 2 rfl) ?_
      refine lv_iconst (v := 3) C.1 hb dL_acts_46 (by decide) ?_
      refine lv_iload C.1 hb dL_acts_47 (lv_at hl 0 rfl) ?_
      refine lv_imul C.1 hb dL_acts_49 ?_
      refine lv_iconst (v := 2) C.1 hb dL_acts_50 (by decide) ?_
      refine lv_iadd C.1 hb dL_acts_51 ?_
      refine lv_iload C.1 hb dL_acts_52 (lv_at hl 11 rfl) ?_
      refine lv_bipush (v := 12) C.1 hb dL_acts_54 (by decide) ?_
      refine lv_idiv C.1 hb dL_acts_56 (by decide) ?_
      refine toI (pk_div (a := zz) (d := 12) (by omega) (by decide) (by decide)) ?_
      refine lv_iconst (v := 4) C.1 hb dL_acts_57 (by decide) ?_
      refine lv_irem C.1 hb dL_acts_58 (by decide) ?_
      refine toI (pk_rem (a := (zz / 12)) (d := 4) (by omega) (by decide) (by decide)) ?_
      refine stA_l (j := (3 * n + 2)) C hb hP hS (ix3 n 2) (by omega) dL_acts_59 (fun H locs hP hS => ?_)
      have hP : HW g (X, lA3 L n (nI (zz % 4)) (nI ((zz / 4) % 3)) (nI ((zz / 12) % 4)), []) H := hP
      have K2 : ∀ (vx : Nat), 1 ≤ vx → vx ≤ 1000 → W p l e ({ frames := 8, cells := 200, slots := 1200, locals := 310 }) s m ([.ref (gA g 0), .ref (gA g 17), .ref (gA g 18), .ref (gA g 19), .ref (gA g 20), .ref (gA g 21), .ref (gA g 22), .ref (gA g 23), .ref (gA g 24), .int (nI wy), .int (nI zz)] : List Value).toArray below meth c H locs 0 0 (MQ below (AQ g) ([.ref (gA g 0), .ref (gA g 17), .ref (gA g 18), .ref (gA g 19), .ref (gA g 20), .ref (gA g 21), .ref (gA g 22), .ref (gA g 23), .ref (gA g 24), .int (nI wy), .int (nI zz)] : List Value).toArray s 200 1200 (Ab g)) (F0 m 86 ls [.int (nI vx), .int (nI n), .ref (gA g 18)]) := by
        intro vx hx1 hx2
        refine stA_x (j := n) C hb hP hS rfl (by omega) dL_acts_86 (fun H locs hP hS => ?_)
        have hP : HW g (X, lA4 L n (nI (zz % 4)) (nI ((zz / 4) % 3)) (nI ((zz / 12) % 4)) (nI vx), []) H := hP
        have K3 : ∀ (vc : Nat), vc ≤ 1000 → W p l e ({ frames := 8, cells := 200, slots := 1200, locals := 310 }) s m ([.ref (gA g 0), .ref (gA g 17), .ref (gA g 18), .ref (gA g 19), .ref (gA g 20), .ref (gA g 21), .ref (gA g 22), .ref (gA g 23), .ref (gA g 24), .int (nI wy), .int (nI zz)] : List Value).toArray below meth c H locs 0 0 (MQ below (AQ g) ([.ref (gA g 0), .ref (gA g 17), .ref (gA g 18), .ref (gA g 19), .ref (gA g 20), .ref (gA g 21), .ref (gA g 22), .ref (gA g 23), .ref (gA g 24), .int (nI wy), .int (nI zz)] : List Value).toArray s 200 1200 (Ab g)) (F0 m 111 ls [.int (nI vc), .int (nI n), .ref (gA g 19)]) := by
          intro vc hc1
          refine stA_c (j := n) C hb hP hS rfl (by omega) dL_acts_111 (fun H locs hP hS => ?_)
          have hP : HW g (X, lA5 L n (nI (zz % 4)) (nI ((zz / 4) % 3)) (nI ((zz / 12) % 4)) (nI vx) (nI vc), []) H := hP
          have K4 : ∀ (vd : Nat), vd ≤ 1000000 → W p l e ({ frames := 8, cells := 200, slots := 1200, locals := 310 }) s m ([.ref (gA g 0), .ref (gA g 17), .ref (gA g 18), .ref (gA g 19), .ref (gA g 20), .ref (gA g 21), .ref (gA g 22), .ref (gA g 23), .ref (gA g 24), .int (nI wy), .int (nI zz)] : List Value).toArray below meth c H locs 0 0 (MQ below (AQ g) ([.ref (gA g 0), .ref (gA g 17), .ref (gA g 18), .ref (gA g 19), .ref (gA g 20), .ref (gA g 21), .ref (gA g 22), .ref (gA g 23), .ref (gA g 24), .int (nI wy), .int (nI zz)] : List Value).toArray s 200 1200 (Ab g)) (F0 m 149 ls [.int (nI vd), .int (nI n), .ref (gA g 20)]) := by
            intro vd hd1
            refine stA_d (j := n) C hb hP hS rfl (by omega) dL_acts_149 (fun H locs hP hS => ?_)
            have hP : HW g (X, lA6 L n (nI (zz % 4)) (nI ((zz / 4) % 3)) (nI ((zz / 12) % 4)) (nI vx) (nI vc) (nI vd), []) H := hP
            refine lv_aload C.1 hb dL_acts_150 (lv_at hl 6 rfl) ?_
            refine lv_iload C.1 hb dL_acts_152 (lv_at hl 0 rfl) ?_
            refine lv_iconst (v := (-1)) C.1 hb dL_acts_154 (by decide) ?_
            refine stA_o (j := n) C hb hP hS rfl (by omega) dL_acts_155 (fun H locs hP hS => ?_)
            have hP : HW g (X, lA7 L n (nI (zz % 4)) (nI ((zz / 4) % 3)) (nI ((zz / 12) % 4)) (nI vx) (nI vc) (nI vd), []) H := hP
            refine lv_aload C.1 hb dL_acts_156 (lv_at hl 7 rfl) ?_
            refine lv_iload C.1 hb dL_acts_158 (lv_at hl 0 rfl) ?_
            refine lv_iconst (v := 0) C.1 hb dL_acts_160 (by decide) ?_
            refine stA_g (j := n) C hb hP hS rfl (by omega) dL_acts_161 (fun H locs hP hS => ?_)
            have hP : HW g (X, lA8 L n (nI (zz % 4)) (nI ((zz / 4) % 3)) (nI ((zz / 12) % 4)) (nI vx) (nI vc) (nI vd), []) H := hP
            refine lv_aload C.1 hb dL_acts_162 (lv_at hl 9 rfl) ?_
            refine lv_iconst (v := 0) C.1 hb dL_acts_164 (by decide) ?_
            refine lv_dup2_11 C.1 hb dL_acts_165 rfl rfl ?_
            refine ldA_m (j := 0) C hb hP (by decide) (by decide) dL_acts_166 ?_
            refine toI (show lA (X, lA8 L n (nI (zz % 4)) (nI ((zz / 4) % 3)) (nI ((zz / 12) % 4)) (nI vx) (nI vc) (nI vd), []) 7 0 = nI n from (lr_m0 hR : lA (X, L, []) 7 0 = nI n)) ?_
            refine lv_iconst (v := 1) C.1 hb dL_acts_167 (by decide) ?_
            refine lv_iadd C.1 hb dL_acts_168 ?_
            refine toI (show _ = nI (n + 1) from (nI_1 n)) ?_
            refine stA_m (j := 0) C hb hP hS (by decide) (by decide) dL_acts_169 (fun H locs hP hS => ?_)
            have hP : HW g (X, lAd L n (nI (zz % 4)) (nI ((zz / 4) % 3)) (nI ((zz / 12) % 4)) (nI vx) (nI vc) (nI vd), []) H := hP
            have hA := a_add hR hlt (a := zz % 4) (b := (zz / 4) % 3) (q := (zz / 12) % 4) (x := vx) (c := vc) (d := vd) (by omega) (by omega) (by omega) hx1 hx2 hc1 hd1
            refine lv_aload_n C.1 hb dL_acts_170 rfl (lv_at hl 1 rfl) ?_
            refine lv_aload_n C.1 hb dL_acts_171 rfl (lv_at hl 2 rfl) ?_
            refine lv_iconst (v := 3) C.1 hb dL_acts_172 (by decide) ?_
            refine lv_iload C.1 hb dL_acts_173 (lv_at hl 0 rfl) ?_
            refine lv_imul C.1 hb dL_acts_175 ?_
            refine ldA_l (j := (3 * n)) C hb hP (pk_mul 3 n) (by omega) dL_acts_176 ?_
            refine toI (show lA (X, lAd L n (nI (zz % 4)) (nI ((zz / 4) % 3)) (nI ((zz / 12) % 4)) (nI vx) (nI vc) (nI vd), []) 0 (3 * n) = (nI (zz % 4)) from lAd_a (L := L) (n := n) (a := (nI (zz % 4))) (b := (nI ((zz / 4) % 3))) (q := (nI ((zz / 12) % 4))) (x := nI vx) (c := nI vc) (d := nI vd)) ?_
            refine lv_aload_n C.1 hb dL_acts_177 rfl (lv_at hl 2 rfl) ?_
            refine lv_iconst (v := 3) C.1 hb dL_acts_178 (by decide) ?_
            refine lv_iload C.1 hb dL_acts_179 (lv_at hl 0 rfl) ?_
            refine lv_imul C.1 hb dL_acts_181 ?_
            refine lv_iconst (v := 1) C.1 hb dL_acts_182 (by decide) ?_
            refine lv_iadd C.1 hb dL_acts_183 ?_
            refine ldA_l (j := (3 * n + 1)) C hb hP (ix3 n 1) (by omega) dL_acts_184 ?_
            refine toI (show lA (X, lAd L n (nI (zz % 4)) (nI ((zz / 4) % 3)) (nI ((zz / 12) % 4)) (nI vx) (nI vc) (nI vd), []) 0 (3 * n + 1) = (nI ((zz / 4) % 3)) from lAd_b (L := L) (n := n) (a := (nI (zz % 4))) (b := (nI ((zz / 4) % 3))) (q := (nI ((zz / 12) % 4))) (x := nI vx) (c := nI vc) (d := nI vd)) ?_
            refine lv_aload_n C.1 hb dL_acts_185 rfl (lv_at hl 2 rfl) ?_
            refine lv_iconst (v := 3) C.1 hb dL_acts_186 (by decide) ?_
            refine lv_iload C.1 hb dL_acts_187 (lv_at hl 0 rfl) ?_
            refine lv_imul C.1 hb dL_acts_189 ?_
            refine lv_iconst (v := 2) C.1 hb dL_acts_190 (by decide) ?_
            refine lv_iadd C.1 hb dL_acts_191 ?_
            refine ldA_l (j := (3 * n + 2)) C hb hP (ix3 n 2) (by omega) dL_acts_192 ?_
            refine toI (show lA (X, lAd L n (nI (zz % 4)) (nI ((zz / 4) % 3)) (nI ((zz / 12) % 4)) (nI vx) (nI vc) (nI vd), []) 0 (3 * n + 2) = (nI ((zz / 12) % 4)) from lAd_q (L := L) (n := n) (a := (nI (zz % 4))) (b := (nI ((zz / 4) % 3))) (q := (nI ((zz / 12) % 4))) (x := nI vx) (c := nI vc) (d := nI vd)) ?_
            refine lv_aload_n C.1 hb dL_acts_193 rfl (lv_at hl 3 rfl) ?_
            refine lv_iload C.1 hb dL_acts_194 (lv_at hl 0 rfl) ?_
            refine ldA_x (j := n) C hb hP rfl (by omega) dL_acts_196 ?_
            refine toI (show lA (X, lAd L n (nI (zz % 4)) (nI ((zz / 4) % 3)) (nI ((zz / 12) % 4)) (nI vx) (nI vc) (nI vd), []) 1 n = (nI vx) from lAd_x (L := L) (n := n) (a := (nI (zz % 4))) (b := (nI ((zz / 4) % 3))) (q := (nI ((zz / 12) % 4))) (x := nI vx) (c := nI vc) (d := nI vd)) ?_
            refine lv_aload_n C.1 hb dL_acts_197 rfl (lv_at hl 4 rfl) ?_
            refine lv_iload C.1 hb dL_acts_198 (lv_at hl 0 rfl) ?_
            refine ldA_c (j := n) C hb hP rfl (by omega) dL_acts_200 ?_
            refine toI (show lA (X, lAd L n (nI (zz % 4)) (nI ((zz / 4) % 3)) (nI ((zz / 12) % 4)) (nI vx) (nI vc) (nI vd), []) 2 n = (nI vc) from lAd_c (L := L) (n := n) (a := (nI (zz % 4))) (b := (nI ((zz / 4) % 3))) (q := (nI ((zz / 12) % 4))) (x := nI vx) (c := nI vc) (d := nI vd)) ?_
            refine lv_aload C.1 hb dL_acts_201 (lv_at hl 5 rfl) ?_
            refine lv_iload C.1 hb dL_acts_203 (lv_at hl 0 rfl) ?_
            refine ldA_d (j := n) C hb hP rfl (by omega) dL_acts_205 ?_
            refine toI (show lA (X, lAd L n (nI (zz % 4)) (nI ((zz / 4) % 3)) (nI ((zz / 12) % 4)) (nI vx) (nI vc) (nI vd), []) 3 n = (nI vd) from lAd_d (L := L) (n := n) (a := (nI (zz % 4))) (b := (nI ((zz / 4) % 3))) (q := (nI ((zz / 12) % 4))) (x := nI vx) (c := nI vc) (d := nI vd)) ?_
            refine run_txn (cRunTX (As := [.int (nI (zz % 4)), .int (nI ((zz / 4) % 3)), .int (nI ((zz / 12) % 4)), .int (nI vx), .int (nI vc), .int (nI vd)]) (rest := []) C hb (hml.trans hl.1.symm) hP hS rfl (k_X0_add l hl0 g (X, lAd L n (nI (zz % 4)) (nI ((zz / 4) % 3)) (nI ((zz / 12) % 4)) (nI vx) (nI vc) (nI vd), []) n hI (nI (zz % 4)) (nI ((zz / 4) % 3)) (nI ((zz / 12) % 4)) (nI vx) (nI vc) (nI vd)) wm_112 wm_113 wm_114 wm_115 wm_12 (n := 6) (by decide +kernel) rfl ⟨rfl, rfl, Nat.le_of_ble_eq_true rfl, Nat.le_of_ble_eq_true rfl⟩ (Nat.le_of_ble_eq_true rfl) rfl ⟨by show 0 + 1 ≤ 200; omega, by show 0 + 6 ≤ 1200; omega⟩ dL_acts_206) hA.1 hS (fun H locs hP hS => ?_)
            refine lv_iload C.1 hb dL_acts_209 (lv_at hl 0 rfl) ?_
            refine lv_icmp_ne (tgt := 218) C.1 hb dL_acts_211 (by decide) (fun c9 => absurd (rfl : nI n = nI n) c9) (fun _ => ?_)
            refine lv_iconst (v := 1) C.1 hb dL_acts_214 (by decide) ?_
            refine lv_goto (tgt := 219) C.1 hb dL_acts_215 (by decide) ?_
            exact acZ (by omega) (by omega) C hb hret hlk hP hS dL_acts_219 rfl hA.2.1 hA.2.2
          refine lv_aload C.1 hb dL_acts_112 (lv_at hl 5 rfl) ?_
          refine lv_iload C.1 hb dL_acts_114 (lv_at hl 0 rfl) ?_
          refine lv_iload C.1 hb dL_acts_116 (lv_at hl 11 rfl) ?_
          refine lv_bipush (v := 11) C.1 hb dL_acts_118 (by decide) ?_
          refine lv_irem C.1 hb dL_acts_120 (by decide) ?_
          refine toI (pk_rem (a := zz) (d := 11) (by omega) (by decide) (by decide)) ?_
          refine lv_if_ne (tgt := 128) C.1 hb dL_acts_121 (by decide) (fun c172 => ?_) (fun c172 => ?_)
          · refine lv_iload C.1 hb dL_acts_128 (lv_at hl 11 rfl) ?_
            refine lv_bipush (v := 77) C.1 hb dL_acts_130 (by decide) ?_
            refine lv_idiv C.1 hb dL_acts_132 (by decide) ?_
            refine toI (pk_div (a := zz) (d := 77) (by omega) (by decide) (by decide)) ?_
            refine lv_iload C.1 hb dL_acts_133 (lv_at hl 11 rfl) ?_
            refine lv_iconst (v := 3) C.1 hb dL_acts_135 (by decide) ?_
            refine lv_irem C.1 hb dL_acts_136 (by decide) ?_
            refine toI (pk_rem (a := zz) (d := 3) (by omega) (by decide) (by decide)) ?_
            refine lv_if_ne (tgt := 145) C.1 hb dL_acts_137 (by decide) (fun c173 => ?_) (fun c173 => ?_)
            · refine lv_sipush (v := 900) C.1 hb dL_acts_145 (by decide) ?_
              refine lv_irem C.1 hb dL_acts_148 (by decide) ?_
              refine toI (pk_rem (a := (zz / 77)) (d := 900) (by omega) (by decide) (by decide)) ?_
              exact K4 _ (by omega)
            · refine lv_ldc (v := 1000000) C.1 hb C.2.1 (C.2.2.1 _ wm_106) dL_acts_140 ?_
              refine lv_goto (tgt := 148) C.1 hb dL_acts_142 (by decide) ?_
              refine lv_irem C.1 hb dL_acts_148 (by decide) ?_
              refine toI (pk_rem (a := (zz / 77)) (d := 1000000) (by omega) (by decide) (by decide)) ?_
              exact K4 _ (by omega)
          · refine lv_iconst (v := 0) C.1 hb dL_acts_124 (by decide) ?_
            refine lv_goto (tgt := 149) C.1 hb dL_acts_125 (by decide) ?_
            exact K4 0 (by omega)
        refine lv_aload_n C.1 hb dL_acts_87 rfl (lv_at hl 4 rfl) ?_
        refine lv_iload C.1 hb dL_acts_88 (lv_at hl 0 rfl) ?_
        refine lv_iload C.1 hb dL_acts_90 (lv_at hl 11 rfl) ?_
        refine lv_bipush (v := 7) C.1 hb dL_acts_92 (by decide) ?_
        refine lv_irem C.1 hb dL_acts_94 (by decide) ?_
        refine toI (pk_rem (a := zz) (d := 7) (by omega) (by decide) (by decide)) ?_
        refine lv_if_ne (tgt := 102) C.1 hb dL_acts_95 (by decide) (fun c174 => ?_) (fun c174 => ?_)
        · refine lv_iload C.1 hb dL_acts_102 (lv_at hl 11 rfl) ?_
          refine lv_sipush (v := 960) C.1 hb dL_acts_104 (by decide) ?_
          refine lv_idiv C.1 hb dL_acts_107 (by decide) ?_
          refine toI (pk_div (a := zz) (d := 960) (by omega) (by decide) (by decide)) ?_
          refine lv_bipush (v := 30) C.1 hb dL_acts_108 (by decide) ?_
          refine lv_irem C.1 hb dL_acts_110 (by decide) ?_
          refine toI (pk_rem (a := (zz / 960)) (d := 30) (by omega) (by decide) (by decide)) ?_
          exact K3 _ (by omega)
        · refine lv_iconst (v := 0) C.1 hb dL_acts_98 (by decide) ?_
          refine lv_goto (tgt := 111) C.1 hb dL_acts_99 (by decide) ?_
          exact K3 0 (by omega)
      refine lv_aload_n C.1 hb dL_acts_60 rfl (lv_at hl 3 rfl) ?_
      refine lv_iload C.1 hb dL_acts_61 (lv_at hl 0 rfl) ?_
      refine lv_iconst (v := 1) C.1 hb dL_acts_63 (by decide) ?_
      refine lv_iload C.1 hb dL_acts_64 (lv_at hl 11 rfl) ?_
      refine lv_bipush (v := 48) C.1 hb dL_acts_66 (by decide) ?_
      refine lv_idiv C.1 hb dL_acts_68 (by decide) ?_
      refine toI (pk_div (a := zz) (d := 48) (by omega) (by decide) (by decide)) ?_
      refine lv_iload C.1 hb dL_acts_69 (lv_at hl 11 rfl) ?_
      refine lv_iconst (v := 5) C.1 hb dL_acts_71 (by decide) ?_
      refine lv_irem C.1 hb dL_acts_72 (by decide) ?_
      refine toI (pk_rem (a := zz) (d := 5) (by omega) (by decide) (by decide)) ?_
      refine lv_if_ne (tgt := 82) C.1 hb dL_acts_73 (by decide) (fun c175 => ?_) (fun c175 => ?_)
      · refine lv_bipush (v := 20) C.1 hb dL_acts_82 (by decide) ?_
        refine lv_irem C.1 hb dL_acts_84 (by decide) ?_
        refine toI (pk_rem (a := (zz / 48)) (d := 20) (by omega) (by decide) (by decide)) ?_
        refine lv_iadd C.1 hb dL_acts_85 ?_
        refine toI (show _ = nI (1 + ((zz / 48) % 20)) from (nI_add 1 _)) ?_
        exact K2 _ (by omega) (by omega)
      · refine lv_sipush (v := 1000) C.1 hb dL_acts_76 (by decide) ?_
        refine lv_goto (tgt := 84) C.1 hb dL_acts_79 (by decide) ?_
        refine lv_irem C.1 hb dL_acts_84 (by decide) ?_
        refine toI (pk_rem (a := (zz / 48)) (d := 1000) (by omega) (by decide) (by decide)) ?_
        refine lv_iadd C.1 hb dL_acts_85 ?_
        refine toI (show _ = nI (1 + ((zz / 48) % 1000)) from (nI_add 1 _)) ?_
        exact K2 _ (by omega) (by omega)
