set_option maxRecDepth 100000 in
set_option maxHeartbeats 4000000 in
theorem k_X0_bounded (l : Launch) (g : gG) (S : WS) (v lo hi : Int64) : Met l yX0_bounded (wA yX0_bounded cX0_bounded 6 (some .long)) ({ frames := 1, cells := 0, slots := 0, locals := 40 }) (PW g S [.long v, .long lo, .long hi]) (RQ (some (.long (xBnd v lo hi)))) 0 0 (fun _ => False) := by
  refine metI (by decide +kernel) (Nat.le_of_ble_eq_true rfl) ?_
  intro p e s m below meth c C hb hml hret hlk hP ls hl
  have C : CW g RX0 p s m ([.long v, .long lo, .long hi] : List Value).toArray := C
  have hS : va_S (Ab g) s.heap s.heap [] := va_S.rf
  have hl : lv_has ls 6 [(0, .long v), (2, .long lo), (4, .long hi)] := hl
  refine lv_lload_n C.1 hb dX0_bounded_0 rfl (lv_at hl 0 rfl) ?_
  refine lv_lload_n C.1 hb dX0_bounded_1 rfl (lv_at hl 1 rfl) ?_
  refine va_mmax_long C.1 hb (hml.trans hl.1.symm) C.2.1 (C.2.2.1 _ wm_78) (C.2.2.1 _ wm_79) (C.2.2.1 _ wm_80) (C.2.2.1 _ wm_81) (Nat.le_of_ble_eq_true rfl) (Nat.le_of_ble_eq_true rfl) (Nat.zero_le _) (Nat.zero_le _) dX0_bounded_2 ?_
  refine lv_lload C.1 hb dX0_bounded_5 (lv_at hl 2 rfl) ?_
  refine va_mmin_long C.1 hb (hml.trans hl.1.symm) C.2.1 (C.2.2.1 _ wm_82) (C.2.2.1 _ wm_83) (C.2.2.1 _ wm_80) (C.2.2.1 _ wm_84) (Nat.le_of_ble_eq_true rfl) (Nat.le_of_ble_eq_true rfl) (Nat.zero_le _) (Nat.zero_le _) dX0_bounded_7 ?_
  exact rdL C hb hret hlk dX0_bounded_10 rfl

set_option maxRecDepth 100000 in
set_option maxHeartbeats 4000000 in
theorem k_X0_isAhead (l : Launch) (g : gG) (S : WS) (r q : Nat) (hr : r < 40) (hq : q < 40) : Met l yX0_isAhead (wA yX0_isAhead cX0_isAhead 7 (some .boolean)) ({ frames := 0, cells := 0, slots := 0, locals := 0 }) (PW g S [.ref (gA g 0), .int (nI r), .int (nI q)]) (RQ (some (.int (bI (xAhead S r q))))) 0 0 (fun _ => False) := by
  refine metI (by decide +kernel) (Nat.le_of_ble_eq_true rfl) ?_
  intro p e s m below meth c C hb hml hret hlk hP ls hl
  have C : CW g RX0 p s m ([.ref (gA g 0), .int (nI r), .int (nI q)] : List Value).toArray := C
  have hS : va_S (Ab g) s.heap s.heap [] := va_S.rf
  have hl : lv_has ls 7 [(0, .ref (gA g 0)), (1, .int (nI r)), (2, .int (nI q))] := hl
  refine lv_aload_n C.1 hb dX0_isAhead_0 rfl (lv_at hl 0 rfl) ?_
  refine gX_losses C hb hP dX0_isAhead_1 ?_
  refine lv_iload_n C.1 hb dX0_isAhead_4 rfl (lv_at hl 1 rfl) ?_
  refine ldX_losses (j := r) C hb hP rfl (by omega) dX0_isAhead_5 ?_
  refine lv_lconst (v := 1) C.1 hb dX0_isAhead_6 (by decide) ?_
  refine lv_aload_n C.1 hb dX0_isAhead_7 rfl (lv_at hl 0 rfl) ?_
  refine gX_fittedLosses C hb hP dX0_isAhead_8 ?_
  refine lv_iload_n C.1 hb dX0_isAhead_11 rfl (lv_at hl 2 rfl) ?_
  refine ldX_fittedLosses (j := q) C hb hP rfl (by omega) dX0_isAhead_12 ?_
  refine lv_ladd C.1 hb dX0_isAhead_13 ?_
  refine lv_lmul C.1 hb dX0_isAhead_14 ?_
  refine lv_lstore_n (lv' := [(3, .long ((xLng S 2 r) * (1 + (xLng S 3 q)))), (0, .ref (gA g 0)), (1, .int (nI r)), (2, .int (nI q))]) C.1 hb dX0_isAhead_15 rfl hl (by decide) rfl (fun ls hl => ?_)
  refine lv_aload_n C.1 hb dX0_isAhead_16 rfl (lv_at hl 1 rfl) ?_
  refine gX_losses C hb hP dX0_isAhead_17 ?_
  refine lv_iload_n C.1 hb dX0_isAhead_20 rfl (lv_at hl 3 rfl) ?_
  refine ldX_losses (j := q) C hb hP rfl (by omega) dX0_isAhead_21 ?_
  refine lv_lconst (v := 1) C.1 hb dX0_isAhead_22 (by decide) ?_
  refine lv_aload_n C.1 hb dX0_isAhead_23 rfl (lv_at hl 1 rfl) ?_
  refine gX_fittedLosses C hb hP dX0_isAhead_24 ?_
  refine lv_iload_n C.1 hb dX0_isAhead_27 rfl (lv_at hl 2 rfl) ?_
  refine ldX_fittedLosses (j := r) C hb hP rfl (by omega) dX0_isAhead_28 ?_
  refine lv_ladd C.1 hb dX0_isAhead_29 ?_
  refine lv_lmul C.1 hb dX0_isAhead_30 ?_
  refine lv_lstore (lv' := [(5, .long ((xLng S 2 q) * (1 + (xLng S 3 r)))), (3, .long ((xLng S 2 r) * (1 + (xLng S 3 q)))), (0, .ref (gA g 0)), (1, .int (nI r)), (2, .int (nI q))]) C.1 hb dX0_isAhead_31 hl (by decide) rfl (fun ls hl => ?_)
  refine lv_lload_n C.1 hb dX0_isAhead_33 rfl (lv_at hl 1 rfl) ?_
  refine lv_lload C.1 hb dX0_isAhead_34 (lv_at hl 0 rfl) ?_
  refine lc_gt (tgt := 52) C hb dX0_isAhead_36 dX0_isAhead_37 (by decide) (fun c16 => ?_) (fun c16 => ?_)
  · refine lv_iconst (v := 1) C.1 hb dX0_isAhead_52 (by decide) ?_
    refine lv_goto (tgt := 57) C.1 hb dX0_isAhead_53 (by decide) ?_
    exact rdZ C hb hret hlk dX0_isAhead_57 (by simp [xAhead, bI, c16])
  · refine lv_lload_n C.1 hb dX0_isAhead_40 rfl (lv_at hl 1 rfl) ?_
    refine lv_lload C.1 hb dX0_isAhead_41 (lv_at hl 0 rfl) ?_
    refine lc_ne (tgt := 56) C hb dX0_isAhead_43 dX0_isAhead_44 (by decide) (fun c17 => ?_) (fun c17 => ?_)
    · refine lv_iconst (v := 0) C.1 hb dX0_isAhead_56 (by decide) ?_
      exact rdZ C hb hret hlk dX0_isAhead_57 (by simp [xAhead, bI, c16, c17])
    · refine lv_iload_n C.1 hb dX0_isAhead_47 rfl (lv_at hl 3 rfl) ?_
      refine lv_iload_n C.1 hb dX0_isAhead_48 rfl (lv_at hl 4 rfl) ?_
      refine lv_icmp_ge (tgt := 56) C.1 hb dX0_isAhead_49 (by decide) (fun c18 => ?_) (fun c18 => ?_)
      · refine lv_iconst (v := 0) C.1 hb dX0_isAhead_56 (by decide) ?_
        exact rdZ C hb hret hlk dX0_isAhead_57 (by simp [xAhead, bI, c16, c17, c18])
      · refine lv_iconst (v := 1) C.1 hb dX0_isAhead_52 (by decide) ?_
        refine lv_goto (tgt := 57) C.1 hb dX0_isAhead_53 (by decide) ?_
        exact rdZ C hb hret hlk dX0_isAhead_57 (by simp [xAhead, bI, c16, c17, c18])

set_option maxRecDepth 100000 in
set_option maxHeartbeats 4000000 in
theorem k_X0_placeOf (l : Launch) (g : gG) (S : WS) (n : Nat) (hI : XI n S) (r : Nat) (hr : r < 40) : Met l yX0_placeOf (wA yX0_placeOf cX0_placeOf 4 (some .int)) ({ frames := 1, cells := 0, slots := 0, locals := 40 }) (PW g S [.ref (gA g 0), .int (nI r)]) (RQ (some (.int (nI (xPlace S r n))))) 0 0 (fun _ => False) := by
  refine metI (by decide +kernel) (Nat.le_of_ble_eq_true rfl) ?_
  intro p e s m below meth c C hb hml hret hlk hP ls hl
  have C : CW g RX0 p s m ([.ref (gA g 0), .int (nI r)] : List Value).toArray := C
  have hS : va_S (Ab g) s.heap s.heap [] := va_S.rf
  have hl : lv_has ls 4 [(0, .ref (gA g 0)), (1, .int (nI r))] := hl
  refine lv_iconst (v := 0) C.1 hb dX0_placeOf_0 (by decide) ?_
  refine lv_istore_n (lv' := [(2, .int 0), (0, .ref (gA g 0)), (1, .int (nI r))]) C.1 hb dX0_placeOf_1 rfl hl (by decide) rfl (fun ls hl => ?_)
  refine lv_iconst (v := 0) C.1 hb dX0_placeOf_2 (by decide) ?_
  refine lv_istore_n (lv' := [(3, .int 0), (2, .int 0), (0, .ref (gA g 0)), (1, .int (nI r))]) C.1 hb dX0_placeOf_3 rfl hl (by decide) rfl (fun ls hl => ?_)
  have key : ∀ f i : Nat, n - i < f → i ≤ n → ∀ ls : Array Slot, lv_has ls 4 [(0, .ref (gA g 0)), (1, .int (nI r)), (2, .int (nI (xCnt (xPlP S r) i))), (3, .int (nI i))] → W p l e ({ frames := 1, cells := 0, slots := 0, locals := 40 }) s m ([.ref (gA g 0), .int (nI r)] : List Value).toArray below meth c s.heap [] 0 0 (MQ below (RQ (some (.int (nI (xPlace S r n))))) ([.ref (gA g 0), .int (nI r)] : List Value).toArray s 0 0 (fun _ => False)) (F0 m 4 ls []) := by
    intro f
    induction f with
    | zero => intro i h; exact absurd h (Nat.not_lt_zero _)
    | succ f ih =>
      intro i hfi hi  ls hl
      refine lv_iload_n C.1 hb dX0_placeOf_4 rfl (lv_at hl 3 rfl) ?_
      refine lv_aload_n C.1 hb dX0_placeOf_5 rfl (lv_at hl 0 rfl) ?_
      refine gX_addedRows C hb hP dX0_placeOf_6 ?_
      refine lv_icmp_ge (tgt := 39) C.1 hb dX0_placeOf_9 (by decide) (fun c19 => ?_) (fun c19 => ?_)
      · have hin : i = n := by have := le_nI (a := n) (b := i) (by have := hI.1; omega) (by have := hI.1; omega) (by rw [← hI.2.1]; exact c19); omega
        rw [hin] at hl
        refine lv_iload_n C.1 hb dX0_placeOf_39 rfl (lv_at hl 2 rfl) ?_
        exact rdI C hb hret hlk dX0_placeOf_40 rfl
      · have hlt : i < n := nle_nI (a := n) (b := i) (by have := hI.1; omega) (by have := hI.1; omega) (by rw [← hI.2.1]; exact c19)
        have hn40 := hI.1
        refine lv_aload_n C.1 hb dX0_placeOf_12 rfl (lv_at hl 0 rfl) ?_
        refine gX_live C hb hP dX0_placeOf_13 ?_
        refine lv_iload_n C.1 hb dX0_placeOf_16 rfl (lv_at hl 3 rfl) ?_
        refine ldX_live (j := i) C hb hP rfl (by omega) dX0_placeOf_17 ?_
        refine lv_if_eq (tgt := 33) C.1 hb dX0_placeOf_18 (by decide) (fun c20 => ?_) (fun c20 => ?_)
        · refine lv_iinc (v := nI (i + 1)) (lv' := [(3, .int (nI (i + 1))), (0, .ref (gA g 0)), (1, .int (nI r)), (2, .int (nI (xCnt (xPlP S r) i)))]) C.1 hb dX0_placeOf_33 hl (k := 3) rfl (nI_1 i) (by decide) rfl (fun ls hl => ?_)
          refine lv_goto (tgt := 4) C.1 hb dX0_placeOf_36 (by decide) ?_
          exact ih (i + 1) (by omega) (by omega)  ls (by rw [xCnt_f (by simp [xPlP, c20])]; exact lv_sub hl [1, 2, 3, 0] rfl)
        · refine lv_aload_n C.1 hb dX0_placeOf_21 rfl (lv_at hl 0 rfl) ?_
          refine lv_iload_n C.1 hb dX0_placeOf_22 rfl (lv_at hl 3 rfl) ?_
          refine lv_iload_n C.1 hb dX0_placeOf_23 rfl (lv_at hl 1 rfl) ?_
          refine run_rd (cRunX (As := [.int (nI i), .int (nI r)]) (rest := []) C hb (hml.trans hl.1.symm) hP hS rfl (k_X0_isAhead l g S i r (by omega) hr) wm_276 wm_277 wm_278 wm_279 wm_12 (n := 2) (by decide +kernel) rfl ⟨rfl, rfl, Nat.le_of_ble_eq_true rfl, Nat.le_of_ble_eq_true rfl⟩ (Nat.le_of_ble_eq_true rfl) rfl ⟨Nat.zero_le _, Nat.zero_le _⟩ dX0_placeOf_24) ?_
          refine bz_eq (tgt := 33) C hb dX0_placeOf_27 (by decide) (fun c21 => ?_) (fun c21 => ?_)
          · refine lv_iinc (v := nI (i + 1)) (lv' := [(3, .int (nI (i + 1))), (0, .ref (gA g 0)), (1, .int (nI r)), (2, .int (nI (xCnt (xPlP S r) i)))]) C.1 hb dX0_placeOf_33 hl (k := 3) rfl (nI_1 i) (by decide) rfl (fun ls hl => ?_)
            refine lv_goto (tgt := 4) C.1 hb dX0_placeOf_36 (by decide) ?_
            exact ih (i + 1) (by omega) (by omega)  ls (by rw [xCnt_f (by simp [xPlP, c20, c21])]; exact lv_sub hl [1, 2, 3, 0] rfl)
          · refine lv_iinc (v := nI ((xCnt (xPlP S r) i) + 1)) (lv' := [(2, .int (nI ((xCnt (xPlP S r) i) + 1))), (0, .ref (gA g 0)), (1, .int (nI r)), (3, .int (nI i))]) C.1 hb dX0_placeOf_30 hl (k := 2) rfl (nI_1 (xCnt (xPlP S r) i)) (by decide) rfl (fun ls hl => ?_)
            refine lv_iinc (v := nI (i + 1)) (lv' := [(3, .int (nI (i + 1))), (2, .int (nI ((xCnt (xPlP S r) i) + 1))), (0, .ref (gA g 0)), (1, .int (nI r))]) C.1 hb dX0_placeOf_33 hl (k := 3) rfl (nI_1 i) (by decide) rfl (fun ls hl => ?_)
            refine lv_goto (tgt := 4) C.1 hb dX0_placeOf_36 (by decide) ?_
            exact ih (i + 1) (by omega) (by omega)  ls (by rw [xCnt_t (by simp [xPlP, c20, c21])]; exact lv_sub hl [2, 3, 1, 0] rfl)
  exact key (n - 0 + 1) 0 (by omega) (by omega)  ls (lv_sub hl [2, 3, 1, 0] rfl)

set_option maxRecDepth 100000 in
set_option maxHeartbeats 4000000 in
theorem k_X0_newPremium (l : Launch) (g : gG) (S : WS) (r : Nat) (hr : r < 40) : Met l yX0_newPremium (wA yX0_newPremium cX0_newPremium 2 (some .long)) ({ frames := 0, cells := 0, slots := 0, locals := 0 }) (PW g S [.ref (gA g 0), .int (nI r)]) (RQ (some (.long (xNewP S r)))) 0 0 (fun _ => False) := by
  refine metI (by decide +kernel) (Nat.le_of_ble_eq_true rfl) ?_
  intro p e s m below meth c C hb hml hret hlk hP ls hl
  have C : CW g RX0 p s m ([.ref (gA g 0), .int (nI r)] : List Value).toArray := C
  have hS : va_S (Ab g) s.heap s.heap [] := va_S.rf
  have hl : lv_has ls 2 [(0, .ref (gA g 0)), (1, .int (nI r))] := hl
  refine lv_aload_n C.1 hb dX0_newPremium_0 rfl (lv_at hl 0 rfl) ?_
  refine gX_fittedLosses C hb hP dX0_newPremium_1 ?_
  refine lv_iload_n C.1 hb dX0_newPremium_4 rfl (lv_at hl 1 rfl) ?_
  refine ldX_fittedLosses (j := r) C hb hP rfl (by omega) dX0_newPremium_5 ?_
  refine lv_aload_n C.1 hb dX0_newPremium_6 rfl (lv_at hl 0 rfl) ?_
  refine gX_spreadNow C hb hP dX0_newPremium_7 ?_
  refine lv_i2l C.1 hb dX0_newPremium_10 rfl ?_
  refine lv_lmul C.1 hb dX0_newPremium_11 ?_
  refine lv_ldc2 (v := 10000) C.1 hb C.2.1 (C.2.2.1 _ wm_89) dX0_newPremium_12 ?_
  refine lv_ldiv C.1 hb dX0_newPremium_15 (by decide) ?_
  exact rdL C hb hret hlk dX0_newPremium_16 rfl

set_option maxRecDepth 100000 in
set_option maxHeartbeats 4000000 in
theorem k_X0_cappedPremium (l : Launch) (g : gG) (S : WS) (r : Nat) (hr : r < 40) : Met l yX0_cappedPremium (wA yX0_cappedPremium cX0_cappedPremium 8 (some .long)) ({ frames := 2, cells := 0, slots := 0, locals := 80 }) (PW g S [.ref (gA g 0), .int (nI r)]) (RQ (some (.long (xCapP S r)))) 0 0 (fun _ => False) := by
  refine metI (by decide +kernel) (Nat.le_of_ble_eq_true rfl) ?_
  intro p e s m below meth c C hb hml hret hlk hP ls hl
  have C : CW g RX0 p s m ([.ref (gA g 0), .int (nI r)] : List Value).toArray := C
  have hS : va_S (Ab g) s.heap s.heap [] := va_S.rf
  have hl : lv_has ls 8 [(0, .ref (gA g 0)), (1, .int (nI r))] := hl
  refine lv_aload_n C.1 hb dX0_cappedPremium_0 rfl (lv_at hl 0 rfl) ?_
  refine gX_cap C hb hP dX0_cappedPremium_1 ?_
  refine lv_iconst (v := (-1)) C.1 hb dX0_cappedPremium_4 (by decide) ?_
  refine lv_icmp_eq (tgt := 18) C.1 hb dX0_cappedPremium_5 (by decide) (fun c22 => ?_) (fun c22 => ?_)
  · refine lv_aload_n C.1 hb dX0_cappedPremium_18 rfl (lv_at hl 0 rfl) ?_
    refine lv_iload_n C.1 hb dX0_cappedPremium_19 rfl (lv_at hl 1 rfl) ?_
    refine run_rd (cRunX (As := [.int (nI r)]) (rest := []) C hb (hml.trans hl.1.symm) hP hS rfl (k_X0_newPremium l g S r hr) wm_147 wm_148 wm_149 wm_150 wm_12 (n := 1) (by decide +kernel) rfl ⟨rfl, rfl, Nat.le_of_ble_eq_true rfl, Nat.le_of_ble_eq_true rfl⟩ (Nat.le_of_ble_eq_true rfl) rfl ⟨Nat.zero_le _, Nat.zero_le _⟩ dX0_cappedPremium_20) ?_
    exact rdL C hb hret hlk dX0_cappedPremium_23 (by simp [xCapP, c22])
  · refine lv_aload_n C.1 hb dX0_cappedPremium_8 rfl (lv_at hl 0 rfl) ?_
    refine gX_oldPremiums C hb hP dX0_cappedPremium_9 ?_
    refine lv_iload_n C.1 hb dX0_cappedPremium_12 rfl (lv_at hl 1 rfl) ?_
    refine ldX_oldPremiums (j := r) C hb hP rfl (by omega) dX0_cappedPremium_13 ?_
    refine lv_iconst (v := (-1)) C.1 hb dX0_cappedPremium_14 (by decide) ?_
    refine lv_icmp_ne (tgt := 24) C.1 hb dX0_cappedPremium_15 (by decide) (fun c23 => ?_) (fun c23 => ?_)
    · refine lv_aload_n C.1 hb dX0_cappedPremium_24 rfl (lv_at hl 0 rfl) ?_
      refine gX_oldPremiums C hb hP dX0_cappedPremium_25 ?_
      refine lv_iload_n C.1 hb dX0_cappedPremium_28 rfl (lv_at hl 1 rfl) ?_
      refine ldX_oldPremiums (j := r) C hb hP rfl (by omega) dX0_cappedPremium_29 ?_
      refine lv_i2l C.1 hb dX0_cappedPremium_30 rfl ?_
      refine lv_lstore_n (lv' := [(2, .long (xIa S 0 r).toInt64), (0, .ref (gA g 0)), (1, .int (nI r))]) C.1 hb dX0_cappedPremium_31 rfl hl (by decide) rfl (fun ls hl => ?_)
      refine lv_lload_n C.1 hb dX0_cappedPremium_32 rfl (lv_at hl 0 rfl) ?_
      refine lv_bipush (v := 100) C.1 hb dX0_cappedPremium_33 (by decide) ?_
      refine lv_aload_n C.1 hb dX0_cappedPremium_35 rfl (lv_at hl 1 rfl) ?_
      refine gX_cap C hb hP dX0_cappedPremium_36 ?_
      refine lv_isub C.1 hb dX0_cappedPremium_39 ?_
      refine lv_iconst (v := 0) C.1 hb dX0_cappedPremium_40 (by decide) ?_
      refine va_mmax C.1 hb (hml.trans hl.1.symm) C.2.1 (C.2.2.1 _ wm_159) (C.2.2.1 _ wm_160) (C.2.2.1 _ wm_80) (C.2.2.1 _ wm_161) (Nat.le_of_ble_eq_true rfl) (Nat.le_of_ble_eq_true rfl) (Nat.zero_le _) (Nat.zero_le _) dX0_cappedPremium_41 ?_
      refine lv_i2l C.1 hb dX0_cappedPremium_44 rfl ?_
      refine lv_lmul C.1 hb dX0_cappedPremium_45 ?_
      refine lv_ldc2 (v := 100) C.1 hb C.2.1 (C.2.2.1 _ wm_69) dX0_cappedPremium_46 ?_
      refine lv_ldiv C.1 hb dX0_cappedPremium_49 (by decide) ?_
      refine lv_lstore (lv' := [(4, .long (((xIa S 0 r).toInt64 * (mxI (100 - (xSc S 3)) 0).toInt64) / 100)), (2, .long (xIa S 0 r).toInt64), (0, .ref (gA g 0)), (1, .int (nI r))]) C.1 hb dX0_cappedPremium_50 hl (by decide) rfl (fun ls hl => ?_)
      refine lv_lload_n C.1 hb dX0_cappedPremium_52 rfl (lv_at hl 1 rfl) ?_
      refine lv_bipush (v := 100) C.1 hb dX0_cappedPremium_53 (by decide) ?_
      refine lv_aload_n C.1 hb dX0_cappedPremium_55 rfl (lv_at hl 2 rfl) ?_
      refine gX_cap C hb hP dX0_cappedPremium_56 ?_
      refine lv_iadd C.1 hb dX0_cappedPremium_59 ?_
      refine lv_i2l C.1 hb dX0_cappedPremium_60 rfl ?_
      refine lv_lmul C.1 hb dX0_cappedPremium_61 ?_
      refine lv_ldc2 (v := 100) C.1 hb C.2.1 (C.2.2.1 _ wm_69) dX0_cappedPremium_62 ?_
      refine lv_ldiv C.1 hb dX0_cappedPremium_65 (by decide) ?_
      refine lv_lstore (lv' := [(6, .long (((xIa S 0 r).toInt64 * (100 + (xSc S 3)).toInt64) / 100)), (4, .long (((xIa S 0 r).toInt64 * (mxI (100 - (xSc S 3)) 0).toInt64) / 100)), (2, .long (xIa S 0 r).toInt64), (0, .ref (gA g 0)), (1, .int (nI r))]) C.1 hb dX0_cappedPremium_66 hl (by decide) rfl (fun ls hl => ?_)
      refine lv_aload_n C.1 hb dX0_cappedPremium_68 rfl (lv_at hl 3 rfl) ?_
      refine lv_iload_n C.1 hb dX0_cappedPremium_69 rfl (lv_at hl 4 rfl) ?_
      refine run_rd (cRunX (As := [.int (nI r)]) (rest := []) C hb (hml.trans hl.1.symm) hP hS rfl (k_X0_newPremium l g S r hr) wm_147 wm_148 wm_149 wm_150 wm_12 (n := 1) (by decide +kernel) rfl ⟨rfl, rfl, Nat.le_of_ble_eq_true rfl, Nat.le_of_ble_eq_true rfl⟩ (Nat.le_of_ble_eq_true rfl) rfl ⟨Nat.zero_le _, Nat.zero_le _⟩ dX0_cappedPremium_70) ?_
      refine lv_lload C.1 hb dX0_cappedPremium_73 (lv_at hl 1 rfl) ?_
      refine lv_lload C.1 hb dX0_cappedPremium_75 (lv_at hl 0 rfl) ?_
      refine run_rd (cRunS (As := [.long (xNewP S r), .long (((xIa S 0 r).toInt64 * (mxI (100 - (xSc S 3)) 0).toInt64) / 100), .long (((xIa S 0 r).toInt64 * (100 + (xSc S 3)).toInt64) / 100)]) (rest := []) C hb (hml.trans hl.1.symm) hP hS (k_X0_bounded l g S (xNewP S r) (((xIa S 0 r).toInt64 * (mxI (100 - (xSc S 3)) 0).toInt64) / 100) (((xIa S 0 r).toInt64 * (100 + (xSc S 3)).toInt64) / 100)) wm_75 wm_76 wm_77 wm_12 (n := 3) (by decide +kernel) rfl ⟨rfl, rfl, Nat.le_of_ble_eq_true rfl, Nat.le_of_ble_eq_true rfl⟩ (Nat.le_of_ble_eq_true rfl) rfl ⟨Nat.zero_le _, Nat.zero_le _⟩ dX0_cappedPremium_77) ?_
      exact rdL C hb hret hlk dX0_cappedPremium_80 (by unfold xCapP; rw [if_neg c22, if_neg c23])
    · refine lv_aload_n C.1 hb dX0_cappedPremium_18 rfl (lv_at hl 0 rfl) ?_
      refine lv_iload_n C.1 hb dX0_cappedPremium_19 rfl (lv_at hl 1 rfl) ?_
      refine run_rd (cRunX (As := [.int (nI r)]) (rest := []) C hb (hml.trans hl.1.symm) hP hS rfl (k_X0_newPremium l g S r hr) wm_147 wm_148 wm_149 wm_150 wm_12 (n := 1) (by decide +kernel) rfl ⟨rfl, rfl, Nat.le_of_ble_eq_true rfl, Nat.le_of_ble_eq_true rfl⟩ (Nat.le_of_ble_eq_true rfl) rfl ⟨Nat.zero_le _, Nat.zero_le _⟩ dX0_cappedPremium_20) ?_
      exact rdL C hb hret hlk dX0_cappedPremium_23 (by simp [xCapP, c23])

set_option maxRecDepth 100000 in
set_option maxHeartbeats 4000000 in
theorem k_X0_cappedTotal (l : Launch) (g : gG) (S : WS) (n : Nat) (hI : XI n S) : Met l yX0_cappedTotal (wA yX0_cappedTotal cX0_cappedTotal 4 (some .long)) ({ frames := 3, cells := 0, slots := 0, locals := 120 }) (PW g S [.ref (gA g 0)]) (RQ (some (.long (xTot (xIa S 1) (xCapP S) n)))) 0 0 (fun _ => False) := by
  refine metI (by decide +kernel) (Nat.le_of_ble_eq_true rfl) ?_
  intro p e s m below meth c C hb hml hret hlk hP ls hl
  have C : CW g RX0 p s m ([.ref (gA g 0)] : List Value).toArray := C
  have hS : va_S (Ab g) s.heap s.heap [] := va_S.rf
  have hl : lv_has ls 4 [(0, .ref (gA g 0))] := hl
  refine lv_lconst (v := 0) C.1 hb dX0_cappedTotal_0 (by decide) ?_
  refine lv_lstore_n (lv' := [(1, .long 0), (0, .ref (gA g 0))]) C.1 hb dX0_cappedTotal_1 rfl hl (by decide) rfl (fun ls hl => ?_)
  refine lv_iconst (v := 0) C.1 hb dX0_cappedTotal_2 (by decide) ?_
  refine lv_istore_n (lv' := [(3, .int 0), (1, .long 0), (0, .ref (gA g 0))]) C.1 hb dX0_cappedTotal_3 rfl hl (by decide) rfl (fun ls hl => ?_)
  have key : ∀ f i : Nat, n - i < f → i ≤ n → ∀ ls : Array Slot, lv_has ls 4 [(0, .ref (gA g 0)), (1, .long (xTot (xIa S 1) (xCapP S) i)), (3, .int (nI i))] → W p l e ({ frames := 3, cells := 0, slots := 0, locals := 120 }) s m ([.ref (gA g 0)] : List Value).toArray below meth c s.heap [] 0 0 (MQ below (RQ (some (.long (xTot (xIa S 1) (xCapP S) n)))) ([.ref (gA g 0)] : List Value).toArray s 0 0 (fun _ => False)) (F0 m 4 ls []) := by
    intro f
    induction f with
    | zero => intro i h; exact absurd h (Nat.not_lt_zero _)
    | succ f ih =>
      intro i hfi hi  ls hl
      refine lv_iload_n C.1 hb dX0_cappedTotal_4 rfl (lv_at hl 2 rfl) ?_
      refine lv_aload_n C.1 hb dX0_cappedTotal_5 rfl (lv_at hl 0 rfl) ?_
      refine gX_addedRows C hb hP dX0_cappedTotal_6 ?_
      refine lv_icmp_ge (tgt := 35) C.1 hb dX0_cappedTotal_9 (by decide) (fun c24 => ?_) (fun c24 => ?_)
      · have hin : i = n := by have := le_nI (a := n) (b := i) (by have := hI.1; omega) (by have := hI.1; omega) (by rw [← hI.2.1]; exact c24); omega
        rw [hin] at hl
        refine lv_lload_n C.1 hb dX0_cappedTotal_35 rfl (lv_at hl 1 rfl) ?_
        exact rdL C hb hret hlk dX0_cappedTotal_36 rfl
      · have hlt : i < n := nle_nI (a := n) (b := i) (by have := hI.1; omega) (by have := hI.1; omega) (by rw [← hI.2.1]; exact c24)
        have hn40 := hI.1
        refine lv_aload_n C.1 hb dX0_cappedTotal_12 rfl (lv_at hl 0 rfl) ?_
        refine gX_live C hb hP dX0_cappedTotal_13 ?_
        refine lv_iload_n C.1 hb dX0_cappedTotal_16 rfl (lv_at hl 2 rfl) ?_
        refine ldX_live (j := i) C hb hP rfl (by omega) dX0_cappedTotal_17 ?_
        refine lv_if_eq (tgt := 29) C.1 hb dX0_cappedTotal_18 (by decide) (fun c25 => ?_) (fun c25 => ?_)
        · refine lv_iinc (v := nI (i + 1)) (lv' := [(3, .int (nI (i + 1))), (0, .ref (gA g 0)), (1, .long (xTot (xIa S 1) (xCapP S) i))]) C.1 hb dX0_cappedTotal_29 hl (k := 2) rfl (nI_1 i) (by decide) rfl (fun ls hl => ?_)
          refine lv_goto (tgt := 4) C.1 hb dX0_cappedTotal_32 (by decide) ?_
          exact ih (i + 1) (by omega) (by omega)  ls (by rw [xTot_z c25]; exact lv_sub hl [1, 2, 0] rfl)
        · refine lv_lload_n C.1 hb dX0_cappedTotal_21 rfl (lv_at hl 1 rfl) ?_
          refine lv_aload_n C.1 hb dX0_cappedTotal_22 rfl (lv_at hl 0 rfl) ?_
          refine lv_iload_n C.1 hb dX0_cappedTotal_23 rfl (lv_at hl 2 rfl) ?_
          refine run_rd (cRunX (As := [.int (nI i)]) (rest := [.long (xTot (xIa S 1) (xCapP S) i)]) C hb (hml.trans hl.1.symm) hP hS rfl (k_X0_cappedPremium l g S i (by omega)) wm_155 wm_156 wm_157 wm_158 wm_12 (n := 1) (by decide +kernel) rfl ⟨rfl, rfl, Nat.le_of_ble_eq_true rfl, Nat.le_of_ble_eq_true rfl⟩ (Nat.le_of_ble_eq_true rfl) rfl ⟨Nat.zero_le _, Nat.zero_le _⟩ dX0_cappedTotal_24) ?_
          refine lv_ladd C.1 hb dX0_cappedTotal_27 ?_
          refine lv_lstore_n (lv' := [(1, .long ((xTot (xIa S 1) (xCapP S) i) + (xCapP S i))), (0, .ref (gA g 0)), (3, .int (nI i))]) C.1 hb dX0_cappedTotal_28 rfl hl (by decide) rfl (fun ls hl => ?_)
          refine lv_iinc (v := nI (i + 1)) (lv' := [(3, .int (nI (i + 1))), (1, .long ((xTot (xIa S 1) (xCapP S) i) + (xCapP S i))), (0, .ref (gA g 0))]) C.1 hb dX0_cappedTotal_29 hl (k := 2) rfl (nI_1 i) (by decide) rfl (fun ls hl => ?_)
          refine lv_goto (tgt := 4) C.1 hb dX0_cappedTotal_32 (by decide) ?_
          exact ih (i + 1) (by omega) (by omega)  ls (by rw [xTot_n c25]; exact lv_sub hl [2, 1, 0] rfl)
  exact key (n - 0 + 1) 0 (by omega) (by omega)  ls (lv_sub hl [2, 1, 0] rfl)

set_option maxRecDepth 100000 in
set_option maxHeartbeats 4000000 in
theorem k_X0_fittedLoss (l : Launch) (g : gG) (S : WS) (n : Nat) (hI : XI n S) (r : Nat) (hr : r < n) : Met l yX0_fittedLoss (wA yX0_fittedLoss cX0_fittedLoss 5 (some .long)) ({ frames := 0, cells := 0, slots := 0, locals := 0 }) (PW g S [.ref (gA g 0), .int (nI r)]) (RQ (some (.long (xFit S r)))) 0 0 (fun _ => False) := by
  refine metI (by decide +kernel) (Nat.le_of_ble_eq_true rfl) ?_
  intro p e s m below meth c C hb hml hret hlk hP ls hl
  have C : CW g RX0 p s m ([.ref (gA g 0), .int (nI r)] : List Value).toArray := C
  have hS : va_S (Ab g) s.heap s.heap [] := va_S.rf
  have hl : lv_has ls 5 [(0, .ref (gA g 0)), (1, .int (nI r))] := hl
  have hn40 := hI.1
  refine lv_aload_n C.1 hb dX0_fittedLoss_0 rfl (lv_at hl 0 rfl) ?_
  refine gX_exposures C hb hP dX0_fittedLoss_1 ?_
  refine lv_iload_n C.1 hb dX0_fittedLoss_4 rfl (lv_at hl 1 rfl) ?_
  refine ldX_exposures (j := r) C hb hP rfl (by omega) dX0_fittedLoss_5 ?_
  refine lv_aload_n C.1 hb dX0_fittedLoss_6 rfl (lv_at hl 0 rfl) ?_
  refine gX_baseNow C hb hP dX0_fittedLoss_7 ?_
  refine lv_lmul C.1 hb dX0_fittedLoss_10 ?_
  refine lv_ldc2 (v := 10000) C.1 hb C.2.1 (C.2.2.1 _ wm_89) dX0_fittedLoss_11 ?_
  refine lv_ldiv C.1 hb dX0_fittedLoss_14 (by decide) ?_
  refine lv_lstore_n (lv' := [(2, .long (((xLng S 0 r) * (xBase S)) / 10000)), (0, .ref (gA g 0)), (1, .int (nI r))]) C.1 hb dX0_fittedLoss_15 rfl hl (by decide) rfl (fun ls hl => ?_)
  refine lv_iconst (v := 0) C.1 hb dX0_fittedLoss_16 (by decide) ?_
  refine lv_istore (lv' := [(4, .int 0), (2, .long (((xLng S 0 r) * (xBase S)) / 10000)), (0, .ref (gA g 0)), (1, .int (nI r))]) C.1 hb dX0_fittedLoss_17 hl (by decide) rfl (fun ls hl => ?_)
  have key : ∀ f i : Nat, 3 - i < f → i ≤ 3 → ∀ ls : Array Slot, lv_has ls 5 [(0, .ref (gA g 0)), (1, .int (nI r)), (2, .long (xFitN S r i)), (4, .int (nI i))] → W p l e ({ frames := 0, cells := 0, slots := 0, locals := 0 }) s m ([.ref (gA g 0), .int (nI r)] : List Value).toArray below meth c s.heap [] 0 0 (MQ below (RQ (some (.long (xFit S r)))) ([.ref (gA g 0), .int (nI r)] : List Value).toArray s 0 0 (fun _ => False)) (F0 m 19 ls []) := by
    intro f
    induction f with
    | zero => intro i h; exact absurd h (Nat.not_lt_zero _)
    | succ f ih =>
      intro i hfi hi  ls hl
      refine lv_iload C.1 hb dX0_fittedLoss_19 (lv_at hl 3 rfl) ?_
      refine lv_iconst (v := 3) C.1 hb dX0_fittedLoss_21 (by decide) ?_
      refine lv_icmp_ge (tgt := 56) C.1 hb dX0_fittedLoss_22 (by decide) (fun c26 => ?_) (fun c26 => ?_)
      · have hin : i = 3 := by have := le_nI (a := 3) (b := i) (by decide) (by omega) c26; omega
        rw [hin] at hl
        refine lv_lload_n C.1 hb dX0_fittedLoss_56 rfl (lv_at hl 2 rfl) ?_
        exact rdL C hb hret hlk dX0_fittedLoss_57 rfl
      · have hlt : i < 3 := nle_nI (a := 3) (b := i) (by decide) (by omega) c26
        have hn40 := hI.1
        have hlv := XI_lev hI hlt hr
        refine lv_lload_n C.1 hb dX0_fittedLoss_25 rfl (lv_at hl 2 rfl) ?_
        refine lv_aload_n C.1 hb dX0_fittedLoss_26 rfl (lv_at hl 0 rfl) ?_
        refine gX_factors C hb hP dX0_fittedLoss_27 ?_
        refine lv_iload C.1 hb dX0_fittedLoss_30 (lv_at hl 3 rfl) ?_
        refine al_fac (t := i) C hb hP rfl (by omega) dX0_fittedLoss_32 ?_
        refine lv_aload_n C.1 hb dX0_fittedLoss_33 rfl (lv_at hl 0 rfl) ?_
        refine gX_rowLevels C hb hP dX0_fittedLoss_34 ?_
        refine lv_iload C.1 hb dX0_fittedLoss_37 (lv_at hl 3 rfl) ?_
        refine al_lev (t := i) C hb hP rfl (by omega) dX0_fittedLoss_39 ?_
        refine lv_iload_n C.1 hb dX0_fittedLoss_40 rfl (lv_at hl 1 rfl) ?_
        refine ldX_lev (t := i) (j := r) C hb hP (by omega) rfl (by omega) dX0_fittedLoss_41 ?_
        refine ldX_fac (t := i) (j := (tN (xLev S i r))) C hb hP (by omega) hlv.1 hlv.2 dX0_fittedLoss_42 ?_
        refine lv_i2l C.1 hb dX0_fittedLoss_43 rfl ?_
        refine lv_lmul C.1 hb dX0_fittedLoss_44 ?_
        refine lv_ldc2 (v := 10000) C.1 hb C.2.1 (C.2.2.1 _ wm_89) dX0_fittedLoss_45 ?_
        refine lv_ldiv C.1 hb dX0_fittedLoss_48 (by decide) ?_
        refine lv_lstore_n (lv' := [(2, .long (((xFitN S r i) * (xFac S i (tN (xLev S i r))).toInt64) / 10000)), (0, .ref (gA g 0)), (1, .int (nI r)), (4, .int (nI i))]) C.1 hb dX0_fittedLoss_49 rfl hl (by decide) rfl (fun ls hl => ?_)
        refine lv_iinc (v := nI (i + 1)) (lv' := [(4, .int (nI (i + 1))), (2, .long (((xFitN S r i) * (xFac S i (tN (xLev S i r))).toInt64) / 10000)), (0, .ref (gA g 0)), (1, .int (nI r))]) C.1 hb dX0_fittedLoss_50 hl (k := 3) rfl (nI_1 i) (by decide) rfl (fun ls hl => ?_)
        refine lv_goto (tgt := 19) C.1 hb dX0_fittedLoss_53 (by decide) ?_
        exact ih (i + 1) (by omega) (by omega)  ls (by rw [show xFitN S r (i + 1) = xFitN S r i * (xFac S i (tN (xLev S i r))).toInt64 / 10000 from rfl]; exact lv_sub hl [2, 3, 1, 0] rfl)
  exact key (3 - 0 + 1) 0 (by omega) (by omega)  ls (lv_sub hl [2, 3, 1, 0] rfl)

set_option maxRecDepth 100000 in
set_option maxHeartbeats 4000000 in
theorem k_X0_refit (l : Launch) (g : gG) (S : WS) (n : Nat) (hI : XI n S) : Met l yX0_refit (wA yX0_refit cX0_refit 4 none) ({ frames := 1, cells := 0, slots := 0, locals := 40 }) (PW g S [.ref (gA g 0)]) (WQ g (xRefit S n) (none)) 0 0 (Ab g) := by
  refine metI (by decide +kernel) (Nat.le_of_ble_eq_true rfl) ?_
  intro p e s m below meth c C hb hml hret hlk hP ls hl
  have C : CW g RX0 p s m ([.ref (gA g 0)] : List Value).toArray := C
  have hS : va_S (Ab g) s.heap s.heap [] := va_S.rf
  have hl : lv_has ls 4 [(0, .ref (gA g 0))] := hl
  refine lv_aload_n C.1 hb dX0_refit_0 rfl (lv_at hl 0 rfl) ?_
  refine lv_aload_n C.1 hb dX0_refit_1 rfl (lv_at hl 0 rfl) ?_
  refine gX_exposures C hb hP dX0_refit_2 ?_
  refine run_rd (cRunX (As := [.ref (gA g 9)]) (rest := []) C hb (hml.trans hl.1.symm) hP hS rfl (k_X0_total l g S n hI 0 (by decide)) wm_90 wm_91 wm_92 wm_93 wm_12 (n := 1) (by decide +kernel) rfl ⟨rfl, rfl, Nat.le_of_ble_eq_true rfl, Nat.le_of_ble_eq_true rfl⟩ (Nat.le_of_ble_eq_true rfl) rfl ⟨Nat.zero_le _, Nat.zero_le _⟩ dX0_refit_5) ?_
  refine lv_lstore_n (lv' := [(1, .long (xTot (xIa S 1) (xLng S 0) n)), (0, .ref (gA g 0))]) C.1 hb dX0_refit_8 rfl hl (by decide) rfl (fun ls hl => ?_)
  refine lv_aload_n C.1 hb dX0_refit_9 rfl (lv_at hl 1 rfl) ?_
  refine lv_lload_n C.1 hb dX0_refit_10 rfl (lv_at hl 0 rfl) ?_
  refine lv_lconst (v := 0) C.1 hb dX0_refit_11 (by decide) ?_
  refine lc_le (tgt := 33) C hb dX0_refit_12 dX0_refit_13 (by decide) (fun c27 => ?_) (fun c27 => ?_)
  · refine lv_lconst (v := 0) C.1 hb dX0_refit_33 (by decide) ?_
    refine toL (show (0 : Int64) = xBase1 S n by unfold xBase1; rw [if_pos c27]) ?_
    refine pX_baseNow C hb hP hS dX0_refit_34 (fun H locs hP hS => ?_)
    refine lv_iconst (v := 0) C.1 hb dX0_refit_37 (by decide) ?_
    refine lv_istore_n (lv' := [(3, .int 0), (1, .long (xTot (xIa S 1) (xLng S 0) n)), (0, .ref (gA g 0))]) C.1 hb dX0_refit_38 rfl hl (by decide) rfl (fun ls hl => ?_)
    have key : ∀ f i : Nat, n - i < f → i ≤ n → ∀ (H : Heap) (locs : List Loc), HW g (xsLng (xsBase S (xBase1 S n)) 3 (fil (xFit (xsBase S (xBase1 S n))) (xLng S 3) i)) H → va_S (Ab g) s.heap H locs → ∀ ls : Array Slot, lv_has ls 4 [(0, .ref (gA g 0)), (3, .int (nI i))] → W p l e ({ frames := 1, cells := 0, slots := 0, locals := 40 }) s m ([.ref (gA g 0)] : List Value).toArray below meth c H locs 0 0 (MQ below (WQ g (xRefit S n) (none)) ([.ref (gA g 0)] : List Value).toArray s 0 0 (Ab g)) (F0 m 39 ls []) := by
      intro f
      induction f with
      | zero => intro i h; exact absurd h (Nat.not_lt_zero _)
      | succ f ih =>
        intro i hfi hi  H locs hP hS ls hl
        refine lv_iload_n C.1 hb dX0_refit_39 rfl (lv_at hl 1 rfl) ?_
        refine lv_aload_n C.1 hb dX0_refit_40 rfl (lv_at hl 0 rfl) ?_
        refine gX_addedRows C hb hP dX0_refit_41 ?_
        refine lv_icmp_ge (tgt := 64) C.1 hb dX0_refit_44 (by decide) (fun c28 => ?_) (fun c28 => ?_)
        · have hin : i = n := by have := le_nI (a := n) (b := i) (by have := hI.1; omega) (by have := hI.1; omega) (by rw [← hI.2.1]; exact c28); omega
          rw [hin] at hl hP
          exact wrV C hb hret hlk hP hS dX0_refit_64 rfl
        · have hlt : i < n := nle_nI (a := n) (b := i) (by have := hI.1; omega) (by have := hI.1; omega) (by rw [← hI.2.1]; exact c28)
          have hn40 := hI.1
          refine lv_aload_n C.1 hb dX0_refit_47 rfl (lv_at hl 0 rfl) ?_
          refine gX_fittedLosses C hb hP dX0_refit_48 ?_
          refine lv_iload_n C.1 hb dX0_refit_51 rfl (lv_at hl 1 rfl) ?_
          refine lv_aload_n C.1 hb dX0_refit_52 rfl (lv_at hl 0 rfl) ?_
          refine lv_iload_n C.1 hb dX0_refit_53 rfl (lv_at hl 1 rfl) ?_
          refine run_rd (cRunX (As := [.int (nI i)]) (rest := [.int (nI i), .ref (gA g 14)]) C hb (hml.trans hl.1.symm) hP hS rfl (k_X0_fittedLoss l g (xsLng (xsBase S (xBase1 S n)) 3 (fil (xFit (xsBase S (xBase1 S n))) (xLng S 3) i)) n (XI_lng3 _ (XI_base _ hI)) i hlt) wm_94 wm_95 wm_96 wm_97 wm_12 (n := 1) (by decide +kernel) rfl ⟨rfl, rfl, Nat.le_of_ble_eq_true rfl, Nat.le_of_ble_eq_true rfl⟩ (Nat.le_of_ble_eq_true rfl) rfl ⟨Nat.zero_le _, Nat.zero_le _⟩ dX0_refit_54) ?_
          refine toL (xFit_lng3 (xsBase S (xBase1 S n)) _ i) ?_
          refine stX_fittedLosses (j := i) C hb hP hS rfl (by omega) dX0_refit_57 (fun H locs hP hS => ?_)
          refine lv_iinc (v := nI (i + 1)) (lv' := [(3, .int (nI (i + 1))), (0, .ref (gA g 0))]) C.1 hb dX0_refit_58 hl (k := 1) rfl (nI_1 i) (by decide) rfl (fun ls hl => ?_)
          refine lv_goto (tgt := 39) C.1 hb dX0_refit_61 (by decide) ?_
          exact ih (i + 1) (by omega) (by omega)  _ _ (by rw [← refit_step (xsBase S (xBase1 S n))]; exact hP) hS ls (lv_sub hl [1, 0] rfl)
    exact key (n - 0 + 1) 0 (by omega) (by omega)  _ _ (by rw [refit_0]; exact hP) hS ls (lv_sub hl [2, 0] rfl)
  · refine lv_ldc2 (v := 10000) C.1 hb C.2.1 (C.2.2.1 _ wm_89) dX0_refit_16 ?_
    refine lv_aload_n C.1 hb dX0_refit_19 rfl (lv_at hl 1 rfl) ?_
    refine lv_aload_n C.1 hb dX0_refit_20 rfl (lv_at hl 1 rfl) ?_
    refine gX_losses C hb hP dX0_refit_21 ?_
    refine run_rd (cRunX (As := [.ref (gA g 11)]) (rest := [.long 10000, .ref (gA g 0)]) C hb (hml.trans hl.1.symm) hP hS rfl (k_X0_total l g S n hI 2 (by decide)) wm_90 wm_91 wm_92 wm_93 wm_12 (n := 1) (by decide +kernel) rfl ⟨rfl, rfl, Nat.le_of_ble_eq_true rfl, Nat.le_of_ble_eq_true rfl⟩ (Nat.le_of_ble_eq_true rfl) rfl ⟨Nat.zero_le _, Nat.zero_le _⟩ dX0_refit_24) ?_
    refine lv_lmul C.1 hb dX0_refit_27 ?_
    refine lv_lload_n C.1 hb dX0_refit_28 rfl (lv_at hl 0 rfl) ?_
    refine lv_ldiv C.1 hb dX0_refit_29 (ne0_nle c27) ?_
    refine lv_goto (tgt := 34) C.1 hb dX0_refit_30 (by decide) ?_
    refine toL (show _ = xBase1 S n by unfold xBase1; rw [if_neg c27]) ?_
    refine pX_baseNow C hb hP hS dX0_refit_34 (fun H locs hP hS => ?_)
    refine lv_iconst (v := 0) C.1 hb dX0_refit_37 (by decide) ?_
    refine lv_istore_n (lv' := [(3, .int 0), (1, .long (xTot (xIa S 1) (xLng S 0) n)), (0, .ref (gA g 0))]) C.1 hb dX0_refit_38 rfl hl (by decide) rfl (fun ls hl => ?_)
    have key : ∀ f i : Nat, n - i < f → i ≤ n → ∀ (H : Heap) (locs : List Loc), HW g (xsLng (xsBase S (xBase1 S n)) 3 (fil (xFit (xsBase S (xBase1 S n))) (xLng S 3) i)) H → va_S (Ab g) s.heap H locs → ∀ ls : Array Slot, lv_has ls 4 [(0, .ref (gA g 0)), (3, .int (nI i))] → W p l e ({ frames := 1, cells := 0, slots := 0, locals := 40 }) s m ([.ref (gA g 0)] : List Value).toArray below meth c H locs 0 0 (MQ below (WQ g (xRefit S n) (none)) ([.ref (gA g 0)] : List Value).toArray s 0 0 (Ab g)) (F0 m 39 ls []) := by
      intro f
      induction f with
      | zero => intro i h; exact absurd h (Nat.not_lt_zero _)
      | succ f ih =>
        intro i hfi hi  H locs hP hS ls hl
        refine lv_iload_n C.1 hb dX0_refit_39 rfl (lv_at hl 1 rfl) ?_
        refine lv_aload_n C.1 hb dX0_refit_40 rfl (lv_at hl 0 rfl) ?_
        refine gX_addedRows C hb hP dX0_refit_41 ?_
        refine lv_icmp_ge (tgt := 64) C.1 hb dX0_refit_44 (by decide) (fun c29 => ?_) (fun c29 => ?_)
        · have hin : i = n := by have := le_nI (a := n) (b := i) (by have := hI.1; omega) (by have := hI.1; omega) (by rw [← hI.2.1]; exact c29); omega
          rw [hin] at hl hP
          exact wrV C hb hret hlk hP hS dX0_refit_64 rfl
        · have hlt : i < n := nle_nI (a := n) (b := i) (by have := hI.1; omega) (by have := hI.1; omega) (by rw [← hI.2.1]; exact c29)
          have hn40 := hI.1
          refine lv_aload_n C.1 hb dX0_refit_47 rfl (lv_at hl 0 rfl) ?_
          refine gX_fittedLosses C hb hP dX0_refit_48 ?_
          refine lv_iload_n C.1 hb dX0_refit_51 rfl (lv_at hl 1 rfl) ?_
          refine lv_aload_n C.1 hb dX0_refit_52 rfl (lv_at hl 0 rfl) ?_
          refine lv_iload_n C.1 hb dX0_refit_53 rfl (lv_at hl 1 rfl) ?_
          refine run_rd (cRunX (As := [.int (nI i)]) (rest := [.int (nI i), .ref (gA g 14)]) C hb (hml.trans hl.1.symm) hP hS rfl (k_X0_fittedLoss l g (xsLng (xsBase S (xBase1 S n)) 3 (fil (xFit (xsBase S (xBase1 S n))) (xLng S 3) i)) n (XI_lng3 _ (XI_base _ hI)) i hlt) wm_94 wm_95 wm_96 wm_97 wm_12 (n := 1) (by decide +kernel) rfl ⟨rfl, rfl, Nat.le_of_ble_eq_true rfl, Nat.le_of_ble_eq_true rfl⟩ (Nat.le_of_ble_eq_true rfl) rfl ⟨Nat.zero_le _, Nat.zero_le _⟩ dX0_refit_54) ?_
          refine toL (xFit_lng3 (xsBase S (xBase1 S n)) _ i) ?_
          refine stX_fittedLosses (j := i) C hb hP hS rfl (by omega) dX0_refit_57 (fun H locs hP hS => ?_)
          refine lv_iinc (v := nI (i + 1)) (lv' := [(3, .int (nI (i + 1))), (0, .ref (gA g 0))]) C.1 hb dX0_refit_58 hl (k := 1) rfl (nI_1 i) (by decide) rfl (fun ls hl => ?_)
          refine lv_goto (tgt := 39) C.1 hb dX0_refit_61 (by decide) ?_
          exact ih (i + 1) (by omega) (by omega)  _ _ (by rw [← refit_step (xsBase S (xBase1 S n))]; exact hP) hS ls (lv_sub hl [1, 0] rfl)
    exact key (n - 0 + 1) 0 (by omega) (by omega)  _ _ (by rw [refit_0]; exact hP) hS ls (lv_sub hl [2, 0] rfl)

set_option maxRecDepth 100000 in
set_option maxHeartbeats 4000000 in
theorem k_X0_foundFactor (l : Launch) (g : gG) (S : WS) (n : Nat) (hI : XI n S) (t k : Nat) (ht : t < 3) (hk : k < 4) : Met l yX0_foundFactor (wA yX0_foundFactor cX0_foundFactor 12 (some .int)) ({ frames := 2, cells := 0, slots := 0, locals := 80 }) (PW g S [.ref (gA g 0), .int (nI t), .int (nI k)]) (RQ (some (.int (xFound S n t k)))) 0 0 (fun _ => False) := by
  refine metI (by decide +kernel) (Nat.le_of_ble_eq_true rfl) ?_
  intro p e s m below meth c C hb hml hret hlk hP ls hl
  have C : CW g RX0 p s m ([.ref (gA g 0), .int (nI t), .int (nI k)] : List Value).toArray := C
  have hS : va_S (Ab g) s.heap s.heap [] := va_S.rf
  have hl : lv_has ls 12 [(0, .ref (gA g 0)), (1, .int (nI t)), (2, .int (nI k))] := hl
  have hn40 := hI.1
  refine lv_aload_n C.1 hb dX0_foundFactor_0 rfl (lv_at hl 0 rfl) ?_
  refine gX_factors C hb hP dX0_foundFactor_1 ?_
  refine lv_iload_n C.1 hb dX0_foundFactor_4 rfl (lv_at hl 1 rfl) ?_
  refine al_fac (t := t) C hb hP rfl ht dX0_foundFactor_5 ?_
  refine lv_iload_n C.1 hb dX0_foundFactor_6 rfl (lv_at hl 2 rfl) ?_
  refine ldX_fac (t := t) (j := k) C hb hP ht rfl (by omega) dX0_foundFactor_7 ?_
  refine lv_istore_n (lv' := [(3, .int (xFac S t k)), (0, .ref (gA g 0)), (1, .int (nI t)), (2, .int (nI k))]) C.1 hb dX0_foundFactor_8 rfl hl (by decide) rfl (fun ls hl => ?_)
  refine lv_aload_n C.1 hb dX0_foundFactor_9 rfl (lv_at hl 1 rfl) ?_
  refine lv_aload_n C.1 hb dX0_foundFactor_10 rfl (lv_at hl 1 rfl) ?_
  refine gX_fittedLosses C hb hP dX0_foundFactor_11 ?_
  refine lv_iload_n C.1 hb dX0_foundFactor_14 rfl (lv_at hl 2 rfl) ?_
  refine lv_iload_n C.1 hb dX0_foundFactor_15 rfl (lv_at hl 3 rfl) ?_
  refine run_rd (cRunX (As := [.ref (gA g 14), .int (nI t), .int (nI k)]) (rest := []) C hb (hml.trans hl.1.symm) hP hS rfl (k_X0_levelTotal l g S n hI 3 (by decide) t ht (nI k)) wm_71 wm_72 wm_73 wm_74 wm_12 (n := 3) (by decide +kernel) rfl ⟨rfl, rfl, Nat.le_of_ble_eq_true rfl, Nat.le_of_ble_eq_true rfl⟩ (Nat.le_of_ble_eq_true rfl) rfl ⟨Nat.zero_le _, Nat.zero_le _⟩ dX0_foundFactor_16) ?_
  refine lv_lstore (lv' := [(4, .long (xLTot (xIa S 1) (xLev S t) (nI k) (xLng S 3) n)), (3, .int (xFac S t k)), (0, .ref (gA g 0)), (1, .int (nI t)), (2, .int (nI k))]) C.1 hb dX0_foundFactor_19 hl (by decide) rfl (fun ls hl => ?_)
  refine lv_aload_n C.1 hb dX0_foundFactor_21 rfl (lv_at hl 2 rfl) ?_
  refine lv_aload_n C.1 hb dX0_foundFactor_22 rfl (lv_at hl 2 rfl) ?_
  refine gX_claims C hb hP dX0_foundFactor_23 ?_
  refine lv_iload_n C.1 hb dX0_foundFactor_26 rfl (lv_at hl 3 rfl) ?_
  refine lv_iload_n C.1 hb dX0_foundFactor_27 rfl (lv_at hl 4 rfl) ?_
  refine run_rd (cRunX (As := [.ref (gA g 10), .int (nI t), .int (nI k)]) (rest := []) C hb (hml.trans hl.1.symm) hP hS rfl (k_X0_levelTotal l g S n hI 1 (by decide) t ht (nI k)) wm_71 wm_72 wm_73 wm_74 wm_12 (n := 3) (by decide +kernel) rfl ⟨rfl, rfl, Nat.le_of_ble_eq_true rfl, Nat.le_of_ble_eq_true rfl⟩ (Nat.le_of_ble_eq_true rfl) rfl ⟨Nat.zero_le _, Nat.zero_le _⟩ dX0_foundFactor_28) ?_
  refine lv_lstore (lv' := [(6, .long (xLTot (xIa S 1) (xLev S t) (nI k) (xLng S 1) n)), (4, .long (xLTot (xIa S 1) (xLev S t) (nI k) (xLng S 3) n)), (3, .int (xFac S t k)), (0, .ref (gA g 0)), (1, .int (nI t)), (2, .int (nI k))]) C.1 hb dX0_foundFactor_31 hl (by decide) rfl (fun ls hl => ?_)
  refine lv_lload C.1 hb dX0_foundFactor_33 (lv_at hl 1 rfl) ?_
  refine lv_lconst (v := 0) C.1 hb dX0_foundFactor_35 (by decide) ?_
  refine lc_le (tgt := 47) C hb dX0_foundFactor_36 dX0_foundFactor_37 (by decide) (fun c30 => ?_) (fun c30 => ?_)
  · refine lv_iload_n C.1 hb dX0_foundFactor_47 rfl (lv_at hl 2 rfl) ?_
    exact rdI C hb hret hlk dX0_foundFactor_48 (by unfold xFound; rw [if_pos c30])
  · refine lv_lload C.1 hb dX0_foundFactor_40 (lv_at hl 0 rfl) ?_
    refine lv_lconst (v := 0) C.1 hb dX0_foundFactor_42 (by decide) ?_
    refine lc_gt (tgt := 49) C hb dX0_foundFactor_43 dX0_foundFactor_44 (by decide) (fun c31 => ?_) (fun c31 => ?_)
    · refine lv_iload_n C.1 hb dX0_foundFactor_49 rfl (lv_at hl 2 rfl) ?_
      refine lv_i2l C.1 hb dX0_foundFactor_50 rfl ?_
      refine lv_aload_n C.1 hb dX0_foundFactor_51 rfl (lv_at hl 3 rfl) ?_
      refine lv_aload_n C.1 hb dX0_foundFactor_52 rfl (lv_at hl 3 rfl) ?_
      refine gX_losses C hb hP dX0_foundFactor_53 ?_
      refine lv_iload_n C.1 hb dX0_foundFactor_56 rfl (lv_at hl 4 rfl) ?_
      refine lv_iload_n C.1 hb dX0_foundFactor_57 rfl (lv_at hl 5 rfl) ?_
      refine run_rd (cRunX (As := [.ref (gA g 11), .int (nI t), .int (nI k)]) (rest := [.long (xFac S t k).toInt64]) C hb (hml.trans hl.1.symm) hP hS rfl (k_X0_levelTotal l g S n hI 2 (by decide) t ht (nI k)) wm_71 wm_72 wm_73 wm_74 wm_12 (n := 3) (by decide +kernel) rfl ⟨rfl, rfl, Nat.le_of_ble_eq_true rfl, Nat.le_of_ble_eq_true rfl⟩ (Nat.le_of_ble_eq_true rfl) rfl ⟨Nat.zero_le _, Nat.zero_le _⟩ dX0_foundFactor_58) ?_
      refine lv_lmul C.1 hb dX0_foundFactor_61 ?_
      refine lv_lload C.1 hb dX0_foundFactor_62 (lv_at hl 1 rfl) ?_
      refine lv_ldiv C.1 hb dX0_foundFactor_64 (ne0_nle c30) ?_
      refine lv_lstore (lv' := [(8, .long (((xFac S t k).toInt64 * (xLTot (xIa S 1) (xLev S t) (nI k) (xLng S 2) n)) / (xLTot (xIa S 1) (xLev S t) (nI k) (xLng S 3) n))), (6, .long (xLTot (xIa S 1) (xLev S t) (nI k) (xLng S 1) n)), (4, .long (xLTot (xIa S 1) (xLev S t) (nI k) (xLng S 3) n)), (3, .int (xFac S t k)), (0, .ref (gA g 0)), (1, .int (nI t)), (2, .int (nI k))]) C.1 hb dX0_foundFactor_65 hl (by decide) rfl (fun ls hl => ?_)
      refine lv_lload C.1 hb dX0_foundFactor_67 (lv_at hl 0 rfl) ?_
      refine lv_iload_n C.1 hb dX0_foundFactor_69 rfl (lv_at hl 3 rfl) ?_
      refine lv_i2l C.1 hb dX0_foundFactor_70 rfl ?_
      refine lv_lsub C.1 hb dX0_foundFactor_71 ?_
      refine lv_lload C.1 hb dX0_foundFactor_72 (lv_at hl 1 rfl) ?_
      refine lv_lmul C.1 hb dX0_foundFactor_74 ?_
      refine lv_lload C.1 hb dX0_foundFactor_75 (lv_at hl 1 rfl) ?_
      refine lv_aload_n C.1 hb dX0_foundFactor_77 rfl (lv_at hl 4 rfl) ?_
      refine gX_credibility C hb hP dX0_foundFactor_78 ?_
      refine lv_i2l C.1 hb dX0_foundFactor_81 rfl ?_
      refine lv_ladd C.1 hb dX0_foundFactor_82 ?_
      refine lv_ldiv C.1 hb dX0_foundFactor_83 (xFound_div hI c31) ?_
      refine lv_lstore (lv' := [(10, .long ((((((xFac S t k).toInt64 * (xLTot (xIa S 1) (xLev S t) (nI k) (xLng S 2) n)) / (xLTot (xIa S 1) (xLev S t) (nI k) (xLng S 3) n)) - (xFac S t k).toInt64) * (xLTot (xIa S 1) (xLev S t) (nI k) (xLng S 1) n)) / ((xLTot (xIa S 1) (xLev S t) (nI k) (xLng S 1) n) + (xSc S 2).toInt64))), (8, .long (((xFac S t k).toInt64 * (xLTot (xIa S 1) (xLev S t) (nI k) (xLng S 2) n)) / (xLTot (xIa S 1) (xLev S t) (nI k) (xLng S 3) n))), (6, .long (xLTot (xIa S 1) (xLev S t) (nI k) (xLng S 1) n)), (4, .long (xLTot (xIa S 1) (xLev S t) (nI k) (xLng S 3) n)), (3, .int (xFac S t k)), (0, .ref (gA g 0)), (1, .int (nI t)), (2, .int (nI k))]) C.1 hb dX0_foundFactor_84 hl (by decide) rfl (fun ls hl => ?_)
      refine lv_iload_n C.1 hb dX0_foundFactor_86 rfl (lv_at hl 4 rfl) ?_
      refine lv_i2l C.1 hb dX0_foundFactor_87 rfl ?_
      refine lv_lload C.1 hb dX0_foundFactor_88 (lv_at hl 0 rfl) ?_
      refine lv_ladd C.1 hb dX0_foundFactor_90 ?_
      refine lv_ldc2 (v := 100) C.1 hb C.2.1 (C.2.2.1 _ wm_69) dX0_foundFactor_91 ?_
      refine lv_ldc2 (v := 100000) C.1 hb C.2.1 (C.2.2.1 _ wm_70) dX0_foundFactor_94 ?_
      refine run_rd (cRunS (As := [.long ((xFac S t k).toInt64 + ((((((xFac S t k).toInt64 * (xLTot (xIa S 1) (xLev S t) (nI k) (xLng S 2) n)) / (xLTot (xIa S 1) (xLev S t) (nI k) (xLng S 3) n)) - (xFac S t k).toInt64) * (xLTot (xIa S 1) (xLev S t) (nI k) (xLng S 1) n)) / ((xLTot (xIa S 1) (xLev S t) (nI k) (xLng S 1) n) + (xSc S 2).toInt64))), .long 100, .long 100000]) (rest := []) C hb (hml.trans hl.1.symm) hP hS (k_X0_bounded l g S ((xFac S t k).toInt64 + ((((((xFac S t k).toInt64 * (xLTot (xIa S 1) (xLev S t) (nI k) (xLng S 2) n)) / (xLTot (xIa S 1) (xLev S t) (nI k) (xLng S 3) n)) - (xFac S t k).toInt64) * (xLTot (xIa S 1) (xLev S t) (nI k) (xLng S 1) n)) / ((xLTot (xIa S 1) (xLev S t) (nI k) (xLng S 1) n) + (xSc S 2).toInt64))) 100 100000) wm_75 wm_76 wm_77 wm_12 (n := 3) (by decide +kernel) rfl ⟨rfl, rfl, Nat.le_of_ble_eq_true rfl, Nat.le_of_ble_eq_true rfl⟩ (Nat.le_of_ble_eq_true rfl) rfl ⟨Nat.zero_le _, Nat.zero_le _⟩ dX0_foundFactor_97) ?_
      refine lv_l2i C.1 hb dX0_foundFactor_100 rfl ?_
      exact rdI C hb hret hlk dX0_foundFactor_101 (by unfold xFound; rw [if_neg c30, if_pos c31])
    · refine lv_iload_n C.1 hb dX0_foundFactor_47 rfl (lv_at hl 2 rfl) ?_
      exact rdI C hb hret hlk dX0_foundFactor_48 (by unfold xFound; rw [if_neg c30, if_neg c31])

set_option maxRecDepth 100000 in
set_option maxHeartbeats 4000000 in
theorem k_X0_passOver (l : Launch) (g : gG) (S : WS) (n : Nat) (hI : XI n S) (t : Nat) (ht : t < 3) : Met l yX0_passOver (wA yX0_passOver cX0_passOver 5 (some .int)) ({ frames := 3, cells := 0, slots := 0, locals := 120 }) (PW g S [.ref (gA g 0), .int (nI t)]) (WQ g (xPass S n t) (some (.int (nI (xPassC S n t))))) 0 0 (Ab g) := by
  refine metI (by decide +kernel) (Nat.le_of_ble_eq_true rfl) ?_
  intro p e s m below meth c C hb hml hret hlk hP ls hl
  have C : CW g RX0 p s m ([.ref (gA g 0), .int (nI t)] : List Value).toArray := C
  have hS : va_S (Ab g) s.heap s.heap [] := va_S.rf
  have hl : lv_has ls 5 [(0, .ref (gA g 0)), (1, .int (nI t))] := hl
  have hn40 := hI.1
  have h4 := levN_4 t
  refine lv_iconst (v := 0) C.1 hb dX0_passOver_0 (by decide) ?_
  refine lv_istore_n (lv' := [(2, .int 0), (0, .ref (gA g 0)), (1, .int (nI t))]) C.1 hb dX0_passOver_1 rfl hl (by decide) rfl (fun ls hl => ?_)
  refine lv_iconst (v := 0) C.1 hb dX0_passOver_2 (by decide) ?_
  refine lv_istore_n (lv' := [(3, .int 0), (2, .int 0), (0, .ref (gA g 0)), (1, .int (nI t))]) C.1 hb dX0_passOver_3 rfl hl (by decide) rfl (fun ls hl => ?_)
  have key : ∀ f i : Nat, levN t - i < f → i ≤ levN t → ∀ (H : Heap) (locs : List Loc), HW g (xsFac S t (fil (xFound S n t) (xFac S t) i)) H → va_S (Ab g) s.heap H locs → ∀ ls : Array Slot, lv_has ls 5 [(0, .ref (gA g 0)), (1, .int (nI t)), (2, .int (nI (xCnt (xPasP S n t) i))), (3, .int (nI i))] → W p l e ({ frames := 3, cells := 0, slots := 0, locals := 120 }) s m ([.ref (gA g 0), .int (nI t)] : List Value).toArray below meth c H locs 0 0 (MQ below (WQ g (xPass S n t) (some (.int (nI (xPassC S n t))))) ([.ref (gA g 0), .int (nI t)] : List Value).toArray s 0 0 (Ab g)) (F0 m 4 ls []) := by
    intro f
    induction f with
    | zero => intro i h; exact absurd h (Nat.not_lt_zero _)
    | succ f ih =>
      intro i hfi hi  H locs hP hS ls hl
      refine lv_iload_n C.1 hb dX0_passOver_4 rfl (lv_at hl 3 rfl) ?_
      refine gX_LEVELS C hb hS dX0_passOver_5 ?_
      refine lv_iload_n C.1 hb dX0_passOver_8 rfl (lv_at hl 1 rfl) ?_
      refine ldX_LEVELS (j := t) C hb hS rfl ht dX0_passOver_9 ?_
      refine lv_icmp_ge (tgt := 53) C.1 hb dX0_passOver_10 (by decide) (fun c32 => ?_) (fun c32 => ?_)
      · have hin : i = levN t := by have := le_nI (a := levN t) (b := i) (by omega) (by omega) c32; omega
        rw [hin] at hl hP
        refine lv_aload_n C.1 hb dX0_passOver_53 rfl (lv_at hl 0 rfl) ?_
        refine run_wr (cRunX (As := []) (rest := []) C hb (hml.trans hl.1.symm) hP hS rfl (k_X0_refit l g (xsFac S t (fil (xFound S n t) (xFac S t) (levN t))) n (XI_fac t _ hI)) wm_85 wm_86 wm_87 wm_88 wm_12 (n := 0) (by decide +kernel) rfl ⟨rfl, rfl, Nat.le_of_ble_eq_true rfl, Nat.le_of_ble_eq_true rfl⟩ (Nat.le_of_ble_eq_true rfl) rfl ⟨Nat.zero_le _, Nat.zero_le _⟩ dX0_passOver_54) hS (fun H locs hP hS => ?_)
        refine lv_iload_n C.1 hb dX0_passOver_57 rfl (lv_at hl 2 rfl) ?_
        exact wrI C hb hret hlk hP hS dX0_passOver_58 rfl rfl
      · have hlt : i < levN t := nle_nI (a := levN t) (b := i) (by omega) (by omega) c32
        refine lv_aload_n C.1 hb dX0_passOver_13 rfl (lv_at hl 0 rfl) ?_
        refine lv_iload_n C.1 hb dX0_passOver_14 rfl (lv_at hl 1 rfl) ?_
        refine lv_iload_n C.1 hb dX0_passOver_15 rfl (lv_at hl 3 rfl) ?_
        refine run_rd (cRunX (As := [.int (nI t), .int (nI i)]) (rest := []) C hb (hml.trans hl.1.symm) hP hS rfl (k_X0_foundFactor l g (xsFac S t (fil (xFound S n t) (xFac S t) i)) n (XI_fac t _ hI) t i ht (by omega)) wm_65 wm_66 wm_67 wm_68 wm_12 (n := 2) (by decide +kernel) rfl ⟨rfl, rfl, Nat.le_of_ble_eq_true rfl, Nat.le_of_ble_eq_true rfl⟩ (Nat.le_of_ble_eq_true rfl) rfl ⟨Nat.zero_le _, Nat.zero_le _⟩ dX0_passOver_16) ?_
        refine toI (xFound_fil S n t i _) ?_
        refine lv_istore (lv' := [(4, .int (xFound S n t i)), (0, .ref (gA g 0)), (1, .int (nI t)), (2, .int (nI (xCnt (xPasP S n t) i))), (3, .int (nI i))]) C.1 hb dX0_passOver_19 hl (by decide) rfl (fun ls hl => ?_)
        refine lv_iload C.1 hb dX0_passOver_21 (lv_at hl 0 rfl) ?_
        refine lv_aload_n C.1 hb dX0_passOver_23 rfl (lv_at hl 1 rfl) ?_
        refine gX_factors C hb hP dX0_passOver_24 ?_
        refine lv_iload_n C.1 hb dX0_passOver_27 rfl (lv_at hl 2 rfl) ?_
        refine al_fac (t := t) C hb hP rfl ht dX0_passOver_28 ?_
        refine lv_iload_n C.1 hb dX0_passOver_29 rfl (lv_at hl 4 rfl) ?_
        refine ldX_fac (t := t) (j := i) C hb hP ht rfl (by omega) dX0_passOver_30 ?_
        refine toI (show xFac (xsFac S t (fil (xFound S n t) (xFac S t) i)) t i = xFac S t i by rw [fac_at, fil_at]) ?_
        refine lv_icmp_eq (tgt := 47) C.1 hb dX0_passOver_31 (by decide) (fun c33 => ?_) (fun c33 => ?_)
        · refine lv_iinc (v := nI (i + 1)) (lv' := [(3, .int (nI (i + 1))), (4, .int (xFound S n t i)), (0, .ref (gA g 0)), (1, .int (nI t)), (2, .int (nI (xCnt (xPasP S n t) i)))]) C.1 hb dX0_passOver_47 hl (k := 4) rfl (nI_1 i) (by decide) rfl (fun ls hl => ?_)
          refine lv_goto (tgt := 4) C.1 hb dX0_passOver_50 (by decide) ?_
          exact ih (i + 1) (by omega) (by omega)  _ _ (by rw [passf_keep S t i _ c33]; exact hP) hS ls (by rw [xCnt_f (show xPasP S n t i = false by simp [xPasP, c33])]; exact lv_sub hl [2, 3, 4, 0] rfl)
        · refine lv_aload_n C.1 hb dX0_passOver_34 rfl (lv_at hl 1 rfl) ?_
          refine gX_factors C hb hP dX0_passOver_35 ?_
          refine lv_iload_n C.1 hb dX0_passOver_38 rfl (lv_at hl 2 rfl) ?_
          refine al_fac (t := t) C hb hP rfl ht dX0_passOver_39 ?_
          refine lv_iload_n C.1 hb dX0_passOver_40 rfl (lv_at hl 4 rfl) ?_
          refine lv_iload C.1 hb dX0_passOver_41 (lv_at hl 0 rfl) ?_
          refine stX_fac (t := t) (j := i) C hb hP hS ht rfl (by omega) dX0_passOver_43 (fun H locs hP hS => ?_)
          refine lv_iinc (v := nI ((xCnt (xPasP S n t) i) + 1)) (lv' := [(2, .int (nI ((xCnt (xPasP S n t) i) + 1))), (4, .int (xFound S n t i)), (0, .ref (gA g 0)), (1, .int (nI t)), (3, .int (nI i))]) C.1 hb dX0_passOver_44 hl (k := 3) rfl (nI_1 (xCnt (xPasP S n t) i)) (by decide) rfl (fun ls hl => ?_)
          refine lv_iinc (v := nI (i + 1)) (lv' := [(3, .int (nI (i + 1))), (2, .int (nI ((xCnt (xPasP S n t) i) + 1))), (4, .int (xFound S n t i)), (0, .ref (gA g 0)), (1, .int (nI t))]) C.1 hb dX0_passOver_47 hl (k := 4) rfl (nI_1 i) (by decide) rfl (fun ls hl => ?_)
          refine lv_goto (tgt := 4) C.1 hb dX0_passOver_50 (by decide) ?_
          exact ih (i + 1) (by omega) (by omega)  _ _ (by rw [← passf_step S t i]; exact hP) hS ls (by rw [xCnt_t (show xPasP S n t i = true by simp [xPasP, c33])]; exact lv_sub hl [3, 4, 1, 0] rfl)
  exact key (levN t - 0 + 1) 0 (by omega) (by omega)  _ _ (by rw [passf_0]; exact hP) hS ls (lv_sub hl [2, 3, 1, 0] rfl)

set_option maxRecDepth 100000 in
set_option maxHeartbeats 4000000 in
theorem k_X0_changedByRound (l : Launch) (g : gG) (S : WS) (n : Nat) (hI : XI n S) : Met l yX0_changedByRound (wA yX0_changedByRound cX0_changedByRound 3 (some .int)) ({ frames := 4, cells := 0, slots := 0, locals := 160 }) (PW g S [.ref (gA g 0)]) (WQ g (xRound S n 3) (some (.int (nI (xRoundC S n 3))))) 0 0 (Ab g) := by
  refine metI (by decide +kernel) (Nat.le_of_ble_eq_true rfl) ?_
  intro p e s m below meth c C hb hml hret hlk hP ls hl
  have C : CW g RX0 p s m ([.ref (gA g 0)] : List Value).toArray := C
  have hS : va_S (Ab g) s.heap s.heap [] := va_S.rf
  have hl : lv_has ls 3 [(0, .ref (gA g 0))] := hl
  refine lv_iconst (v := 0) C.1 hb dX0_changedByRound_0 (by decide) ?_
  refine lv_istore_n (lv' := [(1, .int 0), (0, .ref (gA g 0))]) C.1 hb dX0_changedByRound_1 rfl hl (by decide) rfl (fun ls hl => ?_)
  refine lv_iconst (v := 0) C.1 hb dX0_changedByRound_2 (by decide) ?_
  refine lv_istore_n (lv' := [(2, .int 0), (1, .int 0), (0, .ref (gA g 0))]) C.1 hb dX0_changedByRound_3 rfl hl (by decide) rfl (fun ls hl => ?_)
  have key : ∀ f i : Nat, 3 - i < f → i ≤ 3 → ∀ (H : Heap) (locs : List Loc), HW g (xRound S n i) H → va_S (Ab g) s.heap H locs → ∀ ls : Array Slot, lv_has ls 3 [(0, .ref (gA g 0)), (1, .int (nI (xRoundC S n i))), (2, .int (nI i))] → W p l e ({ frames := 4, cells := 0, slots := 0, locals := 160 }) s m ([.ref (gA g 0)] : List Value).toArray below meth c H locs 0 0 (MQ below (WQ g (xRound S n 3) (some (.int (nI (xRoundC S n 3))))) ([.ref (gA g 0)] : List Value).toArray s 0 0 (Ab g)) (F0 m 4 ls []) := by
    intro f
    induction f with
    | zero => intro i h; exact absurd h (Nat.not_lt_zero _)
    | succ f ih =>
      intro i hfi hi  H locs hP hS ls hl
      refine lv_iload_n C.1 hb dX0_changedByRound_4 rfl (lv_at hl 2 rfl) ?_
      refine lv_iconst (v := 3) C.1 hb dX0_changedByRound_5 (by decide) ?_
      refine lv_icmp_ge (tgt := 23) C.1 hb dX0_changedByRound_6 (by decide) (fun c34 => ?_) (fun c34 => ?_)
      · have hin : i = 3 := by have := le_nI (a := 3) (b := i) (by decide) (by omega) c34; omega
        rw [hin] at hl hP
        refine lv_iload_n C.1 hb dX0_changedByRound_23 rfl (lv_at hl 1 rfl) ?_
        exact wrI C hb hret hlk hP hS dX0_changedByRound_24 rfl rfl
      · have hlt : i < 3 := nle_nI (a := 3) (b := i) (by decide) (by omega) c34
        refine lv_iload_n C.1 hb dX0_changedByRound_9 rfl (lv_at hl 1 rfl) ?_
        refine lv_aload_n C.1 hb dX0_changedByRound_10 rfl (lv_at hl 0 rfl) ?_
        refine lv_iload_n C.1 hb dX0_changedByRound_11 rfl (lv_at hl 2 rfl) ?_
        refine run_wr (cRunX (As := [.int (nI i)]) (rest := [.int (nI (xRoundC S n i))]) C hb (hml.trans hl.1.symm) hP hS rfl (k_X0_passOver l g (xRound S n i) n (XI_round hI i) i hlt) wm_60 wm_61 wm_62 wm_63 wm_12 (n := 1) (by decide +kernel) rfl ⟨rfl, rfl, Nat.le_of_ble_eq_true rfl, Nat.le_of_ble_eq_true rfl⟩ (Nat.le_of_ble_eq_true rfl) rfl ⟨Nat.zero_le _, Nat.zero_le _⟩ dX0_changedByRound_12) hS (fun H locs hP hS => ?_)
        refine lv_iadd C.1 hb dX0_changedByRound_15 ?_
        refine toI (nI_add _ _) ?_
        refine lv_istore_n (lv' := [(1, .int (nI (xRoundC S n i + xPassC (xRound S n i) n i))), (0, .ref (gA g 0)), (2, .int (nI i))]) C.1 hb dX0_changedByRound_16 rfl hl (by decide) rfl (fun ls hl => ?_)
        refine lv_iinc (v := nI (i + 1)) (lv' := [(2, .int (nI (i + 1))), (1, .int (nI (xRoundC S n i + xPassC (xRound S n i) n i))), (0, .ref (gA g 0))]) C.1 hb dX0_changedByRound_17 hl (k := 2) rfl (nI_1 i) (by decide) rfl (fun ls hl => ?_)
        refine lv_goto (tgt := 4) C.1 hb dX0_changedByRound_20 (by decide) ?_
        exact ih (i + 1) (by omega) (by omega)  _ _ hP hS ls (lv_sub hl [2, 1, 0] rfl)
  exact key (3 - 0 + 1) 0 (by omega) (by omega)  _ _ hP hS ls (lv_sub hl [2, 1, 0] rfl)
