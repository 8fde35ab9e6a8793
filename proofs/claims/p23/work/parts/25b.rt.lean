set_option maxRecDepth 100000 in
set_option maxHeartbeats 4000000 in
theorem k_L_rowTold0 (l : Launch) (hl0 : l.stackTraces = false) (g : gG) (S : WS) (n : Nat) (hI : XI n S) (r : Nat) (hr : r < 2 ^ 31) : Met l yL_rowTold (wL yL_rowTold cL_rowTold 4 (some .long) [(0, 45, 46, 51)]) ({ frames := 7, cells := 1, slots := 6, locals := 280 }) (PW g S [.ref (gA g 0), .int 0, .int (nI r)]) (WQ g S (some (.long (rtV S (xLng S 3 r) r)))) 1 6 (Ab g) := by
  refine metL (by decide +kernel) (Nat.le_of_ble_eq_true rfl) ?_
  intro p e s m below meth c C hb hml hret hlk hP het ls hl
  have C : CW g RL p s m ([.ref (gA g 0), .int 0, .int (nI r)] : List Value).toArray := C
  have het : c.exceptionTable.toList = [⟨0, 45, 46, 51⟩] := het
  have hS : va_S (Ab g) s.heap s.heap [] := va_S.rf
  have hl : lv_has ls 4 [(0, .ref (gA g 0)), (1, .int 0), (2, .int (nI r))] := hl
  refine lv_iload_n C.1 hb dL_rowTold_0 rfl (lv_at hl 1 rfl) ?_
  refine lv_if_ne (tgt := 12) C.1 hb dL_rowTold_1 (by decide) (fun c9 => absurd (by decide) c9) (fun _ => ?_)
  refine lv_aload_n C.1 hb dL_rowTold_4 rfl (lv_at hl 0 rfl) ?_
  refine lv_iload_n C.1 hb dL_rowTold_5 rfl (lv_at hl 2 rfl) ?_
  refine run_tx (cRunTX (As := [.int (nI r)]) (rest := []) C hb (hml.trans hl.1.symm) hP hS rfl (k_X0_fitted l hl0 g S n hI (nI r)) wm_133 wm_134 wm_135 wm_136 wm_12 (n := 1) (by decide +kernel) rfl ⟨rfl, rfl, Nat.le_of_ble_eq_true rfl, Nat.le_of_ble_eq_true rfl⟩ (Nat.le_of_ble_eq_true rfl) rfl ⟨Nat.le_of_ble_eq_true rfl, Nat.le_of_ble_eq_true rfl⟩ dL_rowTold_6) hS (fun E q9 ce H locs he hP hS hc1 hc2 hc3 => ?_) (fun H locs he hP hS => ?_)
  · cases e_row he
    refine lcatch0 C ⟨0, 45, 46, 51⟩ [] het (by decide) (by decide) wm_4 (by decide) hc1 hc2 hc3 ?_
    refine lv_astore_n (lv' := [(3, .ref q9), (0, .ref (gA g 0)), (1, .int 0), (2, .int (nI r))]) C.1 hb dL_rowTold_46 rfl hl (by decide) rfl (fun ls hl => ?_)
    refine lv_ldc2 (v := -5) C.1 hb C.2.1 (C.2.2.1 _ wm_107) dL_rowTold_47 ?_
    exact weL (by omega) (by omega) C hb hret hlk hP hS dL_rowTold_50 (rt_no he) rfl
  · refine lv_goto (tgt := 45) C.1 hb dL_rowTold_9 (by decide) ?_
    refine toL (show _ = xLng S 3 r by rw [tN_nI hr]) ?_
    exact weL (by omega) (by omega) C hb hret hlk hP hS dL_rowTold_45 (rt_ok he) rfl

set_option maxRecDepth 100000 in
set_option maxHeartbeats 4000000 in
theorem k_L_rowTold1 (l : Launch) (hl0 : l.stackTraces = false) (g : gG) (S : WS) (n : Nat) (hI : XI n S) (r : Nat) (hr : r < 2 ^ 31) : Met l yL_rowTold (wL yL_rowTold cL_rowTold 4 (some .long) [(0, 45, 46, 51)]) ({ frames := 7, cells := 1, slots := 6, locals := 280 }) (PW g S [.ref (gA g 0), .int 1, .int (nI r)]) (WQ g S (some (.long (rtV S (xNewP S r) r)))) 1 6 (Ab g) := by
  refine metL (by decide +kernel) (Nat.le_of_ble_eq_true rfl) ?_
  intro p e s m below meth c C hb hml hret hlk hP het ls hl
  have C : CW g RL p s m ([.ref (gA g 0), .int 1, .int (nI r)] : List Value).toArray := C
  have het : c.exceptionTable.toList = [⟨0, 45, 46, 51⟩] := het
  have hS : va_S (Ab g) s.heap s.heap [] := va_S.rf
  have hl : lv_has ls 4 [(0, .ref (gA g 0)), (1, .int 1), (2, .int (nI r))] := hl
  refine lv_iload_n C.1 hb dL_rowTold_0 rfl (lv_at hl 1 rfl) ?_
  refine lv_if_ne (tgt := 12) C.1 hb dL_rowTold_1 (by decide) (fun _ => ?_) (fun c9 => absurd c9 (by decide))
  refine lv_iload_n C.1 hb dL_rowTold_12 rfl (lv_at hl 1 rfl) ?_
  refine lv_iconst (v := 1) C.1 hb dL_rowTold_13 (by decide) ?_
  refine lv_icmp_ne (tgt := 25) C.1 hb dL_rowTold_14 (by decide) (fun c9 => absurd (by decide) c9) (fun _ => ?_)
  refine lv_aload_n C.1 hb dL_rowTold_17 rfl (lv_at hl 0 rfl) ?_
  refine lv_iload_n C.1 hb dL_rowTold_18 rfl (lv_at hl 2 rfl) ?_
  refine run_tx (cRunTX (As := [.int (nI r)]) (rest := []) C hb (hml.trans hl.1.symm) hP hS rfl (k_X0_premium l hl0 g S n hI (nI r)) wm_143 wm_144 wm_145 wm_146 wm_12 (n := 1) (by decide +kernel) rfl ⟨rfl, rfl, Nat.le_of_ble_eq_true rfl, Nat.le_of_ble_eq_true rfl⟩ (Nat.le_of_ble_eq_true rfl) rfl ⟨Nat.le_of_ble_eq_true rfl, Nat.le_of_ble_eq_true rfl⟩ dL_rowTold_19) hS (fun E q9 ce H locs he hP hS hc1 hc2 hc3 => ?_) (fun H locs he hP hS => ?_)
  · cases e_row he
    refine lcatch0 C ⟨0, 45, 46, 51⟩ [] het (by decide) (by decide) wm_4 (by decide) hc1 hc2 hc3 ?_
    refine lv_astore_n (lv' := [(3, .ref q9), (0, .ref (gA g 0)), (1, .int 1), (2, .int (nI r))]) C.1 hb dL_rowTold_46 rfl hl (by decide) rfl (fun ls hl => ?_)
    refine lv_ldc2 (v := -5) C.1 hb C.2.1 (C.2.2.1 _ wm_107) dL_rowTold_47 ?_
    exact weL (by omega) (by omega) C hb hret hlk hP hS dL_rowTold_50 (rt_no he) rfl
  · refine lv_goto (tgt := 45) C.1 hb dL_rowTold_22 (by decide) ?_
    refine toL (show _ = xNewP S r by rw [tN_nI hr]) ?_
    exact weL (by omega) (by omega) C hb hret hlk hP hS dL_rowTold_45 (rt_ok he) rfl

set_option maxRecDepth 100000 in
set_option maxHeartbeats 4000000 in
theorem k_L_rowTold2 (l : Launch) (hl0 : l.stackTraces = false) (g : gG) (S : WS) (n : Nat) (hI : XI n S) (r : Nat) (hr : r < 2 ^ 31) : Met l yL_rowTold (wL yL_rowTold cL_rowTold 4 (some .long) [(0, 45, 46, 51)]) ({ frames := 7, cells := 1, slots := 6, locals := 280 }) (PW g S [.ref (gA g 0), .int 2, .int (nI r)]) (WQ g S (some (.long (rtV S (xCapP S r) r)))) 1 6 (Ab g) := by
  refine metL (by decide +kernel) (Nat.le_of_ble_eq_true rfl) ?_
  intro p e s m below meth c C hb hml hret hlk hP het ls hl
  have C : CW g RL p s m ([.ref (gA g 0), .int 2, .int (nI r)] : List Value).toArray := C
  have het : c.exceptionTable.toList = [⟨0, 45, 46, 51⟩] := het
  have hS : va_S (Ab g) s.heap s.heap [] := va_S.rf
  have hl : lv_has ls 4 [(0, .ref (gA g 0)), (1, .int 2), (2, .int (nI r))] := hl
  refine lv_iload_n C.1 hb dL_rowTold_0 rfl (lv_at hl 1 rfl) ?_
  refine lv_if_ne (tgt := 12) C.1 hb dL_rowTold_1 (by decide) (fun _ => ?_) (fun c9 => absurd c9 (by decide))
  refine lv_iload_n C.1 hb dL_rowTold_12 rfl (lv_at hl 1 rfl) ?_
  refine lv_iconst (v := 1) C.1 hb dL_rowTold_13 (by decide) ?_
  refine lv_icmp_ne (tgt := 25) C.1 hb dL_rowTold_14 (by decide) (fun _ => ?_) (fun c9 => absurd c9 (by decide))
  refine lv_iload_n C.1 hb dL_rowTold_25 rfl (lv_at hl 1 rfl) ?_
  refine lv_iconst (v := 2) C.1 hb dL_rowTold_26 (by decide) ?_
  refine lv_icmp_ne (tgt := 38) C.1 hb dL_rowTold_27 (by decide) (fun c9 => absurd (by decide) c9) (fun _ => ?_)
  refine lv_aload_n C.1 hb dL_rowTold_30 rfl (lv_at hl 0 rfl) ?_
  refine lv_iload_n C.1 hb dL_rowTold_31 rfl (lv_at hl 2 rfl) ?_
  refine run_tx (cRunTX (As := [.int (nI r)]) (rest := []) C hb (hml.trans hl.1.symm) hP hS rfl (k_X0_capped l hl0 g S n hI (nI r)) wm_151 wm_152 wm_153 wm_154 wm_12 (n := 1) (by decide +kernel) rfl ⟨rfl, rfl, Nat.le_of_ble_eq_true rfl, Nat.le_of_ble_eq_true rfl⟩ (Nat.le_of_ble_eq_true rfl) rfl ⟨Nat.le_of_ble_eq_true rfl, Nat.le_of_ble_eq_true rfl⟩ dL_rowTold_32) hS (fun E q9 ce H locs he hP hS hc1 hc2 hc3 => ?_) (fun H locs he hP hS => ?_)
  · cases e_row he
    refine lcatch0 C ⟨0, 45, 46, 51⟩ [] het (by decide) (by decide) wm_4 (by decide) hc1 hc2 hc3 ?_
    refine lv_astore_n (lv' := [(3, .ref q9), (0, .ref (gA g 0)), (1, .int 2), (2, .int (nI r))]) C.1 hb dL_rowTold_46 rfl hl (by decide) rfl (fun ls hl => ?_)
    refine lv_ldc2 (v := -5) C.1 hb C.2.1 (C.2.2.1 _ wm_107) dL_rowTold_47 ?_
    exact weL (by omega) (by omega) C hb hret hlk hP hS dL_rowTold_50 (rt_no he) rfl
  · refine lv_goto (tgt := 45) C.1 hb dL_rowTold_35 (by decide) ?_
    refine toL (show _ = xCapP S r by rw [tN_nI hr]) ?_
    exact weL (by omega) (by omega) C hb hret hlk hP hS dL_rowTold_45 (rt_ok he) rfl

set_option maxRecDepth 100000 in
set_option maxHeartbeats 4000000 in
theorem k_L_rowTold3 (l : Launch) (hl0 : l.stackTraces = false) (g : gG) (S : WS) (n : Nat) (hI : XI n S) (r : Nat) (hr : r < 2 ^ 31) (hno : xHasRow S (nI r) = false) : Met l yL_rowTold (wL yL_rowTold cL_rowTold 4 (some .long) [(0, 45, 46, 51)]) ({ frames := 7, cells := 1, slots := 6, locals := 280 }) (PW g S [.ref (gA g 0), .int 3, .int (nI r)]) (WQ g S (some (.long (-5)))) 1 6 (Ab g) := by
  refine metL (by decide +kernel) (Nat.le_of_ble_eq_true rfl) ?_
  intro p e s m below meth c C hb hml hret hlk hP het ls hl
  have C : CW g RL p s m ([.ref (gA g 0), .int 3, .int (nI r)] : List Value).toArray := C
  have het : c.exceptionTable.toList = [⟨0, 45, 46, 51⟩] := het
  have hS : va_S (Ab g) s.heap s.heap [] := va_S.rf
  have hl : lv_has ls 4 [(0, .ref (gA g 0)), (1, .int 3), (2, .int (nI r))] := hl
  refine lv_iload_n C.1 hb dL_rowTold_0 rfl (lv_at hl 1 rfl) ?_
  refine lv_if_ne (tgt := 12) C.1 hb dL_rowTold_1 (by decide) (fun _ => ?_) (fun c9 => absurd c9 (by decide))
  refine lv_iload_n C.1 hb dL_rowTold_12 rfl (lv_at hl 1 rfl) ?_
  refine lv_iconst (v := 1) C.1 hb dL_rowTold_13 (by decide) ?_
  refine lv_icmp_ne (tgt := 25) C.1 hb dL_rowTold_14 (by decide) (fun _ => ?_) (fun c9 => absurd c9 (by decide))
  refine lv_iload_n C.1 hb dL_rowTold_25 rfl (lv_at hl 1 rfl) ?_
  refine lv_iconst (v := 2) C.1 hb dL_rowTold_26 (by decide) ?_
  refine lv_icmp_ne (tgt := 38) C.1 hb dL_rowTold_27 (by decide) (fun _ => ?_) (fun c9 => absurd c9 (by decide))
  refine lv_aload_n C.1 hb dL_rowTold_38 rfl (lv_at hl 0 rfl) ?_
  refine lv_iload_n C.1 hb dL_rowTold_39 rfl (lv_at hl 2 rfl) ?_
  refine lv_iconst (v := (-1)) C.1 hb dL_rowTold_40 (by decide) ?_
  refine run_tx (cRunTX (As := [.int (nI r), .int (-1)]) (rest := []) C hb (hml.trans hl.1.symm) hP hS rfl (k_X0_setOld l hl0 g S n hI (nI r) (-1)) wm_162 wm_163 wm_164 wm_165 wm_12 (n := 2) (by decide +kernel) rfl ⟨rfl, rfl, Nat.le_of_ble_eq_true rfl, Nat.le_of_ble_eq_true rfl⟩ (Nat.le_of_ble_eq_true rfl) rfl ⟨Nat.le_of_ble_eq_true rfl, Nat.le_of_ble_eq_true rfl⟩ dL_rowTold_41) hS (fun E q9 ce H locs he hP hS hc1 hc2 hc3 => ?_) (fun H locs he hP hS => ?_)
  · have hE : E = eIOB := by unfold xE_old at he; rw [hno] at he; exact (Option.some.inj he).symm
    have hP : HW g S _ := hP.cg (by unfold xR_old; rw [hno]; rfl)
    subst hE
    refine lcatch0 C ⟨0, 45, 46, 51⟩ [] het (by decide) (by decide) wm_4 (by decide) hc1 hc2 hc3 ?_
    refine lv_astore_n (lv' := [(3, .ref q9), (0, .ref (gA g 0)), (1, .int 3), (2, .int (nI r))]) C.1 hb dL_rowTold_46 rfl hl (by decide) rfl (fun ls hl => ?_)
    refine lv_ldc2 (v := -5) C.1 hb C.2.1 (C.2.2.1 _ wm_107) dL_rowTold_47 ?_
    exact weL (by omega) (by omega) C hb hret hlk hP hS dL_rowTold_50 rfl rfl
  · exfalso; unfold xE_old at he; rw [hno] at he; cases he
