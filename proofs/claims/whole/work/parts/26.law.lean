set_option maxRecDepth 100000 in
set_option maxHeartbeats 4000000 in
theorem k_L_add (l : Launch) (hl0 : l.stackTraces = false) (g : gG) (S : WS) (n : Nat) (hI : XI n S) (a b q ex cl lo : Int32) : Met l yL_add (wL yL_add cL_add 9 (some .int) [(0, 18, 21, 13), (0, 18, 25, 15)]) ({ frames := 7, cells := 1, slots := 6, locals := 280 }) (PL g S [.ref (gA g 0), .int a, .int b, .int q, .int ex, .int cl, .int lo, .ref (gA g 27)]) (LQ g (xR_add S n a b q ex cl lo) eIAE (xE_add S a b q ex cl lo) (nI n).toInt64) 1 6 (Ab g) := by
  refine metL (by decide +kernel) (Nat.le_of_ble_eq_true rfl) ?_
  intro p e s m below meth c C hN hb hml hret hlk hP het ls hl
  have C : CW g RL p s m ([.ref (gA g 0), .int a, .int b, .int q, .int ex, .int cl, .int lo, .ref (gA g 27)] : List Value).toArray := C
  have het : c.exceptionTable.toList = [⟨0, 18, 21, 13⟩, ⟨0, 18, 25, 15⟩] := het
  have hS : va_S (Ab g) s.heap s.heap [] := va_S.rf
  have hl : lv_has ls 9 [(0, .ref (gA g 0)), (1, .int a), (2, .int b), (3, .int q), (4, .int ex), (5, .int cl), (6, .int lo), (7, .ref (gA g 27))] := hl
  refine lv_aload C.1 hb dL_add_0 (lv_at hl 7 rfl) ?_
  refine lv_iconst (v := 0) C.1 hb dL_add_2 (by decide) ?_
  refine lv_aload_n C.1 hb dL_add_3 rfl (lv_at hl 0 rfl) ?_
  refine lv_iload_n C.1 hb dL_add_4 rfl (lv_at hl 1 rfl) ?_
  refine lv_iload_n C.1 hb dL_add_5 rfl (lv_at hl 2 rfl) ?_
  refine lv_iload_n C.1 hb dL_add_6 rfl (lv_at hl 3 rfl) ?_
  refine lv_iload C.1 hb dL_add_7 (lv_at hl 4 rfl) ?_
  refine lv_iload C.1 hb dL_add_9 (lv_at hl 5 rfl) ?_
  refine lv_iload C.1 hb dL_add_11 (lv_at hl 6 rfl) ?_
  refine run_tx (cRunTX (As := [.int a, .int b, .int q, .int ex, .int cl, .int lo]) (rest := [.int 0, .ref (gA g 27)]) C hb (hml.trans hl.1.symm) hP hS rfl (k_X0_add l hl0 g S n hI a b q ex cl lo) wm_58 wm_59 wm_60 wm_61 wm_2 (n := 6) (by decide +kernel) rfl ⟨rfl, rfl, Nat.le_of_ble_eq_true rfl, Nat.le_of_ble_eq_true rfl⟩ (Nat.le_of_ble_eq_true rfl) rfl ⟨Nat.le_of_ble_eq_true rfl, Nat.le_of_ble_eq_true rfl⟩ dL_add_13) hS (fun E q9 ce H locs he hP hS hc1 hc2 hc3 => ?_) (fun H locs he hP hS => ?_)
  · rcases e_add he with hE | hE <;> cases hE
    · refine lcatch0 C ⟨0, 18, 21, 13⟩ [⟨0, 18, 25, 15⟩] het (by decide) (by decide) wm_56 (by decide) hc1 hc2 hc3 ?_
      refine lv_astore (lv' := [(8, .ref q9), (0, .ref (gA g 0)), (1, .int a), (2, .int b), (3, .int q), (4, .int ex), (5, .int cl), (6, .int lo), (7, .ref (gA g 27))]) C.1 hb dL_add_21 hl (by decide) rfl (fun ls hl => ?_)
      refine lv_iconst (v := 1) C.1 hb dL_add_23 (by decide) ?_
      exact lwI (S := xR_add S n a b q ex cl lo) (f := wOut (xR_add S n a b q ex cl lo)) C hb hret hlk hP hS dL_add_24 (by rw [he]; decide) (fun z => by rw [he] at z; cases z)
    · refine lcatch1 C ⟨0, 18, 21, 13⟩ ⟨0, 18, 25, 15⟩ [] het (by decide) wm_56 hN.1 (by decide) (by decide) wm_57 (by decide) hc1 hc2 hc3 ?_
      refine lv_astore (lv' := [(8, .ref q9), (0, .ref (gA g 0)), (1, .int a), (2, .int b), (3, .int q), (4, .int ex), (5, .int cl), (6, .int lo), (7, .ref (gA g 27))]) C.1 hb dL_add_25 hl (by decide) rfl (fun ls hl => ?_)
      refine lv_iconst (v := 2) C.1 hb dL_add_27 (by decide) ?_
      exact lwI (S := xR_add S n a b q ex cl lo) (f := wOut (xR_add S n a b q ex cl lo)) C hb hret hlk hP hS dL_add_28 (by rw [he]; decide) (fun z => by rw [he] at z; cases z)
  · refine lv_i2l C.1 hb dL_add_16 rfl ?_
    refine stO_out (j := 0) C hb hP hS (by decide) (by decide) dL_add_17 (fun H locs hP hS => ?_)
    refine lv_goto (tgt := 29) C.1 hb dL_add_18 (by decide) ?_
    refine lv_iconst (v := 0) C.1 hb dL_add_29 (by decide) ?_
    exact lwI (S := xR_add S n a b q ex cl lo) C hb hret hlk hP hS dL_add_30 (by rw [he]; decide) (fun _ => pk_uLs)

set_option maxRecDepth 100000 in
set_option maxHeartbeats 4000000 in
theorem k_L_withdraw (l : Launch) (hl0 : l.stackTraces = false) (g : gG) (S : WS) (n : Nat) (hI : XI n S) (r : Int32) : Met l yL_withdraw (wL yL_withdraw cL_withdraw 4 (some .int) [(0, 9, 12, 21)]) ({ frames := 7, cells := 1, slots := 6, locals := 280 }) (PL g S [.ref (gA g 0), .int r, .ref (gA g 27)]) (LQ g (xR_wd S n r) eIOB (xE_row S r) (xSc S 1 - 1).toInt64) 1 6 (Ab g) := by
  refine metL (by decide +kernel) (Nat.le_of_ble_eq_true rfl) ?_
  intro p e s m below meth c C hN hb hml hret hlk hP het ls hl
  have C : CW g RL p s m ([.ref (gA g 0), .int r, .ref (gA g 27)] : List Value).toArray := C
  have het : c.exceptionTable.toList = [⟨0, 9, 12, 21⟩] := het
  have hS : va_S (Ab g) s.heap s.heap [] := va_S.rf
  have hl : lv_has ls 4 [(0, .ref (gA g 0)), (1, .int r), (2, .ref (gA g 27))] := hl
  refine lv_aload_n C.1 hb dL_withdraw_0 rfl (lv_at hl 2 rfl) ?_
  refine lv_iconst (v := 0) C.1 hb dL_withdraw_1 (by decide) ?_
  refine lv_aload_n C.1 hb dL_withdraw_2 rfl (lv_at hl 0 rfl) ?_
  refine lv_iload_n C.1 hb dL_withdraw_3 rfl (lv_at hl 1 rfl) ?_
  refine run_tx (cRunTX (As := [.int r]) (rest := [.int 0, .ref (gA g 27)]) C hb (hml.trans hl.1.symm) hP hS rfl (k_X0_withdraw l hl0 g S n hI r) wm_121 wm_122 wm_123 wm_124 wm_2 (n := 1) (by decide +kernel) rfl ⟨rfl, rfl, Nat.le_of_ble_eq_true rfl, Nat.le_of_ble_eq_true rfl⟩ (Nat.le_of_ble_eq_true rfl) rfl ⟨Nat.le_of_ble_eq_true rfl, Nat.le_of_ble_eq_true rfl⟩ dL_withdraw_4) hS (fun E q9 ce H locs he hP hS hc1 hc2 hc3 => ?_) (fun H locs he hP hS => ?_)
  · cases e_row he
    refine lcatch0 C ⟨0, 9, 12, 21⟩ [] het (by decide) (by decide) wm_120 (by decide) hc1 hc2 hc3 ?_
    refine lv_astore_n (lv' := [(3, .ref q9), (0, .ref (gA g 0)), (1, .int r), (2, .ref (gA g 27))]) C.1 hb dL_withdraw_12 rfl hl (by decide) rfl (fun ls hl => ?_)
    refine lv_iconst (v := 1) C.1 hb dL_withdraw_13 (by decide) ?_
    exact lwI (S := xR_wd S n r) (f := wOut (xR_wd S n r)) C hb hret hlk hP hS dL_withdraw_14 (by rw [he]; decide) (fun z => by rw [he] at z; cases z)
  · refine lv_i2l C.1 hb dL_withdraw_7 rfl ?_
    refine stO_out (j := 0) C hb hP hS (by decide) (by decide) dL_withdraw_8 (fun H locs hP hS => ?_)
    refine lv_goto (tgt := 15) C.1 hb dL_withdraw_9 (by decide) ?_
    refine lv_iconst (v := 0) C.1 hb dL_withdraw_15 (by decide) ?_
    exact lwI (S := xR_wd S n r) C hb hret hlk hP hS dL_withdraw_16 (by rw [he]; decide) (fun _ => pk_uLs)

set_option maxRecDepth 100000 in
set_option maxHeartbeats 4000000 in
theorem k_L_setOld (l : Launch) (hl0 : l.stackTraces = false) (g : gG) (S : WS) (n : Nat) (hI : XI n S) (r v : Int32) : Met l yL_setOld (wL yL_setOld cL_setOld 5 (some .int) [(0, 10, 13, 21), (0, 10, 17, 13)]) ({ frames := 7, cells := 1, slots := 6, locals := 280 }) (PL g S [.ref (gA g 0), .int r, .int v, .ref (gA g 27)]) (LQ g (xR_old S r v) eIOB (xE_old S r v) (xIa S 0 (tN r)).toInt64) 1 6 (Ab g) := by
  refine metL (by decide +kernel) (Nat.le_of_ble_eq_true rfl) ?_
  intro p e s m below meth c C hN hb hml hret hlk hP het ls hl
  have C : CW g RL p s m ([.ref (gA g 0), .int r, .int v, .ref (gA g 27)] : List Value).toArray := C
  have het : c.exceptionTable.toList = [⟨0, 10, 13, 21⟩, ⟨0, 10, 17, 13⟩] := het
  have hS : va_S (Ab g) s.heap s.heap [] := va_S.rf
  have hl : lv_has ls 5 [(0, .ref (gA g 0)), (1, .int r), (2, .int v), (3, .ref (gA g 27))] := hl
  refine lv_aload_n C.1 hb dL_setOld_0 rfl (lv_at hl 3 rfl) ?_
  refine lv_iconst (v := 0) C.1 hb dL_setOld_1 (by decide) ?_
  refine lv_aload_n C.1 hb dL_setOld_2 rfl (lv_at hl 0 rfl) ?_
  refine lv_iload_n C.1 hb dL_setOld_3 rfl (lv_at hl 1 rfl) ?_
  refine lv_iload_n C.1 hb dL_setOld_4 rfl (lv_at hl 2 rfl) ?_
  refine run_tx (cRunTX (As := [.int r, .int v]) (rest := [.int 0, .ref (gA g 27)]) C hb (hml.trans hl.1.symm) hP hS rfl (k_X0_setOld l hl0 g S n hI r v) wm_146 wm_147 wm_148 wm_149 wm_2 (n := 2) (by decide +kernel) rfl ⟨rfl, rfl, Nat.le_of_ble_eq_true rfl, Nat.le_of_ble_eq_true rfl⟩ (Nat.le_of_ble_eq_true rfl) rfl ⟨Nat.le_of_ble_eq_true rfl, Nat.le_of_ble_eq_true rfl⟩ dL_setOld_5) hS (fun E q9 ce H locs he hP hS hc1 hc2 hc3 => ?_) (fun H locs he hP hS => ?_)
  · rcases e_old he with hE | hE <;> cases hE
    · refine lcatch0 C ⟨0, 10, 13, 21⟩ [⟨0, 10, 17, 13⟩] het (by decide) (by decide) wm_120 (by decide) hc1 hc2 hc3 ?_
      refine lv_astore (lv' := [(4, .ref q9), (0, .ref (gA g 0)), (1, .int r), (2, .int v), (3, .ref (gA g 27))]) C.1 hb dL_setOld_13 hl (by decide) rfl (fun ls hl => ?_)
      refine lv_iconst (v := 1) C.1 hb dL_setOld_15 (by decide) ?_
      exact lwI (S := xR_old S r v) (f := wOut (xR_old S r v)) C hb hret hlk hP hS dL_setOld_16 (by rw [he]; decide) (fun z => by rw [he] at z; cases z)
    · refine lcatch1 C ⟨0, 10, 13, 21⟩ ⟨0, 10, 17, 13⟩ [] het (by decide) wm_120 hN.2 (by decide) (by decide) wm_56 (by decide) hc1 hc2 hc3 ?_
      refine lv_astore (lv' := [(4, .ref q9), (0, .ref (gA g 0)), (1, .int r), (2, .int v), (3, .ref (gA g 27))]) C.1 hb dL_setOld_17 hl (by decide) rfl (fun ls hl => ?_)
      refine lv_iconst (v := 2) C.1 hb dL_setOld_19 (by decide) ?_
      exact lwI (S := xR_old S r v) (f := wOut (xR_old S r v)) C hb hret hlk hP hS dL_setOld_20 (by rw [he]; decide) (fun z => by rw [he] at z; cases z)
  · refine lv_i2l C.1 hb dL_setOld_8 rfl ?_
    refine stO_out (j := 0) C hb hP hS (by decide) (by decide) dL_setOld_9 (fun H locs hP hS => ?_)
    refine lv_goto (tgt := 21) C.1 hb dL_setOld_10 (by decide) ?_
    refine lv_iconst (v := 0) C.1 hb dL_setOld_21 (by decide) ?_
    exact lwI (S := xR_old S r v) C hb hret hlk hP hS dL_setOld_22 (by rw [he]; decide) (fun _ => pk_uLs)

set_option maxRecDepth 100000 in
set_option maxHeartbeats 4000000 in
theorem k_L_setRules (l : Launch) (hl0 : l.stackTraces = false) (g : gG) (S : WS) (q k : Int32) : Met l yL_setRules (wL yL_setRules cL_setRules 5 (some .int) [(0, 10, 13, 13)]) ({ frames := 7, cells := 1, slots := 6, locals := 280 }) (PL g S [.ref (gA g 0), .int q, .int k, .ref (gA g 27)]) (LQ g (xR_rules S q k) eIAE (xE_rules q k) (xSc S 2).toInt64) 1 6 (Ab g) := by
  refine metL (by decide +kernel) (Nat.le_of_ble_eq_true rfl) ?_
  intro p e s m below meth c C hN hb hml hret hlk hP het ls hl
  have C : CW g RL p s m ([.ref (gA g 0), .int q, .int k, .ref (gA g 27)] : List Value).toArray := C
  have het : c.exceptionTable.toList = [⟨0, 10, 13, 13⟩] := het
  have hS : va_S (Ab g) s.heap s.heap [] := va_S.rf
  have hl : lv_has ls 5 [(0, .ref (gA g 0)), (1, .int q), (2, .int k), (3, .ref (gA g 27))] := hl
  refine lv_aload_n C.1 hb dL_setRules_0 rfl (lv_at hl 3 rfl) ?_
  refine lv_iconst (v := 0) C.1 hb dL_setRules_1 (by decide) ?_
  refine lv_aload_n C.1 hb dL_setRules_2 rfl (lv_at hl 0 rfl) ?_
  refine lv_iload_n C.1 hb dL_setRules_3 rfl (lv_at hl 1 rfl) ?_
  refine lv_iload_n C.1 hb dL_setRules_4 rfl (lv_at hl 2 rfl) ?_
  refine run_tx (cRunTX (As := [.int q, .int k]) (rest := [.int 0, .ref (gA g 27)]) C hb (hml.trans hl.1.symm) hP hS rfl (k_X0_setRules l hl0 g S q k) wm_159 wm_160 wm_161 wm_162 wm_2 (n := 2) (by decide +kernel) rfl ⟨rfl, rfl, Nat.le_of_ble_eq_true rfl, Nat.le_of_ble_eq_true rfl⟩ (Nat.le_of_ble_eq_true rfl) rfl ⟨Nat.le_of_ble_eq_true rfl, Nat.le_of_ble_eq_true rfl⟩ dL_setRules_5) hS (fun E q9 ce H locs he hP hS hc1 hc2 hc3 => ?_) (fun H locs he hP hS => ?_)
  · cases e_rules he
    refine lcatch0 C ⟨0, 10, 13, 13⟩ [] het (by decide) (by decide) wm_56 (by decide) hc1 hc2 hc3 ?_
    refine lv_astore (lv' := [(4, .ref q9), (0, .ref (gA g 0)), (1, .int q), (2, .int k), (3, .ref (gA g 27))]) C.1 hb dL_setRules_13 hl (by decide) rfl (fun ls hl => ?_)
    refine lv_iconst (v := 1) C.1 hb dL_setRules_15 (by decide) ?_
    exact lwI (S := xR_rules S q k) (f := wOut (xR_rules S q k)) C hb hret hlk hP hS dL_setRules_16 (by rw [he]; decide) (fun z => by rw [he] at z; cases z)
  · refine lv_i2l C.1 hb dL_setRules_8 rfl ?_
    refine stO_out (j := 0) C hb hP hS (by decide) (by decide) dL_setRules_9 (fun H locs hP hS => ?_)
    refine lv_goto (tgt := 17) C.1 hb dL_setRules_10 (by decide) ?_
    refine lv_iconst (v := 0) C.1 hb dL_setRules_17 (by decide) ?_
    exact lwI (S := xR_rules S q k) C hb hret hlk hP hS dL_setRules_18 (by rw [he]; decide) (fun _ => pk_uLs)

set_option maxRecDepth 100000 in
set_option maxHeartbeats 4000000 in
theorem k_L_setFactor (l : Launch) (hl0 : l.stackTraces = false) (g : gG) (S : WS) (n : Nat) (hI : XI n S) (t k v : Int32) : Met l yL_setFactor (wL yL_setFactor cL_setFactor 6 (some .int) [(0, 12, 15, 21), (0, 12, 19, 13)]) ({ frames := 7, cells := 1, slots := 6, locals := 280 }) (PL g S [.ref (gA g 0), .int t, .int k, .int v, .ref (gA g 27)]) (LQ g (xR_fac S n t k v) eIOB (xE_fac t k v) (xFac S (tN t) (tN k)).toInt64) 1 6 (Ab g) := by
  refine metL (by decide +kernel) (Nat.le_of_ble_eq_true rfl) ?_
  intro p e s m below meth c C hN hb hml hret hlk hP het ls hl
  have C : CW g RL p s m ([.ref (gA g 0), .int t, .int k, .int v, .ref (gA g 27)] : List Value).toArray := C
  have het : c.exceptionTable.toList = [⟨0, 12, 15, 21⟩, ⟨0, 12, 19, 13⟩] := het
  have hS : va_S (Ab g) s.heap s.heap [] := va_S.rf
  have hl : lv_has ls 6 [(0, .ref (gA g 0)), (1, .int t), (2, .int k), (3, .int v), (4, .ref (gA g 27))] := hl
  refine lv_aload C.1 hb dL_setFactor_0 (lv_at hl 4 rfl) ?_
  refine lv_iconst (v := 0) C.1 hb dL_setFactor_2 (by decide) ?_
  refine lv_aload_n C.1 hb dL_setFactor_3 rfl (lv_at hl 0 rfl) ?_
  refine lv_iload_n C.1 hb dL_setFactor_4 rfl (lv_at hl 1 rfl) ?_
  refine lv_iload_n C.1 hb dL_setFactor_5 rfl (lv_at hl 2 rfl) ?_
  refine lv_iload_n C.1 hb dL_setFactor_6 rfl (lv_at hl 3 rfl) ?_
  refine run_tx (cRunTX (As := [.int t, .int k, .int v]) (rest := [.int 0, .ref (gA g 27)]) C hb (hml.trans hl.1.symm) hP hS rfl (k_X0_setFactor l hl0 g S n hI t k v) wm_171 wm_172 wm_173 wm_174 wm_2 (n := 3) (by decide +kernel) rfl ⟨rfl, rfl, Nat.le_of_ble_eq_true rfl, Nat.le_of_ble_eq_true rfl⟩ (Nat.le_of_ble_eq_true rfl) rfl ⟨Nat.le_of_ble_eq_true rfl, Nat.le_of_ble_eq_true rfl⟩ dL_setFactor_7) hS (fun E q9 ce H locs he hP hS hc1 hc2 hc3 => ?_) (fun H locs he hP hS => ?_)
  · rcases e_fac he with hE | hE <;> cases hE
    · refine lcatch0 C ⟨0, 12, 15, 21⟩ [⟨0, 12, 19, 13⟩] het (by decide) (by decide) wm_120 (by decide) hc1 hc2 hc3 ?_
      refine lv_astore (lv' := [(5, .ref q9), (0, .ref (gA g 0)), (1, .int t), (2, .int k), (3, .int v), (4, .ref (gA g 27))]) C.1 hb dL_setFactor_15 hl (by decide) rfl (fun ls hl => ?_)
      refine lv_iconst (v := 1) C.1 hb dL_setFactor_17 (by decide) ?_
      exact lwI (S := xR_fac S n t k v) (f := wOut (xR_fac S n t k v)) C hb hret hlk hP hS dL_setFactor_18 (by rw [he]; decide) (fun z => by rw [he] at z; cases z)
    · refine lcatch1 C ⟨0, 12, 15, 21⟩ ⟨0, 12, 19, 13⟩ [] het (by decide) wm_120 hN.2 (by decide) (by decide) wm_56 (by decide) hc1 hc2 hc3 ?_
      refine lv_astore (lv' := [(5, .ref q9), (0, .ref (gA g 0)), (1, .int t), (2, .int k), (3, .int v), (4, .ref (gA g 27))]) C.1 hb dL_setFactor_19 hl (by decide) rfl (fun ls hl => ?_)
      refine lv_iconst (v := 2) C.1 hb dL_setFactor_21 (by decide) ?_
      exact lwI (S := xR_fac S n t k v) (f := wOut (xR_fac S n t k v)) C hb hret hlk hP hS dL_setFactor_22 (by rw [he]; decide) (fun z => by rw [he] at z; cases z)
  · refine lv_i2l C.1 hb dL_setFactor_10 rfl ?_
    refine stO_out (j := 0) C hb hP hS (by decide) (by decide) dL_setFactor_11 (fun H locs hP hS => ?_)
    refine lv_goto (tgt := 23) C.1 hb dL_setFactor_12 (by decide) ?_
    refine lv_iconst (v := 0) C.1 hb dL_setFactor_23 (by decide) ?_
    exact lwI (S := xR_fac S n t k v) C hb hret hlk hP hS dL_setFactor_24 (by rw [he]; decide) (fun _ => pk_uLs)

set_option maxRecDepth 100000 in
set_option maxHeartbeats 4000000 in
theorem k_L_pass (l : Launch) (hl0 : l.stackTraces = false) (g : gG) (S : WS) (n : Nat) (hI : XI n S) (t : Int32) : Met l yL_pass (wL yL_pass cL_pass 4 (some .int) [(0, 9, 12, 21)]) ({ frames := 7, cells := 1, slots := 6, locals := 280 }) (PL g S [.ref (gA g 0), .int t, .ref (gA g 27)]) (LQ g (xR_pass S n t) eIOB (xE_trait t) (nI (xPassC S n (tN t))).toInt64) 1 6 (Ab g) := by
  refine metL (by decide +kernel) (Nat.le_of_ble_eq_true rfl) ?_
  intro p e s m below meth c C hN hb hml hret hlk hP het ls hl
  have C : CW g RL p s m ([.ref (gA g 0), .int t, .ref (gA g 27)] : List Value).toArray := C
  have het : c.exceptionTable.toList = [⟨0, 9, 12, 21⟩] := het
  have hS : va_S (Ab g) s.heap s.heap [] := va_S.rf
  have hl : lv_has ls 4 [(0, .ref (gA g 0)), (1, .int t), (2, .ref (gA g 27))] := hl
  refine lv_aload_n C.1 hb dL_pass_0 rfl (lv_at hl 2 rfl) ?_
  refine lv_iconst (v := 0) C.1 hb dL_pass_1 (by decide) ?_
  refine lv_aload_n C.1 hb dL_pass_2 rfl (lv_at hl 0 rfl) ?_
  refine lv_iload_n C.1 hb dL_pass_3 rfl (lv_at hl 1 rfl) ?_
  refine run_tx (cRunTX (As := [.int t]) (rest := [.int 0, .ref (gA g 27)]) C hb (hml.trans hl.1.symm) hP hS rfl (k_X0_pass l hl0 g S n hI t) wm_184 wm_185 wm_186 wm_187 wm_2 (n := 1) (by decide +kernel) rfl ⟨rfl, rfl, Nat.le_of_ble_eq_true rfl, Nat.le_of_ble_eq_true rfl⟩ (Nat.le_of_ble_eq_true rfl) rfl ⟨Nat.le_of_ble_eq_true rfl, Nat.le_of_ble_eq_true rfl⟩ dL_pass_4) hS (fun E q9 ce H locs he hP hS hc1 hc2 hc3 => ?_) (fun H locs he hP hS => ?_)
  · cases e_trait he
    refine lcatch0 C ⟨0, 9, 12, 21⟩ [] het (by decide) (by decide) wm_120 (by decide) hc1 hc2 hc3 ?_
    refine lv_astore_n (lv' := [(3, .ref q9), (0, .ref (gA g 0)), (1, .int t), (2, .ref (gA g 27))]) C.1 hb dL_pass_12 rfl hl (by decide) rfl (fun ls hl => ?_)
    refine lv_iconst (v := 1) C.1 hb dL_pass_13 (by decide) ?_
    exact lwI (S := xR_pass S n t) (f := wOut (xR_pass S n t)) C hb hret hlk hP hS dL_pass_14 (by rw [he]; decide) (fun z => by rw [he] at z; cases z)
  · refine lv_i2l C.1 hb dL_pass_7 rfl ?_
    refine stO_out (j := 0) C hb hP hS (by decide) (by decide) dL_pass_8 (fun H locs hP hS => ?_)
    refine lv_goto (tgt := 15) C.1 hb dL_pass_9 (by decide) ?_
    refine lv_iconst (v := 0) C.1 hb dL_pass_15 (by decide) ?_
    exact lwI (S := xR_pass S n t) C hb hret hlk hP hS dL_pass_16 (by rw [he]; decide) (fun _ => pk_uLs)

set_option maxRecDepth 100000 in
set_option maxHeartbeats 4000000 in
theorem k_L_smooth (l : Launch) (hl0 : l.stackTraces = false) (g : gG) (S : WS) (n : Nat) (hI : XI n S) (t : Int32) : Met l yL_smooth (wL yL_smooth cL_smooth 4 (some .int) [(0, 9, 12, 21)]) ({ frames := 7, cells := 1, slots := 6, locals := 280 }) (PL g S [.ref (gA g 0), .int t, .ref (gA g 27)]) (LQ g (xR_smooth S n t) eIOB (xE_trait t) (nI (xV_smooth S n (tN t))).toInt64) 1 6 (Ab g) := by
  refine metL (by decide +kernel) (Nat.le_of_ble_eq_true rfl) ?_
  intro p e s m below meth c C hN hb hml hret hlk hP het ls hl
  have C : CW g RL p s m ([.ref (gA g 0), .int t, .ref (gA g 27)] : List Value).toArray := C
  have het : c.exceptionTable.toList = [⟨0, 9, 12, 21⟩] := het
  have hS : va_S (Ab g) s.heap s.heap [] := va_S.rf
  have hl : lv_has ls 4 [(0, .ref (gA g 0)), (1, .int t), (2, .ref (gA g 27))] := hl
  refine lv_aload_n C.1 hb dL_smooth_0 rfl (lv_at hl 2 rfl) ?_
  refine lv_iconst (v := 0) C.1 hb dL_smooth_1 (by decide) ?_
  refine lv_aload_n C.1 hb dL_smooth_2 rfl (lv_at hl 0 rfl) ?_
  refine lv_iload_n C.1 hb dL_smooth_3 rfl (lv_at hl 1 rfl) ?_
  refine run_tx (cRunTX (As := [.int t]) (rest := [.int 0, .ref (gA g 27)]) C hb (hml.trans hl.1.symm) hP hS rfl (k_X0_smooth l hl0 g S n hI t) wm_265 wm_266 wm_267 wm_268 wm_2 (n := 1) (by decide +kernel) rfl ⟨rfl, rfl, Nat.le_of_ble_eq_true rfl, Nat.le_of_ble_eq_true rfl⟩ (Nat.le_of_ble_eq_true rfl) rfl ⟨Nat.le_of_ble_eq_true rfl, Nat.le_of_ble_eq_true rfl⟩ dL_smooth_4) hS (fun E q9 ce H locs he hP hS hc1 hc2 hc3 => ?_) (fun H locs he hP hS => ?_)
  · cases e_trait he
    refine lcatch0 C ⟨0, 9, 12, 21⟩ [] het (by decide) (by decide) wm_120 (by decide) hc1 hc2 hc3 ?_
    refine lv_astore_n (lv' := [(3, .ref q9), (0, .ref (gA g 0)), (1, .int t), (2, .ref (gA g 27))]) C.1 hb dL_smooth_12 rfl hl (by decide) rfl (fun ls hl => ?_)
    refine lv_iconst (v := 1) C.1 hb dL_smooth_13 (by decide) ?_
    exact lwI (S := xR_smooth S n t) (f := wOut (xR_smooth S n t)) C hb hret hlk hP hS dL_smooth_14 (by rw [he]; decide) (fun z => by rw [he] at z; cases z)
  · refine lv_i2l C.1 hb dL_smooth_7 rfl ?_
    refine stO_out (j := 0) C hb hP hS (by decide) (by decide) dL_smooth_8 (fun H locs hP hS => ?_)
    refine lv_goto (tgt := 15) C.1 hb dL_smooth_9 (by decide) ?_
    refine lv_iconst (v := 0) C.1 hb dL_smooth_15 (by decide) ?_
    exact lwI (S := xR_smooth S n t) C hb hret hlk hP hS dL_smooth_16 (by rw [he]; decide) (fun _ => pk_uLs)

set_option maxRecDepth 100000 in
set_option maxHeartbeats 4000000 in
theorem k_L_factor (l : Launch) (hl0 : l.stackTraces = false) (g : gG) (S : WS) (t k : Int32) : Met l yL_factor (wL yL_factor cL_factor 5 (some .int) [(0, 10, 13, 21)]) ({ frames := 7, cells := 1, slots := 6, locals := 280 }) (PL g S [.ref (gA g 0), .int t, .int k, .ref (gA g 27)]) (LQ g S eIOB (xE_level t k) (xFac S (tN t) (tN k)).toInt64) 1 6 (Ab g) := by
  refine metL (by decide +kernel) (Nat.le_of_ble_eq_true rfl) ?_
  intro p e s m below meth c C hN hb hml hret hlk hP het ls hl
  have C : CW g RL p s m ([.ref (gA g 0), .int t, .int k, .ref (gA g 27)] : List Value).toArray := C
  have het : c.exceptionTable.toList = [⟨0, 10, 13, 21⟩] := het
  have hS : va_S (Ab g) s.heap s.heap [] := va_S.rf
  have hl : lv_has ls 5 [(0, .ref (gA g 0)), (1, .int t), (2, .int k), (3, .ref (gA g 27))] := hl
  refine lv_aload_n C.1 hb dL_factor_0 rfl (lv_at hl 3 rfl) ?_
  refine lv_iconst (v := 0) C.1 hb dL_factor_1 (by decide) ?_
  refine lv_aload_n C.1 hb dL_factor_2 rfl (lv_at hl 0 rfl) ?_
  refine lv_iload_n C.1 hb dL_factor_3 rfl (lv_at hl 1 rfl) ?_
  refine lv_iload_n C.1 hb dL_factor_4 rfl (lv_at hl 2 rfl) ?_
  refine run_tx (cRunTX (As := [.int t, .int k]) (rest := [.int 0, .ref (gA g 27)]) C hb (hml.trans hl.1.symm) hP hS rfl (k_X0_factor l hl0 g S t k) wm_361 wm_362 wm_363 wm_364 wm_2 (n := 2) (by decide +kernel) rfl ⟨rfl, rfl, Nat.le_of_ble_eq_true rfl, Nat.le_of_ble_eq_true rfl⟩ (Nat.le_of_ble_eq_true rfl) rfl ⟨Nat.le_of_ble_eq_true rfl, Nat.le_of_ble_eq_true rfl⟩ dL_factor_5) hS (fun E q9 ce H locs he hP hS hc1 hc2 hc3 => ?_) (fun H locs he hP hS => ?_)
  · cases e_level he
    refine lcatch0 C ⟨0, 10, 13, 21⟩ [] het (by decide) (by decide) wm_120 (by decide) hc1 hc2 hc3 ?_
    refine lv_astore (lv' := [(4, .ref q9), (0, .ref (gA g 0)), (1, .int t), (2, .int k), (3, .ref (gA g 27))]) C.1 hb dL_factor_13 hl (by decide) rfl (fun ls hl => ?_)
    refine lv_iconst (v := 1) C.1 hb dL_factor_15 (by decide) ?_
    exact lwI (S := S) (f := wOut S) C hb hret hlk hP hS dL_factor_16 (by rw [he]; decide) (fun z => by rw [he] at z; cases z)
  · refine lv_i2l C.1 hb dL_factor_8 rfl ?_
    refine stO_out (j := 0) C hb hP hS (by decide) (by decide) dL_factor_9 (fun H locs hP hS => ?_)
    refine lv_goto (tgt := 17) C.1 hb dL_factor_10 (by decide) ?_
    refine lv_iconst (v := 0) C.1 hb dL_factor_17 (by decide) ?_
    exact lwI (S := S) C hb hret hlk hP hS dL_factor_18 (by rw [he]; decide) (fun _ => pk_uLs)

set_option maxRecDepth 100000 in
set_option maxHeartbeats 4000000 in
theorem k_L_fitted (l : Launch) (hl0 : l.stackTraces = false) (g : gG) (S : WS) (n : Nat) (hI : XI n S) (r : Int32) : Met l yL_fitted (wL yL_fitted cL_fitted 4 (some .int) [(0, 8, 11, 21)]) ({ frames := 7, cells := 1, slots := 6, locals := 280 }) (PL g S [.ref (gA g 0), .int r, .ref (gA g 27)]) (LQ g S eIOB (xE_row S r) (xLng S 3 (tN r))) 1 6 (Ab g) := by
  refine metL (by decide +kernel) (Nat.le_of_ble_eq_true rfl) ?_
  intro p e s m below meth c C hN hb hml hret hlk hP het ls hl
  have C : CW g RL p s m ([.ref (gA g 0), .int r, .ref (gA g 27)] : List Value).toArray := C
  have het : c.exceptionTable.toList = [⟨0, 8, 11, 21⟩] := het
  have hS : va_S (Ab g) s.heap s.heap [] := va_S.rf
  have hl : lv_has ls 4 [(0, .ref (gA g 0)), (1, .int r), (2, .ref (gA g 27))] := hl
  refine lv_aload_n C.1 hb dL_fitted_0 rfl (lv_at hl 2 rfl) ?_
  refine lv_iconst (v := 0) C.1 hb dL_fitted_1 (by decide) ?_
  refine lv_aload_n C.1 hb dL_fitted_2 rfl (lv_at hl 0 rfl) ?_
  refine lv_iload_n C.1 hb dL_fitted_3 rfl (lv_at hl 1 rfl) ?_
  refine run_tx (cRunTX (As := [.int r]) (rest := [.int 0, .ref (gA g 27)]) C hb (hml.trans hl.1.symm) hP hS rfl (k_X0_fitted l hl0 g S n hI r) wm_372 wm_373 wm_374 wm_375 wm_2 (n := 1) (by decide +kernel) rfl ⟨rfl, rfl, Nat.le_of_ble_eq_true rfl, Nat.le_of_ble_eq_true rfl⟩ (Nat.le_of_ble_eq_true rfl) rfl ⟨Nat.le_of_ble_eq_true rfl, Nat.le_of_ble_eq_true rfl⟩ dL_fitted_4) hS (fun E q9 ce H locs he hP hS hc1 hc2 hc3 => ?_) (fun H locs he hP hS => ?_)
  · cases e_row he
    refine lcatch0 C ⟨0, 8, 11, 21⟩ [] het (by decide) (by decide) wm_120 (by decide) hc1 hc2 hc3 ?_
    refine lv_astore_n (lv' := [(3, .ref q9), (0, .ref (gA g 0)), (1, .int r), (2, .ref (gA g 27))]) C.1 hb dL_fitted_11 rfl hl (by decide) rfl (fun ls hl => ?_)
    refine lv_iconst (v := 1) C.1 hb dL_fitted_12 (by decide) ?_
    exact lwI (S := S) (f := wOut S) C hb hret hlk hP hS dL_fitted_13 (by rw [he]; decide) (fun z => by rw [he] at z; cases z)
  · refine stO_out (j := 0) C hb hP hS (by decide) (by decide) dL_fitted_7 (fun H locs hP hS => ?_)
    refine lv_goto (tgt := 14) C.1 hb dL_fitted_8 (by decide) ?_
    refine lv_iconst (v := 0) C.1 hb dL_fitted_14 (by decide) ?_
    exact lwI (S := S) C hb hret hlk hP hS dL_fitted_15 (by rw [he]; decide) (fun _ => pk_uLs)

set_option maxRecDepth 100000 in
set_option maxHeartbeats 4000000 in
theorem k_L_toldSum (l : Launch) (hl0 : l.stackTraces = false) (g : gG) (S : WS) (n : Nat) (hI : XI n S) (t k : Int32) : Met l yL_toldSum (wL yL_toldSum cL_toldSum 5 (some .int) [(0, 9, 12, 21)]) ({ frames := 7, cells := 1, slots := 6, locals := 280 }) (PL g S [.ref (gA g 0), .int t, .int k, .ref (gA g 27)]) (LQ g S eIOB (xE_level t k) (xLTot (xIa S 1) (xLev S (tN t)) k (xLng S 2) n)) 1 6 (Ab g) := by
  refine metL (by decide +kernel) (Nat.le_of_ble_eq_true rfl) ?_
  intro p e s m below meth c C hN hb hml hret hlk hP het ls hl
  have C : CW g RL p s m ([.ref (gA g 0), .int t, .int k, .ref (gA g 27)] : List Value).toArray := C
  have het : c.exceptionTable.toList = [⟨0, 9, 12, 21⟩] := het
  have hS : va_S (Ab g) s.heap s.heap [] := va_S.rf
  have hl : lv_has ls 5 [(0, .ref (gA g 0)), (1, .int t), (2, .int k), (3, .ref (gA g 27))] := hl
  refine lv_aload_n C.1 hb dL_toldSum_0 rfl (lv_at hl 3 rfl) ?_
  refine lv_iconst (v := 0) C.1 hb dL_toldSum_1 (by decide) ?_
  refine lv_aload_n C.1 hb dL_toldSum_2 rfl (lv_at hl 0 rfl) ?_
  refine lv_iload_n C.1 hb dL_toldSum_3 rfl (lv_at hl 1 rfl) ?_
  refine lv_iload_n C.1 hb dL_toldSum_4 rfl (lv_at hl 2 rfl) ?_
  refine run_tx (cRunTX (As := [.int t, .int k]) (rest := [.int 0, .ref (gA g 27)]) C hb (hml.trans hl.1.symm) hP hS rfl (k_X0_toldSum l hl0 g S n hI t k) wm_383 wm_384 wm_385 wm_386 wm_2 (n := 2) (by decide +kernel) rfl ⟨rfl, rfl, Nat.le_of_ble_eq_true rfl, Nat.le_of_ble_eq_true rfl⟩ (Nat.le_of_ble_eq_true rfl) rfl ⟨Nat.le_of_ble_eq_true rfl, Nat.le_of_ble_eq_true rfl⟩ dL_toldSum_5) hS (fun E q9 ce H locs he hP hS hc1 hc2 hc3 => ?_) (fun H locs he hP hS => ?_)
  · cases e_level he
    refine lcatch0 C ⟨0, 9, 12, 21⟩ [] het (by decide) (by decide) wm_120 (by decide) hc1 hc2 hc3 ?_
    refine lv_astore (lv' := [(4, .ref q9), (0, .ref (gA g 0)), (1, .int t), (2, .int k), (3, .ref (gA g 27))]) C.1 hb dL_toldSum_12 hl (by decide) rfl (fun ls hl => ?_)
    refine lv_iconst (v := 1) C.1 hb dL_toldSum_14 (by decide) ?_
    exact lwI (S := S) (f := wOut S) C hb hret hlk hP hS dL_toldSum_15 (by rw [he]; decide) (fun z => by rw [he] at z; cases z)
  · refine stO_out (j := 0) C hb hP hS (by decide) (by decide) dL_toldSum_8 (fun H locs hP hS => ?_)
    refine lv_goto (tgt := 16) C.1 hb dL_toldSum_9 (by decide) ?_
    refine lv_iconst (v := 0) C.1 hb dL_toldSum_16 (by decide) ?_
    exact lwI (S := S) C hb hret hlk hP hS dL_toldSum_17 (by rw [he]; decide) (fun _ => pk_uLs)

set_option maxRecDepth 100000 in
set_option maxHeartbeats 4000000 in
theorem k_L_fittedSum (l : Launch) (hl0 : l.stackTraces = false) (g : gG) (S : WS) (n : Nat) (hI : XI n S) (t k : Int32) : Met l yL_fittedSum (wL yL_fittedSum cL_fittedSum 5 (some .int) [(0, 9, 12, 21)]) ({ frames := 7, cells := 1, slots := 6, locals := 280 }) (PL g S [.ref (gA g 0), .int t, .int k, .ref (gA g 27)]) (LQ g S eIOB (xE_level t k) (xLTot (xIa S 1) (xLev S (tN t)) k (xLng S 3) n)) 1 6 (Ab g) := by
  refine metL (by decide +kernel) (Nat.le_of_ble_eq_true rfl) ?_
  intro p e s m below meth c C hN hb hml hret hlk hP het ls hl
  have C : CW g RL p s m ([.ref (gA g 0), .int t, .int k, .ref (gA g 27)] : List Value).toArray := C
  have het : c.exceptionTable.toList = [⟨0, 9, 12, 21⟩] := het
  have hS : va_S (Ab g) s.heap s.heap [] := va_S.rf
  have hl : lv_has ls 5 [(0, .ref (gA g 0)), (1, .int t), (2, .int k), (3, .ref (gA g 27))] := hl
  refine lv_aload_n C.1 hb dL_fittedSum_0 rfl (lv_at hl 3 rfl) ?_
  refine lv_iconst (v := 0) C.1 hb dL_fittedSum_1 (by decide) ?_
  refine lv_aload_n C.1 hb dL_fittedSum_2 rfl (lv_at hl 0 rfl) ?_
  refine lv_iload_n C.1 hb dL_fittedSum_3 rfl (lv_at hl 1 rfl) ?_
  refine lv_iload_n C.1 hb dL_fittedSum_4 rfl (lv_at hl 2 rfl) ?_
  refine run_tx (cRunTX (As := [.int t, .int k]) (rest := [.int 0, .ref (gA g 27)]) C hb (hml.trans hl.1.symm) hP hS rfl (k_X0_fittedSum l hl0 g S n hI t k) wm_394 wm_395 wm_396 wm_397 wm_2 (n := 2) (by decide +kernel) rfl ⟨rfl, rfl, Nat.le_of_ble_eq_true rfl, Nat.le_of_ble_eq_true rfl⟩ (Nat.le_of_ble_eq_true rfl) rfl ⟨Nat.le_of_ble_eq_true rfl, Nat.le_of_ble_eq_true rfl⟩ dL_fittedSum_5) hS (fun E q9 ce H locs he hP hS hc1 hc2 hc3 => ?_) (fun H locs he hP hS => ?_)
  · cases e_level he
    refine lcatch0 C ⟨0, 9, 12, 21⟩ [] het (by decide) (by decide) wm_120 (by decide) hc1 hc2 hc3 ?_
    refine lv_astore (lv' := [(4, .ref q9), (0, .ref (gA g 0)), (1, .int t), (2, .int k), (3, .ref (gA g 27))]) C.1 hb dL_fittedSum_12 hl (by decide) rfl (fun ls hl => ?_)
    refine lv_iconst (v := 1) C.1 hb dL_fittedSum_14 (by decide) ?_
    exact lwI (S := S) (f := wOut S) C hb hret hlk hP hS dL_fittedSum_15 (by rw [he]; decide) (fun z => by rw [he] at z; cases z)
  · refine stO_out (j := 0) C hb hP hS (by decide) (by decide) dL_fittedSum_8 (fun H locs hP hS => ?_)
    refine lv_goto (tgt := 16) C.1 hb dL_fittedSum_9 (by decide) ?_
    refine lv_iconst (v := 0) C.1 hb dL_fittedSum_16 (by decide) ?_
    exact lwI (S := S) C hb hret hlk hP hS dL_fittedSum_17 (by rw [he]; decide) (fun _ => pk_uLs)

set_option maxRecDepth 100000 in
set_option maxHeartbeats 4000000 in
theorem k_L_worst (l : Launch) (hl0 : l.stackTraces = false) (g : gG) (S : WS) (n : Nat) (hI : XI n S) (t : Int32) : Met l yL_worst (wL yL_worst cL_worst 4 (some .int) [(0, 8, 11, 21)]) ({ frames := 7, cells := 1, slots := 6, locals := 280 }) (PL g S [.ref (gA g 0), .int t, .ref (gA g 27)]) (LQ g S eIOB (xE_trait t) (xWorst S n (tN t) (levN (tN t)))) 1 6 (Ab g) := by
  refine metL (by decide +kernel) (Nat.le_of_ble_eq_true rfl) ?_
  intro p e s m below meth c C hN hb hml hret hlk hP het ls hl
  have C : CW g RL p s m ([.ref (gA g 0), .int t, .ref (gA g 27)] : List Value).toArray := C
  have het : c.exceptionTable.toList = [⟨0, 8, 11, 21⟩] := het
  have hS : va_S (Ab g) s.heap s.heap [] := va_S.rf
  have hl : lv_has ls 4 [(0, .ref (gA g 0)), (1, .int t), (2, .ref (gA g 27))] := hl
  refine lv_aload_n C.1 hb dL_worst_0 rfl (lv_at hl 2 rfl) ?_
  refine lv_iconst (v := 0) C.1 hb dL_worst_1 (by decide) ?_
  refine lv_aload_n C.1 hb dL_worst_2 rfl (lv_at hl 0 rfl) ?_
  refine lv_iload_n C.1 hb dL_worst_3 rfl (lv_at hl 1 rfl) ?_
  refine run_tx (cRunTX (As := [.int t]) (rest := [.int 0, .ref (gA g 27)]) C hb (hml.trans hl.1.symm) hP hS rfl (k_X0_worst l hl0 g S n hI t) wm_405 wm_406 wm_407 wm_408 wm_2 (n := 1) (by decide +kernel) rfl ⟨rfl, rfl, Nat.le_of_ble_eq_true rfl, Nat.le_of_ble_eq_true rfl⟩ (Nat.le_of_ble_eq_true rfl) rfl ⟨Nat.le_of_ble_eq_true rfl, Nat.le_of_ble_eq_true rfl⟩ dL_worst_4) hS (fun E q9 ce H locs he hP hS hc1 hc2 hc3 => ?_) (fun H locs he hP hS => ?_)
  · cases e_trait he
    refine lcatch0 C ⟨0, 8, 11, 21⟩ [] het (by decide) (by decide) wm_120 (by decide) hc1 hc2 hc3 ?_
    refine lv_astore_n (lv' := [(3, .ref q9), (0, .ref (gA g 0)), (1, .int t), (2, .ref (gA g 27))]) C.1 hb dL_worst_11 rfl hl (by decide) rfl (fun ls hl => ?_)
    refine lv_iconst (v := 1) C.1 hb dL_worst_12 (by decide) ?_
    exact lwI (S := S) (f := wOut S) C hb hret hlk hP hS dL_worst_13 (by rw [he]; decide) (fun z => by rw [he] at z; cases z)
  · refine stO_out (j := 0) C hb hP hS (by decide) (by decide) dL_worst_7 (fun H locs hP hS => ?_)
    refine lv_goto (tgt := 14) C.1 hb dL_worst_8 (by decide) ?_
    refine lv_iconst (v := 0) C.1 hb dL_worst_14 (by decide) ?_
    exact lwI (S := S) C hb hret hlk hP hS dL_worst_15 (by rw [he]; decide) (fun _ => pk_uLs)

set_option maxRecDepth 100000 in
set_option maxHeartbeats 4000000 in
theorem k_L_premium (l : Launch) (hl0 : l.stackTraces = false) (g : gG) (S : WS) (n : Nat) (hI : XI n S) (r : Int32) : Met l yL_premium (wL yL_premium cL_premium 4 (some .int) [(0, 8, 11, 21)]) ({ frames := 7, cells := 1, slots := 6, locals := 280 }) (PL g S [.ref (gA g 0), .int r, .ref (gA g 27)]) (LQ g S eIOB (xE_row S r) (xNewP S (tN r))) 1 6 (Ab g) := by
  refine metL (by decide +kernel) (Nat.le_of_ble_eq_true rfl) ?_
  intro p e s m below meth c C hN hb hml hret hlk hP het ls hl
  have C : CW g RL p s m ([.ref (gA g 0), .int r, .ref (gA g 27)] : List Value).toArray := C
  have het : c.exceptionTable.toList = [⟨0, 8, 11, 21⟩] := het
  have hS : va_S (Ab g) s.heap s.heap [] := va_S.rf
  have hl : lv_has ls 4 [(0, .ref (gA g 0)), (1, .int r), (2, .ref (gA g 27))] := hl
  refine lv_aload_n C.1 hb dL_premium_0 rfl (lv_at hl 2 rfl) ?_
  refine lv_iconst (v := 0) C.1 hb dL_premium_1 (by decide) ?_
  refine lv_aload_n C.1 hb dL_premium_2 rfl (lv_at hl 0 rfl) ?_
  refine lv_iload_n C.1 hb dL_premium_3 rfl (lv_at hl 1 rfl) ?_
  refine run_tx (cRunTX (As := [.int r]) (rest := [.int 0, .ref (gA g 27)]) C hb (hml.trans hl.1.symm) hP hS rfl (k_X0_premium l hl0 g S n hI r) wm_419 wm_420 wm_421 wm_422 wm_2 (n := 1) (by decide +kernel) rfl ⟨rfl, rfl, Nat.le_of_ble_eq_true rfl, Nat.le_of_ble_eq_true rfl⟩ (Nat.le_of_ble_eq_true rfl) rfl ⟨Nat.le_of_ble_eq_true rfl, Nat.le_of_ble_eq_true rfl⟩ dL_premium_4) hS (fun E q9 ce H locs he hP hS hc1 hc2 hc3 => ?_) (fun H locs he hP hS => ?_)
  · cases e_row he
    refine lcatch0 C ⟨0, 8, 11, 21⟩ [] het (by decide) (by decide) wm_120 (by decide) hc1 hc2 hc3 ?_
    refine lv_astore_n (lv' := [(3, .ref q9), (0, .ref (gA g 0)), (1, .int r), (2, .ref (gA g 27))]) C.1 hb dL_premium_11 rfl hl (by decide) rfl (fun ls hl => ?_)
    refine lv_iconst (v := 1) C.1 hb dL_premium_12 (by decide) ?_
    exact lwI (S := S) (f := wOut S) C hb hret hlk hP hS dL_premium_13 (by rw [he]; decide) (fun z => by rw [he] at z; cases z)
  · refine stO_out (j := 0) C hb hP hS (by decide) (by decide) dL_premium_7 (fun H locs hP hS => ?_)
    refine lv_goto (tgt := 14) C.1 hb dL_premium_8 (by decide) ?_
    refine lv_iconst (v := 0) C.1 hb dL_premium_14 (by decide) ?_
    exact lwI (S := S) C hb hret hlk hP hS dL_premium_15 (by rw [he]; decide) (fun _ => pk_uLs)

set_option maxRecDepth 100000 in
set_option maxHeartbeats 4000000 in
theorem k_L_capped (l : Launch) (hl0 : l.stackTraces = false) (g : gG) (S : WS) (n : Nat) (hI : XI n S) (r : Int32) : Met l yL_capped (wL yL_capped cL_capped 4 (some .int) [(0, 8, 11, 21)]) ({ frames := 7, cells := 1, slots := 6, locals := 280 }) (PL g S [.ref (gA g 0), .int r, .ref (gA g 27)]) (LQ g S eIOB (xE_row S r) (xCapP S (tN r))) 1 6 (Ab g) := by
  refine metL (by decide +kernel) (Nat.le_of_ble_eq_true rfl) ?_
  intro p e s m below meth c C hN hb hml hret hlk hP het ls hl
  have C : CW g RL p s m ([.ref (gA g 0), .int r, .ref (gA g 27)] : List Value).toArray := C
  have het : c.exceptionTable.toList = [⟨0, 8, 11, 21⟩] := het
  have hS : va_S (Ab g) s.heap s.heap [] := va_S.rf
  have hl : lv_has ls 4 [(0, .ref (gA g 0)), (1, .int r), (2, .ref (gA g 27))] := hl
  refine lv_aload_n C.1 hb dL_capped_0 rfl (lv_at hl 2 rfl) ?_
  refine lv_iconst (v := 0) C.1 hb dL_capped_1 (by decide) ?_
  refine lv_aload_n C.1 hb dL_capped_2 rfl (lv_at hl 0 rfl) ?_
  refine lv_iload_n C.1 hb dL_capped_3 rfl (lv_at hl 1 rfl) ?_
  refine run_tx (cRunTX (As := [.int r]) (rest := [.int 0, .ref (gA g 27)]) C hb (hml.trans hl.1.symm) hP hS rfl (k_X0_capped l hl0 g S n hI r) wm_430 wm_431 wm_432 wm_433 wm_2 (n := 1) (by decide +kernel) rfl ⟨rfl, rfl, Nat.le_of_ble_eq_true rfl, Nat.le_of_ble_eq_true rfl⟩ (Nat.le_of_ble_eq_true rfl) rfl ⟨Nat.le_of_ble_eq_true rfl, Nat.le_of_ble_eq_true rfl⟩ dL_capped_4) hS (fun E q9 ce H locs he hP hS hc1 hc2 hc3 => ?_) (fun H locs he hP hS => ?_)
  · cases e_row he
    refine lcatch0 C ⟨0, 8, 11, 21⟩ [] het (by decide) (by decide) wm_120 (by decide) hc1 hc2 hc3 ?_
    refine lv_astore_n (lv' := [(3, .ref q9), (0, .ref (gA g 0)), (1, .int r), (2, .ref (gA g 27))]) C.1 hb dL_capped_11 rfl hl (by decide) rfl (fun ls hl => ?_)
    refine lv_iconst (v := 1) C.1 hb dL_capped_12 (by decide) ?_
    exact lwI (S := S) (f := wOut S) C hb hret hlk hP hS dL_capped_13 (by rw [he]; decide) (fun z => by rw [he] at z; cases z)
  · refine stO_out (j := 0) C hb hP hS (by decide) (by decide) dL_capped_7 (fun H locs hP hS => ?_)
    refine lv_goto (tgt := 14) C.1 hb dL_capped_8 (by decide) ?_
    refine lv_iconst (v := 0) C.1 hb dL_capped_14 (by decide) ?_
    exact lwI (S := S) C hb hret hlk hP hS dL_capped_15 (by rw [he]; decide) (fun _ => pk_uLs)

set_option maxRecDepth 100000 in
set_option maxHeartbeats 4000000 in
theorem k_L_rankedAt (l : Launch) (hl0 : l.stackTraces = false) (g : gG) (S : WS) (n : Nat) (hI : XI n S) (q : Int32) : Met l yL_rankedAt (wL yL_rankedAt cL_rankedAt 4 (some .int) [(0, 9, 12, 21)]) ({ frames := 7, cells := 1, slots := 6, locals := 280 }) (PL g S [.ref (gA g 0), .int q, .ref (gA g 27)]) (LQ g S eIOB (xE_rank S n q) (nI ((xRank S n q).getD 0)).toInt64) 1 6 (Ab g) := by
  refine metL (by decide +kernel) (Nat.le_of_ble_eq_true rfl) ?_
  intro p e s m below meth c C hN hb hml hret hlk hP het ls hl
  have C : CW g RL p s m ([.ref (gA g 0), .int q, .ref (gA g 27)] : List Value).toArray := C
  have het : c.exceptionTable.toList = [⟨0, 9, 12, 21⟩] := het
  have hS : va_S (Ab g) s.heap s.heap [] := va_S.rf
  have hl : lv_has ls 4 [(0, .ref (gA g 0)), (1, .int q), (2, .ref (gA g 27))] := hl
  refine lv_aload_n C.1 hb dL_rankedAt_0 rfl (lv_at hl 2 rfl) ?_
  refine lv_iconst (v := 0) C.1 hb dL_rankedAt_1 (by decide) ?_
  refine lv_aload_n C.1 hb dL_rankedAt_2 rfl (lv_at hl 0 rfl) ?_
  refine lv_iload_n C.1 hb dL_rankedAt_3 rfl (lv_at hl 1 rfl) ?_
  refine run_tx (cRunTX (As := [.int q]) (rest := [.int 0, .ref (gA g 27)]) C hb (hml.trans hl.1.symm) hP hS rfl (k_X0_rankedAt l hl0 g S n hI q) wm_449 wm_450 wm_451 wm_452 wm_2 (n := 1) (by decide +kernel) rfl ⟨rfl, rfl, Nat.le_of_ble_eq_true rfl, Nat.le_of_ble_eq_true rfl⟩ (Nat.le_of_ble_eq_true rfl) rfl ⟨Nat.le_of_ble_eq_true rfl, Nat.le_of_ble_eq_true rfl⟩ dL_rankedAt_4) hS (fun E q9 ce H locs he hP hS hc1 hc2 hc3 => ?_) (fun H locs he hP hS => ?_)
  · cases e_rank he
    refine lcatch0 C ⟨0, 9, 12, 21⟩ [] het (by decide) (by decide) wm_120 (by decide) hc1 hc2 hc3 ?_
    refine lv_astore_n (lv' := [(3, .ref q9), (0, .ref (gA g 0)), (1, .int q), (2, .ref (gA g 27))]) C.1 hb dL_rankedAt_12 rfl hl (by decide) rfl (fun ls hl => ?_)
    refine lv_iconst (v := 1) C.1 hb dL_rankedAt_13 (by decide) ?_
    exact lwI (S := S) (f := wOut S) C hb hret hlk hP hS dL_rankedAt_14 (by rw [he]; decide) (fun z => by rw [he] at z; cases z)
  · refine lv_i2l C.1 hb dL_rankedAt_7 rfl ?_
    refine stO_out (j := 0) C hb hP hS (by decide) (by decide) dL_rankedAt_8 (fun H locs hP hS => ?_)
    refine lv_goto (tgt := 15) C.1 hb dL_rankedAt_9 (by decide) ?_
    refine lv_iconst (v := 0) C.1 hb dL_rankedAt_15 (by decide) ?_
    exact lwI (S := S) C hb hret hlk hP hS dL_rankedAt_16 (by rw [he]; decide) (fun _ => pk_uLs)
