set_option maxRecDepth 100000 in
set_option maxHeartbeats 4000000 in
theorem k_X0_withdraw (l : Launch) (hl0 : l.stackTraces = false) (g : gG) (S : WS) (n : Nat) (hI : XI n S) (r : Int32) : vx_Met l yX0_withdraw (wA yX0_withdraw cX0_withdraw 2 (some .int)) ({ frames := 6, cells := 1, slots := 6, locals := 250 }) (PW g S [.ref (gA g 0), .int r]) (TQ g (xR_wd S n r) (xE_row S r) (some (.int (xSc S 1 - 1)))) (TX g (xR_wd S n r) (xE_row S r)) 1 6 (Ab g) := by
  refine metX (by decide +kernel) (Nat.le_of_ble_eq_true rfl) ?_
  intro p e s m below meth c C hb hml hret hlk hP het ls hl
  have C : CW g RX0 p s m ([.ref (gA g 0), .int r] : List Value).toArray := C
  have hS : va_S (Ab g) s.heap s.heap [] := va_S.rf
  have hl : lv_has ls 2 [(0, .ref (gA g 0)), (1, .int r)] := hl
  refine lv_aload_n C.1 hb dX0_withdraw_0 rfl (lv_at hl 0 rfl) ?_
  refine lv_iload_n C.1 hb dX0_withdraw_1 rfl (lv_at hl 1 rfl) ?_
  refine run_rd (cRunX (As := [.int r]) (rest := []) C hb (hml.trans hl.1.symm) hP hS rfl (k_X0_hasRow l g S n hI r) wm_139 wm_140 wm_141 wm_142 wm_12 (n := 1) (by decide +kernel) rfl ⟨rfl, rfl, Nat.le_of_ble_eq_true rfl, Nat.le_of_ble_eq_true rfl⟩ (Nat.le_of_ble_eq_true rfl) rfl ⟨Nat.zero_le _, Nat.zero_le _⟩ dX0_withdraw_2) ?_
  refine bz_ne (tgt := 18) C hb dX0_withdraw_5 (by decide) (fun c50 => ?_) (fun c50 => ?_)
  · have hx := xHasRow_ix hI.1 hI.2.1 c50
    have hx1 := hx.1.1
    have hx2 := hx.1.2
    have hn40 := hI.1
    refine lv_aload_n C.1 hb dX0_withdraw_18 rfl (lv_at hl 0 rfl) ?_
    refine gX_live C hb hP dX0_withdraw_19 ?_
    refine lv_iload_n C.1 hb dX0_withdraw_22 rfl (lv_at hl 1 rfl) ?_
    refine lv_iconst (v := 0) C.1 hb dX0_withdraw_23 (by decide) ?_
    refine stX_live (j := (tN r)) C hb hP hS hx1 (by omega) (by decide) dX0_withdraw_24 (fun H locs hP hS => ?_)
    refine lv_aload_n C.1 hb dX0_withdraw_25 rfl (lv_at hl 0 rfl) ?_
    refine lv_dup C.1 hb dX0_withdraw_26 rfl ?_
    refine gX_liveRows C hb hP dX0_withdraw_27 ?_
    refine lv_iconst (v := 1) C.1 hb dX0_withdraw_30 (by decide) ?_
    refine lv_isub C.1 hb dX0_withdraw_31 ?_
    refine pX_liveRows C hb hP hS dX0_withdraw_32 (fun H locs hP hS => ?_)
    have hP : HW g (xWd S (tN r)) H := hP
    refine lv_aload_n C.1 hb dX0_withdraw_35 rfl (lv_at hl 0 rfl) ?_
    refine run_wr (cRunX (As := []) (rest := []) C hb (hml.trans hl.1.symm) hP hS rfl (k_X0_refit l g (xWd S (tN r)) n (XI_wd _ hI)) wm_85 wm_86 wm_87 wm_88 wm_12 (n := 0) (by decide +kernel) rfl ⟨rfl, rfl, Nat.le_of_ble_eq_true rfl, Nat.le_of_ble_eq_true rfl⟩ (Nat.le_of_ble_eq_true rfl) rfl ⟨Nat.zero_le _, Nat.zero_le _⟩ dX0_withdraw_36) hS (fun H locs hP hS => ?_)
    refine lv_aload_n C.1 hb dX0_withdraw_39 rfl (lv_at hl 0 rfl) ?_
    refine gX_liveRows C hb hP dX0_withdraw_40 ?_
    exact txI C hb hret hlk hP hS dX0_withdraw_43 rfl (by unfold xR_wd; rw [c50]; rfl) (by unfold xE_row; rw [c50]; rfl)
  · exact xthrowB C hb hl0 hlk hP hS (hl.1.trans hml.symm) het (text := "no such row") (by decide) dX0_withdraw_8 dX0_withdraw_11 dX0_withdraw_12 dX0_withdraw_14 dX0_withdraw_17 ⟨Nat.le_of_ble_eq_true rfl, Nat.le_of_ble_eq_true rfl, Nat.le_of_ble_eq_true rfl, Nat.le_of_ble_eq_true rfl⟩ (by unfold xE_row; rw [c50]; rfl) (by unfold xR_wd; rw [c50]; rfl)

set_option maxRecDepth 100000 in
set_option maxHeartbeats 4000000 in
theorem k_X0_setOld (l : Launch) (hl0 : l.stackTraces = false) (g : gG) (S : WS) (n : Nat) (hI : XI n S) (r v : Int32) : vx_Met l yX0_setOld (wA yX0_setOld cX0_setOld 4 (some .int)) ({ frames := 6, cells := 1, slots := 6, locals := 250 }) (PW g S [.ref (gA g 0), .int r, .int v]) (TQ g (xR_old S r v) (xE_old S r v) (some (.int (xIa S 0 (tN r))))) (TX g (xR_old S r v) (xE_old S r v)) 1 6 (Ab g) := by
  refine metX (by decide +kernel) (Nat.le_of_ble_eq_true rfl) ?_
  intro p e s m below meth c C hb hml hret hlk hP het ls hl
  have C : CW g RX0 p s m ([.ref (gA g 0), .int r, .int v] : List Value).toArray := C
  have hS : va_S (Ab g) s.heap s.heap [] := va_S.rf
  have hl : lv_has ls 4 [(0, .ref (gA g 0)), (1, .int r), (2, .int v)] := hl
  refine lv_aload_n C.1 hb dX0_setOld_0 rfl (lv_at hl 0 rfl) ?_
  refine lv_iload_n C.1 hb dX0_setOld_1 rfl (lv_at hl 1 rfl) ?_
  refine run_rd (cRunX (As := [.int r]) (rest := []) C hb (hml.trans hl.1.symm) hP hS rfl (k_X0_hasRow l g S n hI r) wm_139 wm_140 wm_141 wm_142 wm_12 (n := 1) (by decide +kernel) rfl ⟨rfl, rfl, Nat.le_of_ble_eq_true rfl, Nat.le_of_ble_eq_true rfl⟩ (Nat.le_of_ble_eq_true rfl) rfl ⟨Nat.zero_le _, Nat.zero_le _⟩ dX0_setOld_2) ?_
  refine bz_ne (tgt := 18) C hb dX0_setOld_5 (by decide) (fun c51 => ?_) (fun c51 => ?_)
  · have hx := xHasRow_ix hI.1 hI.2.1 c51
    have hx1 := hx.1.1
    have hx2 := hx.1.2
    have hn40 := hI.1
    refine lv_iload_n C.1 hb dX0_setOld_18 rfl (lv_at hl 2 rfl) ?_
    refine lv_iconst (v := (-1)) C.1 hb dX0_setOld_19 (by decide) ?_
    refine lv_icmp_eq (tgt := 43) C.1 hb dX0_setOld_20 (by decide) (fun c52 => ?_) (fun c52 => ?_)
    · have ho : xOldOk v = true := by simp [xOldOk, c52]
      refine lv_aload_n C.1 hb dX0_setOld_43 rfl (lv_at hl 0 rfl) ?_
      refine gX_oldPremiums C hb hP dX0_setOld_44 ?_
      refine lv_iload_n C.1 hb dX0_setOld_47 rfl (lv_at hl 1 rfl) ?_
      refine ldX_oldPremiums (j := (tN r)) C hb hP hx1 (by omega) dX0_setOld_48 ?_
      refine lv_istore_n (lv' := [(3, .int (xIa S 0 (tN r))), (0, .ref (gA g 0)), (1, .int r), (2, .int v)]) C.1 hb dX0_setOld_49 rfl hl (by decide) rfl (fun ls hl => ?_)
      refine lv_aload_n C.1 hb dX0_setOld_50 rfl (lv_at hl 1 rfl) ?_
      refine gX_oldPremiums C hb hP dX0_setOld_51 ?_
      refine lv_iload_n C.1 hb dX0_setOld_54 rfl (lv_at hl 2 rfl) ?_
      refine lv_iload_n C.1 hb dX0_setOld_55 rfl (lv_at hl 3 rfl) ?_
      refine stX_oldPremiums (j := (tN r)) C hb hP hS hx1 (by omega) dX0_setOld_56 (fun H locs hP hS => ?_)
      refine lv_iload_n C.1 hb dX0_setOld_57 rfl (lv_at hl 0 rfl) ?_
      exact txI C hb hret hlk hP hS dX0_setOld_58 rfl (by unfold xR_old; rw [c51, ho]; rfl) (by unfold xE_old; rw [c51, ho]; rfl)
    · refine lv_iload_n C.1 hb dX0_setOld_23 rfl (lv_at hl 2 rfl) ?_
      refine lv_iconst (v := 0) C.1 hb dX0_setOld_24 (by decide) ?_
      refine lv_ldc (v := 10000000) C.1 hb C.2.1 (C.2.2.1 _ wm_166) dX0_setOld_25 ?_
      refine run_rd (cRunS (As := [.int v, .int 0, .int 10000000]) (rest := []) C hb (hml.trans hl.1.symm) hP hS (k_X0_isWithin l g S v 0 10000000) wm_127 wm_128 wm_129 wm_12 (n := 3) (by decide +kernel) rfl ⟨rfl, rfl, Nat.le_of_ble_eq_true rfl, Nat.le_of_ble_eq_true rfl⟩ (Nat.le_of_ble_eq_true rfl) rfl ⟨Nat.zero_le _, Nat.zero_le _⟩ dX0_setOld_27) ?_
      refine bz_ne (tgt := 43) C hb dX0_setOld_30 (by decide) (fun c53 => ?_) (fun c53 => ?_)
      · have ho : xOldOk v = true := by simp [xOldOk, c53]
        refine lv_aload_n C.1 hb dX0_setOld_43 rfl (lv_at hl 0 rfl) ?_
        refine gX_oldPremiums C hb hP dX0_setOld_44 ?_
        refine lv_iload_n C.1 hb dX0_setOld_47 rfl (lv_at hl 1 rfl) ?_
        refine ldX_oldPremiums (j := (tN r)) C hb hP hx1 (by omega) dX0_setOld_48 ?_
        refine lv_istore_n (lv' := [(3, .int (xIa S 0 (tN r))), (0, .ref (gA g 0)), (1, .int r), (2, .int v)]) C.1 hb dX0_setOld_49 rfl hl (by decide) rfl (fun ls hl => ?_)
        refine lv_aload_n C.1 hb dX0_setOld_50 rfl (lv_at hl 1 rfl) ?_
        refine gX_oldPremiums C hb hP dX0_setOld_51 ?_
        refine lv_iload_n C.1 hb dX0_setOld_54 rfl (lv_at hl 2 rfl) ?_
        refine lv_iload_n C.1 hb dX0_setOld_55 rfl (lv_at hl 3 rfl) ?_
        refine stX_oldPremiums (j := (tN r)) C hb hP hS hx1 (by omega) dX0_setOld_56 (fun H locs hP hS => ?_)
        refine lv_iload_n C.1 hb dX0_setOld_57 rfl (lv_at hl 0 rfl) ?_
        exact txI C hb hret hlk hP hS dX0_setOld_58 rfl (by unfold xR_old; rw [c51, ho]; rfl) (by unfold xE_old; rw [c51, ho]; rfl)
      · have ho : xOldOk v = false := by simp [xOldOk, c52, c53]
        exact xthrowI C hb hl0 hlk hP hS (hl.1.trans hml.symm) het (text := "premium out of range") (by decide) dX0_setOld_33 dX0_setOld_36 dX0_setOld_37 dX0_setOld_39 dX0_setOld_42 ⟨Nat.le_of_ble_eq_true rfl, Nat.le_of_ble_eq_true rfl, Nat.le_of_ble_eq_true rfl, Nat.le_of_ble_eq_true rfl⟩ (by unfold xE_old; rw [c51, ho]; rfl) (by unfold xR_old; rw [c51, ho]; rfl)
  · exact xthrowB C hb hl0 hlk hP hS (hl.1.trans hml.symm) het (text := "no such row") (by decide) dX0_setOld_8 dX0_setOld_11 dX0_setOld_12 dX0_setOld_14 dX0_setOld_17 ⟨Nat.le_of_ble_eq_true rfl, Nat.le_of_ble_eq_true rfl, Nat.le_of_ble_eq_true rfl, Nat.le_of_ble_eq_true rfl⟩ (by unfold xE_old; rw [c51]; rfl) (by unfold xR_old; rw [c51]; rfl)

set_option maxRecDepth 100000 in
set_option maxHeartbeats 4000000 in
theorem k_X0_setRules (l : Launch) (hl0 : l.stackTraces = false) (g : gG) (S : WS) (q k : Int32) : vx_Met l yX0_setRules (wA yX0_setRules cX0_setRules 4 (some .int)) ({ frames := 6, cells := 1, slots := 6, locals := 250 }) (PW g S [.ref (gA g 0), .int q, .int k]) (TQ g (xR_rules S q k) (xE_rules q k) (some (.int (xSc S 2)))) (TX g (xR_rules S q k) (xE_rules q k)) 1 6 (Ab g) := by
  refine metX (by decide +kernel) (Nat.le_of_ble_eq_true rfl) ?_
  intro p e s m below meth c C hb hml hret hlk hP het ls hl
  have C : CW g RX0 p s m ([.ref (gA g 0), .int q, .int k] : List Value).toArray := C
  have hS : va_S (Ab g) s.heap s.heap [] := va_S.rf
  have hl : lv_has ls 4 [(0, .ref (gA g 0)), (1, .int q), (2, .int k)] := hl
  refine lv_iload_n C.1 hb dX0_setRules_0 rfl (lv_at hl 1 rfl) ?_
  refine lv_iconst (v := 0) C.1 hb dX0_setRules_1 (by decide) ?_
  refine lv_sipush (v := 1000) C.1 hb dX0_setRules_2 (by decide) ?_
  refine run_rd (cRunS (As := [.int q, .int 0, .int 1000]) (rest := []) C hb (hml.trans hl.1.symm) hP hS (k_X0_isWithin l g S q 0 1000) wm_127 wm_128 wm_129 wm_12 (n := 3) (by decide +kernel) rfl ⟨rfl, rfl, Nat.le_of_ble_eq_true rfl, Nat.le_of_ble_eq_true rfl⟩ (Nat.le_of_ble_eq_true rfl) rfl ⟨Nat.zero_le _, Nat.zero_le _⟩ dX0_setRules_5) ?_
  refine bz_ne (tgt := 21) C hb dX0_setRules_8 (by decide) (fun c54 => ?_) (fun c54 => ?_)
  · refine lv_iload_n C.1 hb dX0_setRules_21 rfl (lv_at hl 2 rfl) ?_
    refine lv_iconst (v := (-1)) C.1 hb dX0_setRules_22 (by decide) ?_
    refine lv_icmp_eq (tgt := 47) C.1 hb dX0_setRules_23 (by decide) (fun c55 => ?_) (fun c55 => ?_)
    · have ho : xCapOk k = true := by simp [xCapOk, c55]
      refine lv_aload_n C.1 hb dX0_setRules_47 rfl (lv_at hl 0 rfl) ?_
      refine gX_credibility C hb hP dX0_setRules_48 ?_
      refine lv_istore_n (lv' := [(3, .int (xSc S 2)), (0, .ref (gA g 0)), (1, .int q), (2, .int k)]) C.1 hb dX0_setRules_51 rfl hl (by decide) rfl (fun ls hl => ?_)
      refine lv_aload_n C.1 hb dX0_setRules_52 rfl (lv_at hl 1 rfl) ?_
      refine lv_iload_n C.1 hb dX0_setRules_53 rfl (lv_at hl 2 rfl) ?_
      refine pX_credibility C hb hP hS dX0_setRules_54 (fun H locs hP hS => ?_)
      refine lv_aload_n C.1 hb dX0_setRules_57 rfl (lv_at hl 1 rfl) ?_
      refine lv_iload_n C.1 hb dX0_setRules_58 rfl (lv_at hl 3 rfl) ?_
      refine pX_cap C hb hP hS dX0_setRules_59 (fun H locs hP hS => ?_)
      refine lv_iload_n C.1 hb dX0_setRules_62 rfl (lv_at hl 0 rfl) ?_
      exact txI C hb hret hlk hP hS dX0_setRules_63 rfl (by unfold xR_rules; rw [c54, ho]; rfl) (by unfold xE_rules; rw [c54, ho]; rfl)
    · refine lv_iload_n C.1 hb dX0_setRules_26 rfl (lv_at hl 2 rfl) ?_
      refine lv_iconst (v := 0) C.1 hb dX0_setRules_27 (by decide) ?_
      refine lv_sipush (v := 1000) C.1 hb dX0_setRules_28 (by decide) ?_
      refine run_rd (cRunS (As := [.int k, .int 0, .int 1000]) (rest := []) C hb (hml.trans hl.1.symm) hP hS (k_X0_isWithin l g S k 0 1000) wm_127 wm_128 wm_129 wm_12 (n := 3) (by decide +kernel) rfl ⟨rfl, rfl, Nat.le_of_ble_eq_true rfl, Nat.le_of_ble_eq_true rfl⟩ (Nat.le_of_ble_eq_true rfl) rfl ⟨Nat.zero_le _, Nat.zero_le _⟩ dX0_setRules_31) ?_
      refine bz_ne (tgt := 47) C hb dX0_setRules_34 (by decide) (fun c56 => ?_) (fun c56 => ?_)
      · have ho : xCapOk k = true := by simp [xCapOk, c56]
        refine lv_aload_n C.1 hb dX0_setRules_47 rfl (lv_at hl 0 rfl) ?_
        refine gX_credibility C hb hP dX0_setRules_48 ?_
        refine lv_istore_n (lv' := [(3, .int (xSc S 2)), (0, .ref (gA g 0)), (1, .int q), (2, .int k)]) C.1 hb dX0_setRules_51 rfl hl (by decide) rfl (fun ls hl => ?_)
        refine lv_aload_n C.1 hb dX0_setRules_52 rfl (lv_at hl 1 rfl) ?_
        refine lv_iload_n C.1 hb dX0_setRules_53 rfl (lv_at hl 2 rfl) ?_
        refine pX_credibility C hb hP hS dX0_setRules_54 (fun H locs hP hS => ?_)
        refine lv_aload_n C.1 hb dX0_setRules_57 rfl (lv_at hl 1 rfl) ?_
        refine lv_iload_n C.1 hb dX0_setRules_58 rfl (lv_at hl 3 rfl) ?_
        refine pX_cap C hb hP hS dX0_setRules_59 (fun H locs hP hS => ?_)
        refine lv_iload_n C.1 hb dX0_setRules_62 rfl (lv_at hl 0 rfl) ?_
        exact txI C hb hret hlk hP hS dX0_setRules_63 rfl (by unfold xR_rules; rw [c54, ho]; rfl) (by unfold xE_rules; rw [c54, ho]; rfl)
      · have ho : xCapOk k = false := by simp [xCapOk, c55, c56]
        exact xthrowI C hb hl0 hlk hP hS (hl.1.trans hml.symm) het (text := "cap out of range") (by decide) dX0_setRules_37 dX0_setRules_40 dX0_setRules_41 dX0_setRules_43 dX0_setRules_46 ⟨Nat.le_of_ble_eq_true rfl, Nat.le_of_ble_eq_true rfl, Nat.le_of_ble_eq_true rfl, Nat.le_of_ble_eq_true rfl⟩ (by unfold xE_rules; rw [c54, ho]; rfl) (by unfold xR_rules; rw [c54, ho]; rfl)
  · exact xthrowI C hb hl0 hlk hP hS (hl.1.trans hml.symm) het (text := "credibility out of range") (by decide) dX0_setRules_11 dX0_setRules_14 dX0_setRules_15 dX0_setRules_17 dX0_setRules_20 ⟨Nat.le_of_ble_eq_true rfl, Nat.le_of_ble_eq_true rfl, Nat.le_of_ble_eq_true rfl, Nat.le_of_ble_eq_true rfl⟩ (by unfold xE_rules; rw [c54]; rfl) (by unfold xR_rules; rw [c54]; rfl)

set_option maxRecDepth 100000 in
set_option maxHeartbeats 4000000 in
theorem k_X0_setFactor (l : Launch) (hl0 : l.stackTraces = false) (g : gG) (S : WS) (n : Nat) (hI : XI n S) (t k v : Int32) : vx_Met l yX0_setFactor (wA yX0_setFactor cX0_setFactor 5 (some .int)) ({ frames := 6, cells := 1, slots := 6, locals := 250 }) (PW g S [.ref (gA g 0), .int t, .int k, .int v]) (TQ g (xR_fac S n t k v) (xE_fac t k v) (some (.int (xFac S (tN t) (tN k))))) (TX g (xR_fac S n t k v) (xE_fac t k v)) 1 6 (Ab g) := by
  refine metX (by decide +kernel) (Nat.le_of_ble_eq_true rfl) ?_
  intro p e s m below meth c C hb hml hret hlk hP het ls hl
  have C : CW g RX0 p s m ([.ref (gA g 0), .int t, .int k, .int v] : List Value).toArray := C
  have hS : va_S (Ab g) s.heap s.heap [] := va_S.rf
  have hl : lv_has ls 5 [(0, .ref (gA g 0)), (1, .int t), (2, .int k), (3, .int v)] := hl
  refine lv_iload_n C.1 hb dX0_setFactor_0 rfl (lv_at hl 1 rfl) ?_
  refine lv_iload_n C.1 hb dX0_setFactor_1 rfl (lv_at hl 2 rfl) ?_
  refine run_rd (cRunS (As := [.int t, .int k]) (rest := []) C hb (hml.trans hl.1.symm) hP hS (k_X0_hasLevel l g S t k) wm_121 wm_122 wm_123 wm_12 (n := 2) (by decide +kernel) rfl ⟨rfl, rfl, Nat.le_of_ble_eq_true rfl, Nat.le_of_ble_eq_true rfl⟩ (Nat.le_of_ble_eq_true rfl) rfl ⟨Nat.zero_le _, Nat.zero_le _⟩ dX0_setFactor_2) ?_
  refine bz_ne (tgt := 18) C hb dX0_setFactor_5 (by decide) (fun c57 => ?_) (fun c57 => ?_)
  · have hx := xHasLevel_ix c57
    have ht1 := hx.1.1
    have ht2 := hx.1.2
    have hk1 := hx.2.1
    have hk2 := hx.2.2
    have h4 := levN_4 (tN t)
    refine lv_iload_n C.1 hb dX0_setFactor_18 rfl (lv_at hl 3 rfl) ?_
    refine lv_bipush (v := 100) C.1 hb dX0_setFactor_19 (by decide) ?_
    refine lv_ldc (v := 100000) C.1 hb C.2.1 (C.2.2.1 _ wm_182) dX0_setFactor_21 ?_
    refine run_rd (cRunS (As := [.int v, .int 100, .int 100000]) (rest := []) C hb (hml.trans hl.1.symm) hP hS (k_X0_isWithin l g S v 100 100000) wm_127 wm_128 wm_129 wm_12 (n := 3) (by decide +kernel) rfl ⟨rfl, rfl, Nat.le_of_ble_eq_true rfl, Nat.le_of_ble_eq_true rfl⟩ (Nat.le_of_ble_eq_true rfl) rfl ⟨Nat.zero_le _, Nat.zero_le _⟩ dX0_setFactor_23) ?_
    refine bz_ne (tgt := 39) C hb dX0_setFactor_26 (by decide) (fun c58 => ?_) (fun c58 => ?_)
    · refine lv_aload_n C.1 hb dX0_setFactor_39 rfl (lv_at hl 0 rfl) ?_
      refine gX_factors C hb hP dX0_setFactor_40 ?_
      refine lv_iload_n C.1 hb dX0_setFactor_43 rfl (lv_at hl 1 rfl) ?_
      refine al_fac (t := (tN t)) C hb hP ht1 ht2 dX0_setFactor_44 ?_
      refine lv_iload_n C.1 hb dX0_setFactor_45 rfl (lv_at hl 2 rfl) ?_
      refine ldX_fac (t := (tN t)) (j := (tN k)) C hb hP ht2 hk1 (by omega) dX0_setFactor_46 ?_
      refine lv_istore (lv' := [(4, .int (xFac S (tN t) (tN k))), (0, .ref (gA g 0)), (1, .int t), (2, .int k), (3, .int v)]) C.1 hb dX0_setFactor_47 hl (by decide) rfl (fun ls hl => ?_)
      refine lv_aload_n C.1 hb dX0_setFactor_49 rfl (lv_at hl 1 rfl) ?_
      refine gX_factors C hb hP dX0_setFactor_50 ?_
      refine lv_iload_n C.1 hb dX0_setFactor_53 rfl (lv_at hl 2 rfl) ?_
      refine al_fac (t := (tN t)) C hb hP ht1 ht2 dX0_setFactor_54 ?_
      refine lv_iload_n C.1 hb dX0_setFactor_55 rfl (lv_at hl 3 rfl) ?_
      refine lv_iload_n C.1 hb dX0_setFactor_56 rfl (lv_at hl 4 rfl) ?_
      refine stX_fac (t := (tN t)) (j := (tN k)) C hb hP hS ht2 hk1 (by omega) dX0_setFactor_57 (fun H locs hP hS => ?_)
      have hP : HW g (xSetF S (tN t) (tN k) v) H := hP
      refine lv_aload_n C.1 hb dX0_setFactor_58 rfl (lv_at hl 1 rfl) ?_
      refine run_wr (cRunX (As := []) (rest := []) C hb (hml.trans hl.1.symm) hP hS rfl (k_X0_refit l g (xSetF S (tN t) (tN k) v) n (XI_setF _ _ _ hI)) wm_85 wm_86 wm_87 wm_88 wm_12 (n := 0) (by decide +kernel) rfl ⟨rfl, rfl, Nat.le_of_ble_eq_true rfl, Nat.le_of_ble_eq_true rfl⟩ (Nat.le_of_ble_eq_true rfl) rfl ⟨Nat.zero_le _, Nat.zero_le _⟩ dX0_setFactor_59) hS (fun H locs hP hS => ?_)
      refine lv_iload C.1 hb dX0_setFactor_62 (lv_at hl 0 rfl) ?_
      exact txI C hb hret hlk hP hS dX0_setFactor_64 rfl (by unfold xR_fac; rw [c57, c58]; rfl) (by unfold xE_fac; rw [c57, c58]; rfl)
    · exact xthrowI C hb hl0 hlk hP hS (hl.1.trans hml.symm) het (text := "factor out of range") (by decide) dX0_setFactor_29 dX0_setFactor_32 dX0_setFactor_33 dX0_setFactor_35 dX0_setFactor_38 ⟨Nat.le_of_ble_eq_true rfl, Nat.le_of_ble_eq_true rfl, Nat.le_of_ble_eq_true rfl, Nat.le_of_ble_eq_true rfl⟩ (by unfold xE_fac; rw [c57, c58]; rfl) (by unfold xR_fac; rw [c57, c58]; rfl)
  · exact xthrowB C hb hl0 hlk hP hS (hl.1.trans hml.symm) het (text := "no such trait or level") (by decide) dX0_setFactor_8 dX0_setFactor_11 dX0_setFactor_12 dX0_setFactor_14 dX0_setFactor_17 ⟨Nat.le_of_ble_eq_true rfl, Nat.le_of_ble_eq_true rfl, Nat.le_of_ble_eq_true rfl, Nat.le_of_ble_eq_true rfl⟩ (by unfold xE_fac; rw [c57]; rfl) (by unfold xR_fac; rw [c57]; rfl)

set_option maxRecDepth 100000 in
set_option maxHeartbeats 4000000 in
theorem k_X0_pass (l : Launch) (hl0 : l.stackTraces = false) (g : gG) (S : WS) (n : Nat) (hI : XI n S) (t : Int32) : vx_Met l yX0_pass (wA yX0_pass cX0_pass 2 (some .int)) ({ frames := 6, cells := 1, slots := 6, locals := 250 }) (PW g S [.ref (gA g 0), .int t]) (TQ g (xR_pass S n t) (xE_trait t) (some (.int (nI (xPassC S n (tN t)))))) (TX g (xR_pass S n t) (xE_trait t)) 1 6 (Ab g) := by
  refine metX (by decide +kernel) (Nat.le_of_ble_eq_true rfl) ?_
  intro p e s m below meth c C hb hml hret hlk hP het ls hl
  have C : CW g RX0 p s m ([.ref (gA g 0), .int t] : List Value).toArray := C
  have hS : va_S (Ab g) s.heap s.heap [] := va_S.rf
  have hl : lv_has ls 2 [(0, .ref (gA g 0)), (1, .int t)] := hl
  refine lv_iload_n C.1 hb dX0_pass_0 rfl (lv_at hl 1 rfl) ?_
  refine run_rd (cRunS (As := [.int t]) (rest := []) C hb (hml.trans hl.1.symm) hP hS (k_X0_hasTrait l g S t) wm_124 wm_125 wm_126 wm_12 (n := 1) (by decide +kernel) rfl ⟨rfl, rfl, Nat.le_of_ble_eq_true rfl, Nat.le_of_ble_eq_true rfl⟩ (Nat.le_of_ble_eq_true rfl) rfl ⟨Nat.zero_le _, Nat.zero_le _⟩ dX0_pass_1) ?_
  refine bz_ne (tgt := 17) C hb dX0_pass_4 (by decide) (fun c59 => ?_) (fun c59 => ?_)
  · have hx := xHasTrait_ix c59
    have ht1 := hx.1
    have ht2 := hx.2
    refine lv_aload_n C.1 hb dX0_pass_17 rfl (lv_at hl 0 rfl) ?_
    refine lv_iload_n C.1 hb dX0_pass_18 rfl (lv_at hl 1 rfl) ?_
    refine toI ht1 ?_
    refine run_wr (cRunX (As := [.int (nI (tN t))]) (rest := []) C hb (hml.trans hl.1.symm) hP hS rfl (k_X0_passOver l g S n hI (tN t) ht2) wm_60 wm_61 wm_62 wm_63 wm_12 (n := 1) (by decide +kernel) rfl ⟨rfl, rfl, Nat.le_of_ble_eq_true rfl, Nat.le_of_ble_eq_true rfl⟩ (Nat.le_of_ble_eq_true rfl) rfl ⟨Nat.zero_le _, Nat.zero_le _⟩ dX0_pass_19) hS (fun H locs hP hS => ?_)
    exact txI C hb hret hlk hP hS dX0_pass_22 rfl (by unfold xR_pass; rw [c59]; rfl) (by unfold xE_trait; rw [c59]; rfl)
  · exact xthrowB C hb hl0 hlk hP hS (hl.1.trans hml.symm) het (text := "no such trait") (by decide) dX0_pass_7 dX0_pass_10 dX0_pass_11 dX0_pass_13 dX0_pass_16 ⟨Nat.le_of_ble_eq_true rfl, Nat.le_of_ble_eq_true rfl, Nat.le_of_ble_eq_true rfl, Nat.le_of_ble_eq_true rfl⟩ (by unfold xE_trait; rw [c59]; rfl) (by unfold xR_pass; rw [c59]; rfl)

set_option maxRecDepth 100000 in
set_option maxHeartbeats 4000000 in
theorem k_X0_factor (l : Launch) (hl0 : l.stackTraces = false) (g : gG) (S : WS) (t k : Int32) : vx_Met l yX0_factor (wA yX0_factor cX0_factor 3 (some .int)) ({ frames := 6, cells := 1, slots := 6, locals := 250 }) (PW g S [.ref (gA g 0), .int t, .int k]) (TQ g S (xE_level t k) (some (.int (xFac S (tN t) (tN k))))) (TX g S (xE_level t k)) 1 6 (Ab g) := by
  refine metX (by decide +kernel) (Nat.le_of_ble_eq_true rfl) ?_
  intro p e s m below meth c C hb hml hret hlk hP het ls hl
  have C : CW g RX0 p s m ([.ref (gA g 0), .int t, .int k] : List Value).toArray := C
  have hS : va_S (Ab g) s.heap s.heap [] := va_S.rf
  have hl : lv_has ls 3 [(0, .ref (gA g 0)), (1, .int t), (2, .int k)] := hl
  refine lv_iload_n C.1 hb dX0_factor_0 rfl (lv_at hl 1 rfl) ?_
  refine lv_iload_n C.1 hb dX0_factor_1 rfl (lv_at hl 2 rfl) ?_
  refine run_rd (cRunS (As := [.int t, .int k]) (rest := []) C hb (hml.trans hl.1.symm) hP hS (k_X0_hasLevel l g S t k) wm_121 wm_122 wm_123 wm_12 (n := 2) (by decide +kernel) rfl ⟨rfl, rfl, Nat.le_of_ble_eq_true rfl, Nat.le_of_ble_eq_true rfl⟩ (Nat.le_of_ble_eq_true rfl) rfl ⟨Nat.zero_le _, Nat.zero_le _⟩ dX0_factor_2) ?_
  refine bz_ne (tgt := 18) C hb dX0_factor_5 (by decide) (fun c60 => ?_) (fun c60 => ?_)
  · have hx := xHasLevel_ix c60
    have ht1 := hx.1.1
    have ht2 := hx.1.2
    have hk1 := hx.2.1
    have hk2 := hx.2.2
    have h4 := levN_4 (tN t)
    refine lv_aload_n C.1 hb dX0_factor_18 rfl (lv_at hl 0 rfl) ?_
    refine gX_factors C hb hP dX0_factor_19 ?_
    refine lv_iload_n C.1 hb dX0_factor_22 rfl (lv_at hl 1 rfl) ?_
    refine al_fac (t := (tN t)) C hb hP ht1 ht2 dX0_factor_23 ?_
    refine lv_iload_n C.1 hb dX0_factor_24 rfl (lv_at hl 2 rfl) ?_
    refine ldX_fac (t := (tN t)) (j := (tN k)) C hb hP ht2 hk1 (by omega) dX0_factor_25 ?_
    exact txI C hb hret hlk hP hS dX0_factor_26 rfl rfl (by unfold xE_level; rw [c60]; rfl)
  · exact xthrowB C hb hl0 hlk hP hS (hl.1.trans hml.symm) het (text := "no such trait or level") (by decide) dX0_factor_8 dX0_factor_11 dX0_factor_12 dX0_factor_14 dX0_factor_17 ⟨Nat.le_of_ble_eq_true rfl, Nat.le_of_ble_eq_true rfl, Nat.le_of_ble_eq_true rfl, Nat.le_of_ble_eq_true rfl⟩ (by unfold xE_level; rw [c60]; rfl) rfl

set_option maxRecDepth 100000 in
set_option maxHeartbeats 4000000 in
theorem k_X0_fitted (l : Launch) (hl0 : l.stackTraces = false) (g : gG) (S : WS) (n : Nat) (hI : XI n S) (r : Int32) : vx_Met l yX0_fitted (wA yX0_fitted cX0_fitted 2 (some .long)) ({ frames := 6, cells := 1, slots := 6, locals := 250 }) (PW g S [.ref (gA g 0), .int r]) (TQ g S (xE_row S r) (some (.long (xLng S 3 (tN r))))) (TX g S (xE_row S r)) 1 6 (Ab g) := by
  refine metX (by decide +kernel) (Nat.le_of_ble_eq_true rfl) ?_
  intro p e s m below meth c C hb hml hret hlk hP het ls hl
  have C : CW g RX0 p s m ([.ref (gA g 0), .int r] : List Value).toArray := C
  have hS : va_S (Ab g) s.heap s.heap [] := va_S.rf
  have hl : lv_has ls 2 [(0, .ref (gA g 0)), (1, .int r)] := hl
  refine lv_aload_n C.1 hb dX0_fitted_0 rfl (lv_at hl 0 rfl) ?_
  refine lv_iload_n C.1 hb dX0_fitted_1 rfl (lv_at hl 1 rfl) ?_
  refine run_rd (cRunX (As := [.int r]) (rest := []) C hb (hml.trans hl.1.symm) hP hS rfl (k_X0_hasRow l g S n hI r) wm_139 wm_140 wm_141 wm_142 wm_12 (n := 1) (by decide +kernel) rfl ⟨rfl, rfl, Nat.le_of_ble_eq_true rfl, Nat.le_of_ble_eq_true rfl⟩ (Nat.le_of_ble_eq_true rfl) rfl ⟨Nat.zero_le _, Nat.zero_le _⟩ dX0_fitted_2) ?_
  refine bz_ne (tgt := 18) C hb dX0_fitted_5 (by decide) (fun c61 => ?_) (fun c61 => ?_)
  · have hx := xHasRow_ix hI.1 hI.2.1 c61
    have hx1 := hx.1.1
    have hx2 := hx.1.2
    have hn40 := hI.1
    refine lv_aload_n C.1 hb dX0_fitted_18 rfl (lv_at hl 0 rfl) ?_
    refine gX_fittedLosses C hb hP dX0_fitted_19 ?_
    refine lv_iload_n C.1 hb dX0_fitted_22 rfl (lv_at hl 1 rfl) ?_
    refine ldX_fittedLosses (j := (tN r)) C hb hP hx1 (by omega) dX0_fitted_23 ?_
    exact txL C hb hret hlk hP hS dX0_fitted_24 rfl rfl (by unfold xE_row; rw [c61]; rfl)
  · exact xthrowB C hb hl0 hlk hP hS (hl.1.trans hml.symm) het (text := "no such row") (by decide) dX0_fitted_8 dX0_fitted_11 dX0_fitted_12 dX0_fitted_14 dX0_fitted_17 ⟨Nat.le_of_ble_eq_true rfl, Nat.le_of_ble_eq_true rfl, Nat.le_of_ble_eq_true rfl, Nat.le_of_ble_eq_true rfl⟩ (by unfold xE_row; rw [c61]; rfl) rfl

set_option maxRecDepth 100000 in
set_option maxHeartbeats 4000000 in
theorem k_X0_toldSum (l : Launch) (hl0 : l.stackTraces = false) (g : gG) (S : WS) (n : Nat) (hI : XI n S) (t k : Int32) : vx_Met l yX0_toldSum (wA yX0_toldSum cX0_toldSum 3 (some .long)) ({ frames := 6, cells := 1, slots := 6, locals := 250 }) (PW g S [.ref (gA g 0), .int t, .int k]) (TQ g S (xE_level t k) (some (.long (xLTot (xIa S 1) (xLev S (tN t)) k (xLng S 2) n)))) (TX g S (xE_level t k)) 1 6 (Ab g) := by
  refine metX (by decide +kernel) (Nat.le_of_ble_eq_true rfl) ?_
  intro p e s m below meth c C hb hml hret hlk hP het ls hl
  have C : CW g RX0 p s m ([.ref (gA g 0), .int t, .int k] : List Value).toArray := C
  have hS : va_S (Ab g) s.heap s.heap [] := va_S.rf
  have hl : lv_has ls 3 [(0, .ref (gA g 0)), (1, .int t), (2, .int k)] := hl
  refine lv_iload_n C.1 hb dX0_toldSum_0 rfl (lv_at hl 1 rfl) ?_
  refine lv_iload_n C.1 hb dX0_toldSum_1 rfl (lv_at hl 2 rfl) ?_
  refine run_rd (cRunS (As := [.int t, .int k]) (rest := []) C hb (hml.trans hl.1.symm) hP hS (k_X0_hasLevel l g S t k) wm_121 wm_122 wm_123 wm_12 (n := 2) (by decide +kernel) rfl ⟨rfl, rfl, Nat.le_of_ble_eq_true rfl, Nat.le_of_ble_eq_true rfl⟩ (Nat.le_of_ble_eq_true rfl) rfl ⟨Nat.zero_le _, Nat.zero_le _⟩ dX0_toldSum_2) ?_
  refine bz_ne (tgt := 18) C hb dX0_toldSum_5 (by decide) (fun c62 => ?_) (fun c62 => ?_)
  · have hx := xHasLevel_ix c62
    have ht1 := hx.1.1
    have ht2 := hx.1.2
    have hk1 := hx.2.1
    have hk2 := hx.2.2
    have h4 := levN_4 (tN t)
    refine lv_aload_n C.1 hb dX0_toldSum_18 rfl (lv_at hl 0 rfl) ?_
    refine lv_aload_n C.1 hb dX0_toldSum_19 rfl (lv_at hl 0 rfl) ?_
    refine gX_losses C hb hP dX0_toldSum_20 ?_
    refine lv_iload_n C.1 hb dX0_toldSum_23 rfl (lv_at hl 1 rfl) ?_
    refine toI ht1 ?_
    refine lv_iload_n C.1 hb dX0_toldSum_24 rfl (lv_at hl 2 rfl) ?_
    refine run_rd (cRunX (As := [.ref (gA g 11), .int (nI (tN t)), .int k]) (rest := []) C hb (hml.trans hl.1.symm) hP hS rfl (k_X0_levelTotal l g S n hI 2 (by decide) (tN t) ht2 k) wm_71 wm_72 wm_73 wm_74 wm_12 (n := 3) (by decide +kernel) rfl ⟨rfl, rfl, Nat.le_of_ble_eq_true rfl, Nat.le_of_ble_eq_true rfl⟩ (Nat.le_of_ble_eq_true rfl) rfl ⟨Nat.zero_le _, Nat.zero_le _⟩ dX0_toldSum_25) ?_
    exact txL C hb hret hlk hP hS dX0_toldSum_28 rfl rfl (by unfold xE_level; rw [c62]; rfl)
  · exact xthrowB C hb hl0 hlk hP hS (hl.1.trans hml.symm) het (text := "no such trait or level") (by decide) dX0_toldSum_8 dX0_toldSum_11 dX0_toldSum_12 dX0_toldSum_14 dX0_toldSum_17 ⟨Nat.le_of_ble_eq_true rfl, Nat.le_of_ble_eq_true rfl, Nat.le_of_ble_eq_true rfl, Nat.le_of_ble_eq_true rfl⟩ (by unfold xE_level; rw [c62]; rfl) rfl

set_option maxRecDepth 100000 in
set_option maxHeartbeats 4000000 in
theorem k_X0_fittedSum (l : Launch) (hl0 : l.stackTraces = false) (g : gG) (S : WS) (n : Nat) (hI : XI n S) (t k : Int32) : vx_Met l yX0_fittedSum (wA yX0_fittedSum cX0_fittedSum 3 (some .long)) ({ frames := 6, cells := 1, slots := 6, locals := 250 }) (PW g S [.ref (gA g 0), .int t, .int k]) (TQ g S (xE_level t k) (some (.long (xLTot (xIa S 1) (xLev S (tN t)) k (xLng S 3) n)))) (TX g S (xE_level t k)) 1 6 (Ab g) := by
  refine metX (by decide +kernel) (Nat.le_of_ble_eq_true rfl) ?_
  intro p e s m below meth c C hb hml hret hlk hP het ls hl
  have C : CW g RX0 p s m ([.ref (gA g 0), .int t, .int k] : List Value).toArray := C
  have hS : va_S (Ab g) s.heap s.heap [] := va_S.rf
  have hl : lv_has ls 3 [(0, .ref (gA g 0)), (1, .int t), (2, .int k)] := hl
  refine lv_iload_n C.1 hb dX0_fittedSum_0 rfl (lv_at hl 1 rfl) ?_
  refine lv_iload_n C.1 hb dX0_fittedSum_1 rfl (lv_at hl 2 rfl) ?_
  refine run_rd (cRunS (As := [.int t, .int k]) (rest := []) C hb (hml.trans hl.1.symm) hP hS (k_X0_hasLevel l g S t k) wm_121 wm_122 wm_123 wm_12 (n := 2) (by decide +kernel) rfl ⟨rfl, rfl, Nat.le_of_ble_eq_true rfl, Nat.le_of_ble_eq_true rfl⟩ (Nat.le_of_ble_eq_true rfl) rfl ⟨Nat.zero_le _, Nat.zero_le _⟩ dX0_fittedSum_2) ?_
  refine bz_ne (tgt := 18) C hb dX0_fittedSum_5 (by decide) (fun c63 => ?_) (fun c63 => ?_)
  · have hx := xHasLevel_ix c63
    have ht1 := hx.1.1
    have ht2 := hx.1.2
    have hk1 := hx.2.1
    have hk2 := hx.2.2
    have h4 := levN_4 (tN t)
    refine lv_aload_n C.1 hb dX0_fittedSum_18 rfl (lv_at hl 0 rfl) ?_
    refine lv_aload_n C.1 hb dX0_fittedSum_19 rfl (lv_at hl 0 rfl) ?_
    refine gX_fittedLosses C hb hP dX0_fittedSum_20 ?_
    refine lv_iload_n C.1 hb dX0_fittedSum_23 rfl (lv_at hl 1 rfl) ?_
    refine toI ht1 ?_
    refine lv_iload_n C.1 hb dX0_fittedSum_24 rfl (lv_at hl 2 rfl) ?_
    refine run_rd (cRunX (As := [.ref (gA g 14), .int (nI (tN t)), .int k]) (rest := []) C hb (hml.trans hl.1.symm) hP hS rfl (k_X0_levelTotal l g S n hI 3 (by decide) (tN t) ht2 k) wm_71 wm_72 wm_73 wm_74 wm_12 (n := 3) (by decide +kernel) rfl ⟨rfl, rfl, Nat.le_of_ble_eq_true rfl, Nat.le_of_ble_eq_true rfl⟩ (Nat.le_of_ble_eq_true rfl) rfl ⟨Nat.zero_le _, Nat.zero_le _⟩ dX0_fittedSum_25) ?_
    exact txL C hb hret hlk hP hS dX0_fittedSum_28 rfl rfl (by unfold xE_level; rw [c63]; rfl)
  · exact xthrowB C hb hl0 hlk hP hS (hl.1.trans hml.symm) het (text := "no such trait or level") (by decide) dX0_fittedSum_8 dX0_fittedSum_11 dX0_fittedSum_12 dX0_fittedSum_14 dX0_fittedSum_17 ⟨Nat.le_of_ble_eq_true rfl, Nat.le_of_ble_eq_true rfl, Nat.le_of_ble_eq_true rfl, Nat.le_of_ble_eq_true rfl⟩ (by unfold xE_level; rw [c63]; rfl) rfl

set_option maxRecDepth 100000 in
set_option maxHeartbeats 4000000 in
theorem k_X0_worst (l : Launch) (hl0 : l.stackTraces = false) (g : gG) (S : WS) (n : Nat) (hI : XI n S) (t : Int32) : vx_Met l yX0_worst (wA yX0_worst cX0_worst 7 (some .long)) ({ frames := 6, cells := 1, slots := 6, locals := 250 }) (PW g S [.ref (gA g 0), .int t]) (TQ g S (xE_trait t) (some (.long (xWorst S n (tN t) (levN (tN t)))))) (TX g S (xE_trait t)) 1 6 (Ab g) := by
  refine metX (by decide +kernel) (Nat.le_of_ble_eq_true rfl) ?_
  intro p e s m below meth c C hb hml hret hlk hP het ls hl
  have C : CW g RX0 p s m ([.ref (gA g 0), .int t] : List Value).toArray := C
  have hS : va_S (Ab g) s.heap s.heap [] := va_S.rf
  have hl : lv_has ls 7 [(0, .ref (gA g 0)), (1, .int t)] := hl
  refine lv_iload_n C.1 hb dX0_worst_0 rfl (lv_at hl 1 rfl) ?_
  refine run_rd (cRunS (As := [.int t]) (rest := []) C hb (hml.trans hl.1.symm) hP hS (k_X0_hasTrait l g S t) wm_124 wm_125 wm_126 wm_12 (n := 1) (by decide +kernel) rfl ⟨rfl, rfl, Nat.le_of_ble_eq_true rfl, Nat.le_of_ble_eq_true rfl⟩ (Nat.le_of_ble_eq_true rfl) rfl ⟨Nat.zero_le _, Nat.zero_le _⟩ dX0_worst_1) ?_
  refine bz_ne (tgt := 17) C hb dX0_worst_4 (by decide) (fun c64 => ?_) (fun c64 => ?_)
  · have hx := xHasTrait_ix c64
    have ht1 := hx.1
    have ht2 := hx.2
    have h4 := levN_4 (tN t)
    refine lv_lconst (v := 0) C.1 hb dX0_worst_17 (by decide) ?_
    refine lv_lstore_n (lv' := [(2, .long 0), (0, .ref (gA g 0)), (1, .int t)]) C.1 hb dX0_worst_18 rfl hl (by decide) rfl (fun ls hl => ?_)
    refine lv_iconst (v := 0) C.1 hb dX0_worst_19 (by decide) ?_
    refine lv_istore (lv' := [(4, .int 0), (2, .long 0), (0, .ref (gA g 0)), (1, .int t)]) C.1 hb dX0_worst_20 hl (by decide) rfl (fun ls hl => ?_)
    have key : ∀ f i : Nat, levN (tN t) - i < f → i ≤ levN (tN t) → ∀ (H : Heap) (locs : List Loc), HW g S H → va_S (Ab g) s.heap H locs → ∀ ls : Array Slot, lv_has ls 7 [(0, .ref (gA g 0)), (1, .int t), (2, .long (xWorst S n (tN t) i)), (4, .int (nI i))] → W p l e ({ frames := 6, cells := 1, slots := 6, locals := 250 }) s m ([.ref (gA g 0), .int t] : List Value).toArray below meth c H locs 0 0 (vx_MQ below (TQ g S (xE_trait t) (some (.long (xWorst S n (tN t) (levN (tN t)))))) (TX g S (xE_trait t)) ([.ref (gA g 0), .int t] : List Value).toArray s 1 6 (Ab g)) (F0 m 22 ls []) := by
      intro f
      induction f with
      | zero => intro i h; exact absurd h (Nat.not_lt_zero _)
      | succ f ih =>
        intro i hfi hi  H locs hP hS ls hl
        refine lv_iload C.1 hb dX0_worst_22 (lv_at hl 3 rfl) ?_
        refine gX_LEVELS C hb hS dX0_worst_24 ?_
        refine lv_iload_n C.1 hb dX0_worst_27 rfl (lv_at hl 1 rfl) ?_
        refine toI ht1 ?_
        refine ldX_LEVELS (j := (tN t)) C hb hS rfl ht2 dX0_worst_28 ?_
        refine lv_icmp_ge (tgt := 73) C.1 hb dX0_worst_29 (by decide) (fun c65 => ?_) (fun c65 => ?_)
        · have hin : i = levN (tN t) := by have := le_nI (a := levN (tN t)) (b := i) (by omega) (by omega) c65; omega
          rw [hin] at hl
          refine lv_lload_n C.1 hb dX0_worst_73 rfl (lv_at hl 2 rfl) ?_
          exact txL C hb hret hlk hP hS dX0_worst_74 rfl rfl (by unfold xE_trait; rw [c64]; rfl)
        · have hlt : i < levN (tN t) := nle_nI (a := levN (tN t)) (b := i) (by omega) (by omega) c65
          refine lv_aload_n C.1 hb dX0_worst_32 rfl (lv_at hl 0 rfl) ?_
          refine lv_aload_n C.1 hb dX0_worst_33 rfl (lv_at hl 0 rfl) ?_
          refine gX_losses C hb hP dX0_worst_34 ?_
          refine lv_iload_n C.1 hb dX0_worst_37 rfl (lv_at hl 1 rfl) ?_
          refine toI ht1 ?_
          refine lv_iload C.1 hb dX0_worst_38 (lv_at hl 3 rfl) ?_
          refine run_rd (cRunX (As := [.ref (gA g 11), .int (nI (tN t)), .int (nI i)]) (rest := []) C hb (hml.trans hl.1.symm) hP hS rfl (k_X0_levelTotal l g S n hI 2 (by decide) (tN t) ht2 (nI i)) wm_71 wm_72 wm_73 wm_74 wm_12 (n := 3) (by decide +kernel) rfl ⟨rfl, rfl, Nat.le_of_ble_eq_true rfl, Nat.le_of_ble_eq_true rfl⟩ (Nat.le_of_ble_eq_true rfl) rfl ⟨Nat.zero_le _, Nat.zero_le _⟩ dX0_worst_40) ?_
          refine lv_aload_n C.1 hb dX0_worst_43 rfl (lv_at hl 0 rfl) ?_
          refine lv_aload_n C.1 hb dX0_worst_44 rfl (lv_at hl 0 rfl) ?_
          refine gX_fittedLosses C hb hP dX0_worst_45 ?_
          refine lv_iload_n C.1 hb dX0_worst_48 rfl (lv_at hl 1 rfl) ?_
          refine toI ht1 ?_
          refine lv_iload C.1 hb dX0_worst_49 (lv_at hl 3 rfl) ?_
          refine run_rd (cRunX (As := [.ref (gA g 14), .int (nI (tN t)), .int (nI i)]) (rest := [.long (xLTot (xIa S 1) (xLev S (tN t)) (nI i) (xLng S 2) n)]) C hb (hml.trans hl.1.symm) hP hS rfl (k_X0_levelTotal l g S n hI 3 (by decide) (tN t) ht2 (nI i)) wm_71 wm_72 wm_73 wm_74 wm_12 (n := 3) (by decide +kernel) rfl ⟨rfl, rfl, Nat.le_of_ble_eq_true rfl, Nat.le_of_ble_eq_true rfl⟩ (Nat.le_of_ble_eq_true rfl) rfl ⟨Nat.zero_le _, Nat.zero_le _⟩ dX0_worst_51) ?_
          refine lv_lsub C.1 hb dX0_worst_54 ?_
          refine lv_lstore (lv' := [(5, .long ((xLTot (xIa S 1) (xLev S (tN t)) (nI i) (xLng S 2) n) - (xLTot (xIa S 1) (xLev S (tN t)) (nI i) (xLng S 3) n))), (0, .ref (gA g 0)), (1, .int t), (2, .long (xWorst S n (tN t) i)), (4, .int (nI i))]) C.1 hb dX0_worst_55 hl (by decide) rfl (fun ls hl => ?_)
          refine lv_lload_n C.1 hb dX0_worst_57 rfl (lv_at hl 3 rfl) ?_
          refine lv_lload C.1 hb dX0_worst_58 (lv_at hl 0 rfl) ?_
          refine va_mabs_long C.1 hb (hml.trans hl.1.symm) C.2.1 (C.2.2.1 _ wm_262) (C.2.2.1 _ wm_263) (C.2.2.1 _ wm_80) (C.2.2.1 _ wm_264) (Nat.le_of_ble_eq_true rfl) (Nat.le_of_ble_eq_true rfl) (Nat.zero_le _) (Nat.zero_le _) dX0_worst_60 ?_
          refine va_mmax_long C.1 hb (hml.trans hl.1.symm) C.2.1 (C.2.2.1 _ wm_78) (C.2.2.1 _ wm_79) (C.2.2.1 _ wm_80) (C.2.2.1 _ wm_81) (Nat.le_of_ble_eq_true rfl) (Nat.le_of_ble_eq_true rfl) (Nat.zero_le _) (Nat.zero_le _) dX0_worst_63 ?_
          refine lv_lstore_n (lv' := [(2, .long (mx64 (xWorst S n (tN t) i) (ab64 ((xLTot (xIa S 1) (xLev S (tN t)) (nI i) (xLng S 2) n) - (xLTot (xIa S 1) (xLev S (tN t)) (nI i) (xLng S 3) n))))), (5, .long ((xLTot (xIa S 1) (xLev S (tN t)) (nI i) (xLng S 2) n) - (xLTot (xIa S 1) (xLev S (tN t)) (nI i) (xLng S 3) n))), (0, .ref (gA g 0)), (1, .int t), (4, .int (nI i))]) C.1 hb dX0_worst_66 rfl hl (by decide) rfl (fun ls hl => ?_)
          refine lv_iinc (v := nI (i + 1)) (lv' := [(4, .int (nI (i + 1))), (2, .long (mx64 (xWorst S n (tN t) i) (ab64 ((xLTot (xIa S 1) (xLev S (tN t)) (nI i) (xLng S 2) n) - (xLTot (xIa S 1) (xLev S (tN t)) (nI i) (xLng S 3) n))))), (5, .long ((xLTot (xIa S 1) (xLev S (tN t)) (nI i) (xLng S 2) n) - (xLTot (xIa S 1) (xLev S (tN t)) (nI i) (xLng S 3) n))), (0, .ref (gA g 0)), (1, .int t)]) C.1 hb dX0_worst_67 hl (k := 4) rfl (nI_1 i) (by decide) rfl (fun ls hl => ?_)
          refine lv_goto (tgt := 22) C.1 hb dX0_worst_70 (by decide) ?_
          exact ih (i + 1) (by omega) (by omega)  _ _ hP hS ls (lv_sub hl [3, 4, 1, 0] rfl)
    exact key (levN (tN t) - 0 + 1) 0 (by omega) (by omega)  _ _ hP hS ls (lv_sub hl [2, 3, 1, 0] rfl)
  · exact xthrowB C hb hl0 hlk hP hS (hl.1.trans hml.symm) het (text := "no such trait") (by decide) dX0_worst_7 dX0_worst_10 dX0_worst_11 dX0_worst_13 dX0_worst_16 ⟨Nat.le_of_ble_eq_true rfl, Nat.le_of_ble_eq_true rfl, Nat.le_of_ble_eq_true rfl, Nat.le_of_ble_eq_true rfl⟩ (by unfold xE_trait; rw [c64]; rfl) rfl

set_option maxRecDepth 100000 in
set_option maxHeartbeats 4000000 in
theorem k_X0_premium (l : Launch) (hl0 : l.stackTraces = false) (g : gG) (S : WS) (n : Nat) (hI : XI n S) (r : Int32) : vx_Met l yX0_premium (wA yX0_premium cX0_premium 2 (some .long)) ({ frames := 6, cells := 1, slots := 6, locals := 250 }) (PW g S [.ref (gA g 0), .int r]) (TQ g S (xE_row S r) (some (.long (xNewP S (tN r))))) (TX g S (xE_row S r)) 1 6 (Ab g) := by
  refine metX (by decide +kernel) (Nat.le_of_ble_eq_true rfl) ?_
  intro p e s m below meth c C hb hml hret hlk hP het ls hl
  have C : CW g RX0 p s m ([.ref (gA g 0), .int r] : List Value).toArray := C
  have hS : va_S (Ab g) s.heap s.heap [] := va_S.rf
  have hl : lv_has ls 2 [(0, .ref (gA g 0)), (1, .int r)] := hl
  refine lv_aload_n C.1 hb dX0_premium_0 rfl (lv_at hl 0 rfl) ?_
  refine lv_iload_n C.1 hb dX0_premium_1 rfl (lv_at hl 1 rfl) ?_
  refine run_rd (cRunX (As := [.int r]) (rest := []) C hb (hml.trans hl.1.symm) hP hS rfl (k_X0_hasRow l g S n hI r) wm_139 wm_140 wm_141 wm_142 wm_12 (n := 1) (by decide +kernel) rfl ⟨rfl, rfl, Nat.le_of_ble_eq_true rfl, Nat.le_of_ble_eq_true rfl⟩ (Nat.le_of_ble_eq_true rfl) rfl ⟨Nat.zero_le _, Nat.zero_le _⟩ dX0_premium_2) ?_
  refine bz_ne (tgt := 18) C hb dX0_premium_5 (by decide) (fun c66 => ?_) (fun c66 => ?_)
  · have hx := xHasRow_ix hI.1 hI.2.1 c66
    have hx1 := hx.1.1
    have hx2 := hx.1.2
    have hn40 := hI.1
    refine lv_aload_n C.1 hb dX0_premium_18 rfl (lv_at hl 0 rfl) ?_
    refine lv_iload_n C.1 hb dX0_premium_19 rfl (lv_at hl 1 rfl) ?_
    refine toI hx1 ?_
    refine run_rd (cRunX (As := [.int (nI (tN r))]) (rest := []) C hb (hml.trans hl.1.symm) hP hS rfl (k_X0_newPremium l g S (tN r) (by omega)) wm_147 wm_148 wm_149 wm_150 wm_12 (n := 1) (by decide +kernel) rfl ⟨rfl, rfl, Nat.le_of_ble_eq_true rfl, Nat.le_of_ble_eq_true rfl⟩ (Nat.le_of_ble_eq_true rfl) rfl ⟨Nat.zero_le _, Nat.zero_le _⟩ dX0_premium_20) ?_
    exact txL C hb hret hlk hP hS dX0_premium_23 rfl rfl (by unfold xE_row; rw [c66]; rfl)
  · exact xthrowB C hb hl0 hlk hP hS (hl.1.trans hml.symm) het (text := "no such row") (by decide) dX0_premium_8 dX0_premium_11 dX0_premium_12 dX0_premium_14 dX0_premium_17 ⟨Nat.le_of_ble_eq_true rfl, Nat.le_of_ble_eq_true rfl, Nat.le_of_ble_eq_true rfl, Nat.le_of_ble_eq_true rfl⟩ (by unfold xE_row; rw [c66]; rfl) rfl

set_option maxRecDepth 100000 in
set_option maxHeartbeats 4000000 in
theorem k_X0_capped (l : Launch) (hl0 : l.stackTraces = false) (g : gG) (S : WS) (n : Nat) (hI : XI n S) (r : Int32) : vx_Met l yX0_capped (wA yX0_capped cX0_capped 2 (some .long)) ({ frames := 6, cells := 1, slots := 6, locals := 250 }) (PW g S [.ref (gA g 0), .int r]) (TQ g S (xE_row S r) (some (.long (xCapP S (tN r))))) (TX g S (xE_row S r)) 1 6 (Ab g) := by
  refine metX (by decide +kernel) (Nat.le_of_ble_eq_true rfl) ?_
  intro p e s m below meth c C hb hml hret hlk hP het ls hl
  have C : CW g RX0 p s m ([.ref (gA g 0), .int r] : List Value).toArray := C
  have hS : va_S (Ab g) s.heap s.heap [] := va_S.rf
  have hl : lv_has ls 2 [(0, .ref (gA g 0)), (1, .int r)] := hl
  refine lv_aload_n C.1 hb dX0_capped_0 rfl (lv_at hl 0 rfl) ?_
  refine lv_iload_n C.1 hb dX0_capped_1 rfl (lv_at hl 1 rfl) ?_
  refine run_rd (cRunX (As := [.int r]) (rest := []) C hb (hml.trans hl.1.symm) hP hS rfl (k_X0_hasRow l g S n hI r) wm_139 wm_140 wm_141 wm_142 wm_12 (n := 1) (by decide +kernel) rfl ⟨rfl, rfl, Nat.le_of_ble_eq_true rfl, Nat.le_of_ble_eq_true rfl⟩ (Nat.le_of_ble_eq_true rfl) rfl ⟨Nat.zero_le _, Nat.zero_le _⟩ dX0_capped_2) ?_
  refine bz_ne (tgt := 18) C hb dX0_capped_5 (by decide) (fun c67 => ?_) (fun c67 => ?_)
  · have hx := xHasRow_ix hI.1 hI.2.1 c67
    have hx1 := hx.1.1
    have hx2 := hx.1.2
    have hn40 := hI.1
    refine lv_aload_n C.1 hb dX0_capped_18 rfl (lv_at hl 0 rfl) ?_
    refine lv_iload_n C.1 hb dX0_capped_19 rfl (lv_at hl 1 rfl) ?_
    refine toI hx1 ?_
    refine run_rd (cRunX (As := [.int (nI (tN r))]) (rest := []) C hb (hml.trans hl.1.symm) hP hS rfl (k_X0_cappedPremium l g S (tN r) (by omega)) wm_155 wm_156 wm_157 wm_158 wm_12 (n := 1) (by decide +kernel) rfl ⟨rfl, rfl, Nat.le_of_ble_eq_true rfl, Nat.le_of_ble_eq_true rfl⟩ (Nat.le_of_ble_eq_true rfl) rfl ⟨Nat.zero_le _, Nat.zero_le _⟩ dX0_capped_20) ?_
    exact txL C hb hret hlk hP hS dX0_capped_23 rfl rfl (by unfold xE_row; rw [c67]; rfl)
  · exact xthrowB C hb hl0 hlk hP hS (hl.1.trans hml.symm) het (text := "no such row") (by decide) dX0_capped_8 dX0_capped_11 dX0_capped_12 dX0_capped_14 dX0_capped_17 ⟨Nat.le_of_ble_eq_true rfl, Nat.le_of_ble_eq_true rfl, Nat.le_of_ble_eq_true rfl, Nat.le_of_ble_eq_true rfl⟩ (by unfold xE_row; rw [c67]; rfl) rfl

set_option maxRecDepth 100000 in
set_option maxHeartbeats 4000000 in
theorem k_X0_rankedAt (l : Launch) (hl0 : l.stackTraces = false) (g : gG) (S : WS) (n : Nat) (hI : XI n S) (q : Int32) : vx_Met l yX0_rankedAt (wA yX0_rankedAt cX0_rankedAt 3 (some .int)) ({ frames := 6, cells := 1, slots := 6, locals := 250 }) (PW g S [.ref (gA g 0), .int q]) (TQ g S (xE_rank S n q) (some (.int (nI ((xRank S n q).getD 0))))) (TX g S (xE_rank S n q)) 1 6 (Ab g) := by
  refine metX (by decide +kernel) (Nat.le_of_ble_eq_true rfl) ?_
  intro p e s m below meth c C hb hml hret hlk hP het ls hl
  have C : CW g RX0 p s m ([.ref (gA g 0), .int q] : List Value).toArray := C
  have hS : va_S (Ab g) s.heap s.heap [] := va_S.rf
  have hl : lv_has ls 3 [(0, .ref (gA g 0)), (1, .int q)] := hl
  refine lv_iconst (v := 0) C.1 hb dX0_rankedAt_0 (by decide) ?_
  refine lv_istore_n (lv' := [(2, .int 0), (0, .ref (gA g 0)), (1, .int q)]) C.1 hb dX0_rankedAt_1 rfl hl (by decide) rfl (fun ls hl => ?_)
  have key : ∀ f i : Nat, n - i < f → i ≤ n → (xRankF S n q (n - i) i = xRank S n q) → ∀ (H : Heap) (locs : List Loc), HW g S H → va_S (Ab g) s.heap H locs → ∀ ls : Array Slot, lv_has ls 3 [(0, .ref (gA g 0)), (1, .int q), (2, .int (nI i))] → W p l e ({ frames := 6, cells := 1, slots := 6, locals := 250 }) s m ([.ref (gA g 0), .int q] : List Value).toArray below meth c H locs 0 0 (vx_MQ below (TQ g S (xE_rank S n q) (some (.int (nI ((xRank S n q).getD 0))))) (TX g S (xE_rank S n q)) ([.ref (gA g 0), .int q] : List Value).toArray s 1 6 (Ab g)) (F0 m 2 ls []) := by
    intro f
    induction f with
    | zero => intro i h; exact absurd h (Nat.not_lt_zero _)
    | succ f ih =>
      intro i hfi hi heq H locs hP hS ls hl
      refine lv_iload_n C.1 hb dX0_rankedAt_2 rfl (lv_at hl 2 rfl) ?_
      refine lv_aload_n C.1 hb dX0_rankedAt_3 rfl (lv_at hl 0 rfl) ?_
      refine gX_addedRows C hb hP dX0_rankedAt_4 ?_
      refine lv_icmp_ge (tgt := 36) C.1 hb dX0_rankedAt_7 (by decide) (fun c68 => ?_) (fun c68 => ?_)
      · have hin : i = n := by have := le_nI (a := n) (b := i) (by have := hI.1; omega) (by have := hI.1; omega) (by rw [← hI.2.1]; exact c68); omega
        rw [hin] at hl
        have he : xRank S n q = none := by rw [← heq, hin, Nat.sub_self]; rfl
        exact xthrowB C hb hl0 hlk hP hS (hl.1.trans hml.symm) het (text := "no such place") (by decide) dX0_rankedAt_36 dX0_rankedAt_39 dX0_rankedAt_40 dX0_rankedAt_42 dX0_rankedAt_45 ⟨Nat.le_of_ble_eq_true rfl, Nat.le_of_ble_eq_true rfl, Nat.le_of_ble_eq_true rfl, Nat.le_of_ble_eq_true rfl⟩ (by unfold xE_rank; rw [he]) rfl
      · have hlt : i < n := nle_nI (a := n) (b := i) (by have := hI.1; omega) (by have := hI.1; omega) (by rw [← hI.2.1]; exact c68)
        have hn40 := hI.1
        have hd : n - i = (n - (i + 1)) + 1 := by omega
        rw [hd] at heq
        refine lv_aload_n C.1 hb dX0_rankedAt_10 rfl (lv_at hl 0 rfl) ?_
        refine gX_live C hb hP dX0_rankedAt_11 ?_
        refine lv_iload_n C.1 hb dX0_rankedAt_14 rfl (lv_at hl 2 rfl) ?_
        refine ldX_live (j := i) C hb hP rfl (by omega) dX0_rankedAt_15 ?_
        refine lv_if_eq (tgt := 30) C.1 hb dX0_rankedAt_16 (by decide) (fun c69 => ?_) (fun c69 => ?_)
        · refine lv_iinc (v := nI (i + 1)) (lv' := [(2, .int (nI (i + 1))), (0, .ref (gA g 0)), (1, .int q)]) C.1 hb dX0_rankedAt_30 hl (k := 2) rfl (nI_1 i) (by decide) rfl (fun ls hl => ?_)
          refine lv_goto (tgt := 2) C.1 hb dX0_rankedAt_33 (by decide) ?_
          exact ih (i + 1) (by omega) (by omega) ((if_pos c69).symm.trans heq) _ _ hP hS ls (lv_sub hl [1, 2, 0] rfl)
        · refine lv_aload_n C.1 hb dX0_rankedAt_19 rfl (lv_at hl 0 rfl) ?_
          refine lv_iload_n C.1 hb dX0_rankedAt_20 rfl (lv_at hl 2 rfl) ?_
          refine run_rd (cRunX (As := [.int (nI i)]) (rest := []) C hb (hml.trans hl.1.symm) hP hS rfl (k_X0_placeOf l g S n hI i (by omega)) wm_272 wm_273 wm_274 wm_275 wm_12 (n := 1) (by decide +kernel) rfl ⟨rfl, rfl, Nat.le_of_ble_eq_true rfl, Nat.le_of_ble_eq_true rfl⟩ (Nat.le_of_ble_eq_true rfl) rfl ⟨Nat.zero_le _, Nat.zero_le _⟩ dX0_rankedAt_21) ?_
          refine lv_iload_n C.1 hb dX0_rankedAt_24 rfl (lv_at hl 1 rfl) ?_
          refine lv_icmp_ne (tgt := 30) C.1 hb dX0_rankedAt_25 (by decide) (fun c70 => ?_) (fun c70 => ?_)
          · refine lv_iinc (v := nI (i + 1)) (lv' := [(2, .int (nI (i + 1))), (0, .ref (gA g 0)), (1, .int q)]) C.1 hb dX0_rankedAt_30 hl (k := 2) rfl (nI_1 i) (by decide) rfl (fun ls hl => ?_)
            refine lv_goto (tgt := 2) C.1 hb dX0_rankedAt_33 (by decide) ?_
            exact ih (i + 1) (by omega) (by omega) (((if_neg c69).trans (if_neg c70)).symm.trans heq) _ _ hP hS ls (lv_sub hl [1, 2, 0] rfl)
          · have he : xRank S n q = some i := heq.symm.trans ((if_neg c69).trans (if_pos c70))
            refine lv_iload_n C.1 hb dX0_rankedAt_28 rfl (lv_at hl 2 rfl) ?_
            exact txI C hb hret hlk hP hS dX0_rankedAt_29 (by rw [he]; rfl) rfl (by unfold xE_rank; rw [he])
  exact key (n - 0 + 1) 0 (by omega) (by omega) rfl _ _ hP hS ls (lv_sub hl [1, 2, 0] rfl)

set_option maxRecDepth 100000 in
set_option maxHeartbeats 4000000 in
theorem k_X0_add (l : Launch) (hl0 : l.stackTraces = false) (g : gG) (S : WS) (n : Nat) (hI : XI n S) (a b q ex cl lo : Int32) : vx_Met l yX0_add (wA yX0_add cX0_add 8 (some .int)) ({ frames := 6, cells := 1, slots := 6, locals := 250 }) (PW g S [.ref (gA g 0), .int a, .int b, .int q, .int ex, .int cl, .int lo]) (TQ g (xR_add S n a b q ex cl lo) (xE_add S a b q ex cl lo) (some (.int (nI n)))) (TX g (xR_add S n a b q ex cl lo) (xE_add S a b q ex cl lo)) 1 6 (Ab g) := by
  refine metX (by decide +kernel) (Nat.le_of_ble_eq_true rfl) ?_
  intro p e s m below meth c C hb hml hret hlk hP het ls hl
  have C : CW g RX0 p s m ([.ref (gA g 0), .int a, .int b, .int q, .int ex, .int cl, .int lo] : List Value).toArray := C
  have hS : va_S (Ab g) s.heap s.heap [] := va_S.rf
  have hl : lv_has ls 8 [(0, .ref (gA g 0)), (1, .int a), (2, .int b), (3, .int q), (4, .int ex), (5, .int cl), (6, .int lo)] := hl
  refine lv_iconst (v := 0) C.1 hb dX0_add_0 (by decide) ?_
  refine lv_iload_n C.1 hb dX0_add_1 rfl (lv_at hl 1 rfl) ?_
  refine run_rd (cRunS (As := [.int 0, .int a]) (rest := []) C hb (hml.trans hl.1.symm) hP hS (k_X0_hasLevel l g S 0 a) wm_121 wm_122 wm_123 wm_12 (n := 2) (by decide +kernel) rfl ⟨rfl, rfl, Nat.le_of_ble_eq_true rfl, Nat.le_of_ble_eq_true rfl⟩ (Nat.le_of_ble_eq_true rfl) rfl ⟨Nat.zero_le _, Nat.zero_le _⟩ dX0_add_2) ?_
  refine bz_eq (tgt := 24) C hb dX0_add_5 (by decide) (fun c71 => ?_) (fun c71 => ?_)
  · have ho : xAddOk a b q ex cl lo = false := by simp [xAddOk, c71]
    exact xthrowI C hb hl0 hlk hP hS (hl.1.trans hml.symm) het (text := "no such level") (by decide) dX0_add_24 dX0_add_27 dX0_add_28 dX0_add_30 dX0_add_33 ⟨Nat.le_of_ble_eq_true rfl, Nat.le_of_ble_eq_true rfl, Nat.le_of_ble_eq_true rfl, Nat.le_of_ble_eq_true rfl⟩ (by unfold xE_add; rw [ho]; rfl) (by unfold xR_add; rw [ho]; rfl)
  · refine lv_iconst (v := 1) C.1 hb dX0_add_8 (by decide) ?_
    refine lv_iload_n C.1 hb dX0_add_9 rfl (lv_at hl 2 rfl) ?_
    refine run_rd (cRunS (As := [.int 1, .int b]) (rest := []) C hb (hml.trans hl.1.symm) hP hS (k_X0_hasLevel l g S 1 b) wm_121 wm_122 wm_123 wm_12 (n := 2) (by decide +kernel) rfl ⟨rfl, rfl, Nat.le_of_ble_eq_true rfl, Nat.le_of_ble_eq_true rfl⟩ (Nat.le_of_ble_eq_true rfl) rfl ⟨Nat.zero_le _, Nat.zero_le _⟩ dX0_add_10) ?_
    refine bz_eq (tgt := 24) C hb dX0_add_13 (by decide) (fun c72 => ?_) (fun c72 => ?_)
    · have ho : xAddOk a b q ex cl lo = false := by simp [xAddOk, c72]
      exact xthrowI C hb hl0 hlk hP hS (hl.1.trans hml.symm) het (text := "no such level") (by decide) dX0_add_24 dX0_add_27 dX0_add_28 dX0_add_30 dX0_add_33 ⟨Nat.le_of_ble_eq_true rfl, Nat.le_of_ble_eq_true rfl, Nat.le_of_ble_eq_true rfl, Nat.le_of_ble_eq_true rfl⟩ (by unfold xE_add; rw [ho]; rfl) (by unfold xR_add; rw [ho]; rfl)
    · refine lv_iconst (v := 2) C.1 hb dX0_add_16 (by decide) ?_
      refine lv_iload_n C.1 hb dX0_add_17 rfl (lv_at hl 3 rfl) ?_
      refine run_rd (cRunS (As := [.int 2, .int q]) (rest := []) C hb (hml.trans hl.1.symm) hP hS (k_X0_hasLevel l g S 2 q) wm_121 wm_122 wm_123 wm_12 (n := 2) (by decide +kernel) rfl ⟨rfl, rfl, Nat.le_of_ble_eq_true rfl, Nat.le_of_ble_eq_true rfl⟩ (Nat.le_of_ble_eq_true rfl) rfl ⟨Nat.zero_le _, Nat.zero_le _⟩ dX0_add_18) ?_
      refine bz_ne (tgt := 34) C hb dX0_add_21 (by decide) (fun c73 => ?_) (fun c73 => ?_)
      · refine lv_iload C.1 hb dX0_add_34 (lv_at hl 4 rfl) ?_
        refine lv_iconst (v := 1) C.1 hb dX0_add_36 (by decide) ?_
        refine lv_sipush (v := 1000) C.1 hb dX0_add_37 (by decide) ?_
        refine run_rd (cRunS (As := [.int ex, .int 1, .int 1000]) (rest := []) C hb (hml.trans hl.1.symm) hP hS (k_X0_isWithin l g S ex 1 1000) wm_127 wm_128 wm_129 wm_12 (n := 3) (by decide +kernel) rfl ⟨rfl, rfl, Nat.le_of_ble_eq_true rfl, Nat.le_of_ble_eq_true rfl⟩ (Nat.le_of_ble_eq_true rfl) rfl ⟨Nat.zero_le _, Nat.zero_le _⟩ dX0_add_40) ?_
        refine bz_eq (tgt := 69) C hb dX0_add_43 (by decide) (fun c74 => ?_) (fun c74 => ?_)
        · have ho : xAddOk a b q ex cl lo = false := by simp [xAddOk, c74]
          exact xthrowI C hb hl0 hlk hP hS (hl.1.trans hml.symm) het (text := "exposure, claims or loss out of range") (by decide) dX0_add_69 dX0_add_72 dX0_add_73 dX0_add_75 dX0_add_78 ⟨Nat.le_of_ble_eq_true rfl, Nat.le_of_ble_eq_true rfl, Nat.le_of_ble_eq_true rfl, Nat.le_of_ble_eq_true rfl⟩ (by unfold xE_add; rw [ho]; rfl) (by unfold xR_add; rw [ho]; rfl)
        · refine lv_iload C.1 hb dX0_add_46 (lv_at hl 5 rfl) ?_
          refine lv_iconst (v := 0) C.1 hb dX0_add_48 (by decide) ?_
          refine lv_sipush (v := 1000) C.1 hb dX0_add_49 (by decide) ?_
          refine run_rd (cRunS (As := [.int cl, .int 0, .int 1000]) (rest := []) C hb (hml.trans hl.1.symm) hP hS (k_X0_isWithin l g S cl 0 1000) wm_127 wm_128 wm_129 wm_12 (n := 3) (by decide +kernel) rfl ⟨rfl, rfl, Nat.le_of_ble_eq_true rfl, Nat.le_of_ble_eq_true rfl⟩ (Nat.le_of_ble_eq_true rfl) rfl ⟨Nat.zero_le _, Nat.zero_le _⟩ dX0_add_52) ?_
          refine bz_eq (tgt := 69) C hb dX0_add_55 (by decide) (fun c75 => ?_) (fun c75 => ?_)
          · have ho : xAddOk a b q ex cl lo = false := by simp [xAddOk, c75]
            exact xthrowI C hb hl0 hlk hP hS (hl.1.trans hml.symm) het (text := "exposure, claims or loss out of range") (by decide) dX0_add_69 dX0_add_72 dX0_add_73 dX0_add_75 dX0_add_78 ⟨Nat.le_of_ble_eq_true rfl, Nat.le_of_ble_eq_true rfl, Nat.le_of_ble_eq_true rfl, Nat.le_of_ble_eq_true rfl⟩ (by unfold xE_add; rw [ho]; rfl) (by unfold xR_add; rw [ho]; rfl)
          · refine lv_iload C.1 hb dX0_add_58 (lv_at hl 6 rfl) ?_
            refine lv_iconst (v := 0) C.1 hb dX0_add_60 (by decide) ?_
            refine lv_ldc (v := 1000000) C.1 hb C.2.1 (C.2.2.1 _ wm_120) dX0_add_61 ?_
            refine run_rd (cRunS (As := [.int lo, .int 0, .int 1000000]) (rest := []) C hb (hml.trans hl.1.symm) hP hS (k_X0_isWithin l g S lo 0 1000000) wm_127 wm_128 wm_129 wm_12 (n := 3) (by decide +kernel) rfl ⟨rfl, rfl, Nat.le_of_ble_eq_true rfl, Nat.le_of_ble_eq_true rfl⟩ (Nat.le_of_ble_eq_true rfl) rfl ⟨Nat.zero_le _, Nat.zero_le _⟩ dX0_add_63) ?_
            refine bz_ne (tgt := 79) C hb dX0_add_66 (by decide) (fun c76 => ?_) (fun c76 => ?_)
            · have ho : xAddOk a b q ex cl lo = true := by simp [xAddOk, c71, c72, c73, c74, c75, c76]
              refine lv_aload_n C.1 hb dX0_add_79 rfl (lv_at hl 0 rfl) ?_
              refine gX_addedRows C hb hP dX0_add_80 ?_
              refine toI hI.2.1 ?_
              refine lv_bipush (v := 40) C.1 hb dX0_add_83 (by decide) ?_
              refine lv_icmp_lt (tgt := 98) C.1 hb dX0_add_85 (by decide) (fun c77 => ?_) (fun c77 => ?_)
              · have hlt : n < 40 := (nI_ltI (a := n) (b := 40) (by have := hI.1; omega) (by decide)).mp c77
                have hd : xSc S 0 < 40 := by rw [hI.2.1]; exact c77
                refine lv_aload_n C.1 hb dX0_add_98 rfl (lv_at hl 0 rfl) ?_
                refine gX_addedRows C hb hP dX0_add_99 ?_
                refine toI hI.2.1 ?_
                refine lv_istore (lv' := [(7, .int (nI n)), (0, .ref (gA g 0)), (1, .int a), (2, .int b), (3, .int q), (4, .int ex), (5, .int cl), (6, .int lo)]) C.1 hb dX0_add_102 hl (by decide) rfl (fun ls hl => ?_)
                refine lv_aload_n C.1 hb dX0_add_104 rfl (lv_at hl 1 rfl) ?_
                refine gX_rowLevels C hb hP dX0_add_105 ?_
                refine lv_iconst (v := 0) C.1 hb dX0_add_108 (by decide) ?_
                refine al_lev (t := 0) C hb hP (by decide) (by decide) dX0_add_109 ?_
                refine lv_iload C.1 hb dX0_add_110 (lv_at hl 0 rfl) ?_
                refine lv_iload_n C.1 hb dX0_add_112 rfl (lv_at hl 2 rfl) ?_
                refine stX_lev (t := 0) (j := n) C hb hP hS (by decide) rfl (by omega) dX0_add_113 (fun H locs hP hS => ?_)
                have hP : HW g (xAd1 S n a) H := hP
                refine lv_aload_n C.1 hb dX0_add_114 rfl (lv_at hl 1 rfl) ?_
                refine gX_rowLevels C hb hP dX0_add_115 ?_
                refine lv_iconst (v := 1) C.1 hb dX0_add_118 (by decide) ?_
                refine al_lev (t := 1) C hb hP (by decide) (by decide) dX0_add_119 ?_
                refine lv_iload C.1 hb dX0_add_120 (lv_at hl 0 rfl) ?_
                refine lv_iload_n C.1 hb dX0_add_122 rfl (lv_at hl 3 rfl) ?_
                refine stX_lev (t := 1) (j := n) C hb hP hS (by decide) rfl (by omega) dX0_add_123 (fun H locs hP hS => ?_)
                have hP : HW g (xAd2 S n a b) H := hP
                refine lv_aload_n C.1 hb dX0_add_124 rfl (lv_at hl 1 rfl) ?_
                refine gX_rowLevels C hb hP dX0_add_125 ?_
                refine lv_iconst (v := 2) C.1 hb dX0_add_128 (by decide) ?_
                refine al_lev (t := 2) C hb hP (by decide) (by decide) dX0_add_129 ?_
                refine lv_iload C.1 hb dX0_add_130 (lv_at hl 0 rfl) ?_
                refine lv_iload_n C.1 hb dX0_add_132 rfl (lv_at hl 4 rfl) ?_
                refine stX_lev (t := 2) (j := n) C hb hP hS (by decide) rfl (by omega) dX0_add_133 (fun H locs hP hS => ?_)
                have hP : HW g (xAd3 S n a b q) H := hP
                refine lv_aload_n C.1 hb dX0_add_134 rfl (lv_at hl 1 rfl) ?_
                refine gX_exposures C hb hP dX0_add_135 ?_
                refine lv_iload C.1 hb dX0_add_138 (lv_at hl 0 rfl) ?_
                refine lv_iload C.1 hb dX0_add_140 (lv_at hl 5 rfl) ?_
                refine lv_i2l C.1 hb dX0_add_142 rfl ?_
                refine stX_exposures (j := n) C hb hP hS rfl (by omega) dX0_add_143 (fun H locs hP hS => ?_)
                have hP : HW g (xAd4 S n a b q ex) H := hP
                refine lv_aload_n C.1 hb dX0_add_144 rfl (lv_at hl 1 rfl) ?_
                refine gX_claims C hb hP dX0_add_145 ?_
                refine lv_iload C.1 hb dX0_add_148 (lv_at hl 0 rfl) ?_
                refine lv_iload C.1 hb dX0_add_150 (lv_at hl 6 rfl) ?_
                refine lv_i2l C.1 hb dX0_add_152 rfl ?_
                refine stX_claims (j := n) C hb hP hS rfl (by omega) dX0_add_153 (fun H locs hP hS => ?_)
                have hP : HW g (xAd5 S n a b q ex cl) H := hP
                refine lv_aload_n C.1 hb dX0_add_154 rfl (lv_at hl 1 rfl) ?_
                refine gX_losses C hb hP dX0_add_155 ?_
                refine lv_iload C.1 hb dX0_add_158 (lv_at hl 0 rfl) ?_
                refine lv_iload C.1 hb dX0_add_160 (lv_at hl 7 rfl) ?_
                refine lv_i2l C.1 hb dX0_add_162 rfl ?_
                refine stX_losses (j := n) C hb hP hS rfl (by omega) dX0_add_163 (fun H locs hP hS => ?_)
                have hP : HW g (xAd6 S n a b q ex cl lo) H := hP
                refine lv_aload_n C.1 hb dX0_add_164 rfl (lv_at hl 1 rfl) ?_
                refine gX_oldPremiums C hb hP dX0_add_165 ?_
                refine lv_iload C.1 hb dX0_add_168 (lv_at hl 0 rfl) ?_
                refine lv_iconst (v := (-1)) C.1 hb dX0_add_170 (by decide) ?_
                refine stX_oldPremiums (j := n) C hb hP hS rfl (by omega) dX0_add_171 (fun H locs hP hS => ?_)
                have hP : HW g (xAd7 S n a b q ex cl lo) H := hP
                refine lv_aload_n C.1 hb dX0_add_172 rfl (lv_at hl 1 rfl) ?_
                refine gX_live C hb hP dX0_add_173 ?_
                refine lv_iload C.1 hb dX0_add_176 (lv_at hl 0 rfl) ?_
                refine lv_iconst (v := 1) C.1 hb dX0_add_178 (by decide) ?_
                refine stX_live (j := n) C hb hP hS rfl (by omega) (by decide) dX0_add_179 (fun H locs hP hS => ?_)
                have hP : HW g (xAd8 S n a b q ex cl lo) H := hP
                refine lv_aload_n C.1 hb dX0_add_180 rfl (lv_at hl 1 rfl) ?_
                refine lv_dup C.1 hb dX0_add_181 rfl ?_
                refine gX_addedRows C hb hP dX0_add_182 ?_
                refine lv_iconst (v := 1) C.1 hb dX0_add_185 (by decide) ?_
                refine lv_iadd C.1 hb dX0_add_186 ?_
                refine toI (show xSc (xAd8 S n a b q ex cl lo) 0 + 1 = nI (n + 1) by rw [show xSc (xAd8 S n a b q ex cl lo) 0 = nI n from hI.2.1]; exact nI_1 n) ?_
                refine pX_addedRows C hb hP hS dX0_add_187 (fun H locs hP hS => ?_)
                have hP : HW g (xAd9 S n a b q ex cl lo) H := hP
                refine lv_aload_n C.1 hb dX0_add_190 rfl (lv_at hl 1 rfl) ?_
                refine lv_dup C.1 hb dX0_add_191 rfl ?_
                refine gX_liveRows C hb hP dX0_add_192 ?_
                refine lv_iconst (v := 1) C.1 hb dX0_add_195 (by decide) ?_
                refine lv_iadd C.1 hb dX0_add_196 ?_
                refine pX_liveRows C hb hP hS dX0_add_197 (fun H locs hP hS => ?_)
                have hP : HW g (xAd S n a b q ex cl lo) H := hP
                refine lv_aload_n C.1 hb dX0_add_200 rfl (lv_at hl 1 rfl) ?_
                refine run_wr (cRunX (As := []) (rest := []) C hb (hml.trans hl.1.symm) hP hS rfl (k_X0_refit l g (xAd S n a b q ex cl lo) (n + 1) (xAd_XI hI hlt ho)) wm_85 wm_86 wm_87 wm_88 wm_12 (n := 0) (by decide +kernel) rfl ⟨rfl, rfl, Nat.le_of_ble_eq_true rfl, Nat.le_of_ble_eq_true rfl⟩ (Nat.le_of_ble_eq_true rfl) rfl ⟨Nat.zero_le _, Nat.zero_le _⟩ dX0_add_201) hS (fun H locs hP hS => ?_)
                refine lv_iload C.1 hb dX0_add_204 (lv_at hl 0 rfl) ?_
                exact txI C hb hret hlk hP hS dX0_add_206 rfl (by unfold xR_add; rw [ho, if_pos rfl, if_pos hd]) (by unfold xE_add; rw [ho, if_pos rfl, if_pos hd])
              · have hd : ¬ xSc S 0 < 40 := by rw [hI.2.1]; exact c77
                exact xthrowS C hb hl0 hlk hP hS (hl.1.trans hml.symm) het (text := "no room for another row") (by decide) dX0_add_88 dX0_add_91 dX0_add_92 dX0_add_94 dX0_add_97 ⟨Nat.le_of_ble_eq_true rfl, Nat.le_of_ble_eq_true rfl, Nat.le_of_ble_eq_true rfl, Nat.le_of_ble_eq_true rfl⟩ (by unfold xE_add; rw [ho, if_pos rfl, if_neg hd]) (by unfold xR_add; rw [ho, if_pos rfl, if_neg hd])
            · have ho : xAddOk a b q ex cl lo = false := by simp [xAddOk, c76]
              exact xthrowI C hb hl0 hlk hP hS (hl.1.trans hml.symm) het (text := "exposure, claims or loss out of range") (by decide) dX0_add_69 dX0_add_72 dX0_add_73 dX0_add_75 dX0_add_78 ⟨Nat.le_of_ble_eq_true rfl, Nat.le_of_ble_eq_true rfl, Nat.le_of_ble_eq_true rfl, Nat.le_of_ble_eq_true rfl⟩ (by unfold xE_add; rw [ho]; rfl) (by unfold xR_add; rw [ho]; rfl)
      · have ho : xAddOk a b q ex cl lo = false := by simp [xAddOk, c73]
        exact xthrowI C hb hl0 hlk hP hS (hl.1.trans hml.symm) het (text := "no such level") (by decide) dX0_add_24 dX0_add_27 dX0_add_28 dX0_add_30 dX0_add_33 ⟨Nat.le_of_ble_eq_true rfl, Nat.le_of_ble_eq_true rfl, Nat.le_of_ble_eq_true rfl, Nat.le_of_ble_eq_true rfl⟩ (by unfold xE_add; rw [ho]; rfl) (by unfold xR_add; rw [ho]; rfl)
