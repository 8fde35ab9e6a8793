set_option maxRecDepth 100000 in
set_option maxHeartbeats 4000000 in
theorem k_X1_in (l : Launch) (g : gG) (S : WS) (v lo hi : Int32) : Met l yX1_in (wA yX1_in cX1_in 3 (some .boolean)) ({ frames := 0, cells := 0, slots := 0, locals := 0 }) (PW g S [.int v, .int lo, .int hi]) (RQ (some (.int (bI (xIsWithin v lo hi))))) 0 0 (fun _ => False) := by
  refine metI (by decide +kernel) (Nat.le_of_ble_eq_true rfl) ?_
  intro p e s m below meth c C hb hml hret hlk hP ls hl
  have C : CW g RX1 p s m ([.int v, .int lo, .int hi] : List Value).toArray := C
  have hS : va_S (Ab g) s.heap s.heap [] := va_S.rf
  have hl : lv_has ls 3 [(0, .int v), (1, .int lo), (2, .int hi)] := hl
  refine lv_iload_n C.1 hb dX1_in_0 rfl (lv_at hl 0 rfl) ?_
  refine lv_iload_n C.1 hb dX1_in_1 rfl (lv_at hl 1 rfl) ?_
  refine lv_icmp_lt (tgt := 14) C.1 hb dX1_in_2 (by decide) (fun c78 => ?_) (fun c78 => ?_)
  · refine lv_iconst (v := 0) C.1 hb dX1_in_14 (by decide) ?_
    exact rdZ C hb hret hlk dX1_in_15 (by simp [xIsWithin, bI, c78])
  · refine lv_iload_n C.1 hb dX1_in_5 rfl (lv_at hl 0 rfl) ?_
    refine lv_iload_n C.1 hb dX1_in_6 rfl (lv_at hl 2 rfl) ?_
    refine lv_icmp_gt (tgt := 14) C.1 hb dX1_in_7 (by decide) (fun c79 => ?_) (fun c79 => ?_)
    · refine lv_iconst (v := 0) C.1 hb dX1_in_14 (by decide) ?_
      exact rdZ C hb hret hlk dX1_in_15 (by simp [xIsWithin, bI, c78, c79])
    · refine lv_iconst (v := 1) C.1 hb dX1_in_10 (by decide) ?_
      refine lv_goto (tgt := 15) C.1 hb dX1_in_11 (by decide) ?_
      exact rdZ C hb hret hlk dX1_in_15 (by simp [xIsWithin, bI, c78, c79])

set_option maxRecDepth 100000 in
set_option maxHeartbeats 4000000 in
theorem k_X1_thrown (l : Launch) (g : gG) (S : WS) : Met l yX1_thrown (wA yX1_thrown cX1_thrown 1 (some .int)) ({ frames := 0, cells := 0, slots := 0, locals := 0 }) (PW g S [.ref (gA g 17)]) (RQ (some (.int (mSc S 3)))) 0 0 (fun _ => False) := by
  refine metI (by decide +kernel) (Nat.le_of_ble_eq_true rfl) ?_
  intro p e s m below meth c C hb hml hret hlk hP ls hl
  have C : CW g RX1 p s m ([.ref (gA g 17)] : List Value).toArray := C
  have hS : va_S (Ab g) s.heap s.heap [] := va_S.rf
  have hl : lv_has ls 1 [(0, .ref (gA g 17))] := hl
  refine lv_aload_n C.1 hb dX1_thrown_0 rfl (lv_at hl 0 rfl) ?_
  refine gM_last C hb hP dX1_thrown_1 ?_
  exact rdI C hb hret hlk dX1_thrown_4 rfl

set_option maxRecDepth 100000 in
set_option maxHeartbeats 4000000 in
theorem k_X1_goes (l : Launch) (g : gG) (S : WS) (a b z : Bool) : Met l yX1_goes (wA yX1_goes cX1_goes 4 (some .boolean)) ({ frames := 0, cells := 0, slots := 0, locals := 0 }) (PW g S [.ref (gA g 17), .int (bI a), .int (bI b), .int (bI z)]) (WQ g (mGo S a b z) (some (.int (bI (a && (b && z)))))) 0 0 (Ab g) := by
  refine metI (by decide +kernel) (Nat.le_of_ble_eq_true rfl) ?_
  intro p e s m below meth c C hb hml hret hlk hP ls hl
  have C : CW g RX1 p s m ([.ref (gA g 17), .int (bI a), .int (bI b), .int (bI z)] : List Value).toArray := C
  have hS : va_S (Ab g) s.heap s.heap [] := va_S.rf
  have hl : lv_has ls 4 [(0, .ref (gA g 17)), (1, .int (bI a)), (2, .int (bI b)), (3, .int (bI z))] := hl
  refine lv_aload_n C.1 hb dX1_goes_0 rfl (lv_at hl 0 rfl) ?_
  refine lv_iload_n C.1 hb dX1_goes_1 rfl (lv_at hl 1 rfl) ?_
  refine bz_ne (tgt := 9) C hb dX1_goes_2 (by decide) (fun c80 => ?_) (fun c80 => ?_)
  · refine lv_iload_n C.1 hb dX1_goes_9 rfl (lv_at hl 2 rfl) ?_
    refine bz_ne (tgt := 17) C hb dX1_goes_10 (by decide) (fun c81 => ?_) (fun c81 => ?_)
    · refine lv_iload_n C.1 hb dX1_goes_17 rfl (lv_at hl 3 rfl) ?_
      refine bz_eq (tgt := 25) C hb dX1_goes_18 (by decide) (fun c82 => ?_) (fun c82 => ?_)
      · refine lv_iconst (v := 3) C.1 hb dX1_goes_25 (by decide) ?_
        refine pM_last C hb hP hS dX1_goes_26 (fun H locs hP hS => ?_)
        refine lv_aload_n C.1 hb dX1_goes_29 rfl (lv_at hl 0 rfl) ?_
        refine gM_last C hb hP dX1_goes_30 ?_
        refine lv_if_ne (tgt := 40) C.1 hb dX1_goes_33 (by decide) (fun c83 => ?_) (fun c83 => ?_)
        · refine lv_iconst (v := 0) C.1 hb dX1_goes_40 (by decide) ?_
          exact wrZ C hb hret hlk hP hS dX1_goes_41 (by rw [c80, c81, c82]; rfl) (by rw [c80, c81, c82]; rfl)
        · exact absurd (show (3 : Int32) = 0 from c83) (by decide)
      · refine lv_iconst (v := 0) C.1 hb dX1_goes_21 (by decide) ?_
        refine lv_goto (tgt := 26) C.1 hb dX1_goes_22 (by decide) ?_
        refine pM_last C hb hP hS dX1_goes_26 (fun H locs hP hS => ?_)
        refine lv_aload_n C.1 hb dX1_goes_29 rfl (lv_at hl 0 rfl) ?_
        refine gM_last C hb hP dX1_goes_30 ?_
        refine lv_if_ne (tgt := 40) C.1 hb dX1_goes_33 (by decide) (fun c84 => ?_) (fun c84 => ?_)
        · exact absurd (show (0 : Int32) = 0 from rfl) c84
        · refine lv_iconst (v := 1) C.1 hb dX1_goes_36 (by decide) ?_
          refine lv_goto (tgt := 41) C.1 hb dX1_goes_37 (by decide) ?_
          exact wrZ C hb hret hlk hP hS dX1_goes_41 (by rw [c80, c81, c82]; rfl) (by rw [c80, c81, c82]; rfl)
    · refine lv_iconst (v := 2) C.1 hb dX1_goes_13 (by decide) ?_
      refine lv_goto (tgt := 26) C.1 hb dX1_goes_14 (by decide) ?_
      refine pM_last C hb hP hS dX1_goes_26 (fun H locs hP hS => ?_)
      refine lv_aload_n C.1 hb dX1_goes_29 rfl (lv_at hl 0 rfl) ?_
      refine gM_last C hb hP dX1_goes_30 ?_
      refine lv_if_ne (tgt := 40) C.1 hb dX1_goes_33 (by decide) (fun c85 => ?_) (fun c85 => ?_)
      · refine lv_iconst (v := 0) C.1 hb dX1_goes_40 (by decide) ?_
        exact wrZ C hb hret hlk hP hS dX1_goes_41 (by rw [c80, c81]; rfl) (by rw [c80, c81]; rfl)
      · exact absurd (show (2 : Int32) = 0 from c85) (by decide)
  · refine lv_iconst (v := 1) C.1 hb dX1_goes_5 (by decide) ?_
    refine lv_goto (tgt := 26) C.1 hb dX1_goes_6 (by decide) ?_
    refine pM_last C hb hP hS dX1_goes_26 (fun H locs hP hS => ?_)
    refine lv_aload_n C.1 hb dX1_goes_29 rfl (lv_at hl 0 rfl) ?_
    refine gM_last C hb hP dX1_goes_30 ?_
    refine lv_if_ne (tgt := 40) C.1 hb dX1_goes_33 (by decide) (fun c86 => ?_) (fun c86 => ?_)
    · refine lv_iconst (v := 0) C.1 hb dX1_goes_40 (by decide) ?_
      exact wrZ C hb hret hlk hP hS dX1_goes_41 (by rw [c80]; rfl) (by rw [c80]; rfl)
    · exact absurd (show (1 : Int32) = 0 from c86) (by decide)

set_option maxRecDepth 100000 in
set_option maxHeartbeats 4000000 in
theorem k_X1_levelsOf (l : Launch) (g : gG) (S : WS) (t : Nat) (ht : t < 3) : Met l yX1_levelsOf (wA yX1_levelsOf cX1_levelsOf 1 (some .int)) ({ frames := 0, cells := 0, slots := 0, locals := 0 }) (PW g S [.int (nI t)]) (RQ (some (.int (nI (levN t))))) 0 0 (fun _ => False) := by
  refine metI (by decide +kernel) (Nat.le_of_ble_eq_true rfl) ?_
  intro p e s m below meth c C hb hml hret hlk hP ls hl
  have C : CW g RX1 p s m ([.int (nI t)] : List Value).toArray := C
  have hS : va_S (Ab g) s.heap s.heap [] := va_S.rf
  have hl : lv_has ls 1 [(0, .int (nI t))] := hl
  refine lv_iload_n C.1 hb dX1_levelsOf_0 rfl (lv_at hl 0 rfl) ?_
  refine lv_iconst (v := 1) C.1 hb dX1_levelsOf_1 (by decide) ?_
  refine lv_icmp_ne (tgt := 9) C.1 hb dX1_levelsOf_2 (by decide) (fun c87 => ?_) (fun c87 => ?_)
  · have hne : ¬ t = 1 := fun q => c87 (by rw [q]; rfl)
    refine lv_iconst (v := 4) C.1 hb dX1_levelsOf_9 (by decide) ?_
    exact rdI C hb hret hlk dX1_levelsOf_10 (by unfold levN; rw [if_neg hne]; rfl)
  · have he : t = 1 := (nI_eq (b := 1) (by omega) (by decide)).mp c87
    refine lv_iconst (v := 3) C.1 hb dX1_levelsOf_5 (by decide) ?_
    refine lv_goto (tgt := 10) C.1 hb dX1_levelsOf_6 (by decide) ?_
    exact rdI C hb hret hlk dX1_levelsOf_10 (by unfold levN; rw [if_pos he]; rfl)

set_option maxRecDepth 100000 in
set_option maxHeartbeats 4000000 in
theorem k_X1_isTrait (l : Launch) (g : gG) (S : WS) (t : Int32) : Met l yX1_isTrait (wA yX1_isTrait cX1_isTrait 1 (some .boolean)) ({ frames := 1, cells := 0, slots := 0, locals := 30 }) (PW g S [.int t]) (RQ (some (.int (bI (xHasTrait t))))) 0 0 (fun _ => False) := by
  refine metI (by decide +kernel) (Nat.le_of_ble_eq_true rfl) ?_
  intro p e s m below meth c C hb hml hret hlk hP ls hl
  have C : CW g RX1 p s m ([.int t] : List Value).toArray := C
  have hS : va_S (Ab g) s.heap s.heap [] := va_S.rf
  have hl : lv_has ls 1 [(0, .int t)] := hl
  refine lv_iload_n C.1 hb dX1_isTrait_0 rfl (lv_at hl 0 rfl) ?_
  refine lv_iconst (v := 0) C.1 hb dX1_isTrait_1 (by decide) ?_
  refine lv_iconst (v := 2) C.1 hb dX1_isTrait_2 (by decide) ?_
  refine run_rd (cRunS (As := [.int t, .int 0, .int 2]) (rest := []) C hb (hml.trans hl.1.symm) hP hS (k_X1_in l g S t 0 2) wm_102 wm_103 wm_104 wm_5 (n := 3) (by decide +kernel) rfl ⟨rfl, rfl, Nat.le_of_ble_eq_true rfl, Nat.le_of_ble_eq_true rfl⟩ (Nat.le_of_ble_eq_true rfl) rfl ⟨Nat.zero_le _, Nat.zero_le _⟩ dX1_isTrait_3) ?_
  refine toI (congrArg bI (mTrait_eq t)) ?_
  exact rdZ C hb hret hlk dX1_isTrait_6 rfl

set_option maxRecDepth 100000 in
set_option maxHeartbeats 4000000 in
theorem k_X1_isLevel (l : Launch) (g : gG) (S : WS) (t k : Int32) : Met l yX1_isLevel (wA yX1_isLevel cX1_isLevel 2 (some .boolean)) ({ frames := 2, cells := 0, slots := 0, locals := 60 }) (PW g S [.int t, .int k]) (RQ (some (.int (bI (xHasLevel t k))))) 0 0 (fun _ => False) := by
  refine metI (by decide +kernel) (Nat.le_of_ble_eq_true rfl) ?_
  intro p e s m below meth c C hb hml hret hlk hP ls hl
  have C : CW g RX1 p s m ([.int t, .int k] : List Value).toArray := C
  have hS : va_S (Ab g) s.heap s.heap [] := va_S.rf
  have hl : lv_has ls 2 [(0, .int t), (1, .int k)] := hl
  refine lv_iload_n C.1 hb dX1_isLevel_0 rfl (lv_at hl 0 rfl) ?_
  refine run_rd (cRunS (As := [.int t]) (rest := []) C hb (hml.trans hl.1.symm) hP hS (k_X1_isTrait l g S t) wm_99 wm_100 wm_101 wm_5 (n := 1) (by decide +kernel) rfl ⟨rfl, rfl, Nat.le_of_ble_eq_true rfl, Nat.le_of_ble_eq_true rfl⟩ (Nat.le_of_ble_eq_true rfl) rfl ⟨Nat.zero_le _, Nat.zero_le _⟩ dX1_isLevel_1) ?_
  refine bz_eq (tgt := 25) C hb dX1_isLevel_4 (by decide) (fun c88 => ?_) (fun c88 => ?_)
  · refine lv_iconst (v := 0) C.1 hb dX1_isLevel_25 (by decide) ?_
    exact rdZ C hb hret hlk dX1_isLevel_26 (by unfold xHasLevel; rw [c88]; rfl)
  · have hx := xHasTrait_ix c88
    have h4 := levN_4 (tN t)
    refine lv_iload_n C.1 hb dX1_isLevel_7 rfl (lv_at hl 1 rfl) ?_
    refine lv_iconst (v := 0) C.1 hb dX1_isLevel_8 (by decide) ?_
    refine lv_iload_n C.1 hb dX1_isLevel_9 rfl (lv_at hl 0 rfl) ?_
    refine toI hx.1 ?_
    refine run_rd (cRunS (As := [.int (nI (tN t))]) (rest := [.int 0, .int k]) C hb (hml.trans hl.1.symm) hP hS (k_X1_levelsOf l g S (tN t) hx.2) wm_105 wm_106 wm_107 wm_5 (n := 1) (by decide +kernel) rfl ⟨rfl, rfl, Nat.le_of_ble_eq_true rfl, Nat.le_of_ble_eq_true rfl⟩ (Nat.le_of_ble_eq_true rfl) rfl ⟨Nat.zero_le _, Nat.zero_le _⟩ dX1_isLevel_10) ?_
    refine lv_iconst (v := 1) C.1 hb dX1_isLevel_13 (by decide) ?_
    refine lv_isub C.1 hb dX1_isLevel_14 ?_
    refine run_rd (cRunS (As := [.int k, .int 0, .int ((nI (levN (tN t))) - 1)]) (rest := []) C hb (hml.trans hl.1.symm) hP hS (k_X1_in l g S k 0 (nI (levN (tN t)) - 1)) wm_102 wm_103 wm_104 wm_5 (n := 3) (by decide +kernel) rfl ⟨rfl, rfl, Nat.le_of_ble_eq_true rfl, Nat.le_of_ble_eq_true rfl⟩ (Nat.le_of_ble_eq_true rfl) rfl ⟨Nat.zero_le _, Nat.zero_le _⟩ dX1_isLevel_15) ?_
    refine toI (congrArg bI (wit_pred (by omega) k)) ?_
    refine bz_eq (tgt := 25) C hb dX1_isLevel_18 (by decide) (fun c89 => ?_) (fun c89 => ?_)
    · refine lv_iconst (v := 0) C.1 hb dX1_isLevel_25 (by decide) ?_
      exact rdZ C hb hret hlk dX1_isLevel_26 (by unfold xHasLevel; rw [c88, c89]; rfl)
    · refine lv_iconst (v := 1) C.1 hb dX1_isLevel_21 (by decide) ?_
      refine lv_goto (tgt := 26) C.1 hb dX1_isLevel_22 (by decide) ?_
      exact rdZ C hb hret hlk dX1_isLevel_26 (by unfold xHasLevel; rw [c88, c89]; rfl)

set_option maxRecDepth 100000 in
set_option maxHeartbeats 4000000 in
theorem k_X1_isRow (l : Launch) (g : gG) (S : WS) (n : Nat) (hI : MI n S) (r : Int32) : Met l yX1_isRow (wA yX1_isRow cX1_isRow 2 (some .boolean)) ({ frames := 1, cells := 0, slots := 0, locals := 30 }) (PW g S [.ref (gA g 17), .int r]) (RQ (some (.int (bI (mRow S r))))) 0 0 (fun _ => False) := by
  refine metI (by decide +kernel) (Nat.le_of_ble_eq_true rfl) ?_
  intro p e s m below meth c C hb hml hret hlk hP ls hl
  have C : CW g RX1 p s m ([.ref (gA g 17), .int r] : List Value).toArray := C
  have hS : va_S (Ab g) s.heap s.heap [] := va_S.rf
  have hl : lv_has ls 2 [(0, .ref (gA g 17)), (1, .int r)] := hl
  have hn40 := hI.1
  refine lv_iload_n C.1 hb dX1_isRow_0 rfl (lv_at hl 1 rfl) ?_
  refine lv_iconst (v := 0) C.1 hb dX1_isRow_1 (by decide) ?_
  refine lv_aload_n C.1 hb dX1_isRow_2 rfl (lv_at hl 0 rfl) ?_
  refine gM_rows C hb hP dX1_isRow_3 ?_
  refine toI hI.2.1 ?_
  refine lv_iconst (v := 1) C.1 hb dX1_isRow_6 (by decide) ?_
  refine lv_isub C.1 hb dX1_isRow_7 ?_
  refine run_rd (cRunS (As := [.int r, .int 0, .int ((nI n) - 1)]) (rest := []) C hb (hml.trans hl.1.symm) hP hS (k_X1_in l g S r 0 (nI n - 1)) wm_102 wm_103 wm_104 wm_5 (n := 3) (by decide +kernel) rfl ⟨rfl, rfl, Nat.le_of_ble_eq_true rfl, Nat.le_of_ble_eq_true rfl⟩ (Nat.le_of_ble_eq_true rfl) rfl ⟨Nat.zero_le _, Nat.zero_le _⟩ dX1_isRow_8) ?_
  refine toI (congrArg bI (wit_pred (by omega) r)) ?_
  refine bz_eq (tgt := 27) C hb dX1_isRow_11 (by decide) (fun c90 => ?_) (fun c90 => ?_)
  · have hc : (!decide (r < 0) && !decide (mSc S 0 ≤ r)) = false := by rw [hI.2.1]; exact c90
    refine lv_iconst (v := 0) C.1 hb dX1_isRow_27 (by decide) ?_
    exact rdZ C hb hret hlk dX1_isRow_28 (by unfold mRow; rw [← Bool.and_assoc, hc]; rfl)
  · have hx := within_ix hI.1 ((wit_pred (by omega) r).trans c90)
    have hx2 := hx.2
    have hc : (!decide (r < 0) && !decide (mSc S 0 ≤ r)) = true := by rw [hI.2.1]; exact c90
    refine lv_aload_n C.1 hb dX1_isRow_14 rfl (lv_at hl 0 rfl) ?_
    refine gM_gone C hb hP dX1_isRow_15 ?_
    refine lv_iload_n C.1 hb dX1_isRow_18 rfl (lv_at hl 1 rfl) ?_
    refine ldM_gone (j := (tN r)) C hb hP hx.1 (by omega) dX1_isRow_19 ?_
    refine lv_if_ne (tgt := 27) C.1 hb dX1_isRow_20 (by decide) (fun c91 => ?_) (fun c91 => ?_)
    · refine lv_iconst (v := 0) C.1 hb dX1_isRow_27 (by decide) ?_
      exact rdZ C hb hret hlk dX1_isRow_28 (by unfold mRow; rw [← Bool.and_assoc, hc]; simp [bI, c91])
    · refine lv_iconst (v := 1) C.1 hb dX1_isRow_23 (by decide) ?_
      refine lv_goto (tgt := 28) C.1 hb dX1_isRow_24 (by decide) ?_
      exact rdZ C hb hret hlk dX1_isRow_28 (by unfold mRow; rw [← Bool.and_assoc, hc]; simp [bI, c91])

set_option maxRecDepth 100000 in
set_option maxHeartbeats 4000000 in
theorem k_X1_count (l : Launch) (g : gG) (S : WS) (n : Nat) (hI : MI n S) : Met l yX1_count (wA yX1_count cX1_count 3 (some .int)) ({ frames := 0, cells := 0, slots := 0, locals := 0 }) (PW g S [.ref (gA g 17)]) (RQ (some (.int (nI (mCount S n))))) 0 0 (fun _ => False) := by
  refine metI (by decide +kernel) (Nat.le_of_ble_eq_true rfl) ?_
  intro p e s m below meth c C hb hml hret hlk hP ls hl
  have C : CW g RX1 p s m ([.ref (gA g 17)] : List Value).toArray := C
  have hS : va_S (Ab g) s.heap s.heap [] := va_S.rf
  have hl : lv_has ls 3 [(0, .ref (gA g 17))] := hl
  refine lv_iconst (v := 0) C.1 hb dX1_count_0 (by decide) ?_
  refine lv_istore_n (lv' := [(1, .int 0), (0, .ref (gA g 17))]) C.1 hb dX1_count_1 rfl hl (by decide) rfl (fun ls hl => ?_)
  refine lv_iconst (v := 0) C.1 hb dX1_count_2 (by decide) ?_
  refine lv_istore_n (lv' := [(2, .int 0), (1, .int 0), (0, .ref (gA g 17))]) C.1 hb dX1_count_3 rfl hl (by decide) rfl (fun ls hl => ?_)
  have key : ∀ f i : Nat, n - i < f → i ≤ n → ∀ ls : Array Slot, lv_has ls 3 [(0, .ref (gA g 17)), (1, .int (nI (xCnt (mLv S) i))), (2, .int (nI i))] → W p l e ({ frames := 0, cells := 0, slots := 0, locals := 0 }) s m ([.ref (gA g 17)] : List Value).toArray below meth c s.heap [] 0 0 (MQ below (RQ (some (.int (nI (mCount S n))))) ([.ref (gA g 17)] : List Value).toArray s 0 0 (fun _ => False)) (F0 m 4 ls []) := by
    intro f
    induction f with
    | zero => intro i h; exact absurd h (Nat.not_lt_zero _)
    | succ f ih =>
      intro i hfi hi  ls hl
      refine lv_iload_n C.1 hb dX1_count_4 rfl (lv_at hl 2 rfl) ?_
      refine lv_aload_n C.1 hb dX1_count_5 rfl (lv_at hl 0 rfl) ?_
      refine gM_rows C hb hP dX1_count_6 ?_
      refine lv_icmp_ge (tgt := 35) C.1 hb dX1_count_9 (by decide) (fun c92 => ?_) (fun c92 => ?_)
      · have hin : i = n := by have := le_nI (a := n) (b := i) (by have := hI.1; omega) (by have := hI.1; omega) (by rw [← hI.2.1]; exact c92); omega
        rw [hin] at hl
        refine lv_iload_n C.1 hb dX1_count_35 rfl (lv_at hl 1 rfl) ?_
        exact rdI C hb hret hlk dX1_count_36 rfl
      · have hlti : i < n := nle_nI (a := n) (b := i) (by have := hI.1; omega) (by have := hI.1; omega) (by rw [← hI.2.1]; exact c92)
        have hn40 := hI.1
        refine lv_iload_n C.1 hb dX1_count_12 rfl (lv_at hl 1 rfl) ?_
        refine lv_aload_n C.1 hb dX1_count_13 rfl (lv_at hl 0 rfl) ?_
        refine gM_gone C hb hP dX1_count_14 ?_
        refine lv_iload_n C.1 hb dX1_count_17 rfl (lv_at hl 2 rfl) ?_
        refine ldM_gone (j := i) C hb hP rfl (by omega) dX1_count_18 ?_
        refine lv_if_eq (tgt := 26) C.1 hb dX1_count_19 (by decide) (fun c93 => ?_) (fun c93 => ?_)
        · refine lv_iconst (v := 1) C.1 hb dX1_count_26 (by decide) ?_
          refine lv_iadd C.1 hb dX1_count_27 ?_
          refine toI (nI_1 _) ?_
          refine lv_istore_n (lv' := [(1, .int (nI (xCnt (mLv S) i + 1))), (0, .ref (gA g 17)), (2, .int (nI i))]) C.1 hb dX1_count_28 rfl hl (by decide) rfl (fun ls hl => ?_)
          refine lv_iinc (v := nI (i + 1)) (lv' := [(2, .int (nI (i + 1))), (1, .int (nI (xCnt (mLv S) i + 1))), (0, .ref (gA g 17))]) C.1 hb dX1_count_29 hl (k := 2) rfl (nI_1 i) (by decide) rfl (fun ls hl => ?_)
          refine lv_goto (tgt := 4) C.1 hb dX1_count_32 (by decide) ?_
          exact ih (i + 1) (by omega) (by omega)  ls (by rw [xCnt_t (show mLv S i = true by simp [mLv, c93])]; exact lv_sub hl [2, 1, 0] rfl)
        · refine lv_iconst (v := 0) C.1 hb dX1_count_22 (by decide) ?_
          refine lv_goto (tgt := 27) C.1 hb dX1_count_23 (by decide) ?_
          refine lv_iadd C.1 hb dX1_count_27 ?_
          refine toI (Int32.add_zero _) ?_
          refine lv_istore_n (lv' := [(1, .int (nI (xCnt (mLv S) i))), (0, .ref (gA g 17)), (2, .int (nI i))]) C.1 hb dX1_count_28 rfl hl (by decide) rfl (fun ls hl => ?_)
          refine lv_iinc (v := nI (i + 1)) (lv' := [(2, .int (nI (i + 1))), (1, .int (nI (xCnt (mLv S) i))), (0, .ref (gA g 17))]) C.1 hb dX1_count_29 hl (k := 2) rfl (nI_1 i) (by decide) rfl (fun ls hl => ?_)
          refine lv_goto (tgt := 4) C.1 hb dX1_count_32 (by decide) ?_
          exact ih (i + 1) (by omega) (by omega)  ls (by rw [xCnt_f (show mLv S i = false by simp [mLv, c93])]; exact lv_sub hl [2, 1, 0] rfl)
  exact key (n - 0 + 1) 0 (by omega) (by omega)  ls (lv_sub hl [2, 1, 0] rfl)

set_option maxRecDepth 100000 in
set_option maxHeartbeats 4000000 in
theorem k_X1_baseNow (l : Launch) (g : gG) (S : WS) (n : Nat) (hI : MI n S) : Met l yX1_baseNow (wA yX1_baseNow cX1_baseNow 6 (some .long)) ({ frames := 0, cells := 0, slots := 0, locals := 0 }) (PW g S [.ref (gA g 17)]) (RQ (some (.long (mBase S n)))) 0 0 (fun _ => False) := by
  refine metI (by decide +kernel) (Nat.le_of_ble_eq_true rfl) ?_
  intro p e s m below meth c C hb hml hret hlk hP ls hl
  have C : CW g RX1 p s m ([.ref (gA g 17)] : List Value).toArray := C
  have hS : va_S (Ab g) s.heap s.heap [] := va_S.rf
  have hl : lv_has ls 6 [(0, .ref (gA g 17))] := hl
  refine lv_lconst (v := 0) C.1 hb dX1_baseNow_0 (by decide) ?_
  refine lv_lstore_n (lv' := [(1, .long 0), (0, .ref (gA g 17))]) C.1 hb dX1_baseNow_1 rfl hl (by decide) rfl (fun ls hl => ?_)
  refine lv_lconst (v := 0) C.1 hb dX1_baseNow_2 (by decide) ?_
  refine lv_lstore_n (lv' := [(3, .long 0), (1, .long 0), (0, .ref (gA g 17))]) C.1 hb dX1_baseNow_3 rfl hl (by decide) rfl (fun ls hl => ?_)
  refine lv_iconst (v := 0) C.1 hb dX1_baseNow_4 (by decide) ?_
  refine lv_istore (lv' := [(5, .int 0), (3, .long 0), (1, .long 0), (0, .ref (gA g 17))]) C.1 hb dX1_baseNow_5 hl (by decide) rfl (fun ls hl => ?_)
  have key : ∀ f i : Nat, n - i < f → i ≤ n → ∀ ls : Array Slot, lv_has ls 6 [(0, .ref (gA g 17)), (1, .long (wsum (mLv S) (mL S 3) i)), (3, .long (wsum (mLv S) (mL S 1) i)), (5, .int (nI i))] → W p l e ({ frames := 0, cells := 0, slots := 0, locals := 0 }) s m ([.ref (gA g 17)] : List Value).toArray below meth c s.heap [] 0 0 (MQ below (RQ (some (.long (mBase S n)))) ([.ref (gA g 17)] : List Value).toArray s 0 0 (fun _ => False)) (F0 m 7 ls []) := by
    intro f
    induction f with
    | zero => intro i h; exact absurd h (Nat.not_lt_zero _)
    | succ f ih =>
      intro i hfi hi  ls hl
      refine lv_iload C.1 hb dX1_baseNow_7 (lv_at hl 3 rfl) ?_
      refine lv_aload_n C.1 hb dX1_baseNow_9 rfl (lv_at hl 0 rfl) ?_
      refine gM_rows C hb hP dX1_baseNow_10 ?_
      refine lv_icmp_ge (tgt := 72) C.1 hb dX1_baseNow_13 (by decide) (fun c94 => ?_) (fun c94 => ?_)
      · have hin : i = n := by have := le_nI (a := n) (b := i) (by have := hI.1; omega) (by have := hI.1; omega) (by rw [← hI.2.1]; exact c94); omega
        rw [hin] at hl
        refine lv_lload_n C.1 hb dX1_baseNow_72 rfl (lv_at hl 2 rfl) ?_
        refine lv_lconst (v := 0) C.1 hb dX1_baseNow_73 (by decide) ?_
        refine lc_ne (tgt := 82) C hb dX1_baseNow_74 dX1_baseNow_75 (by decide) (fun c95 => ?_) (fun c95 => ?_)
        · refine lv_ldc2 (v := 10000) C.1 hb C.2.1 (C.2.2.1 _ wm_47) dX1_baseNow_82 ?_
          refine lv_lload_n C.1 hb dX1_baseNow_85 rfl (lv_at hl 1 rfl) ?_
          refine lv_lmul C.1 hb dX1_baseNow_86 ?_
          refine lv_lload_n C.1 hb dX1_baseNow_87 rfl (lv_at hl 2 rfl) ?_
          refine lv_ldiv C.1 hb dX1_baseNow_88 c95 ?_
          exact rdL C hb hret hlk dX1_baseNow_89 (by unfold mBase; rw [if_neg c95])
        · refine lv_lconst (v := 0) C.1 hb dX1_baseNow_78 (by decide) ?_
          refine lv_goto (tgt := 89) C.1 hb dX1_baseNow_79 (by decide) ?_
          exact rdL C hb hret hlk dX1_baseNow_89 (by unfold mBase; rw [if_pos c95])
      · have hlti : i < n := nle_nI (a := n) (b := i) (by have := hI.1; omega) (by have := hI.1; omega) (by rw [← hI.2.1]; exact c94)
        have hn40 := hI.1
        refine lv_lload_n C.1 hb dX1_baseNow_16 rfl (lv_at hl 1 rfl) ?_
        refine lv_aload_n C.1 hb dX1_baseNow_17 rfl (lv_at hl 0 rfl) ?_
        refine gM_gone C hb hP dX1_baseNow_18 ?_
        refine lv_iload C.1 hb dX1_baseNow_21 (lv_at hl 3 rfl) ?_
        refine ldM_gone (j := i) C hb hP rfl (by omega) dX1_baseNow_23 ?_
        refine lv_if_eq (tgt := 31) C.1 hb dX1_baseNow_24 (by decide) (fun c96 => ?_) (fun c96 => ?_)
        · have hp : mLv S i = true := by simp [mLv, c96]
          refine lv_aload_n C.1 hb dX1_baseNow_31 rfl (lv_at hl 0 rfl) ?_
          refine gM_losses C hb hP dX1_baseNow_32 ?_
          refine lv_iload C.1 hb dX1_baseNow_35 (lv_at hl 3 rfl) ?_
          refine ldM_losses (j := i) C hb hP rfl (by omega) dX1_baseNow_37 ?_
          refine lv_i2l C.1 hb dX1_baseNow_38 rfl ?_
          refine lv_ladd C.1 hb dX1_baseNow_39 ?_
          refine lv_lstore_n (lv' := [(1, .long ((wsum (mLv S) (mL S 3) i) + (mIa S 3 i).toInt64)), (0, .ref (gA g 17)), (3, .long (wsum (mLv S) (mL S 1) i)), (5, .int (nI i))]) C.1 hb dX1_baseNow_40 rfl hl (by decide) rfl (fun ls hl => ?_)
          refine lv_lload_n C.1 hb dX1_baseNow_41 rfl (lv_at hl 2 rfl) ?_
          refine lv_aload_n C.1 hb dX1_baseNow_42 rfl (lv_at hl 1 rfl) ?_
          refine gM_gone C hb hP dX1_baseNow_43 ?_
          refine lv_iload C.1 hb dX1_baseNow_46 (lv_at hl 3 rfl) ?_
          refine ldM_gone (j := i) C hb hP rfl (by omega) dX1_baseNow_48 ?_
          refine lv_if_eq (tgt := 56) C.1 hb dX1_baseNow_49 (by decide) (fun c97 => ?_) (fun c97 => ?_)
          · refine lv_aload_n C.1 hb dX1_baseNow_56 rfl (lv_at hl 1 rfl) ?_
            refine gM_exposures C hb hP dX1_baseNow_57 ?_
            refine lv_iload C.1 hb dX1_baseNow_60 (lv_at hl 3 rfl) ?_
            refine ldM_exposures (j := i) C hb hP rfl (by omega) dX1_baseNow_62 ?_
            refine lv_i2l C.1 hb dX1_baseNow_63 rfl ?_
            refine lv_ladd C.1 hb dX1_baseNow_64 ?_
            refine lv_lstore_n (lv' := [(3, .long ((wsum (mLv S) (mL S 1) i) + (mIa S 1 i).toInt64)), (1, .long ((wsum (mLv S) (mL S 3) i) + (mIa S 3 i).toInt64)), (0, .ref (gA g 17)), (5, .int (nI i))]) C.1 hb dX1_baseNow_65 rfl hl (by decide) rfl (fun ls hl => ?_)
            refine lv_iinc (v := nI (i + 1)) (lv' := [(5, .int (nI (i + 1))), (3, .long ((wsum (mLv S) (mL S 1) i) + (mIa S 1 i).toInt64)), (1, .long ((wsum (mLv S) (mL S 3) i) + (mIa S 3 i).toInt64)), (0, .ref (gA g 17))]) C.1 hb dX1_baseNow_66 hl (k := 3) rfl (nI_1 i) (by decide) rfl (fun ls hl => ?_)
            refine lv_goto (tgt := 7) C.1 hb dX1_baseNow_69 (by decide) ?_
            exact ih (i + 1) (by omega) (by omega)  ls (by rw [wsum_t hp, wsum_t hp]; exact lv_sub hl [3, 2, 1, 0] rfl)
          · exact absurd c96 c97
        · have hp : mLv S i = false := by simp [mLv, c96]
          refine lv_lconst (v := 0) C.1 hb dX1_baseNow_27 (by decide) ?_
          refine lv_goto (tgt := 39) C.1 hb dX1_baseNow_28 (by decide) ?_
          refine lv_ladd C.1 hb dX1_baseNow_39 ?_
          refine toL (Int64.add_zero _) ?_
          refine lv_lstore_n (lv' := [(1, .long (wsum (mLv S) (mL S 3) i)), (0, .ref (gA g 17)), (3, .long (wsum (mLv S) (mL S 1) i)), (5, .int (nI i))]) C.1 hb dX1_baseNow_40 rfl hl (by decide) rfl (fun ls hl => ?_)
          refine lv_lload_n C.1 hb dX1_baseNow_41 rfl (lv_at hl 2 rfl) ?_
          refine lv_aload_n C.1 hb dX1_baseNow_42 rfl (lv_at hl 1 rfl) ?_
          refine gM_gone C hb hP dX1_baseNow_43 ?_
          refine lv_iload C.1 hb dX1_baseNow_46 (lv_at hl 3 rfl) ?_
          refine ldM_gone (j := i) C hb hP rfl (by omega) dX1_baseNow_48 ?_
          refine lv_if_eq (tgt := 56) C.1 hb dX1_baseNow_49 (by decide) (fun c98 => ?_) (fun c98 => ?_)
          · exact absurd c98 c96
          · refine lv_lconst (v := 0) C.1 hb dX1_baseNow_52 (by decide) ?_
            refine lv_goto (tgt := 64) C.1 hb dX1_baseNow_53 (by decide) ?_
            refine lv_ladd C.1 hb dX1_baseNow_64 ?_
            refine toL (Int64.add_zero _) ?_
            refine lv_lstore_n (lv' := [(3, .long (wsum (mLv S) (mL S 1) i)), (1, .long (wsum (mLv S) (mL S 3) i)), (0, .ref (gA g 17)), (5, .int (nI i))]) C.1 hb dX1_baseNow_65 rfl hl (by decide) rfl (fun ls hl => ?_)
            refine lv_iinc (v := nI (i + 1)) (lv' := [(5, .int (nI (i + 1))), (3, .long (wsum (mLv S) (mL S 1) i)), (1, .long (wsum (mLv S) (mL S 3) i)), (0, .ref (gA g 17))]) C.1 hb dX1_baseNow_66 hl (k := 3) rfl (nI_1 i) (by decide) rfl (fun ls hl => ?_)
            refine lv_goto (tgt := 7) C.1 hb dX1_baseNow_69 (by decide) ?_
            exact ih (i + 1) (by omega) (by omega)  ls (by rw [wsum_f hp, wsum_f hp]; exact lv_sub hl [3, 2, 1, 0] rfl)
  exact key (n - 0 + 1) 0 (by omega) (by omega)  ls (lv_sub hl [3, 2, 1, 0] rfl)

set_option maxRecDepth 100000 in
set_option maxHeartbeats 4000000 in
theorem k_X1_fit (l : Launch) (g : gG) (S : WS) (n : Nat) (hI : MI n S) (r : Nat) (hr : r < n) (b : Int64) : Met l yX1_fit (wA yX1_fit cX1_fit 7 (some .long)) ({ frames := 0, cells := 0, slots := 0, locals := 0 }) (PW g S [.ref (gA g 17), .int (nI r), .long b]) (RQ (some (.long (mFit S b r)))) 0 0 (fun _ => False) := by
  refine metI (by decide +kernel) (Nat.le_of_ble_eq_true rfl) ?_
  intro p e s m below meth c C hb hml hret hlk hP ls hl
  have C : CW g RX1 p s m ([.ref (gA g 17), .int (nI r), .long b] : List Value).toArray := C
  have hS : va_S (Ab g) s.heap s.heap [] := va_S.rf
  have hl : lv_has ls 7 [(0, .ref (gA g 17)), (1, .int (nI r)), (2, .long b)] := hl
  have hn40 := hI.1
  refine lv_aload_n C.1 hb dX1_fit_0 rfl (lv_at hl 0 rfl) ?_
  refine gM_exposures C hb hP dX1_fit_1 ?_
  refine lv_iload_n C.1 hb dX1_fit_4 rfl (lv_at hl 1 rfl) ?_
  refine ldM_exposures (j := r) C hb hP rfl (by omega) dX1_fit_5 ?_
  refine lv_i2l C.1 hb dX1_fit_6 rfl ?_
  refine lv_lload_n C.1 hb dX1_fit_7 rfl (lv_at hl 2 rfl) ?_
  refine lv_lmul C.1 hb dX1_fit_8 ?_
  refine lv_ldc2 (v := 10000) C.1 hb C.2.1 (C.2.2.1 _ wm_47) dX1_fit_9 ?_
  refine lv_ldiv C.1 hb dX1_fit_12 (by decide) ?_
  refine lv_lstore (lv' := [(4, .long (((mIa S 1 r).toInt64 * b) / 10000)), (0, .ref (gA g 17)), (1, .int (nI r)), (2, .long b)]) C.1 hb dX1_fit_13 hl (by decide) rfl (fun ls hl => ?_)
  refine lv_iconst (v := 0) C.1 hb dX1_fit_15 (by decide) ?_
  refine lv_istore (lv' := [(6, .int 0), (4, .long (((mIa S 1 r).toInt64 * b) / 10000)), (0, .ref (gA g 17)), (1, .int (nI r)), (2, .long b)]) C.1 hb dX1_fit_16 hl (by decide) rfl (fun ls hl => ?_)
  have key : ∀ f i : Nat, 3 - i < f → i ≤ 3 → ∀ ls : Array Slot, lv_has ls 7 [(0, .ref (gA g 17)), (1, .int (nI r)), (2, .long b), (4, .long (mFitN S b r i)), (6, .int (nI i))] → W p l e ({ frames := 0, cells := 0, slots := 0, locals := 0 }) s m ([.ref (gA g 17), .int (nI r), .long b] : List Value).toArray below meth c s.heap [] 0 0 (MQ below (RQ (some (.long (mFit S b r)))) ([.ref (gA g 17), .int (nI r), .long b] : List Value).toArray s 0 0 (fun _ => False)) (F0 m 18 ls []) := by
    intro f
    induction f with
    | zero => intro i h; exact absurd h (Nat.not_lt_zero _)
    | succ f ih =>
      intro i hfi hi  ls hl
      refine lv_iload C.1 hb dX1_fit_18 (lv_at hl 4 rfl) ?_
      refine lv_iconst (v := 3) C.1 hb dX1_fit_20 (by decide) ?_
      refine lv_icmp_ge (tgt := 61) C.1 hb dX1_fit_21 (by decide) (fun c99 => ?_) (fun c99 => ?_)
      · have hin : i = 3 := by have := le_nI (a := 3) (b := i) (by decide) (by omega) c99; omega
        rw [hin] at hl
        refine lv_lload C.1 hb dX1_fit_61 (lv_at hl 3 rfl) ?_
        exact rdL C hb hret hlk dX1_fit_63 rfl
      · have hlt : i < 3 := nle_nI (a := 3) (b := i) (by decide) (by omega) c99
        have hlv := MI_lev hI hlt hr
        have hl2 := hlv.2
        refine lv_lload C.1 hb dX1_fit_24 (lv_at hl 3 rfl) ?_
        refine lv_aload_n C.1 hb dX1_fit_26 rfl (lv_at hl 0 rfl) ?_
        refine gM_factors C hb hP dX1_fit_27 ?_
        refine lv_iconst (v := 4) C.1 hb dX1_fit_30 (by decide) ?_
        refine lv_iload C.1 hb dX1_fit_31 (lv_at hl 4 rfl) ?_
        refine lv_imul C.1 hb dX1_fit_33 ?_
        refine lv_aload_n C.1 hb dX1_fit_34 rfl (lv_at hl 0 rfl) ?_
        refine gM_levels C hb hP dX1_fit_35 ?_
        refine lv_iconst (v := 3) C.1 hb dX1_fit_38 (by decide) ?_
        refine lv_iload_n C.1 hb dX1_fit_39 rfl (lv_at hl 1 rfl) ?_
        refine lv_imul C.1 hb dX1_fit_40 ?_
        refine lv_iload C.1 hb dX1_fit_41 (lv_at hl 4 rfl) ?_
        refine lv_iadd C.1 hb dX1_fit_43 ?_
        refine ldM_levels (j := (3 * r + i)) C hb hP (ix3 r i) (by omega) dX1_fit_44 ?_
        refine lv_iadd C.1 hb dX1_fit_45 ?_
        refine ldM_factors (j := (4 * i + tN (mIa S 0 (3 * r + i)))) C hb hP (MI_ix4 hI hlt hr) (by omega) dX1_fit_46 ?_
        refine lv_i2l C.1 hb dX1_fit_47 rfl ?_
        refine lv_lmul C.1 hb dX1_fit_48 ?_
        refine lv_ldc2 (v := 10000) C.1 hb C.2.1 (C.2.2.1 _ wm_47) dX1_fit_49 ?_
        refine lv_ldiv C.1 hb dX1_fit_52 (by decide) ?_
        refine lv_lstore (lv' := [(4, .long (((mFitN S b r i) * (mIa S 6 (4 * i + tN (mIa S 0 (3 * r + i)))).toInt64) / 10000)), (0, .ref (gA g 17)), (1, .int (nI r)), (2, .long b), (6, .int (nI i))]) C.1 hb dX1_fit_53 hl (by decide) rfl (fun ls hl => ?_)
        refine lv_iinc (v := nI (i + 1)) (lv' := [(6, .int (nI (i + 1))), (4, .long (((mFitN S b r i) * (mIa S 6 (4 * i + tN (mIa S 0 (3 * r + i)))).toInt64) / 10000)), (0, .ref (gA g 17)), (1, .int (nI r)), (2, .long b)]) C.1 hb dX1_fit_55 hl (k := 4) rfl (nI_1 i) (by decide) rfl (fun ls hl => ?_)
        refine lv_goto (tgt := 18) C.1 hb dX1_fit_58 (by decide) ?_
        exact ih (i + 1) (by omega) (by omega)  ls (by rw [show mFitN S b r (i + 1) = mFitN S b r i * (mIa S 6 (4 * i + tN (mIa S 0 (3 * r + i)))).toInt64 / 10000 from rfl]; exact lv_sub hl [2, 3, 4, 1, 0] rfl)
  exact key (3 - 0 + 1) 0 (by omega) (by omega)  ls (lv_sub hl [2, 3, 4, 1, 0] rfl)

set_option maxRecDepth 100000 in
set_option maxHeartbeats 4000000 in
theorem k_X1_has (l : Launch) (g : gG) (S : WS) (i t : Nat) (hi : i < 40) (ht : t < 3) (k : Int32) : Met l yX1_has (wA yX1_has cX1_has 4 (some .boolean)) ({ frames := 0, cells := 0, slots := 0, locals := 0 }) (PW g S [.ref (gA g 17), .int (nI i), .int (nI t), .int k]) (RQ (some (.int (bI (mHas S t k i))))) 0 0 (fun _ => False) := by
  refine metI (by decide +kernel) (Nat.le_of_ble_eq_true rfl) ?_
  intro p e s m below meth c C hb hml hret hlk hP ls hl
  have C : CW g RX1 p s m ([.ref (gA g 17), .int (nI i), .int (nI t), .int k] : List Value).toArray := C
  have hS : va_S (Ab g) s.heap s.heap [] := va_S.rf
  have hl : lv_has ls 4 [(0, .ref (gA g 17)), (1, .int (nI i)), (2, .int (nI t)), (3, .int k)] := hl
  refine lv_aload_n C.1 hb dX1_has_0 rfl (lv_at hl 0 rfl) ?_
  refine gM_gone C hb hP dX1_has_1 ?_
  refine lv_iload_n C.1 hb dX1_has_4 rfl (lv_at hl 1 rfl) ?_
  refine ldM_gone (j := i) C hb hP rfl (by omega) dX1_has_5 ?_
  refine lv_if_ne (tgt := 27) C.1 hb dX1_has_6 (by decide) (fun c100 => ?_) (fun c100 => ?_)
  · refine lv_iconst (v := 0) C.1 hb dX1_has_27 (by decide) ?_
    exact rdZ C hb hret hlk dX1_has_28 (by simp [mHas, bI, c100])
  · refine lv_aload_n C.1 hb dX1_has_9 rfl (lv_at hl 0 rfl) ?_
    refine gM_levels C hb hP dX1_has_10 ?_
    refine lv_iconst (v := 3) C.1 hb dX1_has_13 (by decide) ?_
    refine lv_iload_n C.1 hb dX1_has_14 rfl (lv_at hl 1 rfl) ?_
    refine lv_imul C.1 hb dX1_has_15 ?_
    refine lv_iload_n C.1 hb dX1_has_16 rfl (lv_at hl 2 rfl) ?_
    refine lv_iadd C.1 hb dX1_has_17 ?_
    refine ldM_levels (j := (3 * i + t)) C hb hP (ix3 i t) (by omega) dX1_has_18 ?_
    refine lv_iload_n C.1 hb dX1_has_19 rfl (lv_at hl 3 rfl) ?_
    refine lv_icmp_ne (tgt := 27) C.1 hb dX1_has_20 (by decide) (fun c101 => ?_) (fun c101 => ?_)
    · refine lv_iconst (v := 0) C.1 hb dX1_has_27 (by decide) ?_
      exact rdZ C hb hret hlk dX1_has_28 (by simp [mHas, bI, c100, c101])
    · refine lv_iconst (v := 1) C.1 hb dX1_has_23 (by decide) ?_
      refine lv_goto (tgt := 28) C.1 hb dX1_has_24 (by decide) ?_
      exact rdZ C hb hret hlk dX1_has_28 (by simp [mHas, bI, c100, c101])

set_option maxRecDepth 100000 in
set_option maxHeartbeats 4000000 in
theorem k_X1_told (l : Launch) (g : gG) (S : WS) (n : Nat) (hI : MI n S) (t : Nat) (ht : t < 3) (k : Int32) : Met l yX1_told (wA yX1_told cX1_told 6 (some .long)) ({ frames := 1, cells := 0, slots := 0, locals := 40 }) (PW g S [.ref (gA g 17), .int (nI t), .int k]) (RQ (some (.long (mSumL S n t k 3)))) 0 0 (fun _ => False) := by
  refine metI (by decide +kernel) (Nat.le_of_ble_eq_true rfl) ?_
  intro p e s m below meth c C hb hml hret hlk hP ls hl
  have C : CW g RX1 p s m ([.ref (gA g 17), .int (nI t), .int k] : List Value).toArray := C
  have hS : va_S (Ab g) s.heap s.heap [] := va_S.rf
  have hl : lv_has ls 6 [(0, .ref (gA g 17)), (1, .int (nI t)), (2, .int k)] := hl
  refine lv_lconst (v := 0) C.1 hb dX1_told_0 (by decide) ?_
  refine lv_lstore_n (lv' := [(3, .long 0), (0, .ref (gA g 17)), (1, .int (nI t)), (2, .int k)]) C.1 hb dX1_told_1 rfl hl (by decide) rfl (fun ls hl => ?_)
  refine lv_iconst (v := 0) C.1 hb dX1_told_2 (by decide) ?_
  refine lv_istore (lv' := [(5, .int 0), (3, .long 0), (0, .ref (gA g 17)), (1, .int (nI t)), (2, .int k)]) C.1 hb dX1_told_3 hl (by decide) rfl (fun ls hl => ?_)
  have key : ∀ f i : Nat, n - i < f → i ≤ n → ∀ ls : Array Slot, lv_has ls 6 [(0, .ref (gA g 17)), (1, .int (nI t)), (2, .int k), (3, .long (wsum (mHas S t k) (mL S 3) i)), (5, .int (nI i))] → W p l e ({ frames := 1, cells := 0, slots := 0, locals := 40 }) s m ([.ref (gA g 17), .int (nI t), .int k] : List Value).toArray below meth c s.heap [] 0 0 (MQ below (RQ (some (.long (mSumL S n t k 3)))) ([.ref (gA g 17), .int (nI t), .int k] : List Value).toArray s 0 0 (fun _ => False)) (F0 m 5 ls []) := by
    intro f
    induction f with
    | zero => intro i h; exact absurd h (Nat.not_lt_zero _)
    | succ f ih =>
      intro i hfi hi  ls hl
      refine lv_iload C.1 hb dX1_told_5 (lv_at hl 4 rfl) ?_
      refine lv_aload_n C.1 hb dX1_told_7 rfl (lv_at hl 0 rfl) ?_
      refine gM_rows C hb hP dX1_told_8 ?_
      refine lv_icmp_ge (tgt := 46) C.1 hb dX1_told_11 (by decide) (fun c102 => ?_) (fun c102 => ?_)
      · have hin : i = n := by have := le_nI (a := n) (b := i) (by have := hI.1; omega) (by have := hI.1; omega) (by rw [← hI.2.1]; exact c102); omega
        rw [hin] at hl
        refine lv_lload_n C.1 hb dX1_told_46 rfl (lv_at hl 3 rfl) ?_
        exact rdL C hb hret hlk dX1_told_47 rfl
      · have hlti : i < n := nle_nI (a := n) (b := i) (by have := hI.1; omega) (by have := hI.1; omega) (by rw [← hI.2.1]; exact c102)
        have hn40 := hI.1
        refine lv_lload_n C.1 hb dX1_told_14 rfl (lv_at hl 3 rfl) ?_
        refine lv_aload_n C.1 hb dX1_told_15 rfl (lv_at hl 0 rfl) ?_
        refine lv_iload C.1 hb dX1_told_16 (lv_at hl 4 rfl) ?_
        refine lv_iload_n C.1 hb dX1_told_18 rfl (lv_at hl 1 rfl) ?_
        refine lv_iload_n C.1 hb dX1_told_19 rfl (lv_at hl 2 rfl) ?_
        refine run_rd (cRunM (As := [.int (nI i), .int (nI t), .int k]) (rest := [.long (wsum (mHas S t k) (mL S 3) i)]) C hb (hml.trans hl.1.symm) hP hS rfl (k_X1_has l g S i t (by omega) ht k) wm_228 wm_229 wm_230 wm_231 wm_5 (n := 3) (by decide +kernel) rfl ⟨rfl, rfl, Nat.le_of_ble_eq_true rfl, Nat.le_of_ble_eq_true rfl⟩ (Nat.le_of_ble_eq_true rfl) rfl ⟨Nat.zero_le _, Nat.zero_le _⟩ dX1_told_20) ?_
        refine bz_eq (tgt := 37) C hb dX1_told_23 (by decide) (fun c103 => ?_) (fun c103 => ?_)
        · refine lv_lconst (v := 0) C.1 hb dX1_told_37 (by decide) ?_
          refine lv_ladd C.1 hb dX1_told_38 ?_
          refine toL (Int64.add_zero _) ?_
          refine lv_lstore_n (lv' := [(3, .long (wsum (mHas S t k) (mL S 3) i)), (0, .ref (gA g 17)), (1, .int (nI t)), (2, .int k), (5, .int (nI i))]) C.1 hb dX1_told_39 rfl hl (by decide) rfl (fun ls hl => ?_)
          refine lv_iinc (v := nI (i + 1)) (lv' := [(5, .int (nI (i + 1))), (3, .long (wsum (mHas S t k) (mL S 3) i)), (0, .ref (gA g 17)), (1, .int (nI t)), (2, .int k)]) C.1 hb dX1_told_40 hl (k := 4) rfl (nI_1 i) (by decide) rfl (fun ls hl => ?_)
          refine lv_goto (tgt := 5) C.1 hb dX1_told_43 (by decide) ?_
          exact ih (i + 1) (by omega) (by omega)  ls (by rw [wsum_f c103]; exact lv_sub hl [2, 3, 4, 1, 0] rfl)
        · refine lv_aload_n C.1 hb dX1_told_26 rfl (lv_at hl 0 rfl) ?_
          refine gM_losses C hb hP dX1_told_27 ?_
          refine lv_iload C.1 hb dX1_told_30 (lv_at hl 4 rfl) ?_
          refine ldM_losses (j := i) C hb hP rfl (by omega) dX1_told_32 ?_
          refine lv_i2l C.1 hb dX1_told_33 rfl ?_
          refine lv_goto (tgt := 38) C.1 hb dX1_told_34 (by decide) ?_
          refine lv_ladd C.1 hb dX1_told_38 ?_
          refine lv_lstore_n (lv' := [(3, .long ((wsum (mHas S t k) (mL S 3) i) + (mIa S 3 i).toInt64)), (0, .ref (gA g 17)), (1, .int (nI t)), (2, .int k), (5, .int (nI i))]) C.1 hb dX1_told_39 rfl hl (by decide) rfl (fun ls hl => ?_)
          refine lv_iinc (v := nI (i + 1)) (lv' := [(5, .int (nI (i + 1))), (3, .long ((wsum (mHas S t k) (mL S 3) i) + (mIa S 3 i).toInt64)), (0, .ref (gA g 17)), (1, .int (nI t)), (2, .int k)]) C.1 hb dX1_told_40 hl (k := 4) rfl (nI_1 i) (by decide) rfl (fun ls hl => ?_)
          refine lv_goto (tgt := 5) C.1 hb dX1_told_43 (by decide) ?_
          exact ih (i + 1) (by omega) (by omega)  ls (by rw [wsum_t c103]; exact lv_sub hl [2, 3, 4, 1, 0] rfl)
  exact key (n - 0 + 1) 0 (by omega) (by omega)  ls (lv_sub hl [2, 3, 4, 1, 0] rfl)

set_option maxRecDepth 100000 in
set_option maxHeartbeats 4000000 in
theorem k_X1_claimed (l : Launch) (g : gG) (S : WS) (n : Nat) (hI : MI n S) (t : Nat) (ht : t < 3) (k : Int32) : Met l yX1_claimed (wA yX1_claimed cX1_claimed 6 (some .long)) ({ frames := 1, cells := 0, slots := 0, locals := 40 }) (PW g S [.ref (gA g 17), .int (nI t), .int k]) (RQ (some (.long (mSumL S n t k 2)))) 0 0 (fun _ => False) := by
  refine metI (by decide +kernel) (Nat.le_of_ble_eq_true rfl) ?_
  intro p e s m below meth c C hb hml hret hlk hP ls hl
  have C : CW g RX1 p s m ([.ref (gA g 17), .int (nI t), .int k] : List Value).toArray := C
  have hS : va_S (Ab g) s.heap s.heap [] := va_S.rf
  have hl : lv_has ls 6 [(0, .ref (gA g 17)), (1, .int (nI t)), (2, .int k)] := hl
  refine lv_lconst (v := 0) C.1 hb dX1_claimed_0 (by decide) ?_
  refine lv_lstore_n (lv' := [(3, .long 0), (0, .ref (gA g 17)), (1, .int (nI t)), (2, .int k)]) C.1 hb dX1_claimed_1 rfl hl (by decide) rfl (fun ls hl => ?_)
  refine lv_iconst (v := 0) C.1 hb dX1_claimed_2 (by decide) ?_
  refine lv_istore (lv' := [(5, .int 0), (3, .long 0), (0, .ref (gA g 17)), (1, .int (nI t)), (2, .int k)]) C.1 hb dX1_claimed_3 hl (by decide) rfl (fun ls hl => ?_)
  have key : ∀ f i : Nat, n - i < f → i ≤ n → ∀ ls : Array Slot, lv_has ls 6 [(0, .ref (gA g 17)), (1, .int (nI t)), (2, .int k), (3, .long (wsum (mHas S t k) (mL S 2) i)), (5, .int (nI i))] → W p l e ({ frames := 1, cells := 0, slots := 0, locals := 40 }) s m ([.ref (gA g 17), .int (nI t), .int k] : List Value).toArray below meth c s.heap [] 0 0 (MQ below (RQ (some (.long (mSumL S n t k 2)))) ([.ref (gA g 17), .int (nI t), .int k] : List Value).toArray s 0 0 (fun _ => False)) (F0 m 5 ls []) := by
    intro f
    induction f with
    | zero => intro i h; exact absurd h (Nat.not_lt_zero _)
    | succ f ih =>
      intro i hfi hi  ls hl
      refine lv_iload C.1 hb dX1_claimed_5 (lv_at hl 4 rfl) ?_
      refine lv_aload_n C.1 hb dX1_claimed_7 rfl (lv_at hl 0 rfl) ?_
      refine gM_rows C hb hP dX1_claimed_8 ?_
      refine lv_icmp_ge (tgt := 46) C.1 hb dX1_claimed_11 (by decide) (fun c104 => ?_) (fun c104 => ?_)
      · have hin : i = n := by have := le_nI (a := n) (b := i) (by have := hI.1; omega) (by have := hI.1; omega) (by rw [← hI.2.1]; exact c104); omega
        rw [hin] at hl
        refine lv_lload_n C.1 hb dX1_claimed_46 rfl (lv_at hl 3 rfl) ?_
        exact rdL C hb hret hlk dX1_claimed_47 rfl
      · have hlti : i < n := nle_nI (a := n) (b := i) (by have := hI.1; omega) (by have := hI.1; omega) (by rw [← hI.2.1]; exact c104)
        have hn40 := hI.1
        refine lv_lload_n C.1 hb dX1_claimed_14 rfl (lv_at hl 3 rfl) ?_
        refine lv_aload_n C.1 hb dX1_claimed_15 rfl (lv_at hl 0 rfl) ?_
        refine lv_iload C.1 hb dX1_claimed_16 (lv_at hl 4 rfl) ?_
        refine lv_iload_n C.1 hb dX1_claimed_18 rfl (lv_at hl 1 rfl) ?_
        refine lv_iload_n C.1 hb dX1_claimed_19 rfl (lv_at hl 2 rfl) ?_
        refine run_rd (cRunM (As := [.int (nI i), .int (nI t), .int k]) (rest := [.long (wsum (mHas S t k) (mL S 2) i)]) C hb (hml.trans hl.1.symm) hP hS rfl (k_X1_has l g S i t (by omega) ht k) wm_228 wm_229 wm_230 wm_231 wm_5 (n := 3) (by decide +kernel) rfl ⟨rfl, rfl, Nat.le_of_ble_eq_true rfl, Nat.le_of_ble_eq_true rfl⟩ (Nat.le_of_ble_eq_true rfl) rfl ⟨Nat.zero_le _, Nat.zero_le _⟩ dX1_claimed_20) ?_
        refine bz_eq (tgt := 37) C hb dX1_claimed_23 (by decide) (fun c105 => ?_) (fun c105 => ?_)
        · refine lv_lconst (v := 0) C.1 hb dX1_claimed_37 (by decide) ?_
          refine lv_ladd C.1 hb dX1_claimed_38 ?_
          refine toL (Int64.add_zero _) ?_
          refine lv_lstore_n (lv' := [(3, .long (wsum (mHas S t k) (mL S 2) i)), (0, .ref (gA g 17)), (1, .int (nI t)), (2, .int k), (5, .int (nI i))]) C.1 hb dX1_claimed_39 rfl hl (by decide) rfl (fun ls hl => ?_)
          refine lv_iinc (v := nI (i + 1)) (lv' := [(5, .int (nI (i + 1))), (3, .long (wsum (mHas S t k) (mL S 2) i)), (0, .ref (gA g 17)), (1, .int (nI t)), (2, .int k)]) C.1 hb dX1_claimed_40 hl (k := 4) rfl (nI_1 i) (by decide) rfl (fun ls hl => ?_)
          refine lv_goto (tgt := 5) C.1 hb dX1_claimed_43 (by decide) ?_
          exact ih (i + 1) (by omega) (by omega)  ls (by rw [wsum_f c105]; exact lv_sub hl [2, 3, 4, 1, 0] rfl)
        · refine lv_aload_n C.1 hb dX1_claimed_26 rfl (lv_at hl 0 rfl) ?_
          refine gM_claims C hb hP dX1_claimed_27 ?_
          refine lv_iload C.1 hb dX1_claimed_30 (lv_at hl 4 rfl) ?_
          refine ldM_claims (j := i) C hb hP rfl (by omega) dX1_claimed_32 ?_
          refine lv_i2l C.1 hb dX1_claimed_33 rfl ?_
          refine lv_goto (tgt := 38) C.1 hb dX1_claimed_34 (by decide) ?_
          refine lv_ladd C.1 hb dX1_claimed_38 ?_
          refine lv_lstore_n (lv' := [(3, .long ((wsum (mHas S t k) (mL S 2) i) + (mIa S 2 i).toInt64)), (0, .ref (gA g 17)), (1, .int (nI t)), (2, .int k), (5, .int (nI i))]) C.1 hb dX1_claimed_39 rfl hl (by decide) rfl (fun ls hl => ?_)
          refine lv_iinc (v := nI (i + 1)) (lv' := [(5, .int (nI (i + 1))), (3, .long ((wsum (mHas S t k) (mL S 2) i) + (mIa S 2 i).toInt64)), (0, .ref (gA g 17)), (1, .int (nI t)), (2, .int k)]) C.1 hb dX1_claimed_40 hl (k := 4) rfl (nI_1 i) (by decide) rfl (fun ls hl => ?_)
          refine lv_goto (tgt := 5) C.1 hb dX1_claimed_43 (by decide) ?_
          exact ih (i + 1) (by omega) (by omega)  ls (by rw [wsum_t c105]; exact lv_sub hl [2, 3, 4, 1, 0] rfl)
  exact key (n - 0 + 1) 0 (by omega) (by omega)  ls (lv_sub hl [2, 3, 4, 1, 0] rfl)

set_option maxRecDepth 100000 in
set_option maxHeartbeats 4000000 in
theorem k_X1_exposed (l : Launch) (g : gG) (S : WS) (n : Nat) (hI : MI n S) (t : Nat) (ht : t < 3) (k : Int32) : Met l yX1_exposed (wA yX1_exposed cX1_exposed 6 (some .long)) ({ frames := 1, cells := 0, slots := 0, locals := 40 }) (PW g S [.ref (gA g 17), .int (nI t), .int k]) (RQ (some (.long (mSumL S n t k 1)))) 0 0 (fun _ => False) := by
  refine metI (by decide +kernel) (Nat.le_of_ble_eq_true rfl) ?_
  intro p e s m below meth c C hb hml hret hlk hP ls hl
  have C : CW g RX1 p s m ([.ref (gA g 17), .int (nI t), .int k] : List Value).toArray := C
  have hS : va_S (Ab g) s.heap s.heap [] := va_S.rf
  have hl : lv_has ls 6 [(0, .ref (gA g 17)), (1, .int (nI t)), (2, .int k)] := hl
  refine lv_lconst (v := 0) C.1 hb dX1_exposed_0 (by decide) ?_
  refine lv_lstore_n (lv' := [(3, .long 0), (0, .ref (gA g 17)), (1, .int (nI t)), (2, .int k)]) C.1 hb dX1_exposed_1 rfl hl (by decide) rfl (fun ls hl => ?_)
  refine lv_iconst (v := 0) C.1 hb dX1_exposed_2 (by decide) ?_
  refine lv_istore (lv' := [(5, .int 0), (3, .long 0), (0, .ref (gA g 17)), (1, .int (nI t)), (2, .int k)]) C.1 hb dX1_exposed_3 hl (by decide) rfl (fun ls hl => ?_)
  have key : ∀ f i : Nat, n - i < f → i ≤ n → ∀ ls : Array Slot, lv_has ls 6 [(0, .ref (gA g 17)), (1, .int (nI t)), (2, .int k), (3, .long (wsum (mHas S t k) (mL S 1) i)), (5, .int (nI i))] → W p l e ({ frames := 1, cells := 0, slots := 0, locals := 40 }) s m ([.ref (gA g 17), .int (nI t), .int k] : List Value).toArray below meth c s.heap [] 0 0 (MQ below (RQ (some (.long (mSumL S n t k 1)))) ([.ref (gA g 17), .int (nI t), .int k] : List Value).toArray s 0 0 (fun _ => False)) (F0 m 5 ls []) := by
    intro f
    induction f with
    | zero => intro i h; exact absurd h (Nat.not_lt_zero _)
    | succ f ih =>
      intro i hfi hi  ls hl
      refine lv_iload C.1 hb dX1_exposed_5 (lv_at hl 4 rfl) ?_
      refine lv_aload_n C.1 hb dX1_exposed_7 rfl (lv_at hl 0 rfl) ?_
      refine gM_rows C hb hP dX1_exposed_8 ?_
      refine lv_icmp_ge (tgt := 46) C.1 hb dX1_exposed_11 (by decide) (fun c106 => ?_) (fun c106 => ?_)
      · have hin : i = n := by have := le_nI (a := n) (b := i) (by have := hI.1; omega) (by have := hI.1; omega) (by rw [← hI.2.1]; exact c106); omega
        rw [hin] at hl
        refine lv_lload_n C.1 hb dX1_exposed_46 rfl (lv_at hl 3 rfl) ?_
        exact rdL C hb hret hlk dX1_exposed_47 rfl
      · have hlti : i < n := nle_nI (a := n) (b := i) (by have := hI.1; omega) (by have := hI.1; omega) (by rw [← hI.2.1]; exact c106)
        have hn40 := hI.1
        refine lv_lload_n C.1 hb dX1_exposed_14 rfl (lv_at hl 3 rfl) ?_
        refine lv_aload_n C.1 hb dX1_exposed_15 rfl (lv_at hl 0 rfl) ?_
        refine lv_iload C.1 hb dX1_exposed_16 (lv_at hl 4 rfl) ?_
        refine lv_iload_n C.1 hb dX1_exposed_18 rfl (lv_at hl 1 rfl) ?_
        refine lv_iload_n C.1 hb dX1_exposed_19 rfl (lv_at hl 2 rfl) ?_
        refine run_rd (cRunM (As := [.int (nI i), .int (nI t), .int k]) (rest := [.long (wsum (mHas S t k) (mL S 1) i)]) C hb (hml.trans hl.1.symm) hP hS rfl (k_X1_has l g S i t (by omega) ht k) wm_228 wm_229 wm_230 wm_231 wm_5 (n := 3) (by decide +kernel) rfl ⟨rfl, rfl, Nat.le_of_ble_eq_true rfl, Nat.le_of_ble_eq_true rfl⟩ (Nat.le_of_ble_eq_true rfl) rfl ⟨Nat.zero_le _, Nat.zero_le _⟩ dX1_exposed_20) ?_
        refine bz_eq (tgt := 37) C hb dX1_exposed_23 (by decide) (fun c107 => ?_) (fun c107 => ?_)
        · refine lv_lconst (v := 0) C.1 hb dX1_exposed_37 (by decide) ?_
          refine lv_ladd C.1 hb dX1_exposed_38 ?_
          refine toL (Int64.add_zero _) ?_
          refine lv_lstore_n (lv' := [(3, .long (wsum (mHas S t k) (mL S 1) i)), (0, .ref (gA g 17)), (1, .int (nI t)), (2, .int k), (5, .int (nI i))]) C.1 hb dX1_exposed_39 rfl hl (by decide) rfl (fun ls hl => ?_)
          refine lv_iinc (v := nI (i + 1)) (lv' := [(5, .int (nI (i + 1))), (3, .long (wsum (mHas S t k) (mL S 1) i)), (0, .ref (gA g 17)), (1, .int (nI t)), (2, .int k)]) C.1 hb dX1_exposed_40 hl (k := 4) rfl (nI_1 i) (by decide) rfl (fun ls hl => ?_)
          refine lv_goto (tgt := 5) C.1 hb dX1_exposed_43 (by decide) ?_
          exact ih (i + 1) (by omega) (by omega)  ls (by rw [wsum_f c107]; exact lv_sub hl [2, 3, 4, 1, 0] rfl)
        · refine lv_aload_n C.1 hb dX1_exposed_26 rfl (lv_at hl 0 rfl) ?_
          refine gM_exposures C hb hP dX1_exposed_27 ?_
          refine lv_iload C.1 hb dX1_exposed_30 (lv_at hl 4 rfl) ?_
          refine ldM_exposures (j := i) C hb hP rfl (by omega) dX1_exposed_32 ?_
          refine lv_i2l C.1 hb dX1_exposed_33 rfl ?_
          refine lv_goto (tgt := 38) C.1 hb dX1_exposed_34 (by decide) ?_
          refine lv_ladd C.1 hb dX1_exposed_38 ?_
          refine lv_lstore_n (lv' := [(3, .long ((wsum (mHas S t k) (mL S 1) i) + (mIa S 1 i).toInt64)), (0, .ref (gA g 17)), (1, .int (nI t)), (2, .int k), (5, .int (nI i))]) C.1 hb dX1_exposed_39 rfl hl (by decide) rfl (fun ls hl => ?_)
          refine lv_iinc (v := nI (i + 1)) (lv' := [(5, .int (nI (i + 1))), (3, .long ((wsum (mHas S t k) (mL S 1) i) + (mIa S 1 i).toInt64)), (0, .ref (gA g 17)), (1, .int (nI t)), (2, .int k)]) C.1 hb dX1_exposed_40 hl (k := 4) rfl (nI_1 i) (by decide) rfl (fun ls hl => ?_)
          refine lv_goto (tgt := 5) C.1 hb dX1_exposed_43 (by decide) ?_
          exact ih (i + 1) (by omega) (by omega)  ls (by rw [wsum_t c107]; exact lv_sub hl [2, 3, 4, 1, 0] rfl)
  exact key (n - 0 + 1) 0 (by omega) (by omega)  ls (lv_sub hl [2, 3, 4, 1, 0] rfl)

set_option maxRecDepth 100000 in
set_option maxHeartbeats 4000000 in
theorem k_X1_fittedOf (l : Launch) (g : gG) (S : WS) (n : Nat) (hI : MI n S) (t : Nat) (ht : t < 3) (k : Int32) : Met l yX1_fittedOf (wA yX1_fittedOf cX1_fittedOf 8 (some .long)) ({ frames := 1, cells := 0, slots := 0, locals := 40 }) (PW g S [.ref (gA g 17), .int (nI t), .int k]) (RQ (some (.long (mFitO S n t k)))) 0 0 (fun _ => False) := by
  refine metI (by decide +kernel) (Nat.le_of_ble_eq_true rfl) ?_
  intro p e s m below meth c C hb hml hret hlk hP ls hl
  have C : CW g RX1 p s m ([.ref (gA g 17), .int (nI t), .int k] : List Value).toArray := C
  have hS : va_S (Ab g) s.heap s.heap [] := va_S.rf
  have hl : lv_has ls 8 [(0, .ref (gA g 17)), (1, .int (nI t)), (2, .int k)] := hl
  refine lv_aload_n C.1 hb dX1_fittedOf_0 rfl (lv_at hl 0 rfl) ?_
  refine run_rd (cRunM (As := []) (rest := []) C hb (hml.trans hl.1.symm) hP hS rfl (k_X1_baseNow l g S n hI) wm_224 wm_225 wm_226 wm_227 wm_5 (n := 0) (by decide +kernel) rfl ⟨rfl, rfl, Nat.le_of_ble_eq_true rfl, Nat.le_of_ble_eq_true rfl⟩ (Nat.le_of_ble_eq_true rfl) rfl ⟨Nat.zero_le _, Nat.zero_le _⟩ dX1_fittedOf_1) ?_
  refine lv_lstore_n (lv' := [(3, .long (mBase S n)), (0, .ref (gA g 17)), (1, .int (nI t)), (2, .int k)]) C.1 hb dX1_fittedOf_4 rfl hl (by decide) rfl (fun ls hl => ?_)
  refine lv_lconst (v := 0) C.1 hb dX1_fittedOf_5 (by decide) ?_
  refine lv_lstore (lv' := [(5, .long 0), (3, .long (mBase S n)), (0, .ref (gA g 17)), (1, .int (nI t)), (2, .int k)]) C.1 hb dX1_fittedOf_6 hl (by decide) rfl (fun ls hl => ?_)
  refine lv_iconst (v := 0) C.1 hb dX1_fittedOf_8 (by decide) ?_
  refine lv_istore (lv' := [(7, .int 0), (5, .long 0), (3, .long (mBase S n)), (0, .ref (gA g 17)), (1, .int (nI t)), (2, .int k)]) C.1 hb dX1_fittedOf_9 hl (by decide) rfl (fun ls hl => ?_)
  have key : ∀ f i : Nat, n - i < f → i ≤ n → ∀ ls : Array Slot, lv_has ls 8 [(0, .ref (gA g 17)), (1, .int (nI t)), (2, .int k), (3, .long (mBase S n)), (5, .long (wsum (mHas S t k) (mFit S (mBase S n)) i)), (7, .int (nI i))] → W p l e ({ frames := 1, cells := 0, slots := 0, locals := 40 }) s m ([.ref (gA g 17), .int (nI t), .int k] : List Value).toArray below meth c s.heap [] 0 0 (MQ below (RQ (some (.long (mFitO S n t k)))) ([.ref (gA g 17), .int (nI t), .int k] : List Value).toArray s 0 0 (fun _ => False)) (F0 m 11 ls []) := by
    intro f
    induction f with
    | zero => intro i h; exact absurd h (Nat.not_lt_zero _)
    | succ f ih =>
      intro i hfi hi  ls hl
      refine lv_iload C.1 hb dX1_fittedOf_11 (lv_at hl 5 rfl) ?_
      refine lv_aload_n C.1 hb dX1_fittedOf_13 rfl (lv_at hl 0 rfl) ?_
      refine gM_rows C hb hP dX1_fittedOf_14 ?_
      refine lv_icmp_ge (tgt := 53) C.1 hb dX1_fittedOf_17 (by decide) (fun c108 => ?_) (fun c108 => ?_)
      · have hin : i = n := by have := le_nI (a := n) (b := i) (by have := hI.1; omega) (by have := hI.1; omega) (by rw [← hI.2.1]; exact c108); omega
        rw [hin] at hl
        refine lv_lload C.1 hb dX1_fittedOf_53 (lv_at hl 4 rfl) ?_
        exact rdL C hb hret hlk dX1_fittedOf_55 rfl
      · have hlti : i < n := nle_nI (a := n) (b := i) (by have := hI.1; omega) (by have := hI.1; omega) (by rw [← hI.2.1]; exact c108)
        have hn40 := hI.1
        refine lv_lload C.1 hb dX1_fittedOf_20 (lv_at hl 4 rfl) ?_
        refine lv_aload_n C.1 hb dX1_fittedOf_22 rfl (lv_at hl 0 rfl) ?_
        refine lv_iload C.1 hb dX1_fittedOf_23 (lv_at hl 5 rfl) ?_
        refine lv_iload_n C.1 hb dX1_fittedOf_25 rfl (lv_at hl 1 rfl) ?_
        refine lv_iload_n C.1 hb dX1_fittedOf_26 rfl (lv_at hl 2 rfl) ?_
        refine run_rd (cRunM (As := [.int (nI i), .int (nI t), .int k]) (rest := [.long (wsum (mHas S t k) (mFit S (mBase S n)) i)]) C hb (hml.trans hl.1.symm) hP hS rfl (k_X1_has l g S i t (by omega) ht k) wm_228 wm_229 wm_230 wm_231 wm_5 (n := 3) (by decide +kernel) rfl ⟨rfl, rfl, Nat.le_of_ble_eq_true rfl, Nat.le_of_ble_eq_true rfl⟩ (Nat.le_of_ble_eq_true rfl) rfl ⟨Nat.zero_le _, Nat.zero_le _⟩ dX1_fittedOf_27) ?_
        refine bz_eq (tgt := 43) C hb dX1_fittedOf_30 (by decide) (fun c109 => ?_) (fun c109 => ?_)
        · refine lv_lconst (v := 0) C.1 hb dX1_fittedOf_43 (by decide) ?_
          refine lv_ladd C.1 hb dX1_fittedOf_44 ?_
          refine toL (Int64.add_zero _) ?_
          refine lv_lstore (lv' := [(5, .long (wsum (mHas S t k) (mFit S (mBase S n)) i)), (0, .ref (gA g 17)), (1, .int (nI t)), (2, .int k), (3, .long (mBase S n)), (7, .int (nI i))]) C.1 hb dX1_fittedOf_45 hl (by decide) rfl (fun ls hl => ?_)
          refine lv_iinc (v := nI (i + 1)) (lv' := [(7, .int (nI (i + 1))), (5, .long (wsum (mHas S t k) (mFit S (mBase S n)) i)), (0, .ref (gA g 17)), (1, .int (nI t)), (2, .int k), (3, .long (mBase S n))]) C.1 hb dX1_fittedOf_47 hl (k := 5) rfl (nI_1 i) (by decide) rfl (fun ls hl => ?_)
          refine lv_goto (tgt := 11) C.1 hb dX1_fittedOf_50 (by decide) ?_
          exact ih (i + 1) (by omega) (by omega)  ls (by rw [wsum_f c109]; exact lv_sub hl [2, 3, 4, 5, 1, 0] rfl)
        · refine lv_aload_n C.1 hb dX1_fittedOf_33 rfl (lv_at hl 0 rfl) ?_
          refine lv_iload C.1 hb dX1_fittedOf_34 (lv_at hl 5 rfl) ?_
          refine lv_lload_n C.1 hb dX1_fittedOf_36 rfl (lv_at hl 3 rfl) ?_
          refine run_rd (cRunM (As := [.int (nI i), .long (mBase S n)]) (rest := [.long (wsum (mHas S t k) (mFit S (mBase S n)) i)]) C hb (hml.trans hl.1.symm) hP hS rfl (k_X1_fit l g S n hI i hlti (mBase S n)) wm_232 wm_233 wm_234 wm_235 wm_5 (n := 2) (by decide +kernel) rfl ⟨rfl, rfl, Nat.le_of_ble_eq_true rfl, Nat.le_of_ble_eq_true rfl⟩ (Nat.le_of_ble_eq_true rfl) rfl ⟨Nat.zero_le _, Nat.zero_le _⟩ dX1_fittedOf_37) ?_
          refine lv_goto (tgt := 44) C.1 hb dX1_fittedOf_40 (by decide) ?_
          refine lv_ladd C.1 hb dX1_fittedOf_44 ?_
          refine lv_lstore (lv' := [(5, .long ((wsum (mHas S t k) (mFit S (mBase S n)) i) + (mFit S (mBase S n) i))), (0, .ref (gA g 17)), (1, .int (nI t)), (2, .int k), (3, .long (mBase S n)), (7, .int (nI i))]) C.1 hb dX1_fittedOf_45 hl (by decide) rfl (fun ls hl => ?_)
          refine lv_iinc (v := nI (i + 1)) (lv' := [(7, .int (nI (i + 1))), (5, .long ((wsum (mHas S t k) (mFit S (mBase S n)) i) + (mFit S (mBase S n) i))), (0, .ref (gA g 17)), (1, .int (nI t)), (2, .int k), (3, .long (mBase S n))]) C.1 hb dX1_fittedOf_47 hl (k := 5) rfl (nI_1 i) (by decide) rfl (fun ls hl => ?_)
          refine lv_goto (tgt := 11) C.1 hb dX1_fittedOf_50 (by decide) ?_
          exact ih (i + 1) (by omega) (by omega)  ls (by rw [wsum_t c109]; exact lv_sub hl [2, 3, 4, 5, 1, 0] rfl)
  exact key (n - 0 + 1) 0 (by omega) (by omega)  ls (lv_sub hl [3, 4, 5, 2, 1, 0] rfl)

set_option maxRecDepth 100000 in
set_option maxHeartbeats 4000000 in
theorem k_X1_bounded (l : Launch) (g : gG) (S : WS) (v : Int64) : Met l yX1_bounded (wA yX1_bounded cX1_bounded 3 (some .int)) ({ frames := 0, cells := 0, slots := 0, locals := 0 }) (PW g S [.ref (gA g 17), .long v]) (RQ (some (.int (mBnd v)))) 0 0 (fun _ => False) := by
  refine metI (by decide +kernel) (Nat.le_of_ble_eq_true rfl) ?_
  intro p e s m below meth c C hb hml hret hlk hP ls hl
  have C : CW g RX1 p s m ([.ref (gA g 17), .long v] : List Value).toArray := C
  have hS : va_S (Ab g) s.heap s.heap [] := va_S.rf
  have hl : lv_has ls 3 [(0, .ref (gA g 17)), (1, .long v)] := hl
  refine lv_lload_n C.1 hb dX1_bounded_0 rfl (lv_at hl 1 rfl) ?_
  refine lv_ldc2 (v := 100) C.1 hb C.2.1 (C.2.2.1 _ wm_248) dX1_bounded_1 ?_
  refine lc_ge (tgt := 13) C hb dX1_bounded_4 dX1_bounded_5 (by decide) (fun c110 => ?_) (fun c110 => ?_)
  · refine lv_lload_n C.1 hb dX1_bounded_13 rfl (lv_at hl 1 rfl) ?_
    refine lv_ldc2 (v := 100000) C.1 hb C.2.1 (C.2.2.1 _ wm_249) dX1_bounded_14 ?_
    refine lc_le (tgt := 26) C hb dX1_bounded_17 dX1_bounded_18 (by decide) (fun c111 => ?_) (fun c111 => ?_)
    · refine lv_lload_n C.1 hb dX1_bounded_26 rfl (lv_at hl 1 rfl) ?_
      refine lv_l2i C.1 hb dX1_bounded_27 rfl ?_
      exact rdI C hb hret hlk dX1_bounded_28 (by unfold mBnd; rw [if_pos c110, if_pos c111])
    · refine lv_ldc (v := 100000) C.1 hb C.2.1 (C.2.2.1 _ wm_180) dX1_bounded_21 ?_
      refine lv_goto (tgt := 28) C.1 hb dX1_bounded_23 (by decide) ?_
      exact rdI C hb hret hlk dX1_bounded_28 (by unfold mBnd; rw [if_pos c110, if_neg c111])
  · refine lv_bipush (v := 100) C.1 hb dX1_bounded_8 (by decide) ?_
    refine lv_goto (tgt := 28) C.1 hb dX1_bounded_10 (by decide) ?_
    exact rdI C hb hret hlk dX1_bounded_28 (by unfold mBnd; rw [if_neg c110])
