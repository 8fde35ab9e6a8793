set_option maxRecDepth 100000 in
set_option maxHeartbeats 4000000 in
theorem k_X0_lowestFallingLevel (l : Launch) (g : gG) (S : WS) (t : Nat) (ht : t < 3) : Met l yX0_lowestFallingLevel (wA yX0_lowestFallingLevel cX0_lowestFallingLevel 3 (some .int)) ({ frames := 0, cells := 0, slots := 0, locals := 0 }) (PW g S [.ref (gA g 0), .int (nI t)]) (RQ (some (.int (xLow S t)))) 0 0 (fun _ => False) := by
  refine metI (by decide +kernel) (Nat.le_of_ble_eq_true rfl) ?_
  intro p e s m below meth c C hb hml hret hlk hP ls hl
  have C : CW g RX0 p s m ([.ref (gA g 0), .int (nI t)] : List Value).toArray := C
  have hS : va_S (Ab g) s.heap s.heap [] := va_S.rf
  have hl : lv_has ls 3 [(0, .ref (gA g 0)), (1, .int (nI t))] := hl
  have h4 := levN_4 t
  have h3 := levN_3 t
  refine lv_iconst (v := 1) C.1 hb dX0_lowestFallingLevel_0 (by decide) ?_
  refine lv_istore_n (lv' := [(2, .int 1), (0, .ref (gA g 0)), (1, .int (nI t))]) C.1 hb dX0_lowestFallingLevel_1 rfl hl (by decide) rfl (fun ls hl => ?_)
  have key : ∀ f i : Nat, levN t - i < f → i ≤ levN t → (xLowF (xFac S t) (levN t - i) i = xLow S t) → (1 ≤ i) → ∀ ls : Array Slot, lv_has ls 3 [(0, .ref (gA g 0)), (1, .int (nI t)), (2, .int (nI i))] → W p l e ({ frames := 0, cells := 0, slots := 0, locals := 0 }) s m ([.ref (gA g 0), .int (nI t)] : List Value).toArray below meth c s.heap [] 0 0 (MQ below (RQ (some (.int (xLow S t)))) ([.ref (gA g 0), .int (nI t)] : List Value).toArray s 0 0 (fun _ => False)) (F0 m 2 ls []) := by
    intro f
    induction f with
    | zero => intro i h; exact absurd h (Nat.not_lt_zero _)
    | succ f ih =>
      intro i hfi hi heq h1 ls hl
      refine lv_iload_n C.1 hb dX0_lowestFallingLevel_2 rfl (lv_at hl 2 rfl) ?_
      refine gX_LEVELS C hb hS dX0_lowestFallingLevel_3 ?_
      refine lv_iload_n C.1 hb dX0_lowestFallingLevel_6 rfl (lv_at hl 1 rfl) ?_
      refine ldX_LEVELS (j := t) C hb hS rfl ht dX0_lowestFallingLevel_7 ?_
      refine lv_icmp_ge (tgt := 40) C.1 hb dX0_lowestFallingLevel_8 (by decide) (fun c35 => ?_) (fun c35 => ?_)
      · have hin : i = levN t := by have := le_nI (a := levN t) (b := i) (by omega) (by omega) c35; omega
        rw [hin] at hl
        refine lv_iconst (v := (-1)) C.1 hb dX0_lowestFallingLevel_40 (by decide) ?_
        exact rdI C hb hret hlk dX0_lowestFallingLevel_41 (by rw [← heq, hin, Nat.sub_self]; rfl)
      · have hlt : i < levN t := nle_nI (a := levN t) (b := i) (by omega) (by omega) c35
        have hd : levN t - i = (levN t - (i + 1)) + 1 := by omega
        rw [hd] at heq
        refine lv_aload_n C.1 hb dX0_lowestFallingLevel_11 rfl (lv_at hl 0 rfl) ?_
        refine gX_factors C hb hP dX0_lowestFallingLevel_12 ?_
        refine lv_iload_n C.1 hb dX0_lowestFallingLevel_15 rfl (lv_at hl 1 rfl) ?_
        refine al_fac (t := t) C hb hP rfl ht dX0_lowestFallingLevel_16 ?_
        refine lv_iload_n C.1 hb dX0_lowestFallingLevel_17 rfl (lv_at hl 2 rfl) ?_
        refine ldX_fac (t := t) (j := i) C hb hP ht rfl (by omega) dX0_lowestFallingLevel_18 ?_
        refine lv_aload_n C.1 hb dX0_lowestFallingLevel_19 rfl (lv_at hl 0 rfl) ?_
        refine gX_factors C hb hP dX0_lowestFallingLevel_20 ?_
        refine lv_iload_n C.1 hb dX0_lowestFallingLevel_23 rfl (lv_at hl 1 rfl) ?_
        refine al_fac (t := t) C hb hP rfl ht dX0_lowestFallingLevel_24 ?_
        refine lv_iload_n C.1 hb dX0_lowestFallingLevel_25 rfl (lv_at hl 2 rfl) ?_
        refine lv_iconst (v := 1) C.1 hb dX0_lowestFallingLevel_26 (by decide) ?_
        refine lv_isub C.1 hb dX0_lowestFallingLevel_27 ?_
        refine ldX_fac (t := t) (j := (i - 1)) C hb hP ht (nI_sub1 h1) (by omega) dX0_lowestFallingLevel_28 ?_
        refine lv_icmp_ge (tgt := 34) C.1 hb dX0_lowestFallingLevel_29 (by decide) (fun c36 => ?_) (fun c36 => ?_)
        · refine lv_iinc (v := nI (i + 1)) (lv' := [(2, .int (nI (i + 1))), (0, .ref (gA g 0)), (1, .int (nI t))]) C.1 hb dX0_lowestFallingLevel_34 hl (k := 2) rfl (nI_1 i) (by decide) rfl (fun ls hl => ?_)
          refine lv_goto (tgt := 2) C.1 hb dX0_lowestFallingLevel_37 (by decide) ?_
          exact ih (i + 1) (by omega) (by omega) ((if_pos c36).symm.trans heq) (by omega) ls (lv_sub hl [1, 2, 0] rfl)
        · refine lv_iload_n C.1 hb dX0_lowestFallingLevel_32 rfl (lv_at hl 2 rfl) ?_
          exact rdI C hb hret hlk dX0_lowestFallingLevel_33 (by rw [← heq]; exact (if_neg c36).symm)
  exact key (levN t - 1 + 1) 1 (by omega) (by omega) rfl (Nat.le_refl 1) ls (lv_sub hl [1, 2, 0] rfl)

set_option maxRecDepth 100000 in
set_option maxHeartbeats 4000000 in
theorem k_X0_groupMean (l : Launch) (g : gG) (S : WS) (n : Nat) (hI : XI n S) (t st : Nat) (ht : t < 3) (hst : st < 4) : Met l yX0_groupMean (wA yX0_groupMean cX0_groupMean 13 (some .int)) ({ frames := 1, cells := 0, slots := 0, locals := 60 }) (PW g S [.ref (gA g 0), .int (nI t), .int (nI st)]) (RQ (some (.int (xMean S n t st)))) 0 0 (fun _ => False) := by
  refine metI (by decide +kernel) (Nat.le_of_ble_eq_true rfl) ?_
  intro p e s m below meth c C hb hml hret hlk hP ls hl
  have C : CW g RX0 p s m ([.ref (gA g 0), .int (nI t), .int (nI st)] : List Value).toArray := C
  have hS : va_S (Ab g) s.heap s.heap [] := va_S.rf
  have hl : lv_has ls 13 [(0, .ref (gA g 0)), (1, .int (nI t)), (2, .int (nI st))] := hl
  have h4 := levN_4 t
  have h3 := levN_3 t
  have hn40 := hI.1
  have hz := xGP_lo S st
  refine lv_lconst (v := 0) C.1 hb dX0_groupMean_0 (by decide) ?_
  refine lv_lstore_n (lv' := [(3, .long 0), (0, .ref (gA g 0)), (1, .int (nI t)), (2, .int (nI st))]) C.1 hb dX0_groupMean_1 rfl hl (by decide) rfl (fun ls hl => ?_)
  refine lv_iconst (v := 0) C.1 hb dX0_groupMean_2 (by decide) ?_
  refine lv_istore (lv' := [(5, .int 0), (3, .long 0), (0, .ref (gA g 0)), (1, .int (nI t)), (2, .int (nI st))]) C.1 hb dX0_groupMean_3 hl (by decide) rfl (fun ls hl => ?_)
  refine lv_lconst (v := 0) C.1 hb dX0_groupMean_5 (by decide) ?_
  refine lv_lstore (lv' := [(6, .long 0), (5, .int 0), (3, .long 0), (0, .ref (gA g 0)), (1, .int (nI t)), (2, .int (nI st))]) C.1 hb dX0_groupMean_6 hl (by decide) rfl (fun ls hl => ?_)
  refine lv_lconst (v := 0) C.1 hb dX0_groupMean_8 (by decide) ?_
  refine lv_lstore (lv' := [(8, .long 0), (6, .long 0), (5, .int 0), (3, .long 0), (0, .ref (gA g 0)), (1, .int (nI t)), (2, .int (nI st))]) C.1 hb dX0_groupMean_9 hl (by decide) rfl (fun ls hl => ?_)
  refine lv_iload_n C.1 hb dX0_groupMean_11 rfl (lv_at hl 6 rfl) ?_
  refine lv_istore (lv' := [(10, .int (nI st)), (8, .long 0), (6, .long 0), (5, .int 0), (3, .long 0), (0, .ref (gA g 0)), (1, .int (nI t)), (2, .int (nI st))]) C.1 hb dX0_groupMean_12 hl (by decide) rfl (fun ls hl => ?_)
  have key : ∀ f i : Nat, levN t - i < f → i ≤ levN t → (st ≤ i) → ∀ ls : Array Slot, lv_has ls 13 [(0, .ref (gA g 0)), (1, .int (nI t)), (2, .int (nI st)), (3, .long (wsum (xGP S st) (fun k => (xFac S t k).toInt64) i)), (5, .int (nI (xCnt (xGP S st) i))), (6, .long (wsum (xGP S st) (fun k => xWt S n t k * (xFac S t k).toInt64) i)), (8, .long (wsum (xGP S st) (xWt S n t) i)), (10, .int (nI i))] → W p l e ({ frames := 1, cells := 0, slots := 0, locals := 60 }) s m ([.ref (gA g 0), .int (nI t), .int (nI st)] : List Value).toArray below meth c s.heap [] 0 0 (MQ below (RQ (some (.int (xMean S n t st)))) ([.ref (gA g 0), .int (nI t), .int (nI st)] : List Value).toArray s 0 0 (fun _ => False)) (F0 m 14 ls []) := by
    intro f
    induction f with
    | zero => intro i h; exact absurd h (Nat.not_lt_zero _)
    | succ f ih =>
      intro i hfi hi h1 ls hl
      refine lv_iload C.1 hb dX0_groupMean_14 (lv_at hl 7 rfl) ?_
      refine gX_LEVELS C hb hS dX0_groupMean_16 ?_
      refine lv_iload_n C.1 hb dX0_groupMean_19 rfl (lv_at hl 1 rfl) ?_
      refine ldX_LEVELS (j := t) C hb hS rfl ht dX0_groupMean_20 ?_
      refine lv_icmp_ge (tgt := 95) C.1 hb dX0_groupMean_21 (by decide) (fun c37 => ?_) (fun c37 => ?_)
      · have hin : i = levN t := by have := le_nI (a := levN t) (b := i) (by omega) (by omega) c37; omega
        rw [hin] at hl
        refine lv_lload C.1 hb dX0_groupMean_95 (lv_at hl 6 rfl) ?_
        refine lv_lconst (v := 0) C.1 hb dX0_groupMean_97 (by decide) ?_
        refine lc_le (tgt := 110) C hb dX0_groupMean_98 dX0_groupMean_99 (by decide) (fun c38 => ?_) (fun c38 => ?_)
        · refine lv_lload_n C.1 hb dX0_groupMean_110 rfl (lv_at hl 3 rfl) ?_
          refine lv_iload C.1 hb dX0_groupMean_111 (lv_at hl 4 rfl) ?_
          refine lv_iconst (v := 1) C.1 hb dX0_groupMean_113 (by decide) ?_
          refine va_mmax C.1 hb (hml.trans hl.1.symm) C.2.1 (C.2.2.1 _ wm_159) (C.2.2.1 _ wm_160) (C.2.2.1 _ wm_80) (C.2.2.1 _ wm_161) (Nat.le_of_ble_eq_true rfl) (Nat.le_of_ble_eq_true rfl) (Nat.zero_le _) (Nat.zero_le _) dX0_groupMean_114 ?_
          refine lv_i2l C.1 hb dX0_groupMean_117 rfl ?_
          refine lv_ldiv C.1 hb dX0_groupMean_118 (mxI_ne0 (by have := xCnt_le (xGP S st) (levN t); omega)) ?_
          refine lv_l2i C.1 hb dX0_groupMean_119 rfl ?_
          exact rdI C hb hret hlk dX0_groupMean_120 (by unfold xMean; rw [if_pos c38]; rfl)
        · refine lv_lload C.1 hb dX0_groupMean_102 (lv_at hl 5 rfl) ?_
          refine lv_lload C.1 hb dX0_groupMean_104 (lv_at hl 6 rfl) ?_
          refine lv_ldiv C.1 hb dX0_groupMean_106 (ne0_nle c38) ?_
          refine lv_goto (tgt := 119) C.1 hb dX0_groupMean_107 (by decide) ?_
          refine lv_l2i C.1 hb dX0_groupMean_119 rfl ?_
          exact rdI C hb hret hlk dX0_groupMean_120 (by unfold xMean; rw [if_neg c38])
      · have hlt : i < levN t := nle_nI (a := levN t) (b := i) (by omega) (by omega) c37
        refine lv_aload_n C.1 hb dX0_groupMean_24 rfl (lv_at hl 0 rfl) ?_
        refine gX_groupStarts C hb hP dX0_groupMean_25 ?_
        refine lv_iload C.1 hb dX0_groupMean_28 (lv_at hl 7 rfl) ?_
        refine ldX_groupStarts (j := i) C hb hP rfl (by omega) dX0_groupMean_30 ?_
        refine lv_iload_n C.1 hb dX0_groupMean_31 rfl (lv_at hl 2 rfl) ?_
        refine lv_icmp_ne (tgt := 89) C.1 hb dX0_groupMean_32 (by decide) (fun c39 => ?_) (fun c39 => ?_)
        · have hp : xGP S st i = false := by simp [xGP, c39]
          refine lv_iinc (v := nI (i + 1)) (lv' := [(10, .int (nI (i + 1))), (0, .ref (gA g 0)), (1, .int (nI t)), (2, .int (nI st)), (3, .long (wsum (xGP S st) (fun k => (xFac S t k).toInt64) i)), (5, .int (nI (xCnt (xGP S st) i))), (6, .long (wsum (xGP S st) (fun k => xWt S n t k * (xFac S t k).toInt64) i)), (8, .long (wsum (xGP S st) (xWt S n t) i))]) C.1 hb dX0_groupMean_89 hl (k := 7) rfl (nI_1 i) (by decide) rfl (fun ls hl => ?_)
          refine lv_goto (tgt := 14) C.1 hb dX0_groupMean_92 (by decide) ?_
          exact ih (i + 1) (by omega) (by omega) (by omega) ls (by rw [wsum_f hp, wsum_f hp, wsum_f hp, xCnt_f hp]; exact lv_sub hl [1, 2, 3, 4, 5, 6, 7, 0] rfl)
        · have hp : xGP S st i = true := by simp [xGP, c39, h1]
          refine lv_aload_n C.1 hb dX0_groupMean_35 rfl (lv_at hl 0 rfl) ?_
          refine lv_aload_n C.1 hb dX0_groupMean_36 rfl (lv_at hl 0 rfl) ?_
          refine gX_exposures C hb hP dX0_groupMean_37 ?_
          refine lv_iload_n C.1 hb dX0_groupMean_40 rfl (lv_at hl 1 rfl) ?_
          refine lv_iload C.1 hb dX0_groupMean_41 (lv_at hl 7 rfl) ?_
          refine run_rd (cRunX (As := [.ref (gA g 9), .int (nI t), .int (nI i)]) (rest := []) C hb (hml.trans hl.1.symm) hP hS rfl (k_X0_levelTotal l g S n hI 0 (by decide) t ht (nI i)) wm_71 wm_72 wm_73 wm_74 wm_12 (n := 3) (by decide +kernel) rfl ⟨rfl, rfl, Nat.le_of_ble_eq_true rfl, Nat.le_of_ble_eq_true rfl⟩ (Nat.le_of_ble_eq_true rfl) rfl ⟨Nat.zero_le _, Nat.zero_le _⟩ dX0_groupMean_43) ?_
          refine lv_lstore (lv' := [(11, .long (xWt S n t i)), (0, .ref (gA g 0)), (1, .int (nI t)), (2, .int (nI st)), (3, .long (wsum (xGP S st) (fun k => (xFac S t k).toInt64) i)), (5, .int (nI (xCnt (xGP S st) i))), (6, .long (wsum (xGP S st) (fun k => xWt S n t k * (xFac S t k).toInt64) i)), (8, .long (wsum (xGP S st) (xWt S n t) i)), (10, .int (nI i))]) C.1 hb dX0_groupMean_46 hl (by decide) rfl (fun ls hl => ?_)
          refine lv_lload_n C.1 hb dX0_groupMean_48 rfl (lv_at hl 4 rfl) ?_
          refine lv_aload_n C.1 hb dX0_groupMean_49 rfl (lv_at hl 1 rfl) ?_
          refine gX_factors C hb hP dX0_groupMean_50 ?_
          refine lv_iload_n C.1 hb dX0_groupMean_53 rfl (lv_at hl 2 rfl) ?_
          refine al_fac (t := t) C hb hP rfl ht dX0_groupMean_54 ?_
          refine lv_iload C.1 hb dX0_groupMean_55 (lv_at hl 8 rfl) ?_
          refine ldX_fac (t := t) (j := i) C hb hP ht rfl (by omega) dX0_groupMean_57 ?_
          refine lv_i2l C.1 hb dX0_groupMean_58 rfl ?_
          refine lv_ladd C.1 hb dX0_groupMean_59 ?_
          refine lv_lstore_n (lv' := [(3, .long ((wsum (xGP S st) (fun k => (xFac S t k).toInt64) i) + (xFac S t i).toInt64)), (11, .long (xWt S n t i)), (0, .ref (gA g 0)), (1, .int (nI t)), (2, .int (nI st)), (5, .int (nI (xCnt (xGP S st) i))), (6, .long (wsum (xGP S st) (fun k => xWt S n t k * (xFac S t k).toInt64) i)), (8, .long (wsum (xGP S st) (xWt S n t) i)), (10, .int (nI i))]) C.1 hb dX0_groupMean_60 rfl hl (by decide) rfl (fun ls hl => ?_)
          refine lv_iinc (v := nI ((xCnt (xGP S st) i) + 1)) (lv' := [(5, .int (nI ((xCnt (xGP S st) i) + 1))), (3, .long ((wsum (xGP S st) (fun k => (xFac S t k).toInt64) i) + (xFac S t i).toInt64)), (11, .long (xWt S n t i)), (0, .ref (gA g 0)), (1, .int (nI t)), (2, .int (nI st)), (6, .long (wsum (xGP S st) (fun k => xWt S n t k * (xFac S t k).toInt64) i)), (8, .long (wsum (xGP S st) (xWt S n t) i)), (10, .int (nI i))]) C.1 hb dX0_groupMean_61 hl (k := 5) rfl (nI_1 (xCnt (xGP S st) i)) (by decide) rfl (fun ls hl => ?_)
          refine lv_lload C.1 hb dX0_groupMean_64 (lv_at hl 6 rfl) ?_
          refine lv_lload C.1 hb dX0_groupMean_66 (lv_at hl 2 rfl) ?_
          refine lv_aload_n C.1 hb dX0_groupMean_68 rfl (lv_at hl 3 rfl) ?_
          refine gX_factors C hb hP dX0_groupMean_69 ?_
          refine lv_iload_n C.1 hb dX0_groupMean_72 rfl (lv_at hl 4 rfl) ?_
          refine al_fac (t := t) C hb hP rfl ht dX0_groupMean_73 ?_
          refine lv_iload C.1 hb dX0_groupMean_74 (lv_at hl 8 rfl) ?_
          refine ldX_fac (t := t) (j := i) C hb hP ht rfl (by omega) dX0_groupMean_76 ?_
          refine lv_i2l C.1 hb dX0_groupMean_77 rfl ?_
          refine lv_lmul C.1 hb dX0_groupMean_78 ?_
          refine lv_ladd C.1 hb dX0_groupMean_79 ?_
          refine lv_lstore (lv' := [(6, .long ((wsum (xGP S st) (fun k => xWt S n t k * (xFac S t k).toInt64) i) + ((xWt S n t i) * (xFac S t i).toInt64))), (5, .int (nI ((xCnt (xGP S st) i) + 1))), (3, .long ((wsum (xGP S st) (fun k => (xFac S t k).toInt64) i) + (xFac S t i).toInt64)), (11, .long (xWt S n t i)), (0, .ref (gA g 0)), (1, .int (nI t)), (2, .int (nI st)), (8, .long (wsum (xGP S st) (xWt S n t) i)), (10, .int (nI i))]) C.1 hb dX0_groupMean_80 hl (by decide) rfl (fun ls hl => ?_)
          refine lv_lload C.1 hb dX0_groupMean_82 (lv_at hl 7 rfl) ?_
          refine lv_lload C.1 hb dX0_groupMean_84 (lv_at hl 3 rfl) ?_
          refine lv_ladd C.1 hb dX0_groupMean_86 ?_
          refine lv_lstore (lv' := [(8, .long ((wsum (xGP S st) (xWt S n t) i) + (xWt S n t i))), (6, .long ((wsum (xGP S st) (fun k => xWt S n t k * (xFac S t k).toInt64) i) + ((xWt S n t i) * (xFac S t i).toInt64))), (5, .int (nI ((xCnt (xGP S st) i) + 1))), (3, .long ((wsum (xGP S st) (fun k => (xFac S t k).toInt64) i) + (xFac S t i).toInt64)), (11, .long (xWt S n t i)), (0, .ref (gA g 0)), (1, .int (nI t)), (2, .int (nI st)), (10, .int (nI i))]) C.1 hb dX0_groupMean_87 hl (by decide) rfl (fun ls hl => ?_)
          refine lv_iinc (v := nI (i + 1)) (lv' := [(10, .int (nI (i + 1))), (8, .long ((wsum (xGP S st) (xWt S n t) i) + (xWt S n t i))), (6, .long ((wsum (xGP S st) (fun k => xWt S n t k * (xFac S t k).toInt64) i) + ((xWt S n t i) * (xFac S t i).toInt64))), (5, .int (nI ((xCnt (xGP S st) i) + 1))), (3, .long ((wsum (xGP S st) (fun k => (xFac S t k).toInt64) i) + (xFac S t i).toInt64)), (11, .long (xWt S n t i)), (0, .ref (gA g 0)), (1, .int (nI t)), (2, .int (nI st))]) C.1 hb dX0_groupMean_89 hl (k := 8) rfl (nI_1 i) (by decide) rfl (fun ls hl => ?_)
          refine lv_goto (tgt := 14) C.1 hb dX0_groupMean_92 (by decide) ?_
          exact ih (i + 1) (by omega) (by omega) (by omega) ls (by rw [wsum_t hp, wsum_t hp, wsum_t hp, xCnt_t hp]; exact lv_sub hl [6, 7, 8, 4, 3, 2, 1, 0] rfl)
  exact key (levN t - st + 1) st (by omega) (by omega) (Nat.le_refl _) ls (by rw [wsum_z hz, wsum_z hz, wsum_z hz, xCnt_z hz]; exact lv_sub hl [5, 6, 7, 4, 3, 2, 1, 0] rfl)

set_option maxRecDepth 100000 in
set_option maxHeartbeats 4000000 in
theorem k_X0_joinToLevelAhead (l : Launch) (g : gG) (S : WS) (n : Nat) (hI : XI n S) (t fl st : Nat) (ht : t < 3) (hf1 : 1 ≤ fl) (hfl : fl < levN t) (hst : xIa S 2 (fl - 1) = nI st) (hst2 : st < fl) : Met l yX0_joinToLevelAhead (wA yX0_joinToLevelAhead cX0_joinToLevelAhead 6 none) ({ frames := 2, cells := 0, slots := 0, locals := 100 }) (PW g S [.ref (gA g 0), .int (nI t), .int (nI fl)]) (WQ g (xJoin S n t fl st) (none)) 0 0 (Ab g) := by
  refine metI (by decide +kernel) (Nat.le_of_ble_eq_true rfl) ?_
  intro p e s m below meth c C hb hml hret hlk hP ls hl
  have C : CW g RX0 p s m ([.ref (gA g 0), .int (nI t), .int (nI fl)] : List Value).toArray := C
  have hS : va_S (Ab g) s.heap s.heap [] := va_S.rf
  have hl : lv_has ls 6 [(0, .ref (gA g 0)), (1, .int (nI t)), (2, .int (nI fl))] := hl
  have h4 := levN_4 t
  have h3 := levN_3 t
  have hn40 := hI.1
  refine lv_aload_n C.1 hb dX0_joinToLevelAhead_0 rfl (lv_at hl 0 rfl) ?_
  refine gX_groupStarts C hb hP dX0_joinToLevelAhead_1 ?_
  refine lv_iload_n C.1 hb dX0_joinToLevelAhead_4 rfl (lv_at hl 2 rfl) ?_
  refine lv_iconst (v := 1) C.1 hb dX0_joinToLevelAhead_5 (by decide) ?_
  refine lv_isub C.1 hb dX0_joinToLevelAhead_6 ?_
  refine ldX_groupStarts (j := (fl - 1)) C hb hP (nI_sub1 hf1) (by omega) dX0_joinToLevelAhead_7 ?_
  refine toI hst ?_
  refine lv_istore_n (lv' := [(3, .int (nI st)), (0, .ref (gA g 0)), (1, .int (nI t)), (2, .int (nI fl))]) C.1 hb dX0_joinToLevelAhead_8 rfl hl (by decide) rfl (fun ls hl => ?_)
  refine lv_iload_n C.1 hb dX0_joinToLevelAhead_9 rfl (lv_at hl 3 rfl) ?_
  refine lv_istore (lv' := [(4, .int (nI fl)), (3, .int (nI st)), (0, .ref (gA g 0)), (1, .int (nI t)), (2, .int (nI fl))]) C.1 hb dX0_joinToLevelAhead_10 hl (by decide) rfl (fun ls hl => ?_)
  have key : ∀ f i : Nat, levN t - i < f → i ≤ levN t → (fl ≤ i) → ∀ (H : Heap) (locs : List Loc), HW g (xsIa S 2 (xJoinG S t fl st i)) H → va_S (Ab g) s.heap H locs → ∀ ls : Array Slot, lv_has ls 6 [(0, .ref (gA g 0)), (1, .int (nI t)), (2, .int (nI fl)), (3, .int (nI st)), (4, .int (nI i))] → W p l e ({ frames := 2, cells := 0, slots := 0, locals := 100 }) s m ([.ref (gA g 0), .int (nI t), .int (nI fl)] : List Value).toArray below meth c H locs 0 0 (MQ below (WQ g (xJoin S n t fl st) (none)) ([.ref (gA g 0), .int (nI t), .int (nI fl)] : List Value).toArray s 0 0 (Ab g)) (F0 m 12 ls []) := by
    intro f
    induction f with
    | zero => intro i h; exact absurd h (Nat.not_lt_zero _)
    | succ f ih =>
      intro i hfi hi h1 H locs hP hS ls hl
      refine lv_iload C.1 hb dX0_joinToLevelAhead_12 (lv_at hl 4 rfl) ?_
      refine gX_LEVELS C hb hS dX0_joinToLevelAhead_14 ?_
      refine lv_iload_n C.1 hb dX0_joinToLevelAhead_17 rfl (lv_at hl 1 rfl) ?_
      refine ldX_LEVELS (j := t) C hb hS rfl ht dX0_joinToLevelAhead_18 ?_
      refine lv_icmp_ge (tgt := 47) C.1 hb dX0_joinToLevelAhead_19 (by decide) (fun c40 => ?_) (fun c40 => ?_)
      · have hin : i = levN t := by have := le_nI (a := levN t) (b := i) (by omega) (by omega) c40; omega
        rw [hin] at hl hP
        refine lv_aload_n C.1 hb dX0_joinToLevelAhead_47 rfl (lv_at hl 0 rfl) ?_
        refine lv_iload_n C.1 hb dX0_joinToLevelAhead_48 rfl (lv_at hl 1 rfl) ?_
        refine lv_iload_n C.1 hb dX0_joinToLevelAhead_49 rfl (lv_at hl 3 rfl) ?_
        refine run_rd (cRunX (As := [.int (nI t), .int (nI st)]) (rest := []) C hb (hml.trans hl.1.symm) hP hS rfl (k_X0_groupMean l g (xJoin1 S t fl st) n (XI_ia 2 _ hI) t st ht (by omega)) wm_213 wm_214 wm_215 wm_216 wm_12 (n := 2) (by decide +kernel) rfl ⟨rfl, rfl, Nat.le_of_ble_eq_true rfl, Nat.le_of_ble_eq_true rfl⟩ (Nat.le_of_ble_eq_true rfl) rfl ⟨Nat.zero_le _, Nat.zero_le _⟩ dX0_joinToLevelAhead_50) ?_
        refine lv_istore (lv' := [(4, .int (xMean (xJoin1 S t fl st) n t st)), (0, .ref (gA g 0)), (1, .int (nI t)), (2, .int (nI fl)), (3, .int (nI st))]) C.1 hb dX0_joinToLevelAhead_53 hl (by decide) rfl (fun ls hl => ?_)
        refine lv_iload_n C.1 hb dX0_joinToLevelAhead_55 rfl (lv_at hl 4 rfl) ?_
        refine lv_istore (lv' := [(5, .int (nI st)), (4, .int (xMean (xJoin1 S t fl st) n t st)), (0, .ref (gA g 0)), (1, .int (nI t)), (2, .int (nI fl)), (3, .int (nI st))]) C.1 hb dX0_joinToLevelAhead_56 hl (by decide) rfl (fun ls hl => ?_)
        have key2 : ∀ f i : Nat, levN t - i < f → i ≤ levN t → (st ≤ i) → ∀ (H : Heap) (locs : List Loc), HW g (xsFac (xJoin1 S t fl st) t (xJoinF (xJoin1 S t fl st) t st (xMean (xJoin1 S t fl st) n t st) i)) H → va_S (Ab g) s.heap H locs → ∀ ls : Array Slot, lv_has ls 6 [(0, .ref (gA g 0)), (1, .int (nI t)), (3, .int (nI st)), (4, .int (xMean (xJoin1 S t fl st) n t st)), (5, .int (nI i))] → W p l e ({ frames := 2, cells := 0, slots := 0, locals := 100 }) s m ([.ref (gA g 0), .int (nI t), .int (nI fl)] : List Value).toArray below meth c H locs 0 0 (MQ below (WQ g (xJoin S n t fl st) (none)) ([.ref (gA g 0), .int (nI t), .int (nI fl)] : List Value).toArray s 0 0 (Ab g)) (F0 m 58 ls []) := by
          intro f
          induction f with
          | zero => intro i h; exact absurd h (Nat.not_lt_zero _)
          | succ f ih =>
            intro i hfi hi h2 H locs hP hS ls hl
            refine lv_iload C.1 hb dX0_joinToLevelAhead_58 (lv_at hl 4 rfl) ?_
            refine gX_LEVELS C hb hS dX0_joinToLevelAhead_60 ?_
            refine lv_iload_n C.1 hb dX0_joinToLevelAhead_63 rfl (lv_at hl 1 rfl) ?_
            refine ldX_LEVELS (j := t) C hb hS rfl ht dX0_joinToLevelAhead_64 ?_
            refine lv_icmp_ge (tgt := 96) C.1 hb dX0_joinToLevelAhead_65 (by decide) (fun c41 => ?_) (fun c41 => ?_)
            · have hin : i = levN t := by have := le_nI (a := levN t) (b := i) (by omega) (by omega) c41; omega
              rw [hin] at hl hP
              exact wrV C hb hret hlk hP hS dX0_joinToLevelAhead_96 rfl
            · have hlt : i < levN t := nle_nI (a := levN t) (b := i) (by omega) (by omega) c41
              refine lv_aload_n C.1 hb dX0_joinToLevelAhead_68 rfl (lv_at hl 0 rfl) ?_
              refine gX_groupStarts C hb hP dX0_joinToLevelAhead_69 ?_
              refine lv_iload C.1 hb dX0_joinToLevelAhead_72 (lv_at hl 4 rfl) ?_
              refine ldX_groupStarts (j := i) C hb hP rfl (by omega) dX0_joinToLevelAhead_74 ?_
              refine lv_iload_n C.1 hb dX0_joinToLevelAhead_75 rfl (lv_at hl 2 rfl) ?_
              refine lv_icmp_ne (tgt := 90) C.1 hb dX0_joinToLevelAhead_76 (by decide) (fun c42 => ?_) (fun c42 => ?_)
              · refine lv_iinc (v := nI (i + 1)) (lv' := [(5, .int (nI (i + 1))), (0, .ref (gA g 0)), (1, .int (nI t)), (3, .int (nI st)), (4, .int (xMean (xJoin1 S t fl st) n t st))]) C.1 hb dX0_joinToLevelAhead_90 hl (k := 4) rfl (nI_1 i) (by decide) rfl (fun ls hl => ?_)
                refine lv_goto (tgt := 58) C.1 hb dX0_joinToLevelAhead_93 (by decide) ?_
                exact ih (i + 1) (by omega) (by omega) (by omega) _ _ (by rw [jf_keep (xJoin1 S t fl st) t st i _ c42]; exact hP) hS ls (lv_sub hl [1, 2, 3, 4, 0] rfl)
              · refine lv_aload_n C.1 hb dX0_joinToLevelAhead_79 rfl (lv_at hl 0 rfl) ?_
                refine gX_factors C hb hP dX0_joinToLevelAhead_80 ?_
                refine lv_iload_n C.1 hb dX0_joinToLevelAhead_83 rfl (lv_at hl 1 rfl) ?_
                refine al_fac (t := t) C hb hP rfl ht dX0_joinToLevelAhead_84 ?_
                refine lv_iload C.1 hb dX0_joinToLevelAhead_85 (lv_at hl 4 rfl) ?_
                refine lv_iload C.1 hb dX0_joinToLevelAhead_87 (lv_at hl 3 rfl) ?_
                refine stX_fac (t := t) (j := i) C hb hP hS ht rfl (by omega) dX0_joinToLevelAhead_89 (fun H locs hP hS => ?_)
                refine lv_iinc (v := nI (i + 1)) (lv' := [(5, .int (nI (i + 1))), (0, .ref (gA g 0)), (1, .int (nI t)), (3, .int (nI st)), (4, .int (xMean (xJoin1 S t fl st) n t st))]) C.1 hb dX0_joinToLevelAhead_90 hl (k := 4) rfl (nI_1 i) (by decide) rfl (fun ls hl => ?_)
                refine lv_goto (tgt := 58) C.1 hb dX0_joinToLevelAhead_93 (by decide) ?_
                exact ih (i + 1) (by omega) (by omega) (by omega) _ _ (by rw [← jf_step (xJoin1 S t fl st) t st i _ h2 c42]; exact hP) hS ls (lv_sub hl [1, 2, 3, 4, 0] rfl)
        exact key2 (levN t - st + 1) st (by omega) (by omega) (Nat.le_refl _) _ _ (by rw [jf_0]; exact hP) hS ls (lv_sub hl [2, 3, 5, 1, 0] rfl)
      · have hlt : i < levN t := nle_nI (a := levN t) (b := i) (by omega) (by omega) c40
        refine lv_aload_n C.1 hb dX0_joinToLevelAhead_22 rfl (lv_at hl 0 rfl) ?_
        refine gX_groupStarts C hb hP dX0_joinToLevelAhead_23 ?_
        refine lv_iload C.1 hb dX0_joinToLevelAhead_26 (lv_at hl 4 rfl) ?_
        refine ldX_groupStarts (j := i) C hb hP rfl (by omega) dX0_joinToLevelAhead_28 ?_
        refine toI (show xIa (xsIa S 2 (xJoinG S t fl st i)) 2 i = xIa S 2 i by rw [ia_at, jg_at]) ?_
        refine lv_iload_n C.1 hb dX0_joinToLevelAhead_29 rfl (lv_at hl 2 rfl) ?_
        refine lv_icmp_ne (tgt := 41) C.1 hb dX0_joinToLevelAhead_30 (by decide) (fun c43 => ?_) (fun c43 => ?_)
        · refine lv_iinc (v := nI (i + 1)) (lv' := [(4, .int (nI (i + 1))), (0, .ref (gA g 0)), (1, .int (nI t)), (2, .int (nI fl)), (3, .int (nI st))]) C.1 hb dX0_joinToLevelAhead_41 hl (k := 4) rfl (nI_1 i) (by decide) rfl (fun ls hl => ?_)
          refine lv_goto (tgt := 12) C.1 hb dX0_joinToLevelAhead_44 (by decide) ?_
          exact ih (i + 1) (by omega) (by omega) (by omega) _ _ (by rw [jg_keep S t fl st i c43]; exact hP) hS ls (lv_sub hl [1, 2, 3, 4, 0] rfl)
        · refine lv_aload_n C.1 hb dX0_joinToLevelAhead_33 rfl (lv_at hl 0 rfl) ?_
          refine gX_groupStarts C hb hP dX0_joinToLevelAhead_34 ?_
          refine lv_iload C.1 hb dX0_joinToLevelAhead_37 (lv_at hl 4 rfl) ?_
          refine lv_iload_n C.1 hb dX0_joinToLevelAhead_39 rfl (lv_at hl 3 rfl) ?_
          refine stX_groupStarts (j := i) C hb hP hS rfl (by omega) dX0_joinToLevelAhead_40 (fun H locs hP hS => ?_)
          refine lv_iinc (v := nI (i + 1)) (lv' := [(4, .int (nI (i + 1))), (0, .ref (gA g 0)), (1, .int (nI t)), (2, .int (nI fl)), (3, .int (nI st))]) C.1 hb dX0_joinToLevelAhead_41 hl (k := 4) rfl (nI_1 i) (by decide) rfl (fun ls hl => ?_)
          refine lv_goto (tgt := 12) C.1 hb dX0_joinToLevelAhead_44 (by decide) ?_
          exact ih (i + 1) (by omega) (by omega) (by omega) _ _ (by rw [← jg_step S t fl st i h1 c43]; exact hP) hS ls (lv_sub hl [1, 2, 3, 4, 0] rfl)
  exact key (levN t - fl + 1) fl (by omega) (by omega) (Nat.le_refl _) _ _ (by rw [jg_0]; exact hP) hS ls (lv_sub hl [2, 3, 4, 1, 0] rfl)

set_option maxRecDepth 100000 in
set_option maxHeartbeats 4000000 in
theorem k_X0_changedSinceBefore (l : Launch) (g : gG) (S : WS) (t : Nat) (ht : t < 3) : Met l yX0_changedSinceBefore (wA yX0_changedSinceBefore cX0_changedSinceBefore 4 (some .int)) ({ frames := 0, cells := 0, slots := 0, locals := 0 }) (PW g S [.ref (gA g 0), .int (nI t)]) (RQ (some (.int (nI (xCnt (xChP S t) (levN t)))))) 0 0 (fun _ => False) := by
  refine metI (by decide +kernel) (Nat.le_of_ble_eq_true rfl) ?_
  intro p e s m below meth c C hb hml hret hlk hP ls hl
  have C : CW g RX0 p s m ([.ref (gA g 0), .int (nI t)] : List Value).toArray := C
  have hS : va_S (Ab g) s.heap s.heap [] := va_S.rf
  have hl : lv_has ls 4 [(0, .ref (gA g 0)), (1, .int (nI t))] := hl
  have h4 := levN_4 t
  refine lv_iconst (v := 0) C.1 hb dX0_changedSinceBefore_0 (by decide) ?_
  refine lv_istore_n (lv' := [(2, .int 0), (0, .ref (gA g 0)), (1, .int (nI t))]) C.1 hb dX0_changedSinceBefore_1 rfl hl (by decide) rfl (fun ls hl => ?_)
  refine lv_iconst (v := 0) C.1 hb dX0_changedSinceBefore_2 (by decide) ?_
  refine lv_istore_n (lv' := [(3, .int 0), (2, .int 0), (0, .ref (gA g 0)), (1, .int (nI t))]) C.1 hb dX0_changedSinceBefore_3 rfl hl (by decide) rfl (fun ls hl => ?_)
  have key : ∀ f i : Nat, levN t - i < f → i ≤ levN t → ∀ ls : Array Slot, lv_has ls 4 [(0, .ref (gA g 0)), (1, .int (nI t)), (2, .int (nI (xCnt (xChP S t) i))), (3, .int (nI i))] → W p l e ({ frames := 0, cells := 0, slots := 0, locals := 0 }) s m ([.ref (gA g 0), .int (nI t)] : List Value).toArray below meth c s.heap [] 0 0 (MQ below (RQ (some (.int (nI (xCnt (xChP S t) (levN t)))))) ([.ref (gA g 0), .int (nI t)] : List Value).toArray s 0 0 (fun _ => False)) (F0 m 4 ls []) := by
    intro f
    induction f with
    | zero => intro i h; exact absurd h (Nat.not_lt_zero _)
    | succ f ih =>
      intro i hfi hi  ls hl
      refine lv_iload_n C.1 hb dX0_changedSinceBefore_4 rfl (lv_at hl 3 rfl) ?_
      refine gX_LEVELS C hb hS dX0_changedSinceBefore_5 ?_
      refine lv_iload_n C.1 hb dX0_changedSinceBefore_8 rfl (lv_at hl 1 rfl) ?_
      refine ldX_LEVELS (j := t) C hb hS rfl ht dX0_changedSinceBefore_9 ?_
      refine lv_icmp_ge (tgt := 39) C.1 hb dX0_changedSinceBefore_10 (by decide) (fun c44 => ?_) (fun c44 => ?_)
      · have hin : i = levN t := by have := le_nI (a := levN t) (b := i) (by omega) (by omega) c44; omega
        rw [hin] at hl
        refine lv_iload_n C.1 hb dX0_changedSinceBefore_39 rfl (lv_at hl 2 rfl) ?_
        exact rdI C hb hret hlk dX0_changedSinceBefore_40 rfl
      · have hlt : i < levN t := nle_nI (a := levN t) (b := i) (by omega) (by omega) c44
        refine lv_aload_n C.1 hb dX0_changedSinceBefore_13 rfl (lv_at hl 0 rfl) ?_
        refine gX_factors C hb hP dX0_changedSinceBefore_14 ?_
        refine lv_iload_n C.1 hb dX0_changedSinceBefore_17 rfl (lv_at hl 1 rfl) ?_
        refine al_fac (t := t) C hb hP rfl ht dX0_changedSinceBefore_18 ?_
        refine lv_iload_n C.1 hb dX0_changedSinceBefore_19 rfl (lv_at hl 3 rfl) ?_
        refine ldX_fac (t := t) (j := i) C hb hP ht rfl (by omega) dX0_changedSinceBefore_20 ?_
        refine lv_aload_n C.1 hb dX0_changedSinceBefore_21 rfl (lv_at hl 0 rfl) ?_
        refine gX_factorsBefore C hb hP dX0_changedSinceBefore_22 ?_
        refine lv_iload_n C.1 hb dX0_changedSinceBefore_25 rfl (lv_at hl 3 rfl) ?_
        refine ldX_factorsBefore (j := i) C hb hP rfl (by omega) dX0_changedSinceBefore_26 ?_
        refine lv_icmp_eq (tgt := 33) C.1 hb dX0_changedSinceBefore_27 (by decide) (fun c45 => ?_) (fun c45 => ?_)
        · refine lv_iinc (v := nI (i + 1)) (lv' := [(3, .int (nI (i + 1))), (0, .ref (gA g 0)), (1, .int (nI t)), (2, .int (nI (xCnt (xChP S t) i)))]) C.1 hb dX0_changedSinceBefore_33 hl (k := 3) rfl (nI_1 i) (by decide) rfl (fun ls hl => ?_)
          refine lv_goto (tgt := 4) C.1 hb dX0_changedSinceBefore_36 (by decide) ?_
          exact ih (i + 1) (by omega) (by omega)  ls (by rw [xCnt_f (show xChP S t i = false by simp [xChP, c45])]; exact lv_sub hl [1, 2, 3, 0] rfl)
        · refine lv_iinc (v := nI ((xCnt (xChP S t) i) + 1)) (lv' := [(2, .int (nI ((xCnt (xChP S t) i) + 1))), (0, .ref (gA g 0)), (1, .int (nI t)), (3, .int (nI i))]) C.1 hb dX0_changedSinceBefore_30 hl (k := 2) rfl (nI_1 (xCnt (xChP S t) i)) (by decide) rfl (fun ls hl => ?_)
          refine lv_iinc (v := nI (i + 1)) (lv' := [(3, .int (nI (i + 1))), (2, .int (nI ((xCnt (xChP S t) i) + 1))), (0, .ref (gA g 0)), (1, .int (nI t))]) C.1 hb dX0_changedSinceBefore_33 hl (k := 3) rfl (nI_1 i) (by decide) rfl (fun ls hl => ?_)
          refine lv_goto (tgt := 4) C.1 hb dX0_changedSinceBefore_36 (by decide) ?_
          exact ih (i + 1) (by omega) (by omega)  ls (by rw [xCnt_t (show xChP S t i = true by simp [xChP, c45])]; exact lv_sub hl [2, 3, 1, 0] rfl)
  exact key (levN t - 0 + 1) 0 (by omega) (by omega)  ls (lv_sub hl [2, 3, 1, 0] rfl)

set_option maxRecDepth 100000 in
set_option maxHeartbeats 4000000 in
theorem k_X0_settle (l : Launch) (g : gG) (S : WS) (n : Nat) (hI : XI n S) : Met l yX0_settle (wA yX0_settle cX0_settle 2 (some .int)) ({ frames := 5, cells := 0, slots := 0, locals := 200 }) (PW g S [.ref (gA g 0)]) (WQ g ((xSettle n 60 1 S).2) (some (.int (nI (xSettle n 60 1 S).1)))) 0 0 (Ab g) := by
  refine metI (by decide +kernel) (Nat.le_of_ble_eq_true rfl) ?_
  intro p e s m below meth c C hb hml hret hlk hP ls hl
  have C : CW g RX0 p s m ([.ref (gA g 0)] : List Value).toArray := C
  have hS : va_S (Ab g) s.heap s.heap [] := va_S.rf
  have hl : lv_has ls 2 [(0, .ref (gA g 0))] := hl
  refine lv_iconst (v := 1) C.1 hb dX0_settle_0 (by decide) ?_
  refine lv_istore_n (lv' := [(1, .int 1), (0, .ref (gA g 0))]) C.1 hb dX0_settle_1 rfl hl (by decide) rfl (fun ls hl => ?_)
  have key : ∀ (f r : Nat) (S1 : WS), r + f = 61 → XI n S1 → xSettle n f r S1 = xSettle n 60 1 S → ∀ (H : Heap) (locs : List Loc), HW g S1 H → va_S (Ab g) s.heap H locs → ∀ ls : Array Slot, lv_has ls 2 [(0, .ref (gA g 0)), (1, .int (nI r))] → W p l e ({ frames := 5, cells := 0, slots := 0, locals := 200 }) s m ([.ref (gA g 0)] : List Value).toArray below meth c H locs 0 0 (MQ below (WQ g ((xSettle n 60 1 S).2) (some (.int (nI (xSettle n 60 1 S).1)))) ([.ref (gA g 0)] : List Value).toArray s 0 0 (Ab g)) (F0 m 2 ls []) := by
    intro f
    induction f with
    | zero =>
      intro r S1 hr1 hI1 he H locs hP hS ls hl
      refine lv_iload_n C.1 hb dX0_settle_2 rfl (lv_at hl 1 rfl) ?_
      refine lv_bipush (v := 60) C.1 hb dX0_settle_3 (by decide) ?_
      refine lv_icmp_gt (tgt := 23) C.1 hb dX0_settle_5 (by decide) (fun c46 => ?_) (fun c46 => ?_)
      · refine lv_bipush (v := 60) C.1 hb dX0_settle_23 (by decide) ?_
        exact wrI C hb hret hlk hP hS dX0_settle_25 (by rw [← he]; rfl) (by rw [← he]; rfl)
      · exact absurd ((nI_ltI (a := 60) (b := r) (by decide) (by omega)).mpr (by omega)) c46
    | succ f ih =>
      intro r S1 hr1 hI1 he H locs hP hS ls hl
      refine lv_iload_n C.1 hb dX0_settle_2 rfl (lv_at hl 1 rfl) ?_
      refine lv_bipush (v := 60) C.1 hb dX0_settle_3 (by decide) ?_
      refine lv_icmp_gt (tgt := 23) C.1 hb dX0_settle_5 (by decide) (fun c47 => ?_) (fun c47 => ?_)
      · exact absurd ((nI_ltI (a := 60) (b := r) (by decide) (by omega)).mp c47) (by omega)
      · refine lv_aload_n C.1 hb dX0_settle_8 rfl (lv_at hl 0 rfl) ?_
        refine run_wr (cRunX (As := []) (rest := []) C hb (hml.trans hl.1.symm) hP hS rfl (k_X0_changedByRound l g S1 n hI1) wm_56 wm_57 wm_58 wm_59 wm_12 (n := 0) (by decide +kernel) rfl ⟨rfl, rfl, Nat.le_of_ble_eq_true rfl, Nat.le_of_ble_eq_true rfl⟩ (Nat.le_of_ble_eq_true rfl) rfl ⟨Nat.zero_le _, Nat.zero_le _⟩ dX0_settle_9) hS (fun H locs hP hS => ?_)
        have hc := xRoundC_le S1 n 3
        refine lv_if_ne (tgt := 17) C.1 hb dX0_settle_12 (by decide) (fun c48 => ?_) (fun c48 => ?_)
        · have hd : ¬ xRoundC S1 n 3 = 0 := fun q => c48 (by rw [q]; rfl)
          refine lv_iinc (v := nI (r + 1)) (lv' := [(1, .int (nI (r + 1))), (0, .ref (gA g 0))]) C.1 hb dX0_settle_17 hl (k := 1) rfl (nI_1 r) (by decide) rfl (fun ls hl => ?_)
          refine lv_goto (tgt := 2) C.1 hb dX0_settle_20 (by decide) ?_
          exact ih (r + 1) (xRound S1 n 3) (by omega) (XI_round hI1 3) ((if_neg hd).symm.trans he) _ _ hP hS ls (lv_sub hl [1, 0] rfl)
        · have hd : xRoundC S1 n 3 = 0 := (nI_eq (b := 0) (by omega) (by decide)).mp c48
          have he2 : (r, xRound S1 n 3) = xSettle n 60 1 S := (if_pos hd).symm.trans he
          refine lv_iload_n C.1 hb dX0_settle_15 rfl (lv_at hl 1 rfl) ?_
          exact wrI C hb hret hlk hP hS dX0_settle_16 (by rw [← he2]) (by rw [← he2])
  exact key 60 1 S rfl hI rfl _ _ hP hS ls (lv_sub hl [1, 0] rfl)

set_option maxRecDepth 100000 in
set_option maxHeartbeats 4000000 in
theorem k_X0_spread (l : Launch) (g : gG) (S : WS) (n : Nat) (hI : XI n S) : Met l yX0_spread (wA yX0_spread cX0_spread 5 (some .int)) ({ frames := 4, cells := 0, slots := 0, locals := 160 }) (PW g S [.ref (gA g 0)]) (WQ g (xSpread S n) (some (.int (xSc (xSpread S n) 4)))) 0 0 (Ab g) := by
  refine metI (by decide +kernel) (Nat.le_of_ble_eq_true rfl) ?_
  intro p e s m below meth c C hb hml hret hlk hP ls hl
  have C : CW g RX0 p s m ([.ref (gA g 0)] : List Value).toArray := C
  have hS : va_S (Ab g) s.heap s.heap [] := va_S.rf
  have hl : lv_has ls 5 [(0, .ref (gA g 0))] := hl
  refine lv_aload_n C.1 hb dX0_spread_0 rfl (lv_at hl 0 rfl) ?_
  refine run_rd (cRunX (As := []) (rest := []) C hb (hml.trans hl.1.symm) hP hS rfl (k_X0_cappedTotal l g S n hI) wm_235 wm_236 wm_237 wm_238 wm_12 (n := 0) (by decide +kernel) rfl ⟨rfl, rfl, Nat.le_of_ble_eq_true rfl, Nat.le_of_ble_eq_true rfl⟩ (Nat.le_of_ble_eq_true rfl) rfl ⟨Nat.zero_le _, Nat.zero_le _⟩ dX0_spread_1) ?_
  refine lv_lstore_n (lv' := [(1, .long (xTot (xIa S 1) (xCapP S) n)), (0, .ref (gA g 0))]) C.1 hb dX0_spread_4 rfl hl (by decide) rfl (fun ls hl => ?_)
  refine lv_lload_n C.1 hb dX0_spread_5 rfl (lv_at hl 0 rfl) ?_
  refine lv_lconst (v := 0) C.1 hb dX0_spread_6 (by decide) ?_
  refine lc_le (tgt := 55) C hb dX0_spread_7 dX0_spread_8 (by decide) (fun c49 => ?_) (fun c49 => ?_)
  · refine lv_aload_n C.1 hb dX0_spread_55 rfl (lv_at hl 1 rfl) ?_
    refine gX_spreadNow C hb hP dX0_spread_56 ?_
    exact wrI C hb hret hlk hP hS dX0_spread_59 (by unfold xSpread; rw [if_pos c49]) (by unfold xSpread; rw [if_pos c49])
  · refine lv_ldc2 (v := 10000) C.1 hb C.2.1 (C.2.2.1 _ wm_89) dX0_spread_11 ?_
    refine lv_aload_n C.1 hb dX0_spread_14 rfl (lv_at hl 1 rfl) ?_
    refine lv_aload_n C.1 hb dX0_spread_15 rfl (lv_at hl 1 rfl) ?_
    refine gX_fittedLosses C hb hP dX0_spread_16 ?_
    refine run_rd (cRunX (As := [.ref (gA g 14)]) (rest := [.long 10000]) C hb (hml.trans hl.1.symm) hP hS rfl (k_X0_total l g S n hI 3 (by decide)) wm_90 wm_91 wm_92 wm_93 wm_12 (n := 1) (by decide +kernel) rfl ⟨rfl, rfl, Nat.le_of_ble_eq_true rfl, Nat.le_of_ble_eq_true rfl⟩ (Nat.le_of_ble_eq_true rfl) rfl ⟨Nat.zero_le _, Nat.zero_le _⟩ dX0_spread_19) ?_
    refine lv_lmul C.1 hb dX0_spread_22 ?_
    refine lv_lload_n C.1 hb dX0_spread_23 rfl (lv_at hl 0 rfl) ?_
    refine lv_ldiv C.1 hb dX0_spread_24 (ne0_nle c49) ?_
    refine lv_ldc2 (v := 1000000) C.1 hb C.2.1 (C.2.2.1 _ wm_234) dX0_spread_25 ?_
    refine va_mmin_long C.1 hb (hml.trans hl.1.symm) C.2.1 (C.2.2.1 _ wm_82) (C.2.2.1 _ wm_83) (C.2.2.1 _ wm_80) (C.2.2.1 _ wm_84) (Nat.le_of_ble_eq_true rfl) (Nat.le_of_ble_eq_true rfl) (Nat.zero_le _) (Nat.zero_le _) dX0_spread_28 ?_
    refine lv_lstore_n (lv' := [(3, .long (mn64 ((10000 * (xTot (xIa S 1) (xLng S 3) n)) / (xTot (xIa S 1) (xCapP S) n)) 1000000)), (1, .long (xTot (xIa S 1) (xCapP S) n)), (0, .ref (gA g 0))]) C.1 hb dX0_spread_31 rfl hl (by decide) rfl (fun ls hl => ?_)
    refine lv_aload_n C.1 hb dX0_spread_32 rfl (lv_at hl 2 rfl) ?_
    refine lv_aload_n C.1 hb dX0_spread_33 rfl (lv_at hl 2 rfl) ?_
    refine gX_spreadNow C hb hP dX0_spread_34 ?_
    refine lv_i2l C.1 hb dX0_spread_37 rfl ?_
    refine lv_lload_n C.1 hb dX0_spread_38 rfl (lv_at hl 0 rfl) ?_
    refine lv_lmul C.1 hb dX0_spread_39 ?_
    refine lv_ldc2 (v := 10000) C.1 hb C.2.1 (C.2.2.1 _ wm_89) dX0_spread_40 ?_
    refine lv_ldiv C.1 hb dX0_spread_43 (by decide) ?_
    refine lv_lconst (v := 1) C.1 hb dX0_spread_44 (by decide) ?_
    refine lv_ldc2 (v := 1000000) C.1 hb C.2.1 (C.2.2.1 _ wm_234) dX0_spread_45 ?_
    refine run_rd (cRunS (As := [.long (((xSc S 4).toInt64 * (mn64 ((10000 * (xTot (xIa S 1) (xLng S 3) n)) / (xTot (xIa S 1) (xCapP S) n)) 1000000)) / 10000), .long 1, .long 1000000]) (rest := [.ref (gA g 0)]) C hb (hml.trans hl.1.symm) hP hS (k_X0_bounded l g S (((xSc S 4).toInt64 * (mn64 ((10000 * (xTot (xIa S 1) (xLng S 3) n)) / (xTot (xIa S 1) (xCapP S) n)) 1000000)) / 10000) 1 1000000) wm_75 wm_76 wm_77 wm_12 (n := 3) (by decide +kernel) rfl ⟨rfl, rfl, Nat.le_of_ble_eq_true rfl, Nat.le_of_ble_eq_true rfl⟩ (Nat.le_of_ble_eq_true rfl) rfl ⟨Nat.zero_le _, Nat.zero_le _⟩ dX0_spread_48) ?_
    refine lv_l2i C.1 hb dX0_spread_51 rfl ?_
    refine pX_spreadNow C hb hP hS dX0_spread_52 (fun H locs hP hS => ?_)
    refine lv_aload_n C.1 hb dX0_spread_55 rfl (lv_at hl 2 rfl) ?_
    refine gX_spreadNow C hb hP dX0_spread_56 ?_
    exact wrI C hb hret hlk hP hS dX0_spread_59 (by unfold xSpread; rw [if_neg c49]; rfl) (by unfold xSpread; rw [if_neg c49]; rfl)

set_option maxRecDepth 100000 in
set_option maxHeartbeats 4000000 in
theorem k_X0_rows (l : Launch) (g : gG) (S : WS) : Met l yX0_rows (wA yX0_rows cX0_rows 1 (some .int)) ({ frames := 0, cells := 0, slots := 0, locals := 0 }) (PW g S [.ref (gA g 0)]) (RQ (some (.int (xSc S 1)))) 0 0 (fun _ => False) := by
  refine metI (by decide +kernel) (Nat.le_of_ble_eq_true rfl) ?_
  intro p e s m below meth c C hb hml hret hlk hP ls hl
  have C : CW g RX0 p s m ([.ref (gA g 0)] : List Value).toArray := C
  have hS : va_S (Ab g) s.heap s.heap [] := va_S.rf
  have hl : lv_has ls 1 [(0, .ref (gA g 0))] := hl
  refine lv_aload_n C.1 hb dX0_rows_0 rfl (lv_at hl 0 rfl) ?_
  refine gX_liveRows C hb hP dX0_rows_1 ?_
  exact rdI C hb hret hlk dX0_rows_4 rfl

set_option maxRecDepth 100000 in
set_option maxHeartbeats 4000000 in
theorem k_X0_base (l : Launch) (g : gG) (S : WS) : Met l yX0_base (wA yX0_base cX0_base 1 (some .long)) ({ frames := 0, cells := 0, slots := 0, locals := 0 }) (PW g S [.ref (gA g 0)]) (RQ (some (.long (xBase S)))) 0 0 (fun _ => False) := by
  refine metI (by decide +kernel) (Nat.le_of_ble_eq_true rfl) ?_
  intro p e s m below meth c C hb hml hret hlk hP ls hl
  have C : CW g RX0 p s m ([.ref (gA g 0)] : List Value).toArray := C
  have hS : va_S (Ab g) s.heap s.heap [] := va_S.rf
  have hl : lv_has ls 1 [(0, .ref (gA g 0))] := hl
  refine lv_aload_n C.1 hb dX0_base_0 rfl (lv_at hl 0 rfl) ?_
  refine gX_baseNow C hb hP dX0_base_1 ?_
  exact rdL C hb hret hlk dX0_base_4 rfl

set_option maxRecDepth 100000 in
set_option maxHeartbeats 4000000 in
theorem k_X0_lost (l : Launch) (g : gG) (S : WS) (n : Nat) (hI : XI n S) : Met l yX0_lost (wA yX0_lost cX0_lost 1 (some .long)) ({ frames := 4, cells := 0, slots := 0, locals := 160 }) (PW g S [.ref (gA g 0)]) (RQ (some (.long (xTot (xIa S 1) (xLng S 3) n - xTot (xIa S 1) (xCapP S) n)))) 0 0 (fun _ => False) := by
  refine metI (by decide +kernel) (Nat.le_of_ble_eq_true rfl) ?_
  intro p e s m below meth c C hb hml hret hlk hP ls hl
  have C : CW g RX0 p s m ([.ref (gA g 0)] : List Value).toArray := C
  have hS : va_S (Ab g) s.heap s.heap [] := va_S.rf
  have hl : lv_has ls 1 [(0, .ref (gA g 0))] := hl
  refine lv_aload_n C.1 hb dX0_lost_0 rfl (lv_at hl 0 rfl) ?_
  refine lv_aload_n C.1 hb dX0_lost_1 rfl (lv_at hl 0 rfl) ?_
  refine gX_fittedLosses C hb hP dX0_lost_2 ?_
  refine run_rd (cRunX (As := [.ref (gA g 14)]) (rest := []) C hb (hml.trans hl.1.symm) hP hS rfl (k_X0_total l g S n hI 3 (by decide)) wm_90 wm_91 wm_92 wm_93 wm_12 (n := 1) (by decide +kernel) rfl ⟨rfl, rfl, Nat.le_of_ble_eq_true rfl, Nat.le_of_ble_eq_true rfl⟩ (Nat.le_of_ble_eq_true rfl) rfl ⟨Nat.zero_le _, Nat.zero_le _⟩ dX0_lost_5) ?_
  refine lv_aload_n C.1 hb dX0_lost_8 rfl (lv_at hl 0 rfl) ?_
  refine run_rd (cRunX (As := []) (rest := [.long (xTot (xIa S 1) (xLng S 3) n)]) C hb (hml.trans hl.1.symm) hP hS rfl (k_X0_cappedTotal l g S n hI) wm_235 wm_236 wm_237 wm_238 wm_12 (n := 0) (by decide +kernel) rfl ⟨rfl, rfl, Nat.le_of_ble_eq_true rfl, Nat.le_of_ble_eq_true rfl⟩ (Nat.le_of_ble_eq_true rfl) rfl ⟨Nat.zero_le _, Nat.zero_le _⟩ dX0_lost_9) ?_
  refine lv_lsub C.1 hb dX0_lost_12 ?_
  exact rdL C hb hret hlk dX0_lost_13 rfl
