set_option maxRecDepth 100000 in
set_option maxHeartbeats 4000000 in
theorem k_X1_isAhead (l : Launch) (g : gG) (S : WS) (n : Nat) (hI : MI n S) (r q : Nat) (hr : r < n) (hq : q < n) (b : Int64) : Met l yX1_isAhead (wA yX1_isAhead cX1_isAhead 9 (some .boolean)) ({ frames := 1, cells := 0, slots := 0, locals := 40 }) (PW g S [.ref (gA g 17), .int (nI r), .int (nI q), .long b]) (RQ (some (.int (bI (mAhead S b r q))))) 0 0 (fun _ => False) := by
  refine metI (by decide +kernel) (Nat.le_of_ble_eq_true rfl) ?_
  intro p e s m below meth c C hb hml hret hlk hP ls hl
  have C : CW g RX1 p s m ([.ref (gA g 17), .int (nI r), .int (nI q), .long b] : List Value).toArray := C
  have hS : va_S (Ab g) s.heap s.heap [] := va_S.rf
  have hl : lv_has ls 9 [(0, .ref (gA g 17)), (1, .int (nI r)), (2, .int (nI q)), (3, .long b)] := hl
  have hn40 := hI.1
  refine lv_aload_n C.1 hb dX1_isAhead_0 rfl (lv_at hl 0 rfl) ?_
  refine gM_losses C hb hP dX1_isAhead_1 ?_
  refine lv_iload_n C.1 hb dX1_isAhead_4 rfl (lv_at hl 1 rfl) ?_
  refine ldM_losses (j := r) C hb hP rfl (by omega) dX1_isAhead_5 ?_
  refine lv_i2l C.1 hb dX1_isAhead_6 rfl ?_
  refine lv_lconst (v := 1) C.1 hb dX1_isAhead_7 (by decide) ?_
  refine lv_aload_n C.1 hb dX1_isAhead_8 rfl (lv_at hl 0 rfl) ?_
  refine lv_iload_n C.1 hb dX1_isAhead_9 rfl (lv_at hl 2 rfl) ?_
  refine lv_lload_n C.1 hb dX1_isAhead_10 rfl (lv_at hl 3 rfl) ?_
  refine run_rd (cRunM (As := [.int (nI q), .long b]) (rest := [.long 1, .long (mIa S 3 r).toInt64]) C hb (hml.trans hl.1.symm) hP hS rfl (k_X1_fit l g S n hI q hq b) wm_232 wm_233 wm_234 wm_235 wm_5 (n := 2) (by decide +kernel) rfl ⟨rfl, rfl, Nat.le_of_ble_eq_true rfl, Nat.le_of_ble_eq_true rfl⟩ (Nat.le_of_ble_eq_true rfl) rfl ⟨Nat.zero_le _, Nat.zero_le _⟩ dX1_isAhead_11) ?_
  refine lv_ladd C.1 hb dX1_isAhead_14 ?_
  refine lv_lmul C.1 hb dX1_isAhead_15 ?_
  refine lv_lstore (lv' := [(5, .long ((mIa S 3 r).toInt64 * (1 + (mFit S b q)))), (0, .ref (gA g 17)), (1, .int (nI r)), (2, .int (nI q)), (3, .long b)]) C.1 hb dX1_isAhead_16 hl (by decide) rfl (fun ls hl => ?_)
  refine lv_aload_n C.1 hb dX1_isAhead_18 rfl (lv_at hl 1 rfl) ?_
  refine gM_losses C hb hP dX1_isAhead_19 ?_
  refine lv_iload_n C.1 hb dX1_isAhead_22 rfl (lv_at hl 3 rfl) ?_
  refine ldM_losses (j := q) C hb hP rfl (by omega) dX1_isAhead_23 ?_
  refine lv_i2l C.1 hb dX1_isAhead_24 rfl ?_
  refine lv_lconst (v := 1) C.1 hb dX1_isAhead_25 (by decide) ?_
  refine lv_aload_n C.1 hb dX1_isAhead_26 rfl (lv_at hl 1 rfl) ?_
  refine lv_iload_n C.1 hb dX1_isAhead_27 rfl (lv_at hl 2 rfl) ?_
  refine lv_lload_n C.1 hb dX1_isAhead_28 rfl (lv_at hl 4 rfl) ?_
  refine run_rd (cRunM (As := [.int (nI r), .long b]) (rest := [.long 1, .long (mIa S 3 q).toInt64]) C hb (hml.trans hl.1.symm) hP hS rfl (k_X1_fit l g S n hI r hr b) wm_232 wm_233 wm_234 wm_235 wm_5 (n := 2) (by decide +kernel) rfl ⟨rfl, rfl, Nat.le_of_ble_eq_true rfl, Nat.le_of_ble_eq_true rfl⟩ (Nat.le_of_ble_eq_true rfl) rfl ⟨Nat.zero_le _, Nat.zero_le _⟩ dX1_isAhead_29) ?_
  refine lv_ladd C.1 hb dX1_isAhead_32 ?_
  refine lv_lmul C.1 hb dX1_isAhead_33 ?_
  refine lv_lstore (lv' := [(7, .long ((mIa S 3 q).toInt64 * (1 + (mFit S b r)))), (5, .long ((mIa S 3 r).toInt64 * (1 + (mFit S b q)))), (0, .ref (gA g 17)), (1, .int (nI r)), (2, .int (nI q)), (3, .long b)]) C.1 hb dX1_isAhead_34 hl (by decide) rfl (fun ls hl => ?_)
  refine lv_lload C.1 hb dX1_isAhead_36 (lv_at hl 1 rfl) ?_
  refine lv_lload C.1 hb dX1_isAhead_38 (lv_at hl 0 rfl) ?_
  have hn40 := hI.1
  refine lc_gt (tgt := 57) C hb dX1_isAhead_40 dX1_isAhead_41 (by decide) (fun c112 => ?_) (fun c112 => ?_)
  · refine lv_iconst (v := 1) C.1 hb dX1_isAhead_57 (by decide) ?_
    refine lv_goto (tgt := 62) C.1 hb dX1_isAhead_58 (by decide) ?_
    exact rdZ C hb hret hlk dX1_isAhead_62 (by simp [mAhead, mL, bI, c112])
  · refine lv_lload C.1 hb dX1_isAhead_44 (lv_at hl 1 rfl) ?_
    refine lv_lload C.1 hb dX1_isAhead_46 (lv_at hl 0 rfl) ?_
    refine lc_ne (tgt := 61) C hb dX1_isAhead_48 dX1_isAhead_49 (by decide) (fun c113 => ?_) (fun c113 => ?_)
    · refine lv_iconst (v := 0) C.1 hb dX1_isAhead_61 (by decide) ?_
      exact rdZ C hb hret hlk dX1_isAhead_62 (by simp [mAhead, mL, bI, c112, c113])
    · refine lv_iload_n C.1 hb dX1_isAhead_52 rfl (lv_at hl 3 rfl) ?_
      refine lv_iload_n C.1 hb dX1_isAhead_53 rfl (lv_at hl 4 rfl) ?_
      refine lv_icmp_ge (tgt := 61) C.1 hb dX1_isAhead_54 (by decide) (fun c114 => ?_) (fun c114 => ?_)
      · refine lv_iconst (v := 0) C.1 hb dX1_isAhead_61 (by decide) ?_
        exact rdZ C hb hret hlk dX1_isAhead_62 (by simp [mAhead, mL, bI, c112, c113, c114])
      · refine lv_iconst (v := 1) C.1 hb dX1_isAhead_57 (by decide) ?_
        refine lv_goto (tgt := 62) C.1 hb dX1_isAhead_58 (by decide) ?_
        exact rdZ C hb hret hlk dX1_isAhead_62 (by simp [mAhead, mL, bI, c112, c113, c114])

set_option maxRecDepth 100000 in
set_option maxHeartbeats 4000000 in
theorem k_X1_passes (l : Launch) (g : gG) (S : WS) (n : Nat) (hI : MI n S) (t : Nat) (ht : t < 3) : Met l yX1_passes (wA yX1_passes cX1_passes 12 (some .int)) ({ frames := 3, cells := 0, slots := 0, locals := 120 }) (PW g S [.ref (gA g 17), .int (nI t)]) (WQ g (mPass S n t) (some (.int (nI (mPassC S n t))))) 0 0 (Ab g) := by
  refine metI (by decide +kernel) (Nat.le_of_ble_eq_true rfl) ?_
  intro p e s m below meth c C hb hml hret hlk hP ls hl
  have C : CW g RX1 p s m ([.ref (gA g 17), .int (nI t)] : List Value).toArray := C
  have hS : va_S (Ab g) s.heap s.heap [] := va_S.rf
  have hl : lv_has ls 12 [(0, .ref (gA g 17)), (1, .int (nI t))] := hl
  have hn40 := hI.1
  have h4 := levN_4 t
  refine lv_iconst (v := 0) C.1 hb dX1_passes_0 (by decide) ?_
  refine lv_istore_n (lv' := [(2, .int 0), (0, .ref (gA g 17)), (1, .int (nI t))]) C.1 hb dX1_passes_1 rfl hl (by decide) rfl (fun ls hl => ?_)
  refine lv_iconst (v := 0) C.1 hb dX1_passes_2 (by decide) ?_
  refine lv_istore_n (lv' := [(3, .int 0), (2, .int 0), (0, .ref (gA g 17)), (1, .int (nI t))]) C.1 hb dX1_passes_3 rfl hl (by decide) rfl (fun ls hl => ?_)
  have key : ∀ f i : Nat, levN t - i < f → i ≤ levN t → ∀ (H : Heap) (locs : List Loc), HW g (msIa S 7 (fil (mFound S n t) (mIa S 7) i)) H → va_S (Ab g) s.heap H locs → ∀ ls : Array Slot, lv_has ls 12 [(0, .ref (gA g 17)), (1, .int (nI t)), (2, .int 0), (3, .int (nI i))] → W p l e ({ frames := 3, cells := 0, slots := 0, locals := 120 }) s m ([.ref (gA g 17), .int (nI t)] : List Value).toArray below meth c H locs 0 0 (MQ below (WQ g (mPass S n t) (some (.int (nI (mPassC S n t))))) ([.ref (gA g 17), .int (nI t)] : List Value).toArray s 0 0 (Ab g)) (F0 m 4 ls []) := by
    intro f
    induction f with
    | zero => intro i h; exact absurd h (Nat.not_lt_zero _)
    | succ f ih =>
      intro i hfi hi  H locs hP hS ls hl
      refine lv_iload_n C.1 hb dX1_passes_4 rfl (lv_at hl 3 rfl) ?_
      refine lv_iload_n C.1 hb dX1_passes_5 rfl (lv_at hl 1 rfl) ?_
      refine run_rd (cRunS (As := [.int (nI t)]) (rest := [.int (nI i)]) C hb (hml.trans hl.1.symm) hP hS (k_X1_levelsOf l g (msIa S 7 (fil (mFound S n t) (mIa S 7) i)) t ht) wm_105 wm_106 wm_107 wm_5 (n := 1) (by decide +kernel) rfl ⟨rfl, rfl, Nat.le_of_ble_eq_true rfl, Nat.le_of_ble_eq_true rfl⟩ (Nat.le_of_ble_eq_true rfl) rfl ⟨Nat.zero_le _, Nat.zero_le _⟩ dX1_passes_6) ?_
      refine lv_icmp_ge (tgt := 114) C.1 hb dX1_passes_9 (by decide) (fun c115 => ?_) (fun c115 => ?_)
      · have hin : i = levN t := by have := le_nI (a := levN t) (b := i) (by omega) (by omega) c115; omega
        rw [hin] at hl hP
        refine lv_iconst (v := 0) C.1 hb dX1_passes_114 (by decide) ?_
        refine lv_istore_n (lv' := [(3, .int 0), (0, .ref (gA g 17)), (1, .int (nI t)), (2, .int 0)]) C.1 hb dX1_passes_115 rfl hl (by decide) rfl (fun ls hl => ?_)
        have key2 : ∀ f i : Nat, levN t - i < f → i ≤ levN t → ∀ (H : Heap) (locs : List Loc), HW g (msIa (mPassF S n t) 6 (mPut (mIa S 6) t (mFound S n t) i)) H → va_S (Ab g) s.heap H locs → ∀ ls : Array Slot, lv_has ls 12 [(0, .ref (gA g 17)), (1, .int (nI t)), (2, .int (nI (xCnt (mPasP S n t) i))), (3, .int (nI i))] → W p l e ({ frames := 3, cells := 0, slots := 0, locals := 120 }) s m ([.ref (gA g 17), .int (nI t)] : List Value).toArray below meth c H locs 0 0 (MQ below (WQ g (mPass S n t) (some (.int (nI (mPassC S n t))))) ([.ref (gA g 17), .int (nI t)] : List Value).toArray s 0 0 (Ab g)) (F0 m 116 ls []) := by
          intro f
          induction f with
          | zero => intro i h; exact absurd h (Nat.not_lt_zero _)
          | succ f ih =>
            intro i hfi hi  H locs hP hS ls hl
            refine lv_iload_n C.1 hb dX1_passes_116 rfl (lv_at hl 3 rfl) ?_
            refine lv_iload_n C.1 hb dX1_passes_117 rfl (lv_at hl 1 rfl) ?_
            refine run_rd (cRunS (As := [.int (nI t)]) (rest := [.int (nI i)]) C hb (hml.trans hl.1.symm) hP hS (k_X1_levelsOf l g (msIa (mPassF S n t) 6 (mPut (mIa S 6) t (mFound S n t) i)) t ht) wm_105 wm_106 wm_107 wm_5 (n := 1) (by decide +kernel) rfl ⟨rfl, rfl, Nat.le_of_ble_eq_true rfl, Nat.le_of_ble_eq_true rfl⟩ (Nat.le_of_ble_eq_true rfl) rfl ⟨Nat.zero_le _, Nat.zero_le _⟩ dX1_passes_118) ?_
            refine lv_icmp_ge (tgt := 173) C.1 hb dX1_passes_121 (by decide) (fun c116 => ?_) (fun c116 => ?_)
            · have hin : i = levN t := by have := le_nI (a := levN t) (b := i) (by omega) (by omega) c116; omega
              rw [hin] at hl hP
              refine lv_iload_n C.1 hb dX1_passes_173 rfl (lv_at hl 2 rfl) ?_
              exact wrI C hb hret hlk hP hS dX1_passes_174 rfl rfl
            · have hlt : i < levN t := nle_nI (a := levN t) (b := i) (by omega) (by omega) c116
              refine lv_iload_n C.1 hb dX1_passes_124 rfl (lv_at hl 2 rfl) ?_
              refine lv_aload_n C.1 hb dX1_passes_125 rfl (lv_at hl 0 rfl) ?_
              refine gM_factors C hb hP dX1_passes_126 ?_
              refine lv_iconst (v := 4) C.1 hb dX1_passes_129 (by decide) ?_
              refine lv_iload_n C.1 hb dX1_passes_130 rfl (lv_at hl 1 rfl) ?_
              refine lv_imul C.1 hb dX1_passes_131 ?_
              refine lv_iload_n C.1 hb dX1_passes_132 rfl (lv_at hl 3 rfl) ?_
              refine lv_iadd C.1 hb dX1_passes_133 ?_
              refine ldM_factors (j := (4 * t + i)) C hb hP (ix4 t i) (by omega) dX1_passes_134 ?_
              refine toI (show mIa (msIa (mPassF S n t) 6 (mPut (mIa S 6) t (mFound S n t) i)) 6 (4 * t + i) = mIa S 6 (4 * t + i) by rw [mia_at, mPut_at]) ?_
              refine lv_aload_n C.1 hb dX1_passes_135 rfl (lv_at hl 0 rfl) ?_
              refine gM_found C hb hP dX1_passes_136 ?_
              refine lv_iload_n C.1 hb dX1_passes_139 rfl (lv_at hl 3 rfl) ?_
              refine ldM_found (j := i) C hb hP rfl (by omega) dX1_passes_140 ?_
              refine toI (show mIa (msIa (mPassF S n t) 6 (mPut (mIa S 6) t (mFound S n t) i)) 7 i = mFound S n t i from (congrFun (mia_at S 7 _) i).trans (fil_lo hlt)) ?_
              refine lv_icmp_eq (tgt := 148) C.1 hb dX1_passes_141 (by decide) (fun c117 => ?_) (fun c117 => ?_)
              · refine lv_iconst (v := 0) C.1 hb dX1_passes_148 (by decide) ?_
                refine lv_iadd C.1 hb dX1_passes_149 ?_
                refine toI (Int32.add_zero _) ?_
                refine lv_istore_n (lv' := [(2, .int (nI (xCnt (mPasP S n t) i))), (0, .ref (gA g 17)), (1, .int (nI t)), (3, .int (nI i))]) C.1 hb dX1_passes_150 rfl hl (by decide) rfl (fun ls hl => ?_)
                refine lv_aload_n C.1 hb dX1_passes_151 rfl (lv_at hl 1 rfl) ?_
                refine gM_factors C hb hP dX1_passes_152 ?_
                refine lv_iconst (v := 4) C.1 hb dX1_passes_155 (by decide) ?_
                refine lv_iload_n C.1 hb dX1_passes_156 rfl (lv_at hl 2 rfl) ?_
                refine lv_imul C.1 hb dX1_passes_157 ?_
                refine lv_iload_n C.1 hb dX1_passes_158 rfl (lv_at hl 3 rfl) ?_
                refine lv_iadd C.1 hb dX1_passes_159 ?_
                refine lv_aload_n C.1 hb dX1_passes_160 rfl (lv_at hl 1 rfl) ?_
                refine gM_found C hb hP dX1_passes_161 ?_
                refine lv_iload_n C.1 hb dX1_passes_164 rfl (lv_at hl 3 rfl) ?_
                refine ldM_found (j := i) C hb hP rfl (by omega) dX1_passes_165 ?_
                refine toI (show mIa (msIa (mPassF S n t) 6 (mPut (mIa S 6) t (mFound S n t) i)) 7 i = mFound S n t i from (congrFun (mia_at S 7 _) i).trans (fil_lo hlt)) ?_
                refine stM_factors (j := (4 * t + i)) C hb hP hS (ix4 t i) (by omega) dX1_passes_166 (fun H locs hP hS => ?_)
                refine lv_iinc (v := nI (i + 1)) (lv' := [(3, .int (nI (i + 1))), (2, .int (nI (xCnt (mPasP S n t) i))), (0, .ref (gA g 17)), (1, .int (nI t))]) C.1 hb dX1_passes_167 hl (k := 3) rfl (nI_1 i) (by decide) rfl (fun ls hl => ?_)
                refine lv_goto (tgt := 116) C.1 hb dX1_passes_170 (by decide) ?_
                exact ih (i + 1) (by omega) (by omega)  _ _ (by rw [← mput_step]; exact hP) hS ls (by rw [xCnt_f (show mPasP S n t i = false by simp [mPasP, c117])]; exact lv_sub hl [2, 3, 1, 0] rfl)
              · refine lv_iconst (v := 1) C.1 hb dX1_passes_144 (by decide) ?_
                refine lv_goto (tgt := 149) C.1 hb dX1_passes_145 (by decide) ?_
                refine lv_iadd C.1 hb dX1_passes_149 ?_
                refine toI (nI_1 _) ?_
                refine lv_istore_n (lv' := [(2, .int (nI (xCnt (mPasP S n t) i + 1))), (0, .ref (gA g 17)), (1, .int (nI t)), (3, .int (nI i))]) C.1 hb dX1_passes_150 rfl hl (by decide) rfl (fun ls hl => ?_)
                refine lv_aload_n C.1 hb dX1_passes_151 rfl (lv_at hl 1 rfl) ?_
                refine gM_factors C hb hP dX1_passes_152 ?_
                refine lv_iconst (v := 4) C.1 hb dX1_passes_155 (by decide) ?_
                refine lv_iload_n C.1 hb dX1_passes_156 rfl (lv_at hl 2 rfl) ?_
                refine lv_imul C.1 hb dX1_passes_157 ?_
                refine lv_iload_n C.1 hb dX1_passes_158 rfl (lv_at hl 3 rfl) ?_
                refine lv_iadd C.1 hb dX1_passes_159 ?_
                refine lv_aload_n C.1 hb dX1_passes_160 rfl (lv_at hl 1 rfl) ?_
                refine gM_found C hb hP dX1_passes_161 ?_
                refine lv_iload_n C.1 hb dX1_passes_164 rfl (lv_at hl 3 rfl) ?_
                refine ldM_found (j := i) C hb hP rfl (by omega) dX1_passes_165 ?_
                refine toI (show mIa (msIa (mPassF S n t) 6 (mPut (mIa S 6) t (mFound S n t) i)) 7 i = mFound S n t i from (congrFun (mia_at S 7 _) i).trans (fil_lo hlt)) ?_
                refine stM_factors (j := (4 * t + i)) C hb hP hS (ix4 t i) (by omega) dX1_passes_166 (fun H locs hP hS => ?_)
                refine lv_iinc (v := nI (i + 1)) (lv' := [(3, .int (nI (i + 1))), (2, .int (nI (xCnt (mPasP S n t) i + 1))), (0, .ref (gA g 17)), (1, .int (nI t))]) C.1 hb dX1_passes_167 hl (k := 3) rfl (nI_1 i) (by decide) rfl (fun ls hl => ?_)
                refine lv_goto (tgt := 116) C.1 hb dX1_passes_170 (by decide) ?_
                exact ih (i + 1) (by omega) (by omega)  _ _ (by rw [← mput_step]; exact hP) hS ls (by rw [xCnt_t (show mPasP S n t i = true by simp [mPasP, c117])]; exact lv_sub hl [2, 3, 1, 0] rfl)
        exact key2 (levN t - 0 + 1) 0 (by omega) (by omega)  _ _ (by rw [mPut_0, show msIa (mPassF S n t) 6 (mIa S 6) = mPassF S n t from mia_self (mPassF S n t) 6]; exact hP) hS ls (lv_sub hl [1, 2, 3, 0] rfl)
      · have hlt : i < levN t := nle_nI (a := levN t) (b := i) (by omega) (by omega) c115
        refine lv_aload_n C.1 hb dX1_passes_12 rfl (lv_at hl 0 rfl) ?_
        refine lv_iload_n C.1 hb dX1_passes_13 rfl (lv_at hl 1 rfl) ?_
        refine lv_iload_n C.1 hb dX1_passes_14 rfl (lv_at hl 3 rfl) ?_
        refine run_rd (cRunM (As := [.int (nI t), .int (nI i)]) (rest := []) C hb (hml.trans hl.1.symm) hP hS rfl (k_X1_fittedOf l g (msIa S 7 (fil (mFound S n t) (mIa S 7) i)) n (MI_7 _ hI) t ht (nI i)) wm_220 wm_221 wm_222 wm_223 wm_5 (n := 2) (by decide +kernel) rfl ⟨rfl, rfl, Nat.le_of_ble_eq_true rfl, Nat.le_of_ble_eq_true rfl⟩ (Nat.le_of_ble_eq_true rfl) rfl ⟨Nat.zero_le _, Nat.zero_le _⟩ dX1_passes_15) ?_
        refine toL (show mFitO (msIa S 7 (fil (mFound S n t) (mIa S 7) i)) n t (nI i) = mFitO S n t (nI i) from rfl) ?_
        refine lv_lstore (lv' := [(4, .long (mFitO S n t (nI i))), (0, .ref (gA g 17)), (1, .int (nI t)), (2, .int 0), (3, .int (nI i))]) C.1 hb dX1_passes_18 hl (by decide) rfl (fun ls hl => ?_)
        refine lv_aload_n C.1 hb dX1_passes_20 rfl (lv_at hl 1 rfl) ?_
        refine lv_iload_n C.1 hb dX1_passes_21 rfl (lv_at hl 2 rfl) ?_
        refine lv_iload_n C.1 hb dX1_passes_22 rfl (lv_at hl 4 rfl) ?_
        refine run_rd (cRunM (As := [.int (nI t), .int (nI i)]) (rest := []) C hb (hml.trans hl.1.symm) hP hS rfl (k_X1_claimed l g (msIa S 7 (fil (mFound S n t) (mIa S 7) i)) n (MI_7 _ hI) t ht (nI i)) wm_236 wm_237 wm_238 wm_239 wm_5 (n := 2) (by decide +kernel) rfl ⟨rfl, rfl, Nat.le_of_ble_eq_true rfl, Nat.le_of_ble_eq_true rfl⟩ (Nat.le_of_ble_eq_true rfl) rfl ⟨Nat.zero_le _, Nat.zero_le _⟩ dX1_passes_23) ?_
        refine toL (show mSumL (msIa S 7 (fil (mFound S n t) (mIa S 7) i)) n t (nI i) 2 = mSumL S n t (nI i) 2 from rfl) ?_
        refine lv_lstore (lv' := [(6, .long (mSumL S n t (nI i) 2)), (4, .long (mFitO S n t (nI i))), (0, .ref (gA g 17)), (1, .int (nI t)), (2, .int 0), (3, .int (nI i))]) C.1 hb dX1_passes_26 hl (by decide) rfl (fun ls hl => ?_)
        refine lv_aload_n C.1 hb dX1_passes_28 rfl (lv_at hl 2 rfl) ?_
        refine gM_factors C hb hP dX1_passes_29 ?_
        refine lv_iconst (v := 4) C.1 hb dX1_passes_32 (by decide) ?_
        refine lv_iload_n C.1 hb dX1_passes_33 rfl (lv_at hl 3 rfl) ?_
        refine lv_imul C.1 hb dX1_passes_34 ?_
        refine lv_iload_n C.1 hb dX1_passes_35 rfl (lv_at hl 5 rfl) ?_
        refine lv_iadd C.1 hb dX1_passes_36 ?_
        refine ldM_factors (j := (4 * t + i)) C hb hP (ix4 t i) (by omega) dX1_passes_37 ?_
        refine toI (show mIa (msIa S 7 (fil (mFound S n t) (mIa S 7) i)) 6 (4 * t + i) = mIa S 6 (4 * t + i) from rfl) ?_
        refine lv_i2l C.1 hb dX1_passes_38 rfl ?_
        refine lv_lstore (lv' := [(8, .long (mIa S 6 (4 * t + i)).toInt64), (6, .long (mSumL S n t (nI i) 2)), (4, .long (mFitO S n t (nI i))), (0, .ref (gA g 17)), (1, .int (nI t)), (2, .int 0), (3, .int (nI i))]) C.1 hb dX1_passes_39 hl (by decide) rfl (fun ls hl => ?_)
        refine lv_aload_n C.1 hb dX1_passes_41 rfl (lv_at hl 3 rfl) ?_
        refine gM_found C hb hP dX1_passes_42 ?_
        refine lv_iload_n C.1 hb dX1_passes_45 rfl (lv_at hl 6 rfl) ?_
        refine lv_lload C.1 hb dX1_passes_46 (lv_at hl 0 rfl) ?_
        refine lv_l2i C.1 hb dX1_passes_48 rfl ?_
        refine stM_found (j := i) C hb hP hS rfl (by omega) dX1_passes_49 (fun H locs hP hS => ?_)
        refine lv_lload C.1 hb dX1_passes_50 (lv_at hl 2 rfl) ?_
        refine lv_lconst (v := 0) C.1 hb dX1_passes_52 (by decide) ?_
        refine lc_le (tgt := 108) C hb dX1_passes_53 dX1_passes_54 (by decide) (fun c118 => ?_) (fun c118 => ?_)
        · refine lv_iinc (v := nI (i + 1)) (lv' := [(3, .int (nI (i + 1))), (8, .long (mIa S 6 (4 * t + i)).toInt64), (6, .long (mSumL S n t (nI i) 2)), (4, .long (mFitO S n t (nI i))), (0, .ref (gA g 17)), (1, .int (nI t)), (2, .int 0)]) C.1 hb dX1_passes_108 hl (k := 6) rfl (nI_1 i) (by decide) rfl (fun ls hl => ?_)
          refine lv_goto (tgt := 4) C.1 hb dX1_passes_111 (by decide) ?_
          exact ih (i + 1) (by omega) (by omega)  _ _ (by rw [← mfound_step S (mFound S n t) i (x := (mIa S 6 (4 * t + i)).toInt64.toInt32) (by unfold mFound; rw [if_pos c118]; exact i64_i32 _)]; exact hP) hS ls (lv_sub hl [4, 5, 6, 0] rfl)
        · refine lv_lload C.1 hb dX1_passes_57 (lv_at hl 1 rfl) ?_
          refine lv_lconst (v := 0) C.1 hb dX1_passes_59 (by decide) ?_
          refine lc_le (tgt := 108) C hb dX1_passes_60 dX1_passes_61 (by decide) (fun c119 => ?_) (fun c119 => ?_)
          · refine lv_iinc (v := nI (i + 1)) (lv' := [(3, .int (nI (i + 1))), (8, .long (mIa S 6 (4 * t + i)).toInt64), (6, .long (mSumL S n t (nI i) 2)), (4, .long (mFitO S n t (nI i))), (0, .ref (gA g 17)), (1, .int (nI t)), (2, .int 0)]) C.1 hb dX1_passes_108 hl (k := 6) rfl (nI_1 i) (by decide) rfl (fun ls hl => ?_)
            refine lv_goto (tgt := 4) C.1 hb dX1_passes_111 (by decide) ?_
            exact ih (i + 1) (by omega) (by omega)  _ _ (by rw [← mfound_step S (mFound S n t) i (x := (mIa S 6 (4 * t + i)).toInt64.toInt32) (by unfold mFound; rw [if_neg c118, if_pos c119]; exact i64_i32 _)]; exact hP) hS ls (lv_sub hl [4, 5, 6, 0] rfl)
          · refine lv_lload C.1 hb dX1_passes_64 (lv_at hl 0 rfl) ?_
            refine lv_aload_n C.1 hb dX1_passes_66 rfl (lv_at hl 3 rfl) ?_
            refine lv_iload_n C.1 hb dX1_passes_67 rfl (lv_at hl 4 rfl) ?_
            refine lv_iload_n C.1 hb dX1_passes_68 rfl (lv_at hl 6 rfl) ?_
            refine run_rd (cRunM (As := [.int (nI t), .int (nI i)]) (rest := [.long (mIa S 6 (4 * t + i)).toInt64]) C hb (hml.trans hl.1.symm) hP hS rfl (k_X1_told l g (msIa (msIa S 7 (fil (mFound S n t) (mIa S 7) i)) 7 (upd (mIa (msIa S 7 (fil (mFound S n t) (mIa S 7) i)) 7) i (mIa S 6 (4 * t + i)).toInt64.toInt32)) n (MI_7 _ (MI_7 _ hI)) t ht (nI i)) wm_240 wm_241 wm_242 wm_243 wm_5 (n := 2) (by decide +kernel) rfl ⟨rfl, rfl, Nat.le_of_ble_eq_true rfl, Nat.le_of_ble_eq_true rfl⟩ (Nat.le_of_ble_eq_true rfl) rfl ⟨Nat.zero_le _, Nat.zero_le _⟩ dX1_passes_69) ?_
            refine toL (show mSumL (msIa (msIa S 7 (fil (mFound S n t) (mIa S 7) i)) 7 (upd (mIa (msIa S 7 (fil (mFound S n t) (mIa S 7) i)) 7) i (mIa S 6 (4 * t + i)).toInt64.toInt32)) n t (nI i) 3 = mSumL S n t (nI i) 3 from rfl) ?_
            refine lv_lmul C.1 hb dX1_passes_72 ?_
            refine lv_lload C.1 hb dX1_passes_73 (lv_at hl 2 rfl) ?_
            refine lv_ldiv C.1 hb dX1_passes_75 (ne0_nle c118) ?_
            refine lv_lstore (lv' := [(10, .long (((mIa S 6 (4 * t + i)).toInt64 * (mSumL S n t (nI i) 3)) / (mFitO S n t (nI i)))), (8, .long (mIa S 6 (4 * t + i)).toInt64), (6, .long (mSumL S n t (nI i) 2)), (4, .long (mFitO S n t (nI i))), (0, .ref (gA g 17)), (1, .int (nI t)), (2, .int 0), (3, .int (nI i))]) C.1 hb dX1_passes_76 hl (by decide) rfl (fun ls hl => ?_)
            refine lv_aload_n C.1 hb dX1_passes_78 rfl (lv_at hl 4 rfl) ?_
            refine gM_found C hb hP dX1_passes_79 ?_
            refine lv_iload_n C.1 hb dX1_passes_82 rfl (lv_at hl 7 rfl) ?_
            refine lv_aload_n C.1 hb dX1_passes_83 rfl (lv_at hl 4 rfl) ?_
            refine lv_lload C.1 hb dX1_passes_84 (lv_at hl 1 rfl) ?_
            refine lv_lload C.1 hb dX1_passes_86 (lv_at hl 0 rfl) ?_
            refine lv_lload C.1 hb dX1_passes_88 (lv_at hl 1 rfl) ?_
            refine lv_lsub C.1 hb dX1_passes_90 ?_
            refine lv_lload C.1 hb dX1_passes_91 (lv_at hl 2 rfl) ?_
            refine lv_lmul C.1 hb dX1_passes_93 ?_
            refine lv_lload C.1 hb dX1_passes_94 (lv_at hl 2 rfl) ?_
            refine lv_aload_n C.1 hb dX1_passes_96 rfl (lv_at hl 4 rfl) ?_
            refine gM_credibility C hb hP dX1_passes_97 ?_
            refine toI (show mSc (msIa (msIa S 7 (fil (mFound S n t) (mIa S 7) i)) 7 (upd (mIa (msIa S 7 (fil (mFound S n t) (mIa S 7) i)) 7) i (mIa S 6 (4 * t + i)).toInt64.toInt32)) 1 = mSc S 1 from rfl) ?_
            refine lv_i2l C.1 hb dX1_passes_100 rfl ?_
            refine lv_ladd C.1 hb dX1_passes_101 ?_
            refine lv_ldiv C.1 hb dX1_passes_102 (mFound_div hI c119) ?_
            refine lv_ladd C.1 hb dX1_passes_103 ?_
            refine run_rd (cRunM (As := [.long ((mIa S 6 (4 * t + i)).toInt64 + ((((((mIa S 6 (4 * t + i)).toInt64 * (mSumL S n t (nI i) 3)) / (mFitO S n t (nI i))) - (mIa S 6 (4 * t + i)).toInt64) * (mSumL S n t (nI i) 2)) / ((mSumL S n t (nI i) 2) + (mSc S 1).toInt64)))]) (rest := [.int (nI i), .ref (gA g 25)]) C hb (hml.trans hl.1.symm) hP hS rfl (k_X1_bounded l g (msIa (msIa S 7 (fil (mFound S n t) (mIa S 7) i)) 7 (upd (mIa (msIa S 7 (fil (mFound S n t) (mIa S 7) i)) 7) i (mIa S 6 (4 * t + i)).toInt64.toInt32)) ((mIa S 6 (4 * t + i)).toInt64 + ((((((mIa S 6 (4 * t + i)).toInt64 * (mSumL S n t (nI i) 3)) / (mFitO S n t (nI i))) - (mIa S 6 (4 * t + i)).toInt64) * (mSumL S n t (nI i) 2)) / ((mSumL S n t (nI i) 2) + (mSc S 1).toInt64)))) wm_244 wm_245 wm_246 wm_247 wm_5 (n := 1) (by decide +kernel) rfl ⟨rfl, rfl, Nat.le_of_ble_eq_true rfl, Nat.le_of_ble_eq_true rfl⟩ (Nat.le_of_ble_eq_true rfl) rfl ⟨Nat.zero_le _, Nat.zero_le _⟩ dX1_passes_104) ?_
            refine toI (show _ = mFound S n t i by unfold mFound; rw [if_neg c118, if_neg c119]) ?_
            refine stM_found (j := i) C hb hP hS rfl (by omega) dX1_passes_107 (fun H locs hP hS => ?_)
            refine lv_iinc (v := nI (i + 1)) (lv' := [(3, .int (nI (i + 1))), (10, .long (((mIa S 6 (4 * t + i)).toInt64 * (mSumL S n t (nI i) 3)) / (mFitO S n t (nI i)))), (8, .long (mIa S 6 (4 * t + i)).toInt64), (6, .long (mSumL S n t (nI i) 2)), (4, .long (mFitO S n t (nI i))), (0, .ref (gA g 17)), (1, .int (nI t)), (2, .int 0)]) C.1 hb dX1_passes_108 hl (k := 7) rfl (nI_1 i) (by decide) rfl (fun ls hl => ?_)
            refine lv_goto (tgt := 4) C.1 hb dX1_passes_111 (by decide) ?_
            exact ih (i + 1) (by omega) (by omega)  _ _ (by rw [← mfound_step2 S (mFound S n t) i rfl]; exact hP) hS ls (lv_sub hl [5, 6, 7, 0] rfl)
  exact key (levN t - 0 + 1) 0 (by omega) (by omega)  _ _ (by rw [fil_0, mia_self]; exact hP) hS ls (lv_sub hl [2, 3, 1, 0] rfl)

set_option maxRecDepth 100000 in
set_option maxHeartbeats 4000000 in
theorem k_X1_pass (l : Launch) (g : gG) (S : WS) (n : Nat) (hI : MI n S) (t : Int32) : Met l yX1_pass (wA yX1_pass cX1_pass 2 (some .int)) ({ frames := 4, cells := 0, slots := 0, locals := 160 }) (PW g S [.ref (gA g 17), .int t]) (WQ g (mR_pass S n t) (some (.int (mV_pass S n t)))) 0 0 (Ab g) := by
  refine metI (by decide +kernel) (Nat.le_of_ble_eq_true rfl) ?_
  intro p e s m below meth c C hb hml hret hlk hP ls hl
  have C : CW g RX1 p s m ([.ref (gA g 17), .int t] : List Value).toArray := C
  have hS : va_S (Ab g) s.heap s.heap [] := va_S.rf
  have hl : lv_has ls 2 [(0, .ref (gA g 17)), (1, .int t)] := hl
  refine lv_aload_n C.1 hb dX1_pass_0 rfl (lv_at hl 0 rfl) ?_
  refine lv_iload_n C.1 hb dX1_pass_1 rfl (lv_at hl 1 rfl) ?_
  refine run_rd (cRunS (As := [.int t]) (rest := [.ref (gA g 17)]) C hb (hml.trans hl.1.symm) hP hS (k_X1_isTrait l g S t) wm_99 wm_100 wm_101 wm_5 (n := 1) (by decide +kernel) rfl ⟨rfl, rfl, Nat.le_of_ble_eq_true rfl, Nat.le_of_ble_eq_true rfl⟩ (Nat.le_of_ble_eq_true rfl) rfl ⟨Nat.zero_le _, Nat.zero_le _⟩ dX1_pass_2) ?_
  refine lv_iconst (v := 1) C.1 hb dX1_pass_5 (by decide) ?_
  refine lv_iconst (v := 1) C.1 hb dX1_pass_6 (by decide) ?_
  refine run_wr (cRunM (As := [.int (bI (xHasTrait t)), .int 1, .int 1]) (rest := []) C hb (hml.trans hl.1.symm) hP hS rfl (k_X1_goes l g S (xHasTrait t) true true) wm_108 wm_109 wm_110 wm_111 wm_5 (n := 3) (by decide +kernel) rfl ⟨rfl, rfl, Nat.le_of_ble_eq_true rfl, Nat.le_of_ble_eq_true rfl⟩ (Nat.le_of_ble_eq_true rfl) rfl ⟨Nat.zero_le _, Nat.zero_le _⟩ dX1_pass_7) hS (fun H locs hP hS => ?_)
  refine toI (congrArg bI (Bool.and_true _)) ?_
  refine bz_eq (tgt := 21) C hb dX1_pass_10 (by decide) (fun c120 => ?_) (fun c120 => ?_)
  · rw [c120] at hP
    refine lv_iconst (v := 0) C.1 hb dX1_pass_21 (by decide) ?_
    exact wrI C hb hret hlk hP hS dX1_pass_22 (by unfold mV_pass; rw [c120]; rfl) (by unfold mR_pass; rw [c120]; rfl)
  · rw [c120] at hP
    have hx := xHasTrait_ix c120
    have ht1 := hx.1
    have ht2 := hx.2
    refine lv_aload_n C.1 hb dX1_pass_13 rfl (lv_at hl 0 rfl) ?_
    refine lv_iload_n C.1 hb dX1_pass_14 rfl (lv_at hl 1 rfl) ?_
    refine toI ht1 ?_
    refine run_wr (cRunM (As := [.int (nI (tN t))]) (rest := []) C hb (hml.trans hl.1.symm) hP hS rfl (k_X1_passes l g (mGo S true true true) n (MI_go true true true hI) (tN t) ht2) wm_216 wm_217 wm_218 wm_219 wm_5 (n := 1) (by decide +kernel) rfl ⟨rfl, rfl, Nat.le_of_ble_eq_true rfl, Nat.le_of_ble_eq_true rfl⟩ (Nat.le_of_ble_eq_true rfl) rfl ⟨Nat.zero_le _, Nat.zero_le _⟩ dX1_pass_15) hS (fun H locs hP hS => ?_)
    refine lv_goto (tgt := 22) C.1 hb dX1_pass_18 (by decide) ?_
    exact wrI C hb hret hlk hP hS dX1_pass_22 (by unfold mV_pass; rw [c120]; rfl) (by unfold mR_pass; rw [c120]; rfl)

set_option maxRecDepth 100000 in
set_option maxHeartbeats 4000000 in
theorem k_X1_settle (l : Launch) (g : gG) (S : WS) (n : Nat) (hI : MI n S) : Met l yX1_settle (wA yX1_settle cX1_settle 4 (some .int)) ({ frames := 4, cells := 0, slots := 0, locals := 160 }) (PW g S [.ref (gA g 17)]) (WQ g ((mSettle n 60 0 (msSc S 3 0)).2) (some (.int (nI (mSettle n 60 0 (msSc S 3 0)).1)))) 0 0 (Ab g) := by
  refine metI (by decide +kernel) (Nat.le_of_ble_eq_true rfl) ?_
  intro p e s m below meth c C hb hml hret hlk hP ls hl
  have C : CW g RX1 p s m ([.ref (gA g 17)] : List Value).toArray := C
  have hS : va_S (Ab g) s.heap s.heap [] := va_S.rf
  have hl : lv_has ls 4 [(0, .ref (gA g 17))] := hl
  refine lv_aload_n C.1 hb dX1_settle_0 rfl (lv_at hl 0 rfl) ?_
  refine lv_iconst (v := 0) C.1 hb dX1_settle_1 (by decide) ?_
  refine pM_last C hb hP hS dX1_settle_2 (fun H locs hP hS => ?_)
  refine lv_iconst (v := 0) C.1 hb dX1_settle_5 (by decide) ?_
  refine lv_istore_n (lv' := [(1, .int 0), (0, .ref (gA g 17))]) C.1 hb dX1_settle_6 rfl hl (by decide) rfl (fun ls hl => ?_)
  refine lv_iconst (v := 1) C.1 hb dX1_settle_7 (by decide) ?_
  refine lv_istore_n (lv' := [(2, .int 1), (1, .int 0), (0, .ref (gA g 17))]) C.1 hb dX1_settle_8 rfl hl (by decide) rfl (fun ls hl => ?_)
  have key : ∀ (d r : Nat) (S1 : WS), r + d = 60 → MI n S1 → mSettle n d r S1 = mSettle n 60 0 (msSc S 3 0) → ∀ (H : Heap) (locs : List Loc), HW g S1 H → va_S (Ab g) s.heap H locs → ∀ ls : Array Slot, lv_has ls 4 [(0, .ref (gA g 17)), (1, .int (nI r)), (2, .int 1)] → W p l e ({ frames := 4, cells := 0, slots := 0, locals := 160 }) s m ([.ref (gA g 17)] : List Value).toArray below meth c H locs 0 0 (MQ below (WQ g ((mSettle n 60 0 (msSc S 3 0)).2) (some (.int (nI (mSettle n 60 0 (msSc S 3 0)).1)))) ([.ref (gA g 17)] : List Value).toArray s 0 0 (Ab g)) (F0 m 9 ls []) := by
    intro d
    induction d with
    | zero =>
      intro r S1 hr1 hI1 he H locs hP hS ls hl
      refine lv_iload_n C.1 hb dX1_settle_9 rfl (lv_at hl 2 rfl) ?_
      refine lv_if_eq (tgt := 57) C.1 hb dX1_settle_10 (by decide) (fun c121 => ?_) (fun c121 => ?_)
      · exact absurd c121 (show ¬ (1 : Int32) = 0 by decide)
      · refine lv_iload_n C.1 hb dX1_settle_13 rfl (lv_at hl 1 rfl) ?_
        refine lv_bipush (v := 60) C.1 hb dX1_settle_14 (by decide) ?_
        refine lv_icmp_ge (tgt := 57) C.1 hb dX1_settle_16 (by decide) (fun c122 => ?_) (fun c122 => ?_)
        · refine lv_iload_n C.1 hb dX1_settle_57 rfl (lv_at hl 1 rfl) ?_
          exact wrI C hb hret hlk hP hS dX1_settle_58 (by rw [← he]; rfl) (by rw [← he]; rfl)
        · exact absurd ((nI_leI (a := 60) (b := r) (by decide) (by omega)).mpr (by omega)) c122
    | succ d ih =>
      intro r S1 hr1 hI1 he H locs hP hS ls hl
      refine lv_iload_n C.1 hb dX1_settle_9 rfl (lv_at hl 2 rfl) ?_
      refine lv_if_eq (tgt := 57) C.1 hb dX1_settle_10 (by decide) (fun c123 => ?_) (fun c123 => ?_)
      · exact absurd c123 (show ¬ (1 : Int32) = 0 by decide)
      · refine lv_iload_n C.1 hb dX1_settle_13 rfl (lv_at hl 1 rfl) ?_
        refine lv_bipush (v := 60) C.1 hb dX1_settle_14 (by decide) ?_
        refine lv_icmp_ge (tgt := 57) C.1 hb dX1_settle_16 (by decide) (fun c124 => ?_) (fun c124 => ?_)
        · exact absurd ((nI_leI (a := 60) (b := r) (by decide) (by omega)).mp c124) (by omega)
        · refine lv_aload_n C.1 hb dX1_settle_19 rfl (lv_at hl 0 rfl) ?_
          refine lv_iconst (v := 0) C.1 hb dX1_settle_20 (by decide) ?_
          refine run_wr (cRunM (As := [.int 0]) (rest := []) C hb (hml.trans hl.1.symm) hP hS rfl (k_X1_passes l g S1 n hI1 0 (by decide)) wm_216 wm_217 wm_218 wm_219 wm_5 (n := 1) (by decide +kernel) rfl ⟨rfl, rfl, Nat.le_of_ble_eq_true rfl, Nat.le_of_ble_eq_true rfl⟩ (Nat.le_of_ble_eq_true rfl) rfl ⟨Nat.zero_le _, Nat.zero_le _⟩ dX1_settle_21) hS (fun H locs hP hS => ?_)
          refine lv_istore_n (lv' := [(3, .int (nI (mPassC S1 n 0))), (0, .ref (gA g 17)), (1, .int (nI r)), (2, .int 1)]) C.1 hb dX1_settle_24 rfl hl (by decide) rfl (fun ls hl => ?_)
          refine lv_iload_n C.1 hb dX1_settle_25 rfl (lv_at hl 0 rfl) ?_
          refine lv_aload_n C.1 hb dX1_settle_26 rfl (lv_at hl 1 rfl) ?_
          refine lv_iconst (v := 1) C.1 hb dX1_settle_27 (by decide) ?_
          refine run_wr (cRunM (As := [.int 1]) (rest := [.int (nI (mPassC S1 n 0))]) C hb (hml.trans hl.1.symm) hP hS rfl (k_X1_passes l g (mPass S1 n 0) n (MI_pass _ hI1) 1 (by decide)) wm_216 wm_217 wm_218 wm_219 wm_5 (n := 1) (by decide +kernel) rfl ⟨rfl, rfl, Nat.le_of_ble_eq_true rfl, Nat.le_of_ble_eq_true rfl⟩ (Nat.le_of_ble_eq_true rfl) rfl ⟨Nat.zero_le _, Nat.zero_le _⟩ dX1_settle_28) hS (fun H locs hP hS => ?_)
          refine lv_iadd C.1 hb dX1_settle_31 ?_
          refine toI (nI_add _ _) ?_
          refine lv_istore_n (lv' := [(3, .int (nI (mPassC S1 n 0 + mPassC (mPass S1 n 0) n 1))), (0, .ref (gA g 17)), (1, .int (nI r)), (2, .int 1)]) C.1 hb dX1_settle_32 rfl hl (by decide) rfl (fun ls hl => ?_)
          refine lv_iload_n C.1 hb dX1_settle_33 rfl (lv_at hl 0 rfl) ?_
          refine lv_aload_n C.1 hb dX1_settle_34 rfl (lv_at hl 1 rfl) ?_
          refine lv_iconst (v := 2) C.1 hb dX1_settle_35 (by decide) ?_
          refine run_wr (cRunM (As := [.int 2]) (rest := [.int (nI (mPassC S1 n 0 + mPassC (mPass S1 n 0) n 1))]) C hb (hml.trans hl.1.symm) hP hS rfl (k_X1_passes l g (mPass (mPass S1 n 0) n 1) n (MI_pass _ (MI_pass _ hI1)) 2 (by decide)) wm_216 wm_217 wm_218 wm_219 wm_5 (n := 1) (by decide +kernel) rfl ⟨rfl, rfl, Nat.le_of_ble_eq_true rfl, Nat.le_of_ble_eq_true rfl⟩ (Nat.le_of_ble_eq_true rfl) rfl ⟨Nat.zero_le _, Nat.zero_le _⟩ dX1_settle_36) hS (fun H locs hP hS => ?_)
          refine lv_iadd C.1 hb dX1_settle_39 ?_
          refine toI (nI_add _ _) ?_
          have hP : HW g (mRound S1 n) H := hP
          have hc := mRoundC_le S1 n
          refine lv_istore_n (lv' := [(3, .int (nI (mRoundC S1 n))), (0, .ref (gA g 17)), (1, .int (nI r)), (2, .int 1)]) C.1 hb dX1_settle_40 rfl hl (by decide) rfl (fun ls hl => ?_)
          refine lv_iload_n C.1 hb dX1_settle_41 rfl (lv_at hl 0 rfl) ?_
          refine lv_if_le (tgt := 49) C.1 hb dX1_settle_42 (by decide) (fun c125 => ?_) (fun c125 => ?_)
          · have hd : mRoundC S1 n = 0 := by rcases Nat.eq_zero_or_pos (mRoundC S1 n) with q | q; exact q; exact absurd c125 (nI_nle q (by omega))
            have he2 : (r + 1, mRound S1 n) = mSettle n 60 0 (msSc S 3 0) := (if_pos hd).symm.trans he
            refine lv_iconst (v := 0) C.1 hb dX1_settle_49 (by decide) ?_
            refine lv_istore_n (lv' := [(2, .int 0), (3, .int (nI (mRoundC S1 n))), (0, .ref (gA g 17)), (1, .int (nI r))]) C.1 hb dX1_settle_50 rfl hl (by decide) rfl (fun ls hl => ?_)
            refine lv_iinc (v := nI (r + 1)) (lv' := [(1, .int (nI (r + 1))), (2, .int 0), (3, .int (nI (mRoundC S1 n))), (0, .ref (gA g 17))]) C.1 hb dX1_settle_51 hl (k := 3) rfl (nI_1 r) (by decide) rfl (fun ls hl => ?_)
            refine lv_goto (tgt := 9) C.1 hb dX1_settle_54 (by decide) ?_
            refine lv_iload_n C.1 hb dX1_settle_9 rfl (lv_at hl 1 rfl) ?_
            refine lv_if_eq (tgt := 57) C.1 hb dX1_settle_10 (by decide) (fun c126 => ?_) (fun c126 => ?_)
            · refine lv_iload_n C.1 hb dX1_settle_57 rfl (lv_at hl 0 rfl) ?_
              exact wrI C hb hret hlk hP hS dX1_settle_58 (by rw [← he2]) (by rw [← he2])
            · exact absurd (show (0 : Int32) = 0 from rfl) c126
          · have hd : ¬ mRoundC S1 n = 0 := fun q => c125 (by rw [q]; decide)
            refine lv_iconst (v := 1) C.1 hb dX1_settle_45 (by decide) ?_
            refine lv_goto (tgt := 50) C.1 hb dX1_settle_46 (by decide) ?_
            refine lv_istore_n (lv' := [(2, .int 1), (3, .int (nI (mRoundC S1 n))), (0, .ref (gA g 17)), (1, .int (nI r))]) C.1 hb dX1_settle_50 rfl hl (by decide) rfl (fun ls hl => ?_)
            refine lv_iinc (v := nI (r + 1)) (lv' := [(1, .int (nI (r + 1))), (2, .int 1), (3, .int (nI (mRoundC S1 n))), (0, .ref (gA g 17))]) C.1 hb dX1_settle_51 hl (k := 3) rfl (nI_1 r) (by decide) rfl (fun ls hl => ?_)
            refine lv_goto (tgt := 9) C.1 hb dX1_settle_54 (by decide) ?_
            exact ih (r + 1) (mRound S1 n) (by omega) (MI_round hI1) ((if_neg hd).symm.trans he) _ _ hP hS ls (lv_sub hl [3, 0, 1] rfl)
  exact key 60 0 (msSc S 3 0) rfl (MI_last 0 hI) rfl _ _ hP hS ls (lv_sub hl [2, 1, 0] rfl)

set_option maxRecDepth 100000 in
set_option maxHeartbeats 4000000 in
theorem k_X1_premiumOf (l : Launch) (g : gG) (S : WS) (n : Nat) (hI : MI n S) (r : Nat) (hr : r < n) : Met l yX1_premiumOf (wA yX1_premiumOf cX1_premiumOf 2 (some .long)) ({ frames := 1, cells := 0, slots := 0, locals := 40 }) (PW g S [.ref (gA g 17), .int (nI r)]) (RQ (some (.long (mPrem S n r)))) 0 0 (fun _ => False) := by
  refine metI (by decide +kernel) (Nat.le_of_ble_eq_true rfl) ?_
  intro p e s m below meth c C hb hml hret hlk hP ls hl
  have C : CW g RX1 p s m ([.ref (gA g 17), .int (nI r)] : List Value).toArray := C
  have hS : va_S (Ab g) s.heap s.heap [] := va_S.rf
  have hl : lv_has ls 2 [(0, .ref (gA g 17)), (1, .int (nI r))] := hl
  refine lv_aload_n C.1 hb dX1_premiumOf_0 rfl (lv_at hl 0 rfl) ?_
  refine lv_iload_n C.1 hb dX1_premiumOf_1 rfl (lv_at hl 1 rfl) ?_
  refine lv_aload_n C.1 hb dX1_premiumOf_2 rfl (lv_at hl 0 rfl) ?_
  refine run_rd (cRunM (As := []) (rest := [.int (nI r), .ref (gA g 17)]) C hb (hml.trans hl.1.symm) hP hS rfl (k_X1_baseNow l g S n hI) wm_224 wm_225 wm_226 wm_227 wm_5 (n := 0) (by decide +kernel) rfl ⟨rfl, rfl, Nat.le_of_ble_eq_true rfl, Nat.le_of_ble_eq_true rfl⟩ (Nat.le_of_ble_eq_true rfl) rfl ⟨Nat.zero_le _, Nat.zero_le _⟩ dX1_premiumOf_3) ?_
  refine run_rd (cRunM (As := [.int (nI r), .long (mBase S n)]) (rest := []) C hb (hml.trans hl.1.symm) hP hS rfl (k_X1_fit l g S n hI r hr (mBase S n)) wm_232 wm_233 wm_234 wm_235 wm_5 (n := 2) (by decide +kernel) rfl ⟨rfl, rfl, Nat.le_of_ble_eq_true rfl, Nat.le_of_ble_eq_true rfl⟩ (Nat.le_of_ble_eq_true rfl) rfl ⟨Nat.zero_le _, Nat.zero_le _⟩ dX1_premiumOf_6) ?_
  refine lv_aload_n C.1 hb dX1_premiumOf_9 rfl (lv_at hl 0 rfl) ?_
  refine gM_spread C hb hP dX1_premiumOf_10 ?_
  refine lv_lmul C.1 hb dX1_premiumOf_13 ?_
  refine lv_ldc2 (v := 10000) C.1 hb C.2.1 (C.2.2.1 _ wm_47) dX1_premiumOf_14 ?_
  refine lv_ldiv C.1 hb dX1_premiumOf_17 (by decide) ?_
  exact rdL C hb hret hlk dX1_premiumOf_18 rfl

set_option maxRecDepth 100000 in
set_option maxHeartbeats 4000000 in
theorem k_X1_cappedOf (l : Launch) (g : gG) (S : WS) (n : Nat) (hI : MI n S) (r : Nat) (hr : r < n) : Met l yX1_cappedOf (wA yX1_cappedOf cX1_cappedOf 8 (some .long)) ({ frames := 2, cells := 0, slots := 0, locals := 80 }) (PW g S [.ref (gA g 17), .int (nI r)]) (RQ (some (.long (mCap S n r)))) 0 0 (fun _ => False) := by
  refine metI (by decide +kernel) (Nat.le_of_ble_eq_true rfl) ?_
  intro p e s m below meth c C hb hml hret hlk hP ls hl
  have C : CW g RX1 p s m ([.ref (gA g 17), .int (nI r)] : List Value).toArray := C
  have hS : va_S (Ab g) s.heap s.heap [] := va_S.rf
  have hl : lv_has ls 8 [(0, .ref (gA g 17)), (1, .int (nI r))] := hl
  have hn40 := hI.1
  refine lv_aload_n C.1 hb dX1_cappedOf_0 rfl (lv_at hl 0 rfl) ?_
  refine lv_iload_n C.1 hb dX1_cappedOf_1 rfl (lv_at hl 1 rfl) ?_
  refine run_rd (cRunM (As := [.int (nI r)]) (rest := []) C hb (hml.trans hl.1.symm) hP hS rfl (k_X1_premiumOf l g S n hI r hr) wm_334 wm_335 wm_336 wm_337 wm_5 (n := 1) (by decide +kernel) rfl ⟨rfl, rfl, Nat.le_of_ble_eq_true rfl, Nat.le_of_ble_eq_true rfl⟩ (Nat.le_of_ble_eq_true rfl) rfl ⟨Nat.zero_le _, Nat.zero_le _⟩ dX1_cappedOf_2) ?_
  refine lv_lstore_n (lv' := [(2, .long (mPrem S n r)), (0, .ref (gA g 17)), (1, .int (nI r))]) C.1 hb dX1_cappedOf_5 rfl hl (by decide) rfl (fun ls hl => ?_)
  refine lv_aload_n C.1 hb dX1_cappedOf_6 rfl (lv_at hl 1 rfl) ?_
  refine gM_cap C hb hP dX1_cappedOf_7 ?_
  refine lv_iconst (v := (-1)) C.1 hb dX1_cappedOf_10 (by decide) ?_
  refine lv_icmp_eq (tgt := 24) C.1 hb dX1_cappedOf_11 (by decide) (fun c127 => ?_) (fun c127 => ?_)
  · refine lv_lload_n C.1 hb dX1_cappedOf_24 rfl (lv_at hl 0 rfl) ?_
    exact rdL C hb hret hlk dX1_cappedOf_25 (by simp [mCap, c127])
  · refine lv_aload_n C.1 hb dX1_cappedOf_14 rfl (lv_at hl 1 rfl) ?_
    refine gM_olds C hb hP dX1_cappedOf_15 ?_
    refine lv_iload_n C.1 hb dX1_cappedOf_18 rfl (lv_at hl 2 rfl) ?_
    refine ldM_olds (j := r) C hb hP rfl (by omega) dX1_cappedOf_19 ?_
    refine lv_iconst (v := (-1)) C.1 hb dX1_cappedOf_20 (by decide) ?_
    refine lv_icmp_ne (tgt := 26) C.1 hb dX1_cappedOf_21 (by decide) (fun c128 => ?_) (fun c128 => ?_)
    · refine lv_aload_n C.1 hb dX1_cappedOf_26 rfl (lv_at hl 1 rfl) ?_
      refine gM_olds C hb hP dX1_cappedOf_27 ?_
      refine lv_iload_n C.1 hb dX1_cappedOf_30 rfl (lv_at hl 2 rfl) ?_
      refine ldM_olds (j := r) C hb hP rfl (by omega) dX1_cappedOf_31 ?_
      refine lv_i2l C.1 hb dX1_cappedOf_32 rfl ?_
      refine lv_aload_n C.1 hb dX1_cappedOf_33 rfl (lv_at hl 1 rfl) ?_
      refine gM_cap C hb hP dX1_cappedOf_34 ?_
      refine lv_bipush (v := 100) C.1 hb dX1_cappedOf_37 (by decide) ?_
      refine lv_icmp_le (tgt := 46) C.1 hb dX1_cappedOf_39 (by decide) (fun c129 => ?_) (fun c129 => ?_)
      · refine lv_bipush (v := 100) C.1 hb dX1_cappedOf_46 (by decide) ?_
        refine lv_aload_n C.1 hb dX1_cappedOf_48 rfl (lv_at hl 1 rfl) ?_
        refine gM_cap C hb hP dX1_cappedOf_49 ?_
        refine lv_isub C.1 hb dX1_cappedOf_52 ?_
        refine toI (show _ = mLow (mSc S 2) from (if_pos c129).symm) ?_
        refine lv_i2l C.1 hb dX1_cappedOf_53 rfl ?_
        refine lv_lmul C.1 hb dX1_cappedOf_54 ?_
        refine lv_ldc2 (v := 100) C.1 hb C.2.1 (C.2.2.1 _ wm_248) dX1_cappedOf_55 ?_
        refine lv_ldiv C.1 hb dX1_cappedOf_58 (by decide) ?_
        refine lv_lstore (lv' := [(4, .long (((mIa S 4 r).toInt64 * (mLow (mSc S 2)).toInt64) / 100)), (2, .long (mPrem S n r)), (0, .ref (gA g 17)), (1, .int (nI r))]) C.1 hb dX1_cappedOf_59 hl (by decide) rfl (fun ls hl => ?_)
        refine lv_aload_n C.1 hb dX1_cappedOf_61 rfl (lv_at hl 2 rfl) ?_
        refine gM_olds C hb hP dX1_cappedOf_62 ?_
        refine lv_iload_n C.1 hb dX1_cappedOf_65 rfl (lv_at hl 3 rfl) ?_
        refine ldM_olds (j := r) C hb hP rfl (by omega) dX1_cappedOf_66 ?_
        refine lv_i2l C.1 hb dX1_cappedOf_67 rfl ?_
        refine lv_bipush (v := 100) C.1 hb dX1_cappedOf_68 (by decide) ?_
        refine lv_aload_n C.1 hb dX1_cappedOf_70 rfl (lv_at hl 2 rfl) ?_
        refine gM_cap C hb hP dX1_cappedOf_71 ?_
        refine lv_iadd C.1 hb dX1_cappedOf_74 ?_
        refine lv_i2l C.1 hb dX1_cappedOf_75 rfl ?_
        refine lv_lmul C.1 hb dX1_cappedOf_76 ?_
        refine lv_ldc2 (v := 100) C.1 hb C.2.1 (C.2.2.1 _ wm_248) dX1_cappedOf_77 ?_
        refine lv_ldiv C.1 hb dX1_cappedOf_80 (by decide) ?_
        refine lv_lstore (lv' := [(6, .long (((mIa S 4 r).toInt64 * (100 + (mSc S 2)).toInt64) / 100)), (4, .long (((mIa S 4 r).toInt64 * (mLow (mSc S 2)).toInt64) / 100)), (2, .long (mPrem S n r)), (0, .ref (gA g 17)), (1, .int (nI r))]) C.1 hb dX1_cappedOf_81 hl (by decide) rfl (fun ls hl => ?_)
        refine lv_lload_n C.1 hb dX1_cappedOf_83 rfl (lv_at hl 2 rfl) ?_
        refine lv_lload C.1 hb dX1_cappedOf_84 (lv_at hl 1 rfl) ?_
        refine lc_ge (tgt := 95) C hb dX1_cappedOf_86 dX1_cappedOf_87 (by decide) (fun c130 => ?_) (fun c130 => ?_)
        · refine lv_lload_n C.1 hb dX1_cappedOf_95 rfl (lv_at hl 2 rfl) ?_
          refine toL (show _ = mBot (mPrem S n r) ((mIa S 4 r).toInt64 * (mLow (mSc S 2)).toInt64 / 100) from (if_pos c130).symm) ?_
          refine lv_lstore_n (lv' := [(2, .long (mBot (mPrem S n r) ((mIa S 4 r).toInt64 * (mLow (mSc S 2)).toInt64 / 100))), (6, .long (((mIa S 4 r).toInt64 * (100 + (mSc S 2)).toInt64) / 100)), (4, .long (((mIa S 4 r).toInt64 * (mLow (mSc S 2)).toInt64) / 100)), (0, .ref (gA g 17)), (1, .int (nI r))]) C.1 hb dX1_cappedOf_96 rfl hl (by decide) rfl (fun ls hl => ?_)
          refine lv_lload_n C.1 hb dX1_cappedOf_97 rfl (lv_at hl 0 rfl) ?_
          refine lv_lload C.1 hb dX1_cappedOf_98 (lv_at hl 1 rfl) ?_
          refine lc_le (tgt := 109) C hb dX1_cappedOf_100 dX1_cappedOf_101 (by decide) (fun c131 => ?_) (fun c131 => ?_)
          · refine lv_lload_n C.1 hb dX1_cappedOf_109 rfl (lv_at hl 0 rfl) ?_
            refine toL (show _ = mTop (mBot (mPrem S n r) ((mIa S 4 r).toInt64 * (mLow (mSc S 2)).toInt64 / 100)) ((mIa S 4 r).toInt64 * (100 + mSc S 2).toInt64 / 100) from (if_pos c131).symm) ?_
            exact rdL C hb hret hlk dX1_cappedOf_110 (by unfold mCap; rw [if_neg c127, if_neg c128])
          · refine lv_lload C.1 hb dX1_cappedOf_104 (lv_at hl 1 rfl) ?_
            refine lv_goto (tgt := 110) C.1 hb dX1_cappedOf_106 (by decide) ?_
            refine toL (show _ = mTop (mBot (mPrem S n r) ((mIa S 4 r).toInt64 * (mLow (mSc S 2)).toInt64 / 100)) ((mIa S 4 r).toInt64 * (100 + mSc S 2).toInt64 / 100) from (if_neg c131).symm) ?_
            exact rdL C hb hret hlk dX1_cappedOf_110 (by unfold mCap; rw [if_neg c127, if_neg c128])
        · refine lv_lload C.1 hb dX1_cappedOf_90 (lv_at hl 1 rfl) ?_
          refine lv_goto (tgt := 96) C.1 hb dX1_cappedOf_92 (by decide) ?_
          refine toL (show _ = mBot (mPrem S n r) ((mIa S 4 r).toInt64 * (mLow (mSc S 2)).toInt64 / 100) from (if_neg c130).symm) ?_
          refine lv_lstore_n (lv' := [(2, .long (mBot (mPrem S n r) ((mIa S 4 r).toInt64 * (mLow (mSc S 2)).toInt64 / 100))), (6, .long (((mIa S 4 r).toInt64 * (100 + (mSc S 2)).toInt64) / 100)), (4, .long (((mIa S 4 r).toInt64 * (mLow (mSc S 2)).toInt64) / 100)), (0, .ref (gA g 17)), (1, .int (nI r))]) C.1 hb dX1_cappedOf_96 rfl hl (by decide) rfl (fun ls hl => ?_)
          refine lv_lload_n C.1 hb dX1_cappedOf_97 rfl (lv_at hl 0 rfl) ?_
          refine lv_lload C.1 hb dX1_cappedOf_98 (lv_at hl 1 rfl) ?_
          refine lc_le (tgt := 109) C hb dX1_cappedOf_100 dX1_cappedOf_101 (by decide) (fun c132 => ?_) (fun c132 => ?_)
          · refine lv_lload_n C.1 hb dX1_cappedOf_109 rfl (lv_at hl 0 rfl) ?_
            refine toL (show _ = mTop (mBot (mPrem S n r) ((mIa S 4 r).toInt64 * (mLow (mSc S 2)).toInt64 / 100)) ((mIa S 4 r).toInt64 * (100 + mSc S 2).toInt64 / 100) from (if_pos c132).symm) ?_
            exact rdL C hb hret hlk dX1_cappedOf_110 (by unfold mCap; rw [if_neg c127, if_neg c128])
          · refine lv_lload C.1 hb dX1_cappedOf_104 (lv_at hl 1 rfl) ?_
            refine lv_goto (tgt := 110) C.1 hb dX1_cappedOf_106 (by decide) ?_
            refine toL (show _ = mTop (mBot (mPrem S n r) ((mIa S 4 r).toInt64 * (mLow (mSc S 2)).toInt64 / 100)) ((mIa S 4 r).toInt64 * (100 + mSc S 2).toInt64 / 100) from (if_neg c132).symm) ?_
            exact rdL C hb hret hlk dX1_cappedOf_110 (by unfold mCap; rw [if_neg c127, if_neg c128])
      · refine lv_iconst (v := 0) C.1 hb dX1_cappedOf_42 (by decide) ?_
        refine lv_goto (tgt := 53) C.1 hb dX1_cappedOf_43 (by decide) ?_
        refine toI (show _ = mLow (mSc S 2) from (if_neg c129).symm) ?_
        refine lv_i2l C.1 hb dX1_cappedOf_53 rfl ?_
        refine lv_lmul C.1 hb dX1_cappedOf_54 ?_
        refine lv_ldc2 (v := 100) C.1 hb C.2.1 (C.2.2.1 _ wm_248) dX1_cappedOf_55 ?_
        refine lv_ldiv C.1 hb dX1_cappedOf_58 (by decide) ?_
        refine lv_lstore (lv' := [(4, .long (((mIa S 4 r).toInt64 * (mLow (mSc S 2)).toInt64) / 100)), (2, .long (mPrem S n r)), (0, .ref (gA g 17)), (1, .int (nI r))]) C.1 hb dX1_cappedOf_59 hl (by decide) rfl (fun ls hl => ?_)
        refine lv_aload_n C.1 hb dX1_cappedOf_61 rfl (lv_at hl 2 rfl) ?_
        refine gM_olds C hb hP dX1_cappedOf_62 ?_
        refine lv_iload_n C.1 hb dX1_cappedOf_65 rfl (lv_at hl 3 rfl) ?_
        refine ldM_olds (j := r) C hb hP rfl (by omega) dX1_cappedOf_66 ?_
        refine lv_i2l C.1 hb dX1_cappedOf_67 rfl ?_
        refine lv_bipush (v := 100) C.1 hb dX1_cappedOf_68 (by decide) ?_
        refine lv_aload_n C.1 hb dX1_cappedOf_70 rfl (lv_at hl 2 rfl) ?_
        refine gM_cap C hb hP dX1_cappedOf_71 ?_
        refine lv_iadd C.1 hb dX1_cappedOf_74 ?_
        refine lv_i2l C.1 hb dX1_cappedOf_75 rfl ?_
        refine lv_lmul C.1 hb dX1_cappedOf_76 ?_
        refine lv_ldc2 (v := 100) C.1 hb C.2.1 (C.2.2.1 _ wm_248) dX1_cappedOf_77 ?_
        refine lv_ldiv C.1 hb dX1_cappedOf_80 (by decide) ?_
        refine lv_lstore (lv' := [(6, .long (((mIa S 4 r).toInt64 * (100 + (mSc S 2)).toInt64) / 100)), (4, .long (((mIa S 4 r).toInt64 * (mLow (mSc S 2)).toInt64) / 100)), (2, .long (mPrem S n r)), (0, .ref (gA g 17)), (1, .int (nI r))]) C.1 hb dX1_cappedOf_81 hl (by decide) rfl (fun ls hl => ?_)
        refine lv_lload_n C.1 hb dX1_cappedOf_83 rfl (lv_at hl 2 rfl) ?_
        refine lv_lload C.1 hb dX1_cappedOf_84 (lv_at hl 1 rfl) ?_
        refine lc_ge (tgt := 95) C hb dX1_cappedOf_86 dX1_cappedOf_87 (by decide) (fun c133 => ?_) (fun c133 => ?_)
        · refine lv_lload_n C.1 hb dX1_cappedOf_95 rfl (lv_at hl 2 rfl) ?_
          refine toL (show _ = mBot (mPrem S n r) ((mIa S 4 r).toInt64 * (mLow (mSc S 2)).toInt64 / 100) from (if_pos c133).symm) ?_
          refine lv_lstore_n (lv' := [(2, .long (mBot (mPrem S n r) ((mIa S 4 r).toInt64 * (mLow (mSc S 2)).toInt64 / 100))), (6, .long (((mIa S 4 r).toInt64 * (100 + (mSc S 2)).toInt64) / 100)), (4, .long (((mIa S 4 r).toInt64 * (mLow (mSc S 2)).toInt64) / 100)), (0, .ref (gA g 17)), (1, .int (nI r))]) C.1 hb dX1_cappedOf_96 rfl hl (by decide) rfl (fun ls hl => ?_)
          refine lv_lload_n C.1 hb dX1_cappedOf_97 rfl (lv_at hl 0 rfl) ?_
          refine lv_lload C.1 hb dX1_cappedOf_98 (lv_at hl 1 rfl) ?_
          refine lc_le (tgt := 109) C hb dX1_cappedOf_100 dX1_cappedOf_101 (by decide) (fun c134 => ?_) (fun c134 => ?_)
          · refine lv_lload_n C.1 hb dX1_cappedOf_109 rfl (lv_at hl 0 rfl) ?_
            refine toL (show _ = mTop (mBot (mPrem S n r) ((mIa S 4 r).toInt64 * (mLow (mSc S 2)).toInt64 / 100)) ((mIa S 4 r).toInt64 * (100 + mSc S 2).toInt64 / 100) from (if_pos c134).symm) ?_
            exact rdL C hb hret hlk dX1_cappedOf_110 (by unfold mCap; rw [if_neg c127, if_neg c128])
          · refine lv_lload C.1 hb dX1_cappedOf_104 (lv_at hl 1 rfl) ?_
            refine lv_goto (tgt := 110) C.1 hb dX1_cappedOf_106 (by decide) ?_
            refine toL (show _ = mTop (mBot (mPrem S n r) ((mIa S 4 r).toInt64 * (mLow (mSc S 2)).toInt64 / 100)) ((mIa S 4 r).toInt64 * (100 + mSc S 2).toInt64 / 100) from (if_neg c134).symm) ?_
            exact rdL C hb hret hlk dX1_cappedOf_110 (by unfold mCap; rw [if_neg c127, if_neg c128])
        · refine lv_lload C.1 hb dX1_cappedOf_90 (lv_at hl 1 rfl) ?_
          refine lv_goto (tgt := 96) C.1 hb dX1_cappedOf_92 (by decide) ?_
          refine toL (show _ = mBot (mPrem S n r) ((mIa S 4 r).toInt64 * (mLow (mSc S 2)).toInt64 / 100) from (if_neg c133).symm) ?_
          refine lv_lstore_n (lv' := [(2, .long (mBot (mPrem S n r) ((mIa S 4 r).toInt64 * (mLow (mSc S 2)).toInt64 / 100))), (6, .long (((mIa S 4 r).toInt64 * (100 + (mSc S 2)).toInt64) / 100)), (4, .long (((mIa S 4 r).toInt64 * (mLow (mSc S 2)).toInt64) / 100)), (0, .ref (gA g 17)), (1, .int (nI r))]) C.1 hb dX1_cappedOf_96 rfl hl (by decide) rfl (fun ls hl => ?_)
          refine lv_lload_n C.1 hb dX1_cappedOf_97 rfl (lv_at hl 0 rfl) ?_
          refine lv_lload C.1 hb dX1_cappedOf_98 (lv_at hl 1 rfl) ?_
          refine lc_le (tgt := 109) C hb dX1_cappedOf_100 dX1_cappedOf_101 (by decide) (fun c135 => ?_) (fun c135 => ?_)
          · refine lv_lload_n C.1 hb dX1_cappedOf_109 rfl (lv_at hl 0 rfl) ?_
            refine toL (show _ = mTop (mBot (mPrem S n r) ((mIa S 4 r).toInt64 * (mLow (mSc S 2)).toInt64 / 100)) ((mIa S 4 r).toInt64 * (100 + mSc S 2).toInt64 / 100) from (if_pos c135).symm) ?_
            exact rdL C hb hret hlk dX1_cappedOf_110 (by unfold mCap; rw [if_neg c127, if_neg c128])
          · refine lv_lload C.1 hb dX1_cappedOf_104 (lv_at hl 1 rfl) ?_
            refine lv_goto (tgt := 110) C.1 hb dX1_cappedOf_106 (by decide) ?_
            refine toL (show _ = mTop (mBot (mPrem S n r) ((mIa S 4 r).toInt64 * (mLow (mSc S 2)).toInt64 / 100)) ((mIa S 4 r).toInt64 * (100 + mSc S 2).toInt64 / 100) from (if_neg c135).symm) ?_
            exact rdL C hb hret hlk dX1_cappedOf_110 (by unfold mCap; rw [if_neg c127, if_neg c128])
    · refine lv_lload_n C.1 hb dX1_cappedOf_24 rfl (lv_at hl 0 rfl) ?_
      exact rdL C hb hret hlk dX1_cappedOf_25 (by simp [mCap, c128])

set_option maxRecDepth 100000 in
set_option maxHeartbeats 4000000 in
theorem k_X1_allFitted (l : Launch) (g : gG) (S : WS) (n : Nat) (hI : MI n S) : Met l yX1_allFitted (wA yX1_allFitted cX1_allFitted 6 (some .long)) ({ frames := 1, cells := 0, slots := 0, locals := 40 }) (PW g S [.ref (gA g 17)]) (RQ (some (.long (mAllF S n)))) 0 0 (fun _ => False) := by
  refine metI (by decide +kernel) (Nat.le_of_ble_eq_true rfl) ?_
  intro p e s m below meth c C hb hml hret hlk hP ls hl
  have C : CW g RX1 p s m ([.ref (gA g 17)] : List Value).toArray := C
  have hS : va_S (Ab g) s.heap s.heap [] := va_S.rf
  have hl : lv_has ls 6 [(0, .ref (gA g 17))] := hl
  refine lv_aload_n C.1 hb dX1_allFitted_0 rfl (lv_at hl 0 rfl) ?_
  refine run_rd (cRunM (As := []) (rest := []) C hb (hml.trans hl.1.symm) hP hS rfl (k_X1_baseNow l g S n hI) wm_224 wm_225 wm_226 wm_227 wm_5 (n := 0) (by decide +kernel) rfl ⟨rfl, rfl, Nat.le_of_ble_eq_true rfl, Nat.le_of_ble_eq_true rfl⟩ (Nat.le_of_ble_eq_true rfl) rfl ⟨Nat.zero_le _, Nat.zero_le _⟩ dX1_allFitted_1) ?_
  refine lv_lstore_n (lv' := [(1, .long (mBase S n)), (0, .ref (gA g 17))]) C.1 hb dX1_allFitted_4 rfl hl (by decide) rfl (fun ls hl => ?_)
  refine lv_lconst (v := 0) C.1 hb dX1_allFitted_5 (by decide) ?_
  refine lv_lstore_n (lv' := [(3, .long 0), (1, .long (mBase S n)), (0, .ref (gA g 17))]) C.1 hb dX1_allFitted_6 rfl hl (by decide) rfl (fun ls hl => ?_)
  refine lv_iconst (v := 0) C.1 hb dX1_allFitted_7 (by decide) ?_
  refine lv_istore (lv' := [(5, .int 0), (3, .long 0), (1, .long (mBase S n)), (0, .ref (gA g 17))]) C.1 hb dX1_allFitted_8 hl (by decide) rfl (fun ls hl => ?_)
  have key : ∀ f i : Nat, n - i < f → i ≤ n → ∀ ls : Array Slot, lv_has ls 6 [(0, .ref (gA g 17)), (1, .long (mBase S n)), (3, .long (wsum (mLv S) (mFit S (mBase S n)) i)), (5, .int (nI i))] → W p l e ({ frames := 1, cells := 0, slots := 0, locals := 40 }) s m ([.ref (gA g 17)] : List Value).toArray below meth c s.heap [] 0 0 (MQ below (RQ (some (.long (mAllF S n)))) ([.ref (gA g 17)] : List Value).toArray s 0 0 (fun _ => False)) (F0 m 10 ls []) := by
    intro f
    induction f with
    | zero => intro i h; exact absurd h (Nat.not_lt_zero _)
    | succ f ih =>
      intro i hfi hi  ls hl
      refine lv_iload C.1 hb dX1_allFitted_10 (lv_at hl 3 rfl) ?_
      refine lv_aload_n C.1 hb dX1_allFitted_12 rfl (lv_at hl 0 rfl) ?_
      refine gM_rows C hb hP dX1_allFitted_13 ?_
      refine lv_icmp_ge (tgt := 49) C.1 hb dX1_allFitted_16 (by decide) (fun c136 => ?_) (fun c136 => ?_)
      · have hin : i = n := by have := le_nI (a := n) (b := i) (by have := hI.1; omega) (by have := hI.1; omega) (by rw [← hI.2.1]; exact c136); omega
        rw [hin] at hl
        refine lv_lload_n C.1 hb dX1_allFitted_49 rfl (lv_at hl 2 rfl) ?_
        exact rdL C hb hret hlk dX1_allFitted_50 rfl
      · have hlti : i < n := nle_nI (a := n) (b := i) (by have := hI.1; omega) (by have := hI.1; omega) (by rw [← hI.2.1]; exact c136)
        have hn40 := hI.1
        refine lv_lload_n C.1 hb dX1_allFitted_19 rfl (lv_at hl 2 rfl) ?_
        refine lv_aload_n C.1 hb dX1_allFitted_20 rfl (lv_at hl 0 rfl) ?_
        refine gM_gone C hb hP dX1_allFitted_21 ?_
        refine lv_iload C.1 hb dX1_allFitted_24 (lv_at hl 3 rfl) ?_
        refine ldM_gone (j := i) C hb hP rfl (by omega) dX1_allFitted_26 ?_
        refine lv_if_eq (tgt := 34) C.1 hb dX1_allFitted_27 (by decide) (fun c137 => ?_) (fun c137 => ?_)
        · have hp : mLv S i = true := by simp [mLv, c137]
          refine lv_aload_n C.1 hb dX1_allFitted_34 rfl (lv_at hl 0 rfl) ?_
          refine lv_iload C.1 hb dX1_allFitted_35 (lv_at hl 3 rfl) ?_
          refine lv_lload_n C.1 hb dX1_allFitted_37 rfl (lv_at hl 1 rfl) ?_
          refine run_rd (cRunM (As := [.int (nI i), .long (mBase S n)]) (rest := [.long (wsum (mLv S) (mFit S (mBase S n)) i)]) C hb (hml.trans hl.1.symm) hP hS rfl (k_X1_fit l g S n hI i hlti (mBase S n)) wm_232 wm_233 wm_234 wm_235 wm_5 (n := 2) (by decide +kernel) rfl ⟨rfl, rfl, Nat.le_of_ble_eq_true rfl, Nat.le_of_ble_eq_true rfl⟩ (Nat.le_of_ble_eq_true rfl) rfl ⟨Nat.zero_le _, Nat.zero_le _⟩ dX1_allFitted_38) ?_
          refine lv_ladd C.1 hb dX1_allFitted_41 ?_
          refine lv_lstore_n (lv' := [(3, .long ((wsum (mLv S) (mFit S (mBase S n)) i) + (mFit S (mBase S n) i))), (0, .ref (gA g 17)), (1, .long (mBase S n)), (5, .int (nI i))]) C.1 hb dX1_allFitted_42 rfl hl (by decide) rfl (fun ls hl => ?_)
          refine lv_iinc (v := nI (i + 1)) (lv' := [(5, .int (nI (i + 1))), (3, .long ((wsum (mLv S) (mFit S (mBase S n)) i) + (mFit S (mBase S n) i))), (0, .ref (gA g 17)), (1, .long (mBase S n))]) C.1 hb dX1_allFitted_43 hl (k := 3) rfl (nI_1 i) (by decide) rfl (fun ls hl => ?_)
          refine lv_goto (tgt := 10) C.1 hb dX1_allFitted_46 (by decide) ?_
          exact ih (i + 1) (by omega) (by omega)  ls (by rw [wsum_t hp]; exact lv_sub hl [2, 3, 1, 0] rfl)
        · have hp : mLv S i = false := by simp [mLv, c137]
          refine lv_lconst (v := 0) C.1 hb dX1_allFitted_30 (by decide) ?_
          refine lv_goto (tgt := 41) C.1 hb dX1_allFitted_31 (by decide) ?_
          refine lv_ladd C.1 hb dX1_allFitted_41 ?_
          refine toL (Int64.add_zero _) ?_
          refine lv_lstore_n (lv' := [(3, .long (wsum (mLv S) (mFit S (mBase S n)) i)), (0, .ref (gA g 17)), (1, .long (mBase S n)), (5, .int (nI i))]) C.1 hb dX1_allFitted_42 rfl hl (by decide) rfl (fun ls hl => ?_)
          refine lv_iinc (v := nI (i + 1)) (lv' := [(5, .int (nI (i + 1))), (3, .long (wsum (mLv S) (mFit S (mBase S n)) i)), (0, .ref (gA g 17)), (1, .long (mBase S n))]) C.1 hb dX1_allFitted_43 hl (k := 3) rfl (nI_1 i) (by decide) rfl (fun ls hl => ?_)
          refine lv_goto (tgt := 10) C.1 hb dX1_allFitted_46 (by decide) ?_
          exact ih (i + 1) (by omega) (by omega)  ls (by rw [wsum_f hp]; exact lv_sub hl [2, 3, 1, 0] rfl)
  exact key (n - 0 + 1) 0 (by omega) (by omega)  ls (lv_sub hl [3, 2, 1, 0] rfl)

set_option maxRecDepth 100000 in
set_option maxHeartbeats 4000000 in
theorem k_X1_allCapped (l : Launch) (g : gG) (S : WS) (n : Nat) (hI : MI n S) : Met l yX1_allCapped (wA yX1_allCapped cX1_allCapped 4 (some .long)) ({ frames := 3, cells := 0, slots := 0, locals := 120 }) (PW g S [.ref (gA g 17)]) (RQ (some (.long (mAllC S n)))) 0 0 (fun _ => False) := by
  refine metI (by decide +kernel) (Nat.le_of_ble_eq_true rfl) ?_
  intro p e s m below meth c C hb hml hret hlk hP ls hl
  have C : CW g RX1 p s m ([.ref (gA g 17)] : List Value).toArray := C
  have hS : va_S (Ab g) s.heap s.heap [] := va_S.rf
  have hl : lv_has ls 4 [(0, .ref (gA g 17))] := hl
  refine lv_lconst (v := 0) C.1 hb dX1_allCapped_0 (by decide) ?_
  refine lv_lstore_n (lv' := [(1, .long 0), (0, .ref (gA g 17))]) C.1 hb dX1_allCapped_1 rfl hl (by decide) rfl (fun ls hl => ?_)
  refine lv_iconst (v := 0) C.1 hb dX1_allCapped_2 (by decide) ?_
  refine lv_istore_n (lv' := [(3, .int 0), (1, .long 0), (0, .ref (gA g 17))]) C.1 hb dX1_allCapped_3 rfl hl (by decide) rfl (fun ls hl => ?_)
  have key : ∀ f i : Nat, n - i < f → i ≤ n → ∀ ls : Array Slot, lv_has ls 4 [(0, .ref (gA g 17)), (1, .long (wsum (mLv S) (mCap S n) i)), (3, .int (nI i))] → W p l e ({ frames := 3, cells := 0, slots := 0, locals := 120 }) s m ([.ref (gA g 17)] : List Value).toArray below meth c s.heap [] 0 0 (MQ below (RQ (some (.long (mAllC S n)))) ([.ref (gA g 17)] : List Value).toArray s 0 0 (fun _ => False)) (F0 m 4 ls []) := by
    intro f
    induction f with
    | zero => intro i h; exact absurd h (Nat.not_lt_zero _)
    | succ f ih =>
      intro i hfi hi  ls hl
      refine lv_iload_n C.1 hb dX1_allCapped_4 rfl (lv_at hl 2 rfl) ?_
      refine lv_aload_n C.1 hb dX1_allCapped_5 rfl (lv_at hl 0 rfl) ?_
      refine gM_rows C hb hP dX1_allCapped_6 ?_
      refine lv_icmp_ge (tgt := 39) C.1 hb dX1_allCapped_9 (by decide) (fun c138 => ?_) (fun c138 => ?_)
      · have hin : i = n := by have := le_nI (a := n) (b := i) (by have := hI.1; omega) (by have := hI.1; omega) (by rw [← hI.2.1]; exact c138); omega
        rw [hin] at hl
        refine lv_lload_n C.1 hb dX1_allCapped_39 rfl (lv_at hl 1 rfl) ?_
        exact rdL C hb hret hlk dX1_allCapped_40 rfl
      · have hlti : i < n := nle_nI (a := n) (b := i) (by have := hI.1; omega) (by have := hI.1; omega) (by rw [← hI.2.1]; exact c138)
        have hn40 := hI.1
        refine lv_lload_n C.1 hb dX1_allCapped_12 rfl (lv_at hl 1 rfl) ?_
        refine lv_aload_n C.1 hb dX1_allCapped_13 rfl (lv_at hl 0 rfl) ?_
        refine gM_gone C hb hP dX1_allCapped_14 ?_
        refine lv_iload_n C.1 hb dX1_allCapped_17 rfl (lv_at hl 2 rfl) ?_
        refine ldM_gone (j := i) C hb hP rfl (by omega) dX1_allCapped_18 ?_
        refine lv_if_eq (tgt := 26) C.1 hb dX1_allCapped_19 (by decide) (fun c139 => ?_) (fun c139 => ?_)
        · have hp : mLv S i = true := by simp [mLv, c139]
          refine lv_aload_n C.1 hb dX1_allCapped_26 rfl (lv_at hl 0 rfl) ?_
          refine lv_iload_n C.1 hb dX1_allCapped_27 rfl (lv_at hl 2 rfl) ?_
          refine run_rd (cRunM (As := [.int (nI i)]) (rest := [.long (wsum (mLv S) (mCap S n) i)]) C hb (hml.trans hl.1.symm) hP hS rfl (k_X1_cappedOf l g S n hI i hlti) wm_330 wm_331 wm_332 wm_333 wm_5 (n := 1) (by decide +kernel) rfl ⟨rfl, rfl, Nat.le_of_ble_eq_true rfl, Nat.le_of_ble_eq_true rfl⟩ (Nat.le_of_ble_eq_true rfl) rfl ⟨Nat.zero_le _, Nat.zero_le _⟩ dX1_allCapped_28) ?_
          refine lv_ladd C.1 hb dX1_allCapped_31 ?_
          refine lv_lstore_n (lv' := [(1, .long ((wsum (mLv S) (mCap S n) i) + (mCap S n i))), (0, .ref (gA g 17)), (3, .int (nI i))]) C.1 hb dX1_allCapped_32 rfl hl (by decide) rfl (fun ls hl => ?_)
          refine lv_iinc (v := nI (i + 1)) (lv' := [(3, .int (nI (i + 1))), (1, .long ((wsum (mLv S) (mCap S n) i) + (mCap S n i))), (0, .ref (gA g 17))]) C.1 hb dX1_allCapped_33 hl (k := 2) rfl (nI_1 i) (by decide) rfl (fun ls hl => ?_)
          refine lv_goto (tgt := 4) C.1 hb dX1_allCapped_36 (by decide) ?_
          exact ih (i + 1) (by omega) (by omega)  ls (by rw [wsum_t hp]; exact lv_sub hl [2, 1, 0] rfl)
        · have hp : mLv S i = false := by simp [mLv, c139]
          refine lv_lconst (v := 0) C.1 hb dX1_allCapped_22 (by decide) ?_
          refine lv_goto (tgt := 31) C.1 hb dX1_allCapped_23 (by decide) ?_
          refine lv_ladd C.1 hb dX1_allCapped_31 ?_
          refine toL (Int64.add_zero _) ?_
          refine lv_lstore_n (lv' := [(1, .long (wsum (mLv S) (mCap S n) i)), (0, .ref (gA g 17)), (3, .int (nI i))]) C.1 hb dX1_allCapped_32 rfl hl (by decide) rfl (fun ls hl => ?_)
          refine lv_iinc (v := nI (i + 1)) (lv' := [(3, .int (nI (i + 1))), (1, .long (wsum (mLv S) (mCap S n) i)), (0, .ref (gA g 17))]) C.1 hb dX1_allCapped_33 hl (k := 2) rfl (nI_1 i) (by decide) rfl (fun ls hl => ?_)
          refine lv_goto (tgt := 4) C.1 hb dX1_allCapped_36 (by decide) ?_
          exact ih (i + 1) (by omega) (by omega)  ls (by rw [wsum_f hp]; exact lv_sub hl [2, 1, 0] rfl)
  exact key (n - 0 + 1) 0 (by omega) (by omega)  ls (lv_sub hl [2, 1, 0] rfl)

set_option maxRecDepth 100000 in
set_option maxHeartbeats 4000000 in
theorem k_X1_spread (l : Launch) (g : gG) (S : WS) (n : Nat) (hI : MI n S) : Met l yX1_spread (wA yX1_spread cX1_spread 7 (some .int)) ({ frames := 4, cells := 0, slots := 0, locals := 160 }) (PW g S [.ref (gA g 17)]) (WQ g (mSpread (msSc S 3 0) n) (some (.int (mSp (mSpread (msSc S 3 0) n)).toInt32))) 0 0 (Ab g) := by
  refine metI (by decide +kernel) (Nat.le_of_ble_eq_true rfl) ?_
  intro p e s m below meth c C hb hml hret hlk hP ls hl
  have C : CW g RX1 p s m ([.ref (gA g 17)] : List Value).toArray := C
  have hS : va_S (Ab g) s.heap s.heap [] := va_S.rf
  have hl : lv_has ls 7 [(0, .ref (gA g 17))] := hl
  refine lv_aload_n C.1 hb dX1_spread_0 rfl (lv_at hl 0 rfl) ?_
  refine lv_iconst (v := 0) C.1 hb dX1_spread_1 (by decide) ?_
  refine pM_last C hb hP hS dX1_spread_2 (fun H locs hP hS => ?_)
  refine lv_aload_n C.1 hb dX1_spread_5 rfl (lv_at hl 0 rfl) ?_
  refine run_rd (cRunM (As := []) (rest := []) C hb (hml.trans hl.1.symm) hP hS rfl (k_X1_allCapped l g (msSc S 3 0) n (MI_last 0 hI)) wm_326 wm_327 wm_328 wm_329 wm_5 (n := 0) (by decide +kernel) rfl ⟨rfl, rfl, Nat.le_of_ble_eq_true rfl, Nat.le_of_ble_eq_true rfl⟩ (Nat.le_of_ble_eq_true rfl) rfl ⟨Nat.zero_le _, Nat.zero_le _⟩ dX1_spread_6) ?_
  refine lv_lstore_n (lv' := [(1, .long (mAllC (msSc S 3 0) n)), (0, .ref (gA g 17))]) C.1 hb dX1_spread_9 rfl hl (by decide) rfl (fun ls hl => ?_)
  refine lv_lload_n C.1 hb dX1_spread_10 rfl (lv_at hl 0 rfl) ?_
  refine lv_lconst (v := 0) C.1 hb dX1_spread_11 (by decide) ?_
  refine lc_le (tgt := 87) C hb dX1_spread_12 dX1_spread_13 (by decide) (fun c140 => ?_) (fun c140 => ?_)
  · refine lv_aload_n C.1 hb dX1_spread_87 rfl (lv_at hl 1 rfl) ?_
    refine gM_spread C hb hP dX1_spread_88 ?_
    refine lv_l2i C.1 hb dX1_spread_91 rfl ?_
    exact wrI C hb hret hlk hP hS dX1_spread_92 (by unfold mSpread; rw [if_pos c140]) (by unfold mSpread; rw [if_pos c140])
  · refine lv_ldc2 (v := 10000) C.1 hb C.2.1 (C.2.2.1 _ wm_47) dX1_spread_16 ?_
    refine lv_aload_n C.1 hb dX1_spread_19 rfl (lv_at hl 1 rfl) ?_
    refine run_rd (cRunM (As := []) (rest := [.long 10000]) C hb (hml.trans hl.1.symm) hP hS rfl (k_X1_allFitted l g (msSc S 3 0) n (MI_last 0 hI)) wm_338 wm_339 wm_340 wm_341 wm_5 (n := 0) (by decide +kernel) rfl ⟨rfl, rfl, Nat.le_of_ble_eq_true rfl, Nat.le_of_ble_eq_true rfl⟩ (Nat.le_of_ble_eq_true rfl) rfl ⟨Nat.zero_le _, Nat.zero_le _⟩ dX1_spread_20) ?_
    refine lv_lmul C.1 hb dX1_spread_23 ?_
    refine lv_lload_n C.1 hb dX1_spread_24 rfl (lv_at hl 0 rfl) ?_
    refine lv_ldiv C.1 hb dX1_spread_25 (ne0_nle c140) ?_
    refine lv_lstore_n (lv' := [(3, .long ((10000 * (mAllF (msSc S 3 0) n)) / (mAllC (msSc S 3 0) n))), (1, .long (mAllC (msSc S 3 0) n)), (0, .ref (gA g 17))]) C.1 hb dX1_spread_26 rfl hl (by decide) rfl (fun ls hl => ?_)
    refine lv_lload_n C.1 hb dX1_spread_27 rfl (lv_at hl 0 rfl) ?_
    refine lv_ldc2 (v := 1000000) C.1 hb C.2.1 (C.2.2.1 _ wm_325) dX1_spread_28 ?_
    refine lc_le (tgt := 41) C hb dX1_spread_31 dX1_spread_32 (by decide) (fun c141 => ?_) (fun c141 => ?_)
    · refine lv_lload_n C.1 hb dX1_spread_41 rfl (lv_at hl 0 rfl) ?_
      refine toL (show _ = mTop (10000 * mAllF (msSc S 3 0) n / mAllC (msSc S 3 0) n) 1000000 from (if_pos c141).symm) ?_
      refine lv_lstore_n (lv' := [(3, .long (mTop (10000 * mAllF (msSc S 3 0) n / mAllC (msSc S 3 0) n) 1000000)), (1, .long (mAllC (msSc S 3 0) n)), (0, .ref (gA g 17))]) C.1 hb dX1_spread_42 rfl hl (by decide) rfl (fun ls hl => ?_)
      refine lv_aload_n C.1 hb dX1_spread_43 rfl (lv_at hl 2 rfl) ?_
      refine gM_spread C hb hP dX1_spread_44 ?_
      refine lv_lload_n C.1 hb dX1_spread_47 rfl (lv_at hl 0 rfl) ?_
      refine lv_lmul C.1 hb dX1_spread_48 ?_
      refine lv_ldc2 (v := 10000) C.1 hb C.2.1 (C.2.2.1 _ wm_47) dX1_spread_49 ?_
      refine lv_ldiv C.1 hb dX1_spread_52 (by decide) ?_
      refine lv_lstore (lv' := [(5, .long (((mSp (msSc S 3 0)) * (mTop (10000 * mAllF (msSc S 3 0) n / mAllC (msSc S 3 0) n) 1000000)) / 10000)), (3, .long (mTop (10000 * mAllF (msSc S 3 0) n / mAllC (msSc S 3 0) n) 1000000)), (1, .long (mAllC (msSc S 3 0) n)), (0, .ref (gA g 17))]) C.1 hb dX1_spread_53 hl (by decide) rfl (fun ls hl => ?_)
      refine lv_aload_n C.1 hb dX1_spread_55 rfl (lv_at hl 3 rfl) ?_
      refine lv_lload C.1 hb dX1_spread_56 (lv_at hl 0 rfl) ?_
      refine lv_lconst (v := 1) C.1 hb dX1_spread_58 (by decide) ?_
      refine lc_ge (tgt := 67) C hb dX1_spread_59 dX1_spread_60 (by decide) (fun c142 => ?_) (fun c142 => ?_)
      · refine lv_lload C.1 hb dX1_spread_67 (lv_at hl 0 rfl) ?_
        refine lv_ldc2 (v := 1000000) C.1 hb C.2.1 (C.2.2.1 _ wm_325) dX1_spread_69 ?_
        refine lc_le (tgt := 82) C hb dX1_spread_72 dX1_spread_73 (by decide) (fun c143 => ?_) (fun c143 => ?_)
        · refine lv_lload C.1 hb dX1_spread_82 (lv_at hl 0 rfl) ?_
          refine toL (show _ = mSpV (mSp (msSc S 3 0) * mTop (10000 * mAllF (msSc S 3 0) n / mAllC (msSc S 3 0) n) 1000000 / 10000) from ((if_pos c142).trans (if_pos c143)).symm) ?_
          refine pM_spread C hb hP hS dX1_spread_84 (fun H locs hP hS => ?_)
          refine lv_aload_n C.1 hb dX1_spread_87 rfl (lv_at hl 3 rfl) ?_
          refine gM_spread C hb hP dX1_spread_88 ?_
          refine lv_l2i C.1 hb dX1_spread_91 rfl ?_
          exact wrI C hb hret hlk hP hS dX1_spread_92 (by unfold mSpread; rw [if_neg c140]) (by unfold mSpread; rw [if_neg c140])
        · refine lv_ldc2 (v := 1000000) C.1 hb C.2.1 (C.2.2.1 _ wm_325) dX1_spread_76 ?_
          refine lv_goto (tgt := 84) C.1 hb dX1_spread_79 (by decide) ?_
          refine toL (show _ = mSpV (mSp (msSc S 3 0) * mTop (10000 * mAllF (msSc S 3 0) n / mAllC (msSc S 3 0) n) 1000000 / 10000) from ((if_pos c142).trans (if_neg c143)).symm) ?_
          refine pM_spread C hb hP hS dX1_spread_84 (fun H locs hP hS => ?_)
          refine lv_aload_n C.1 hb dX1_spread_87 rfl (lv_at hl 3 rfl) ?_
          refine gM_spread C hb hP dX1_spread_88 ?_
          refine lv_l2i C.1 hb dX1_spread_91 rfl ?_
          exact wrI C hb hret hlk hP hS dX1_spread_92 (by unfold mSpread; rw [if_neg c140]) (by unfold mSpread; rw [if_neg c140])
      · refine lv_lconst (v := 1) C.1 hb dX1_spread_63 (by decide) ?_
        refine lv_goto (tgt := 84) C.1 hb dX1_spread_64 (by decide) ?_
        refine toL (show _ = mSpV (mSp (msSc S 3 0) * mTop (10000 * mAllF (msSc S 3 0) n / mAllC (msSc S 3 0) n) 1000000 / 10000) from (if_neg c142).symm) ?_
        refine pM_spread C hb hP hS dX1_spread_84 (fun H locs hP hS => ?_)
        refine lv_aload_n C.1 hb dX1_spread_87 rfl (lv_at hl 3 rfl) ?_
        refine gM_spread C hb hP dX1_spread_88 ?_
        refine lv_l2i C.1 hb dX1_spread_91 rfl ?_
        exact wrI C hb hret hlk hP hS dX1_spread_92 (by unfold mSpread; rw [if_neg c140]) (by unfold mSpread; rw [if_neg c140])
    · refine lv_ldc2 (v := 1000000) C.1 hb C.2.1 (C.2.2.1 _ wm_325) dX1_spread_35 ?_
      refine lv_goto (tgt := 42) C.1 hb dX1_spread_38 (by decide) ?_
      refine toL (show _ = mTop (10000 * mAllF (msSc S 3 0) n / mAllC (msSc S 3 0) n) 1000000 from (if_neg c141).symm) ?_
      refine lv_lstore_n (lv' := [(3, .long (mTop (10000 * mAllF (msSc S 3 0) n / mAllC (msSc S 3 0) n) 1000000)), (1, .long (mAllC (msSc S 3 0) n)), (0, .ref (gA g 17))]) C.1 hb dX1_spread_42 rfl hl (by decide) rfl (fun ls hl => ?_)
      refine lv_aload_n C.1 hb dX1_spread_43 rfl (lv_at hl 2 rfl) ?_
      refine gM_spread C hb hP dX1_spread_44 ?_
      refine lv_lload_n C.1 hb dX1_spread_47 rfl (lv_at hl 0 rfl) ?_
      refine lv_lmul C.1 hb dX1_spread_48 ?_
      refine lv_ldc2 (v := 10000) C.1 hb C.2.1 (C.2.2.1 _ wm_47) dX1_spread_49 ?_
      refine lv_ldiv C.1 hb dX1_spread_52 (by decide) ?_
      refine lv_lstore (lv' := [(5, .long (((mSp (msSc S 3 0)) * (mTop (10000 * mAllF (msSc S 3 0) n / mAllC (msSc S 3 0) n) 1000000)) / 10000)), (3, .long (mTop (10000 * mAllF (msSc S 3 0) n / mAllC (msSc S 3 0) n) 1000000)), (1, .long (mAllC (msSc S 3 0) n)), (0, .ref (gA g 17))]) C.1 hb dX1_spread_53 hl (by decide) rfl (fun ls hl => ?_)
      refine lv_aload_n C.1 hb dX1_spread_55 rfl (lv_at hl 3 rfl) ?_
      refine lv_lload C.1 hb dX1_spread_56 (lv_at hl 0 rfl) ?_
      refine lv_lconst (v := 1) C.1 hb dX1_spread_58 (by decide) ?_
      refine lc_ge (tgt := 67) C hb dX1_spread_59 dX1_spread_60 (by decide) (fun c144 => ?_) (fun c144 => ?_)
      · refine lv_lload C.1 hb dX1_spread_67 (lv_at hl 0 rfl) ?_
        refine lv_ldc2 (v := 1000000) C.1 hb C.2.1 (C.2.2.1 _ wm_325) dX1_spread_69 ?_
        refine lc_le (tgt := 82) C hb dX1_spread_72 dX1_spread_73 (by decide) (fun c145 => ?_) (fun c145 => ?_)
        · refine lv_lload C.1 hb dX1_spread_82 (lv_at hl 0 rfl) ?_
          refine toL (show _ = mSpV (mSp (msSc S 3 0) * mTop (10000 * mAllF (msSc S 3 0) n / mAllC (msSc S 3 0) n) 1000000 / 10000) from ((if_pos c144).trans (if_pos c145)).symm) ?_
          refine pM_spread C hb hP hS dX1_spread_84 (fun H locs hP hS => ?_)
          refine lv_aload_n C.1 hb dX1_spread_87 rfl (lv_at hl 3 rfl) ?_
          refine gM_spread C hb hP dX1_spread_88 ?_
          refine lv_l2i C.1 hb dX1_spread_91 rfl ?_
          exact wrI C hb hret hlk hP hS dX1_spread_92 (by unfold mSpread; rw [if_neg c140]) (by unfold mSpread; rw [if_neg c140])
        · refine lv_ldc2 (v := 1000000) C.1 hb C.2.1 (C.2.2.1 _ wm_325) dX1_spread_76 ?_
          refine lv_goto (tgt := 84) C.1 hb dX1_spread_79 (by decide) ?_
          refine toL (show _ = mSpV (mSp (msSc S 3 0) * mTop (10000 * mAllF (msSc S 3 0) n / mAllC (msSc S 3 0) n) 1000000 / 10000) from ((if_pos c144).trans (if_neg c145)).symm) ?_
          refine pM_spread C hb hP hS dX1_spread_84 (fun H locs hP hS => ?_)
          refine lv_aload_n C.1 hb dX1_spread_87 rfl (lv_at hl 3 rfl) ?_
          refine gM_spread C hb hP dX1_spread_88 ?_
          refine lv_l2i C.1 hb dX1_spread_91 rfl ?_
          exact wrI C hb hret hlk hP hS dX1_spread_92 (by unfold mSpread; rw [if_neg c140]) (by unfold mSpread; rw [if_neg c140])
      · refine lv_lconst (v := 1) C.1 hb dX1_spread_63 (by decide) ?_
        refine lv_goto (tgt := 84) C.1 hb dX1_spread_64 (by decide) ?_
        refine toL (show _ = mSpV (mSp (msSc S 3 0) * mTop (10000 * mAllF (msSc S 3 0) n / mAllC (msSc S 3 0) n) 1000000 / 10000) from (if_neg c144).symm) ?_
        refine pM_spread C hb hP hS dX1_spread_84 (fun H locs hP hS => ?_)
        refine lv_aload_n C.1 hb dX1_spread_87 rfl (lv_at hl 3 rfl) ?_
        refine gM_spread C hb hP dX1_spread_88 ?_
        refine lv_l2i C.1 hb dX1_spread_91 rfl ?_
        exact wrI C hb hret hlk hP hS dX1_spread_92 (by unfold mSpread; rw [if_neg c140]) (by unfold mSpread; rw [if_neg c140])

set_option maxRecDepth 100000 in
set_option maxHeartbeats 4000000 in
theorem k_X1_rows (l : Launch) (g : gG) (S : WS) (n : Nat) (hI : MI n S) : Met l yX1_rows (wA yX1_rows cX1_rows 1 (some .int)) ({ frames := 1, cells := 0, slots := 0, locals := 40 }) (PW g S [.ref (gA g 17)]) (WQ g (msSc S 3 0) (some (.int (nI (mCount (msSc S 3 0) n))))) 0 0 (Ab g) := by
  refine metI (by decide +kernel) (Nat.le_of_ble_eq_true rfl) ?_
  intro p e s m below meth c C hb hml hret hlk hP ls hl
  have C : CW g RX1 p s m ([.ref (gA g 17)] : List Value).toArray := C
  have hS : va_S (Ab g) s.heap s.heap [] := va_S.rf
  have hl : lv_has ls 1 [(0, .ref (gA g 17))] := hl
  refine lv_aload_n C.1 hb dX1_rows_0 rfl (lv_at hl 0 rfl) ?_
  refine lv_iconst (v := 0) C.1 hb dX1_rows_1 (by decide) ?_
  refine pM_last C hb hP hS dX1_rows_2 (fun H locs hP hS => ?_)
  refine lv_aload_n C.1 hb dX1_rows_5 rfl (lv_at hl 0 rfl) ?_
  refine run_rd (cRunM (As := []) (rest := []) C hb (hml.trans hl.1.symm) hP hS rfl (k_X1_count l g (msSc S 3 0) n (MI_last 0 hI)) wm_139 wm_140 wm_141 wm_142 wm_5 (n := 0) (by decide +kernel) rfl ⟨rfl, rfl, Nat.le_of_ble_eq_true rfl, Nat.le_of_ble_eq_true rfl⟩ (Nat.le_of_ble_eq_true rfl) rfl ⟨Nat.zero_le _, Nat.zero_le _⟩ dX1_rows_6) ?_
  exact wrI C hb hret hlk hP hS dX1_rows_9 rfl rfl

set_option maxRecDepth 100000 in
set_option maxHeartbeats 4000000 in
theorem k_X1_base (l : Launch) (g : gG) (S : WS) (n : Nat) (hI : MI n S) : Met l yX1_base (wA yX1_base cX1_base 1 (some .long)) ({ frames := 1, cells := 0, slots := 0, locals := 40 }) (PW g S [.ref (gA g 17)]) (WQ g (msSc S 3 0) (some (.long (mBase (msSc S 3 0) n)))) 0 0 (Ab g) := by
  refine metI (by decide +kernel) (Nat.le_of_ble_eq_true rfl) ?_
  intro p e s m below meth c C hb hml hret hlk hP ls hl
  have C : CW g RX1 p s m ([.ref (gA g 17)] : List Value).toArray := C
  have hS : va_S (Ab g) s.heap s.heap [] := va_S.rf
  have hl : lv_has ls 1 [(0, .ref (gA g 17))] := hl
  refine lv_aload_n C.1 hb dX1_base_0 rfl (lv_at hl 0 rfl) ?_
  refine lv_iconst (v := 0) C.1 hb dX1_base_1 (by decide) ?_
  refine pM_last C hb hP hS dX1_base_2 (fun H locs hP hS => ?_)
  refine lv_aload_n C.1 hb dX1_base_5 rfl (lv_at hl 0 rfl) ?_
  refine run_rd (cRunM (As := []) (rest := []) C hb (hml.trans hl.1.symm) hP hS rfl (k_X1_baseNow l g (msSc S 3 0) n (MI_last 0 hI)) wm_224 wm_225 wm_226 wm_227 wm_5 (n := 0) (by decide +kernel) rfl ⟨rfl, rfl, Nat.le_of_ble_eq_true rfl, Nat.le_of_ble_eq_true rfl⟩ (Nat.le_of_ble_eq_true rfl) rfl ⟨Nat.zero_le _, Nat.zero_le _⟩ dX1_base_6) ?_
  exact wrL C hb hret hlk hP hS dX1_base_9 rfl rfl

set_option maxRecDepth 100000 in
set_option maxHeartbeats 4000000 in
theorem k_X1_lost (l : Launch) (g : gG) (S : WS) (n : Nat) (hI : MI n S) : Met l yX1_lost (wA yX1_lost cX1_lost 1 (some .long)) ({ frames := 4, cells := 0, slots := 0, locals := 160 }) (PW g S [.ref (gA g 17)]) (WQ g (msSc S 3 0) (some (.long (mAllF (msSc S 3 0) n - mAllC (msSc S 3 0) n)))) 0 0 (Ab g) := by
  refine metI (by decide +kernel) (Nat.le_of_ble_eq_true rfl) ?_
  intro p e s m below meth c C hb hml hret hlk hP ls hl
  have C : CW g RX1 p s m ([.ref (gA g 17)] : List Value).toArray := C
  have hS : va_S (Ab g) s.heap s.heap [] := va_S.rf
  have hl : lv_has ls 1 [(0, .ref (gA g 17))] := hl
  refine lv_aload_n C.1 hb dX1_lost_0 rfl (lv_at hl 0 rfl) ?_
  refine lv_iconst (v := 0) C.1 hb dX1_lost_1 (by decide) ?_
  refine pM_last C hb hP hS dX1_lost_2 (fun H locs hP hS => ?_)
  refine lv_aload_n C.1 hb dX1_lost_5 rfl (lv_at hl 0 rfl) ?_
  refine run_rd (cRunM (As := []) (rest := []) C hb (hml.trans hl.1.symm) hP hS rfl (k_X1_allFitted l g (msSc S 3 0) n (MI_last 0 hI)) wm_338 wm_339 wm_340 wm_341 wm_5 (n := 0) (by decide +kernel) rfl ⟨rfl, rfl, Nat.le_of_ble_eq_true rfl, Nat.le_of_ble_eq_true rfl⟩ (Nat.le_of_ble_eq_true rfl) rfl ⟨Nat.zero_le _, Nat.zero_le _⟩ dX1_lost_6) ?_
  refine lv_aload_n C.1 hb dX1_lost_9 rfl (lv_at hl 0 rfl) ?_
  refine run_rd (cRunM (As := []) (rest := [.long (mAllF (msSc S 3 0) n)]) C hb (hml.trans hl.1.symm) hP hS rfl (k_X1_allCapped l g (msSc S 3 0) n (MI_last 0 hI)) wm_326 wm_327 wm_328 wm_329 wm_5 (n := 0) (by decide +kernel) rfl ⟨rfl, rfl, Nat.le_of_ble_eq_true rfl, Nat.le_of_ble_eq_true rfl⟩ (Nat.le_of_ble_eq_true rfl) rfl ⟨Nat.zero_le _, Nat.zero_le _⟩ dX1_lost_10) ?_
  refine lv_lsub C.1 hb dX1_lost_13 ?_
  exact wrL C hb hret hlk hP hS dX1_lost_14 rfl rfl

set_option maxRecDepth 100000 in
set_option maxHeartbeats 4000000 in
theorem k_X1_factor (l : Launch) (g : gG) (S : WS) (t k : Int32) : Met l yX1_factor (wA yX1_factor cX1_factor 3 (some .int)) ({ frames := 3, cells := 0, slots := 0, locals := 100 }) (PW g S [.ref (gA g 17), .int t, .int k]) (WQ g (mGo S (xHasLevel t k) true true) (some (.int (mV_lev S t k (mIa S 6 (4 * tN t + tN k)))))) 0 0 (Ab g) := by
  refine metI (by decide +kernel) (Nat.le_of_ble_eq_true rfl) ?_
  intro p e s m below meth c C hb hml hret hlk hP ls hl
  have C : CW g RX1 p s m ([.ref (gA g 17), .int t, .int k] : List Value).toArray := C
  have hS : va_S (Ab g) s.heap s.heap [] := va_S.rf
  have hl : lv_has ls 3 [(0, .ref (gA g 17)), (1, .int t), (2, .int k)] := hl
  refine lv_aload_n C.1 hb dX1_factor_0 rfl (lv_at hl 0 rfl) ?_
  refine lv_iload_n C.1 hb dX1_factor_1 rfl (lv_at hl 1 rfl) ?_
  refine lv_iload_n C.1 hb dX1_factor_2 rfl (lv_at hl 2 rfl) ?_
  refine run_rd (cRunS (As := [.int t, .int k]) (rest := [.ref (gA g 17)]) C hb (hml.trans hl.1.symm) hP hS (k_X1_isLevel l g S t k) wm_96 wm_97 wm_98 wm_5 (n := 2) (by decide +kernel) rfl ⟨rfl, rfl, Nat.le_of_ble_eq_true rfl, Nat.le_of_ble_eq_true rfl⟩ (Nat.le_of_ble_eq_true rfl) rfl ⟨Nat.zero_le _, Nat.zero_le _⟩ dX1_factor_3) ?_
  refine lv_iconst (v := 1) C.1 hb dX1_factor_6 (by decide) ?_
  refine lv_iconst (v := 1) C.1 hb dX1_factor_7 (by decide) ?_
  refine run_wr (cRunM (As := [.int (bI (xHasLevel t k)), .int 1, .int 1]) (rest := []) C hb (hml.trans hl.1.symm) hP hS rfl (k_X1_goes l g S (xHasLevel t k) true true) wm_108 wm_109 wm_110 wm_111 wm_5 (n := 3) (by decide +kernel) rfl ⟨rfl, rfl, Nat.le_of_ble_eq_true rfl, Nat.le_of_ble_eq_true rfl⟩ (Nat.le_of_ble_eq_true rfl) rfl ⟨Nat.zero_le _, Nat.zero_le _⟩ dX1_factor_8) hS (fun H locs hP hS => ?_)
  refine toI (congrArg bI (Bool.and_true _)) ?_
  refine bz_eq (tgt := 27) C hb dX1_factor_11 (by decide) (fun c146 => ?_) (fun c146 => ?_)
  · rw [c146] at hP
    refine lv_iconst (v := 0) C.1 hb dX1_factor_27 (by decide) ?_
    exact wrI C hb hret hlk hP hS dX1_factor_28 (by unfold mV_lev; rw [c146]; rfl) (by rw [c146])
  · rw [c146] at hP
    have hx := xHasLevel_ix c146
    have ht1 := hx.1.1
    have ht2 := hx.1.2
    have hk1 := hx.2.1
    have hk2 := hx.2.2
    have h4 := levN_4 (tN t)
    refine lv_aload_n C.1 hb dX1_factor_14 rfl (lv_at hl 0 rfl) ?_
    refine gM_factors C hb hP dX1_factor_15 ?_
    refine lv_iconst (v := 4) C.1 hb dX1_factor_18 (by decide) ?_
    refine lv_iload_n C.1 hb dX1_factor_19 rfl (lv_at hl 1 rfl) ?_
    refine toI ht1 ?_
    refine lv_imul C.1 hb dX1_factor_20 ?_
    refine lv_iload_n C.1 hb dX1_factor_21 rfl (lv_at hl 2 rfl) ?_
    refine toI hk1 ?_
    refine lv_iadd C.1 hb dX1_factor_22 ?_
    refine ldM_factors (j := (4 * (tN t) + (tN k))) C hb hP (ix4 (tN t) (tN k)) (by omega) dX1_factor_23 ?_
    refine lv_goto (tgt := 28) C.1 hb dX1_factor_24 (by decide) ?_
    exact wrI C hb hret hlk hP hS dX1_factor_28 (by unfold mV_lev; rw [c146]; rfl) (by rw [c146])

set_option maxRecDepth 100000 in
set_option maxHeartbeats 4000000 in
theorem k_X1_fitted (l : Launch) (g : gG) (S : WS) (n : Nat) (hI : MI n S) (r : Int32) : Met l yX1_fitted (wA yX1_fitted cX1_fitted 2 (some .long)) ({ frames := 2, cells := 0, slots := 0, locals := 100 }) (PW g S [.ref (gA g 17), .int r]) (WQ g (mGo S (mRow S r) true true) (some (.long (mV_rowL S r (mFit (mGo S true true true) (mBase (mGo S true true true) n) (tN r)))))) 0 0 (Ab g) := by
  refine metI (by decide +kernel) (Nat.le_of_ble_eq_true rfl) ?_
  intro p e s m below meth c C hb hml hret hlk hP ls hl
  have C : CW g RX1 p s m ([.ref (gA g 17), .int r] : List Value).toArray := C
  have hS : va_S (Ab g) s.heap s.heap [] := va_S.rf
  have hl : lv_has ls 2 [(0, .ref (gA g 17)), (1, .int r)] := hl
  refine lv_aload_n C.1 hb dX1_fitted_0 rfl (lv_at hl 0 rfl) ?_
  refine lv_aload_n C.1 hb dX1_fitted_1 rfl (lv_at hl 0 rfl) ?_
  refine lv_iload_n C.1 hb dX1_fitted_2 rfl (lv_at hl 1 rfl) ?_
  refine run_rd (cRunM (As := [.int r]) (rest := [.ref (gA g 17)]) C hb (hml.trans hl.1.symm) hP hS rfl (k_X1_isRow l g S n hI r) wm_135 wm_136 wm_137 wm_138 wm_5 (n := 1) (by decide +kernel) rfl ⟨rfl, rfl, Nat.le_of_ble_eq_true rfl, Nat.le_of_ble_eq_true rfl⟩ (Nat.le_of_ble_eq_true rfl) rfl ⟨Nat.zero_le _, Nat.zero_le _⟩ dX1_fitted_3) ?_
  refine lv_iconst (v := 1) C.1 hb dX1_fitted_6 (by decide) ?_
  refine lv_iconst (v := 1) C.1 hb dX1_fitted_7 (by decide) ?_
  refine run_wr (cRunM (As := [.int (bI (mRow S r)), .int 1, .int 1]) (rest := []) C hb (hml.trans hl.1.symm) hP hS rfl (k_X1_goes l g S (mRow S r) true true) wm_108 wm_109 wm_110 wm_111 wm_5 (n := 3) (by decide +kernel) rfl ⟨rfl, rfl, Nat.le_of_ble_eq_true rfl, Nat.le_of_ble_eq_true rfl⟩ (Nat.le_of_ble_eq_true rfl) rfl ⟨Nat.zero_le _, Nat.zero_le _⟩ dX1_fitted_8) hS (fun H locs hP hS => ?_)
  refine toI (congrArg bI (Bool.and_true _)) ?_
  refine bz_eq (tgt := 26) C hb dX1_fitted_11 (by decide) (fun c147 => ?_) (fun c147 => ?_)
  · rw [c147] at hP
    refine lv_lconst (v := 0) C.1 hb dX1_fitted_26 (by decide) ?_
    exact wrL C hb hret hlk hP hS dX1_fitted_27 (by unfold mV_rowL; rw [c147]; rfl) (by rw [c147])
  · rw [c147] at hP
    have hx := mRow_ix hI.1 hI.2.1 c147
    have hx1 := hx.1.1
    have hx2 := hx.1.2
    have hn40 := hI.1
    refine lv_aload_n C.1 hb dX1_fitted_14 rfl (lv_at hl 0 rfl) ?_
    refine lv_iload_n C.1 hb dX1_fitted_15 rfl (lv_at hl 1 rfl) ?_
    refine toI hx1 ?_
    refine lv_aload_n C.1 hb dX1_fitted_16 rfl (lv_at hl 0 rfl) ?_
    refine run_rd (cRunM (As := []) (rest := [.int (nI (tN r)), .ref (gA g 17)]) C hb (hml.trans hl.1.symm) hP hS rfl (k_X1_baseNow l g (mGo S true true true) n (MI_go true true true hI)) wm_224 wm_225 wm_226 wm_227 wm_5 (n := 0) (by decide +kernel) rfl ⟨rfl, rfl, Nat.le_of_ble_eq_true rfl, Nat.le_of_ble_eq_true rfl⟩ (Nat.le_of_ble_eq_true rfl) rfl ⟨Nat.zero_le _, Nat.zero_le _⟩ dX1_fitted_17) ?_
    refine run_rd (cRunM (As := [.int (nI (tN r)), .long (mBase (mGo S true true true) n)]) (rest := []) C hb (hml.trans hl.1.symm) hP hS rfl (k_X1_fit l g (mGo S true true true) n (MI_go true true true hI) (tN r) hx2 (mBase (mGo S true true true) n)) wm_232 wm_233 wm_234 wm_235 wm_5 (n := 2) (by decide +kernel) rfl ⟨rfl, rfl, Nat.le_of_ble_eq_true rfl, Nat.le_of_ble_eq_true rfl⟩ (Nat.le_of_ble_eq_true rfl) rfl ⟨Nat.zero_le _, Nat.zero_le _⟩ dX1_fitted_20) ?_
    refine lv_goto (tgt := 27) C.1 hb dX1_fitted_23 (by decide) ?_
    exact wrL C hb hret hlk hP hS dX1_fitted_27 (by unfold mV_rowL; rw [c147]; rfl) (by rw [c147])

set_option maxRecDepth 100000 in
set_option maxHeartbeats 4000000 in
theorem k_X1_toldSum (l : Launch) (g : gG) (S : WS) (n : Nat) (hI : MI n S) (t k : Int32) : Met l yX1_toldSum (wA yX1_toldSum cX1_toldSum 3 (some .long)) ({ frames := 3, cells := 0, slots := 0, locals := 120 }) (PW g S [.ref (gA g 17), .int t, .int k]) (WQ g (mGo S (xHasLevel t k) true true) (some (.long (mV_levL t k (mSumL (mGo S true true true) n (tN t) k 3))))) 0 0 (Ab g) := by
  refine metI (by decide +kernel) (Nat.le_of_ble_eq_true rfl) ?_
  intro p e s m below meth c C hb hml hret hlk hP ls hl
  have C : CW g RX1 p s m ([.ref (gA g 17), .int t, .int k] : List Value).toArray := C
  have hS : va_S (Ab g) s.heap s.heap [] := va_S.rf
  have hl : lv_has ls 3 [(0, .ref (gA g 17)), (1, .int t), (2, .int k)] := hl
  refine lv_aload_n C.1 hb dX1_toldSum_0 rfl (lv_at hl 0 rfl) ?_
  refine lv_iload_n C.1 hb dX1_toldSum_1 rfl (lv_at hl 1 rfl) ?_
  refine lv_iload_n C.1 hb dX1_toldSum_2 rfl (lv_at hl 2 rfl) ?_
  refine run_rd (cRunS (As := [.int t, .int k]) (rest := [.ref (gA g 17)]) C hb (hml.trans hl.1.symm) hP hS (k_X1_isLevel l g S t k) wm_96 wm_97 wm_98 wm_5 (n := 2) (by decide +kernel) rfl ⟨rfl, rfl, Nat.le_of_ble_eq_true rfl, Nat.le_of_ble_eq_true rfl⟩ (Nat.le_of_ble_eq_true rfl) rfl ⟨Nat.zero_le _, Nat.zero_le _⟩ dX1_toldSum_3) ?_
  refine lv_iconst (v := 1) C.1 hb dX1_toldSum_6 (by decide) ?_
  refine lv_iconst (v := 1) C.1 hb dX1_toldSum_7 (by decide) ?_
  refine run_wr (cRunM (As := [.int (bI (xHasLevel t k)), .int 1, .int 1]) (rest := []) C hb (hml.trans hl.1.symm) hP hS rfl (k_X1_goes l g S (xHasLevel t k) true true) wm_108 wm_109 wm_110 wm_111 wm_5 (n := 3) (by decide +kernel) rfl ⟨rfl, rfl, Nat.le_of_ble_eq_true rfl, Nat.le_of_ble_eq_true rfl⟩ (Nat.le_of_ble_eq_true rfl) rfl ⟨Nat.zero_le _, Nat.zero_le _⟩ dX1_toldSum_8) hS (fun H locs hP hS => ?_)
  refine toI (congrArg bI (Bool.and_true _)) ?_
  refine bz_eq (tgt := 23) C hb dX1_toldSum_11 (by decide) (fun c148 => ?_) (fun c148 => ?_)
  · rw [c148] at hP
    refine lv_lconst (v := 0) C.1 hb dX1_toldSum_23 (by decide) ?_
    exact wrL C hb hret hlk hP hS dX1_toldSum_24 (by unfold mV_levL; rw [c148]; rfl) (by rw [c148])
  · rw [c148] at hP
    have hx := xHasLevel_ix c148
    have ht1 := hx.1.1
    have ht2 := hx.1.2
    have hk1 := hx.2.1
    have hk2 := hx.2.2
    have h4 := levN_4 (tN t)
    refine lv_aload_n C.1 hb dX1_toldSum_14 rfl (lv_at hl 0 rfl) ?_
    refine lv_iload_n C.1 hb dX1_toldSum_15 rfl (lv_at hl 1 rfl) ?_
    refine toI ht1 ?_
    refine lv_iload_n C.1 hb dX1_toldSum_16 rfl (lv_at hl 2 rfl) ?_
    refine run_rd (cRunM (As := [.int (nI (tN t)), .int k]) (rest := []) C hb (hml.trans hl.1.symm) hP hS rfl (k_X1_told l g (mGo S true true true) n (MI_go true true true hI) (tN t) ht2 k) wm_240 wm_241 wm_242 wm_243 wm_5 (n := 2) (by decide +kernel) rfl ⟨rfl, rfl, Nat.le_of_ble_eq_true rfl, Nat.le_of_ble_eq_true rfl⟩ (Nat.le_of_ble_eq_true rfl) rfl ⟨Nat.zero_le _, Nat.zero_le _⟩ dX1_toldSum_17) ?_
    refine lv_goto (tgt := 24) C.1 hb dX1_toldSum_20 (by decide) ?_
    exact wrL C hb hret hlk hP hS dX1_toldSum_24 (by unfold mV_levL; rw [c148]; rfl) (by rw [c148])

set_option maxRecDepth 100000 in
set_option maxHeartbeats 4000000 in
theorem k_X1_fittedSum (l : Launch) (g : gG) (S : WS) (n : Nat) (hI : MI n S) (t k : Int32) : Met l yX1_fittedSum (wA yX1_fittedSum cX1_fittedSum 3 (some .long)) ({ frames := 3, cells := 0, slots := 0, locals := 120 }) (PW g S [.ref (gA g 17), .int t, .int k]) (WQ g (mGo S (xHasLevel t k) true true) (some (.long (mV_levL t k (mFitO (mGo S true true true) n (tN t) k))))) 0 0 (Ab g) := by
  refine metI (by decide +kernel) (Nat.le_of_ble_eq_true rfl) ?_
  intro p e s m below meth c C hb hml hret hlk hP ls hl
  have C : CW g RX1 p s m ([.ref (gA g 17), .int t, .int k] : List Value).toArray := C
  have hS : va_S (Ab g) s.heap s.heap [] := va_S.rf
  have hl : lv_has ls 3 [(0, .ref (gA g 17)), (1, .int t), (2, .int k)] := hl
  refine lv_aload_n C.1 hb dX1_fittedSum_0 rfl (lv_at hl 0 rfl) ?_
  refine lv_iload_n C.1 hb dX1_fittedSum_1 rfl (lv_at hl 1 rfl) ?_
  refine lv_iload_n C.1 hb dX1_fittedSum_2 rfl (lv_at hl 2 rfl) ?_
  refine run_rd (cRunS (As := [.int t, .int k]) (rest := [.ref (gA g 17)]) C hb (hml.trans hl.1.symm) hP hS (k_X1_isLevel l g S t k) wm_96 wm_97 wm_98 wm_5 (n := 2) (by decide +kernel) rfl ⟨rfl, rfl, Nat.le_of_ble_eq_true rfl, Nat.le_of_ble_eq_true rfl⟩ (Nat.le_of_ble_eq_true rfl) rfl ⟨Nat.zero_le _, Nat.zero_le _⟩ dX1_fittedSum_3) ?_
  refine lv_iconst (v := 1) C.1 hb dX1_fittedSum_6 (by decide) ?_
  refine lv_iconst (v := 1) C.1 hb dX1_fittedSum_7 (by decide) ?_
  refine run_wr (cRunM (As := [.int (bI (xHasLevel t k)), .int 1, .int 1]) (rest := []) C hb (hml.trans hl.1.symm) hP hS rfl (k_X1_goes l g S (xHasLevel t k) true true) wm_108 wm_109 wm_110 wm_111 wm_5 (n := 3) (by decide +kernel) rfl ⟨rfl, rfl, Nat.le_of_ble_eq_true rfl, Nat.le_of_ble_eq_true rfl⟩ (Nat.le_of_ble_eq_true rfl) rfl ⟨Nat.zero_le _, Nat.zero_le _⟩ dX1_fittedSum_8) hS (fun H locs hP hS => ?_)
  refine toI (congrArg bI (Bool.and_true _)) ?_
  refine bz_eq (tgt := 23) C hb dX1_fittedSum_11 (by decide) (fun c149 => ?_) (fun c149 => ?_)
  · rw [c149] at hP
    refine lv_lconst (v := 0) C.1 hb dX1_fittedSum_23 (by decide) ?_
    exact wrL C hb hret hlk hP hS dX1_fittedSum_24 (by unfold mV_levL; rw [c149]; rfl) (by rw [c149])
  · rw [c149] at hP
    have hx := xHasLevel_ix c149
    have ht1 := hx.1.1
    have ht2 := hx.1.2
    have hk1 := hx.2.1
    have hk2 := hx.2.2
    have h4 := levN_4 (tN t)
    refine lv_aload_n C.1 hb dX1_fittedSum_14 rfl (lv_at hl 0 rfl) ?_
    refine lv_iload_n C.1 hb dX1_fittedSum_15 rfl (lv_at hl 1 rfl) ?_
    refine toI ht1 ?_
    refine lv_iload_n C.1 hb dX1_fittedSum_16 rfl (lv_at hl 2 rfl) ?_
    refine run_rd (cRunM (As := [.int (nI (tN t)), .int k]) (rest := []) C hb (hml.trans hl.1.symm) hP hS rfl (k_X1_fittedOf l g (mGo S true true true) n (MI_go true true true hI) (tN t) ht2 k) wm_220 wm_221 wm_222 wm_223 wm_5 (n := 2) (by decide +kernel) rfl ⟨rfl, rfl, Nat.le_of_ble_eq_true rfl, Nat.le_of_ble_eq_true rfl⟩ (Nat.le_of_ble_eq_true rfl) rfl ⟨Nat.zero_le _, Nat.zero_le _⟩ dX1_fittedSum_17) ?_
    refine lv_goto (tgt := 24) C.1 hb dX1_fittedSum_20 (by decide) ?_
    exact wrL C hb hret hlk hP hS dX1_fittedSum_24 (by unfold mV_levL; rw [c149]; rfl) (by rw [c149])

set_option maxRecDepth 100000 in
set_option maxHeartbeats 4000000 in
theorem k_X1_premium (l : Launch) (g : gG) (S : WS) (n : Nat) (hI : MI n S) (r : Int32) : Met l yX1_premium (wA yX1_premium cX1_premium 2 (some .long)) ({ frames := 3, cells := 0, slots := 0, locals := 140 }) (PW g S [.ref (gA g 17), .int r]) (WQ g (mGo S (mRow S r) true true) (some (.long (mV_rowL S r (mPrem (mGo S true true true) n (tN r)))))) 0 0 (Ab g) := by
  refine metI (by decide +kernel) (Nat.le_of_ble_eq_true rfl) ?_
  intro p e s m below meth c C hb hml hret hlk hP ls hl
  have C : CW g RX1 p s m ([.ref (gA g 17), .int r] : List Value).toArray := C
  have hS : va_S (Ab g) s.heap s.heap [] := va_S.rf
  have hl : lv_has ls 2 [(0, .ref (gA g 17)), (1, .int r)] := hl
  refine lv_aload_n C.1 hb dX1_premium_0 rfl (lv_at hl 0 rfl) ?_
  refine lv_aload_n C.1 hb dX1_premium_1 rfl (lv_at hl 0 rfl) ?_
  refine lv_iload_n C.1 hb dX1_premium_2 rfl (lv_at hl 1 rfl) ?_
  refine run_rd (cRunM (As := [.int r]) (rest := [.ref (gA g 17)]) C hb (hml.trans hl.1.symm) hP hS rfl (k_X1_isRow l g S n hI r) wm_135 wm_136 wm_137 wm_138 wm_5 (n := 1) (by decide +kernel) rfl ⟨rfl, rfl, Nat.le_of_ble_eq_true rfl, Nat.le_of_ble_eq_true rfl⟩ (Nat.le_of_ble_eq_true rfl) rfl ⟨Nat.zero_le _, Nat.zero_le _⟩ dX1_premium_3) ?_
  refine lv_iconst (v := 1) C.1 hb dX1_premium_6 (by decide) ?_
  refine lv_iconst (v := 1) C.1 hb dX1_premium_7 (by decide) ?_
  refine run_wr (cRunM (As := [.int (bI (mRow S r)), .int 1, .int 1]) (rest := []) C hb (hml.trans hl.1.symm) hP hS rfl (k_X1_goes l g S (mRow S r) true true) wm_108 wm_109 wm_110 wm_111 wm_5 (n := 3) (by decide +kernel) rfl ⟨rfl, rfl, Nat.le_of_ble_eq_true rfl, Nat.le_of_ble_eq_true rfl⟩ (Nat.le_of_ble_eq_true rfl) rfl ⟨Nat.zero_le _, Nat.zero_le _⟩ dX1_premium_8) hS (fun H locs hP hS => ?_)
  refine toI (congrArg bI (Bool.and_true _)) ?_
  refine bz_eq (tgt := 22) C hb dX1_premium_11 (by decide) (fun c150 => ?_) (fun c150 => ?_)
  · rw [c150] at hP
    refine lv_lconst (v := 0) C.1 hb dX1_premium_22 (by decide) ?_
    exact wrL C hb hret hlk hP hS dX1_premium_23 (by unfold mV_rowL; rw [c150]; rfl) (by rw [c150])
  · rw [c150] at hP
    have hx := mRow_ix hI.1 hI.2.1 c150
    have hx1 := hx.1.1
    have hx2 := hx.1.2
    have hn40 := hI.1
    refine lv_aload_n C.1 hb dX1_premium_14 rfl (lv_at hl 0 rfl) ?_
    refine lv_iload_n C.1 hb dX1_premium_15 rfl (lv_at hl 1 rfl) ?_
    refine toI hx1 ?_
    refine run_rd (cRunM (As := [.int (nI (tN r))]) (rest := []) C hb (hml.trans hl.1.symm) hP hS rfl (k_X1_premiumOf l g (mGo S true true true) n (MI_go true true true hI) (tN r) hx2) wm_334 wm_335 wm_336 wm_337 wm_5 (n := 1) (by decide +kernel) rfl ⟨rfl, rfl, Nat.le_of_ble_eq_true rfl, Nat.le_of_ble_eq_true rfl⟩ (Nat.le_of_ble_eq_true rfl) rfl ⟨Nat.zero_le _, Nat.zero_le _⟩ dX1_premium_16) ?_
    refine lv_goto (tgt := 23) C.1 hb dX1_premium_19 (by decide) ?_
    exact wrL C hb hret hlk hP hS dX1_premium_23 (by unfold mV_rowL; rw [c150]; rfl) (by rw [c150])

set_option maxRecDepth 100000 in
set_option maxHeartbeats 4000000 in
theorem k_X1_capped (l : Launch) (g : gG) (S : WS) (n : Nat) (hI : MI n S) (r : Int32) : Met l yX1_capped (wA yX1_capped cX1_capped 2 (some .long)) ({ frames := 3, cells := 0, slots := 0, locals := 140 }) (PW g S [.ref (gA g 17), .int r]) (WQ g (mGo S (mRow S r) true true) (some (.long (mV_rowL S r (mCap (mGo S true true true) n (tN r)))))) 0 0 (Ab g) := by
  refine metI (by decide +kernel) (Nat.le_of_ble_eq_true rfl) ?_
  intro p e s m below meth c C hb hml hret hlk hP ls hl
  have C : CW g RX1 p s m ([.ref (gA g 17), .int r] : List Value).toArray := C
  have hS : va_S (Ab g) s.heap s.heap [] := va_S.rf
  have hl : lv_has ls 2 [(0, .ref (gA g 17)), (1, .int r)] := hl
  refine lv_aload_n C.1 hb dX1_capped_0 rfl (lv_at hl 0 rfl) ?_
  refine lv_aload_n C.1 hb dX1_capped_1 rfl (lv_at hl 0 rfl) ?_
  refine lv_iload_n C.1 hb dX1_capped_2 rfl (lv_at hl 1 rfl) ?_
  refine run_rd (cRunM (As := [.int r]) (rest := [.ref (gA g 17)]) C hb (hml.trans hl.1.symm) hP hS rfl (k_X1_isRow l g S n hI r) wm_135 wm_136 wm_137 wm_138 wm_5 (n := 1) (by decide +kernel) rfl ⟨rfl, rfl, Nat.le_of_ble_eq_true rfl, Nat.le_of_ble_eq_true rfl⟩ (Nat.le_of_ble_eq_true rfl) rfl ⟨Nat.zero_le _, Nat.zero_le _⟩ dX1_capped_3) ?_
  refine lv_iconst (v := 1) C.1 hb dX1_capped_6 (by decide) ?_
  refine lv_iconst (v := 1) C.1 hb dX1_capped_7 (by decide) ?_
  refine run_wr (cRunM (As := [.int (bI (mRow S r)), .int 1, .int 1]) (rest := []) C hb (hml.trans hl.1.symm) hP hS rfl (k_X1_goes l g S (mRow S r) true true) wm_108 wm_109 wm_110 wm_111 wm_5 (n := 3) (by decide +kernel) rfl ⟨rfl, rfl, Nat.le_of_ble_eq_true rfl, Nat.le_of_ble_eq_true rfl⟩ (Nat.le_of_ble_eq_true rfl) rfl ⟨Nat.zero_le _, Nat.zero_le _⟩ dX1_capped_8) hS (fun H locs hP hS => ?_)
  refine toI (congrArg bI (Bool.and_true _)) ?_
  refine bz_eq (tgt := 22) C hb dX1_capped_11 (by decide) (fun c151 => ?_) (fun c151 => ?_)
  · rw [c151] at hP
    refine lv_lconst (v := 0) C.1 hb dX1_capped_22 (by decide) ?_
    exact wrL C hb hret hlk hP hS dX1_capped_23 (by unfold mV_rowL; rw [c151]; rfl) (by rw [c151])
  · rw [c151] at hP
    have hx := mRow_ix hI.1 hI.2.1 c151
    have hx1 := hx.1.1
    have hx2 := hx.1.2
    have hn40 := hI.1
    refine lv_aload_n C.1 hb dX1_capped_14 rfl (lv_at hl 0 rfl) ?_
    refine lv_iload_n C.1 hb dX1_capped_15 rfl (lv_at hl 1 rfl) ?_
    refine toI hx1 ?_
    refine run_rd (cRunM (As := [.int (nI (tN r))]) (rest := []) C hb (hml.trans hl.1.symm) hP hS rfl (k_X1_cappedOf l g (mGo S true true true) n (MI_go true true true hI) (tN r) hx2) wm_330 wm_331 wm_332 wm_333 wm_5 (n := 1) (by decide +kernel) rfl ⟨rfl, rfl, Nat.le_of_ble_eq_true rfl, Nat.le_of_ble_eq_true rfl⟩ (Nat.le_of_ble_eq_true rfl) rfl ⟨Nat.zero_le _, Nat.zero_le _⟩ dX1_capped_16) ?_
    refine lv_goto (tgt := 23) C.1 hb dX1_capped_19 (by decide) ?_
    exact wrL C hb hret hlk hP hS dX1_capped_23 (by unfold mV_rowL; rw [c151]; rfl) (by rw [c151])

set_option maxRecDepth 100000 in
set_option maxHeartbeats 4000000 in
theorem k_X1_worst (l : Launch) (g : gG) (S : WS) (n : Nat) (hI : MI n S) (t : Int32) : Met l yX1_worst (wA yX1_worst cX1_worst 8 (some .long)) ({ frames := 3, cells := 0, slots := 0, locals := 120 }) (PW g S [.ref (gA g 17), .int t]) (WQ g (mGo S (xHasTrait t) true true) (some (.long (mV_trL t (mWorst (mGo S true true true) n (tN t) (levN (tN t))))))) 0 0 (Ab g) := by
  refine metI (by decide +kernel) (Nat.le_of_ble_eq_true rfl) ?_
  intro p e s m below meth c C hb hml hret hlk hP ls hl
  have C : CW g RX1 p s m ([.ref (gA g 17), .int t] : List Value).toArray := C
  have hS : va_S (Ab g) s.heap s.heap [] := va_S.rf
  have hl : lv_has ls 8 [(0, .ref (gA g 17)), (1, .int t)] := hl
  refine lv_lconst (v := 0) C.1 hb dX1_worst_0 (by decide) ?_
  refine lv_lstore_n (lv' := [(2, .long 0), (0, .ref (gA g 17)), (1, .int t)]) C.1 hb dX1_worst_1 rfl hl (by decide) rfl (fun ls hl => ?_)
  refine lv_aload_n C.1 hb dX1_worst_2 rfl (lv_at hl 1 rfl) ?_
  refine lv_iload_n C.1 hb dX1_worst_3 rfl (lv_at hl 2 rfl) ?_
  refine run_rd (cRunS (As := [.int t]) (rest := [.ref (gA g 17)]) C hb (hml.trans hl.1.symm) hP hS (k_X1_isTrait l g S t) wm_99 wm_100 wm_101 wm_5 (n := 1) (by decide +kernel) rfl ⟨rfl, rfl, Nat.le_of_ble_eq_true rfl, Nat.le_of_ble_eq_true rfl⟩ (Nat.le_of_ble_eq_true rfl) rfl ⟨Nat.zero_le _, Nat.zero_le _⟩ dX1_worst_4) ?_
  refine lv_iconst (v := 1) C.1 hb dX1_worst_7 (by decide) ?_
  refine lv_iconst (v := 1) C.1 hb dX1_worst_8 (by decide) ?_
  refine run_wr (cRunM (As := [.int (bI (xHasTrait t)), .int 1, .int 1]) (rest := []) C hb (hml.trans hl.1.symm) hP hS rfl (k_X1_goes l g S (xHasTrait t) true true) wm_108 wm_109 wm_110 wm_111 wm_5 (n := 3) (by decide +kernel) rfl ⟨rfl, rfl, Nat.le_of_ble_eq_true rfl, Nat.le_of_ble_eq_true rfl⟩ (Nat.le_of_ble_eq_true rfl) rfl ⟨Nat.zero_le _, Nat.zero_le _⟩ dX1_worst_9) hS (fun H locs hP hS => ?_)
  refine toI (congrArg bI (Bool.and_true _)) ?_
  rcases Bool.eq_false_or_eq_true (xHasTrait t) with hB | hB
  · have hx := xHasTrait_ix hB
    have ht1 := hx.1
    have ht2 := hx.2
    rw [hB] at hP
    have h4 := levN_4 (tN t)
    refine toI (show bI (xHasTrait t) = 1 by rw [hB]; rfl) ?_
    refine lv_istore (lv' := [(4, .int 1), (2, .long 0), (0, .ref (gA g 17)), (1, .int t)]) C.1 hb dX1_worst_12 hl (by decide) rfl (fun ls hl => ?_)
    refine lv_iconst (v := 0) C.1 hb dX1_worst_14 (by decide) ?_
    refine lv_istore (lv' := [(5, .int 0), (4, .int 1), (2, .long 0), (0, .ref (gA g 17)), (1, .int t)]) C.1 hb dX1_worst_15 hl (by decide) rfl (fun ls hl => ?_)
    have key : ∀ f i : Nat, levN (tN t) - i < f → i ≤ levN (tN t) → ∀ (H : Heap) (locs : List Loc), HW g (mGo S true true true) H → va_S (Ab g) s.heap H locs → ∀ ls : Array Slot, lv_has ls 8 [(0, .ref (gA g 17)), (1, .int t), (2, .long (mWorst (mGo S true true true) n (tN t) i)), (4, .int 1), (5, .int (nI i))] → W p l e ({ frames := 3, cells := 0, slots := 0, locals := 120 }) s m ([.ref (gA g 17), .int t] : List Value).toArray below meth c H locs 0 0 (MQ below (WQ g (mGo S (xHasTrait t) true true) (some (.long (mV_trL t (mWorst (mGo S true true true) n (tN t) (levN (tN t))))))) ([.ref (gA g 17), .int t] : List Value).toArray s 0 0 (Ab g)) (F0 m 17 ls []) := by
      intro f
      induction f with
      | zero => intro i h; exact absurd h (Nat.not_lt_zero _)
      | succ f ih =>
        intro i hfi hi  H locs hP hS ls hl
        refine lv_iload C.1 hb dX1_worst_17 (lv_at hl 3 rfl) ?_
        refine lv_if_eq (tgt := 85) C.1 hb dX1_worst_19 (by decide) (fun c152 => ?_) (fun c152 => ?_)
        · exact absurd c152 (show ¬ (1 : Int32) = 0 by decide)
        · refine lv_iload C.1 hb dX1_worst_22 (lv_at hl 4 rfl) ?_
          refine lv_iload_n C.1 hb dX1_worst_24 rfl (lv_at hl 1 rfl) ?_
          refine toI ht1 ?_
          refine run_rd (cRunS (As := [.int (nI (tN t))]) (rest := [.int (nI i)]) C hb (hml.trans hl.1.symm) hP hS (k_X1_levelsOf l g (mGo S true true true) (tN t) ht2) wm_105 wm_106 wm_107 wm_5 (n := 1) (by decide +kernel) rfl ⟨rfl, rfl, Nat.le_of_ble_eq_true rfl, Nat.le_of_ble_eq_true rfl⟩ (Nat.le_of_ble_eq_true rfl) rfl ⟨Nat.zero_le _, Nat.zero_le _⟩ dX1_worst_25) ?_
          refine lv_icmp_ge (tgt := 85) C.1 hb dX1_worst_28 (by decide) (fun c153 => ?_) (fun c153 => ?_)
          · have hin : i = levN (tN t) := by have := le_nI (a := levN (tN t)) (b := i) (by omega) (by omega) c153; omega
            rw [hin] at hl
            refine lv_lload_n C.1 hb dX1_worst_85 rfl (lv_at hl 2 rfl) ?_
            exact wrL C hb hret hlk hP hS dX1_worst_86 (by unfold mV_trL; rw [hB]; rfl) (by rw [hB])
          · have hlt : i < levN (tN t) := nle_nI (a := levN (tN t)) (b := i) (by omega) (by omega) c153
            refine lv_aload_n C.1 hb dX1_worst_31 rfl (lv_at hl 0 rfl) ?_
            refine lv_iload_n C.1 hb dX1_worst_32 rfl (lv_at hl 1 rfl) ?_
            refine toI ht1 ?_
            refine lv_iload C.1 hb dX1_worst_33 (lv_at hl 4 rfl) ?_
            refine run_rd (cRunM (As := [.int (nI (tN t)), .int (nI i)]) (rest := []) C hb (hml.trans hl.1.symm) hP hS rfl (k_X1_told l g (mGo S true true true) n (MI_go true true true hI) (tN t) ht2 (nI i)) wm_240 wm_241 wm_242 wm_243 wm_5 (n := 2) (by decide +kernel) rfl ⟨rfl, rfl, Nat.le_of_ble_eq_true rfl, Nat.le_of_ble_eq_true rfl⟩ (Nat.le_of_ble_eq_true rfl) rfl ⟨Nat.zero_le _, Nat.zero_le _⟩ dX1_worst_35) ?_
            refine lv_aload_n C.1 hb dX1_worst_38 rfl (lv_at hl 0 rfl) ?_
            refine lv_iload_n C.1 hb dX1_worst_39 rfl (lv_at hl 1 rfl) ?_
            refine toI ht1 ?_
            refine lv_iload C.1 hb dX1_worst_40 (lv_at hl 4 rfl) ?_
            refine run_rd (cRunM (As := [.int (nI (tN t)), .int (nI i)]) (rest := [.long (mSumL (mGo S true true true) n (tN t) (nI i) 3)]) C hb (hml.trans hl.1.symm) hP hS rfl (k_X1_fittedOf l g (mGo S true true true) n (MI_go true true true hI) (tN t) ht2 (nI i)) wm_220 wm_221 wm_222 wm_223 wm_5 (n := 2) (by decide +kernel) rfl ⟨rfl, rfl, Nat.le_of_ble_eq_true rfl, Nat.le_of_ble_eq_true rfl⟩ (Nat.le_of_ble_eq_true rfl) rfl ⟨Nat.zero_le _, Nat.zero_le _⟩ dX1_worst_42) ?_
            refine lv_lsub C.1 hb dX1_worst_45 ?_
            refine lv_lstore (lv' := [(6, .long ((mSumL (mGo S true true true) n (tN t) (nI i) 3) - (mFitO (mGo S true true true) n (tN t) (nI i)))), (0, .ref (gA g 17)), (1, .int t), (2, .long (mWorst (mGo S true true true) n (tN t) i)), (4, .int 1), (5, .int (nI i))]) C.1 hb dX1_worst_46 hl (by decide) rfl (fun ls hl => ?_)
            refine lv_lload C.1 hb dX1_worst_48 (lv_at hl 0 rfl) ?_
            refine lv_lconst (v := 0) C.1 hb dX1_worst_50 (by decide) ?_
            refine lc_ge (tgt := 61) C hb dX1_worst_51 dX1_worst_52 (by decide) (fun c154 => ?_) (fun c154 => ?_)
            · refine lv_lload C.1 hb dX1_worst_61 (lv_at hl 0 rfl) ?_
              refine toL (show _ = mAbs (mSumL (mGo S true true true) n (tN t) (nI i) 3 - mFitO (mGo S true true true) n (tN t) (nI i)) from (if_pos c154).symm) ?_
              refine lv_lstore (lv' := [(6, .long (mAbs (mSumL (mGo S true true true) n (tN t) (nI i) 3 - mFitO (mGo S true true true) n (tN t) (nI i)))), (0, .ref (gA g 17)), (1, .int t), (2, .long (mWorst (mGo S true true true) n (tN t) i)), (4, .int 1), (5, .int (nI i))]) C.1 hb dX1_worst_63 hl (by decide) rfl (fun ls hl => ?_)
              refine lv_lload C.1 hb dX1_worst_65 (lv_at hl 0 rfl) ?_
              refine lv_lload_n C.1 hb dX1_worst_67 rfl (lv_at hl 3 rfl) ?_
              refine lc_le (tgt := 77) C hb dX1_worst_68 dX1_worst_69 (by decide) (fun c155 => ?_) (fun c155 => ?_)
              · refine lv_lload_n C.1 hb dX1_worst_77 rfl (lv_at hl 3 rfl) ?_
                refine toL (show _ = mGrt (mWorst (mGo S true true true) n (tN t) i) (mAbs (mSumL (mGo S true true true) n (tN t) (nI i) 3 - mFitO (mGo S true true true) n (tN t) (nI i))) from (if_pos c155).symm) ?_
                refine lv_lstore_n (lv' := [(2, .long (mGrt (mWorst (mGo S true true true) n (tN t) i) (mAbs (mSumL (mGo S true true true) n (tN t) (nI i) 3 - mFitO (mGo S true true true) n (tN t) (nI i))))), (6, .long (mAbs (mSumL (mGo S true true true) n (tN t) (nI i) 3 - mFitO (mGo S true true true) n (tN t) (nI i)))), (0, .ref (gA g 17)), (1, .int t), (4, .int 1), (5, .int (nI i))]) C.1 hb dX1_worst_78 rfl hl (by decide) rfl (fun ls hl => ?_)
                refine lv_iinc (v := nI (i + 1)) (lv' := [(5, .int (nI (i + 1))), (2, .long (mGrt (mWorst (mGo S true true true) n (tN t) i) (mAbs (mSumL (mGo S true true true) n (tN t) (nI i) 3 - mFitO (mGo S true true true) n (tN t) (nI i))))), (6, .long (mAbs (mSumL (mGo S true true true) n (tN t) (nI i) 3 - mFitO (mGo S true true true) n (tN t) (nI i)))), (0, .ref (gA g 17)), (1, .int t), (4, .int 1)]) C.1 hb dX1_worst_79 hl (k := 5) rfl (nI_1 i) (by decide) rfl (fun ls hl => ?_)
                refine lv_goto (tgt := 17) C.1 hb dX1_worst_82 (by decide) ?_
                exact ih (i + 1) (by omega) (by omega)  _ _ hP hS ls (lv_sub hl [3, 4, 1, 5, 0] rfl)
              · refine lv_lload C.1 hb dX1_worst_72 (lv_at hl 0 rfl) ?_
                refine lv_goto (tgt := 78) C.1 hb dX1_worst_74 (by decide) ?_
                refine toL (show _ = mGrt (mWorst (mGo S true true true) n (tN t) i) (mAbs (mSumL (mGo S true true true) n (tN t) (nI i) 3 - mFitO (mGo S true true true) n (tN t) (nI i))) from (if_neg c155).symm) ?_
                refine lv_lstore_n (lv' := [(2, .long (mGrt (mWorst (mGo S true true true) n (tN t) i) (mAbs (mSumL (mGo S true true true) n (tN t) (nI i) 3 - mFitO (mGo S true true true) n (tN t) (nI i))))), (6, .long (mAbs (mSumL (mGo S true true true) n (tN t) (nI i) 3 - mFitO (mGo S true true true) n (tN t) (nI i)))), (0, .ref (gA g 17)), (1, .int t), (4, .int 1), (5, .int (nI i))]) C.1 hb dX1_worst_78 rfl hl (by decide) rfl (fun ls hl => ?_)
                refine lv_iinc (v := nI (i + 1)) (lv' := [(5, .int (nI (i + 1))), (2, .long (mGrt (mWorst (mGo S true true true) n (tN t) i) (mAbs (mSumL (mGo S true true true) n (tN t) (nI i) 3 - mFitO (mGo S true true true) n (tN t) (nI i))))), (6, .long (mAbs (mSumL (mGo S true true true) n (tN t) (nI i) 3 - mFitO (mGo S true true true) n (tN t) (nI i)))), (0, .ref (gA g 17)), (1, .int t), (4, .int 1)]) C.1 hb dX1_worst_79 hl (k := 5) rfl (nI_1 i) (by decide) rfl (fun ls hl => ?_)
                refine lv_goto (tgt := 17) C.1 hb dX1_worst_82 (by decide) ?_
                exact ih (i + 1) (by omega) (by omega)  _ _ hP hS ls (lv_sub hl [3, 4, 1, 5, 0] rfl)
            · refine lv_lload C.1 hb dX1_worst_55 (lv_at hl 0 rfl) ?_
              refine lv_lneg C.1 hb dX1_worst_57 ?_
              refine lv_goto (tgt := 63) C.1 hb dX1_worst_58 (by decide) ?_
              refine toL (show _ = mAbs (mSumL (mGo S true true true) n (tN t) (nI i) 3 - mFitO (mGo S true true true) n (tN t) (nI i)) from (if_neg c154).symm) ?_
              refine lv_lstore (lv' := [(6, .long (mAbs (mSumL (mGo S true true true) n (tN t) (nI i) 3 - mFitO (mGo S true true true) n (tN t) (nI i)))), (0, .ref (gA g 17)), (1, .int t), (2, .long (mWorst (mGo S true true true) n (tN t) i)), (4, .int 1), (5, .int (nI i))]) C.1 hb dX1_worst_63 hl (by decide) rfl (fun ls hl => ?_)
              refine lv_lload C.1 hb dX1_worst_65 (lv_at hl 0 rfl) ?_
              refine lv_lload_n C.1 hb dX1_worst_67 rfl (lv_at hl 3 rfl) ?_
              refine lc_le (tgt := 77) C hb dX1_worst_68 dX1_worst_69 (by decide) (fun c156 => ?_) (fun c156 => ?_)
              · refine lv_lload_n C.1 hb dX1_worst_77 rfl (lv_at hl 3 rfl) ?_
                refine toL (show _ = mGrt (mWorst (mGo S true true true) n (tN t) i) (mAbs (mSumL (mGo S true true true) n (tN t) (nI i) 3 - mFitO (mGo S true true true) n (tN t) (nI i))) from (if_pos c156).symm) ?_
                refine lv_lstore_n (lv' := [(2, .long (mGrt (mWorst (mGo S true true true) n (tN t) i) (mAbs (mSumL (mGo S true true true) n (tN t) (nI i) 3 - mFitO (mGo S true true true) n (tN t) (nI i))))), (6, .long (mAbs (mSumL (mGo S true true true) n (tN t) (nI i) 3 - mFitO (mGo S true true true) n (tN t) (nI i)))), (0, .ref (gA g 17)), (1, .int t), (4, .int 1), (5, .int (nI i))]) C.1 hb dX1_worst_78 rfl hl (by decide) rfl (fun ls hl => ?_)
                refine lv_iinc (v := nI (i + 1)) (lv' := [(5, .int (nI (i + 1))), (2, .long (mGrt (mWorst (mGo S true true true) n (tN t) i) (mAbs (mSumL (mGo S true true true) n (tN t) (nI i) 3 - mFitO (mGo S true true true) n (tN t) (nI i))))), (6, .long (mAbs (mSumL (mGo S true true true) n (tN t) (nI i) 3 - mFitO (mGo S true true true) n (tN t) (nI i)))), (0, .ref (gA g 17)), (1, .int t), (4, .int 1)]) C.1 hb dX1_worst_79 hl (k := 5) rfl (nI_1 i) (by decide) rfl (fun ls hl => ?_)
                refine lv_goto (tgt := 17) C.1 hb dX1_worst_82 (by decide) ?_
                exact ih (i + 1) (by omega) (by omega)  _ _ hP hS ls (lv_sub hl [3, 4, 1, 5, 0] rfl)
              · refine lv_lload C.1 hb dX1_worst_72 (lv_at hl 0 rfl) ?_
                refine lv_goto (tgt := 78) C.1 hb dX1_worst_74 (by decide) ?_
                refine toL (show _ = mGrt (mWorst (mGo S true true true) n (tN t) i) (mAbs (mSumL (mGo S true true true) n (tN t) (nI i) 3 - mFitO (mGo S true true true) n (tN t) (nI i))) from (if_neg c156).symm) ?_
                refine lv_lstore_n (lv' := [(2, .long (mGrt (mWorst (mGo S true true true) n (tN t) i) (mAbs (mSumL (mGo S true true true) n (tN t) (nI i) 3 - mFitO (mGo S true true true) n (tN t) (nI i))))), (6, .long (mAbs (mSumL (mGo S true true true) n (tN t) (nI i) 3 - mFitO (mGo S true true true) n (tN t) (nI i)))), (0, .ref (gA g 17)), (1, .int t), (4, .int 1), (5, .int (nI i))]) C.1 hb dX1_worst_78 rfl hl (by decide) rfl (fun ls hl => ?_)
                refine lv_iinc (v := nI (i + 1)) (lv' := [(5, .int (nI (i + 1))), (2, .long (mGrt (mWorst (mGo S true true true) n (tN t) i) (mAbs (mSumL (mGo S true true true) n (tN t) (nI i) 3 - mFitO (mGo S true true true) n (tN t) (nI i))))), (6, .long (mAbs (mSumL (mGo S true true true) n (tN t) (nI i) 3 - mFitO (mGo S true true true) n (tN t) (nI i)))), (0, .ref (gA g 17)), (1, .int t), (4, .int 1)]) C.1 hb dX1_worst_79 hl (k := 5) rfl (nI_1 i) (by decide) rfl (fun ls hl => ?_)
                refine lv_goto (tgt := 17) C.1 hb dX1_worst_82 (by decide) ?_
                exact ih (i + 1) (by omega) (by omega)  _ _ hP hS ls (lv_sub hl [3, 4, 1, 5, 0] rfl)
    exact key (levN (tN t) - 0 + 1) 0 (by omega) (by omega)  _ _ hP hS ls (lv_sub hl [3, 4, 2, 1, 0] rfl)
  · refine toI (show bI (xHasTrait t) = 0 by rw [hB]; rfl) ?_
    refine lv_istore (lv' := [(4, .int 0), (2, .long 0), (0, .ref (gA g 17)), (1, .int t)]) C.1 hb dX1_worst_12 hl (by decide) rfl (fun ls hl => ?_)
    refine lv_iconst (v := 0) C.1 hb dX1_worst_14 (by decide) ?_
    refine lv_istore (lv' := [(5, .int 0), (4, .int 0), (2, .long 0), (0, .ref (gA g 17)), (1, .int t)]) C.1 hb dX1_worst_15 hl (by decide) rfl (fun ls hl => ?_)
    refine lv_iload C.1 hb dX1_worst_17 (lv_at hl 1 rfl) ?_
    refine lv_if_eq (tgt := 85) C.1 hb dX1_worst_19 (by decide) (fun c157 => ?_) (fun c157 => ?_)
    · refine lv_lload_n C.1 hb dX1_worst_85 rfl (lv_at hl 2 rfl) ?_
      exact wrL C hb hret hlk hP hS dX1_worst_86 (by unfold mV_trL; rw [hB]; rfl) rfl
    · exact absurd (show (0 : Int32) = 0 from rfl) c157

set_option maxRecDepth 100000 in
set_option maxHeartbeats 4000000 in
theorem k_X1_ranked (l : Launch) (g : gG) (S : WS) (n : Nat) (hI : MI n S) (q : Int32) : Met l yX1_ranked (wA yX1_ranked cX1_ranked 7 (some .int)) ({ frames := 2, cells := 0, slots := 0, locals := 80 }) (PW g S [.ref (gA g 17), .int q]) (RQ (some (.int (mRank S n q)))) 0 0 (fun _ => False) := by
  refine metI (by decide +kernel) (Nat.le_of_ble_eq_true rfl) ?_
  intro p e s m below meth c C hb hml hret hlk hP ls hl
  have C : CW g RX1 p s m ([.ref (gA g 17), .int q] : List Value).toArray := C
  have hS : va_S (Ab g) s.heap s.heap [] := va_S.rf
  have hl : lv_has ls 7 [(0, .ref (gA g 17)), (1, .int q)] := hl
  refine lv_aload_n C.1 hb dX1_ranked_0 rfl (lv_at hl 0 rfl) ?_
  refine run_rd (cRunM (As := []) (rest := []) C hb (hml.trans hl.1.symm) hP hS rfl (k_X1_baseNow l g S n hI) wm_224 wm_225 wm_226 wm_227 wm_5 (n := 0) (by decide +kernel) rfl ⟨rfl, rfl, Nat.le_of_ble_eq_true rfl, Nat.le_of_ble_eq_true rfl⟩ (Nat.le_of_ble_eq_true rfl) rfl ⟨Nat.zero_le _, Nat.zero_le _⟩ dX1_ranked_1) ?_
  refine lv_lstore_n (lv' := [(2, .long (mBase S n)), (0, .ref (gA g 17)), (1, .int q)]) C.1 hb dX1_ranked_4 rfl hl (by decide) rfl (fun ls hl => ?_)
  refine lv_iconst (v := 0) C.1 hb dX1_ranked_5 (by decide) ?_
  refine lv_istore (lv' := [(4, .int 0), (2, .long (mBase S n)), (0, .ref (gA g 17)), (1, .int q)]) C.1 hb dX1_ranked_6 hl (by decide) rfl (fun ls hl => ?_)
  have key : ∀ f i : Nat, n - i < f → i ≤ n → (mRankF S n (mBase S n) q (n - i) i = mRank S n q) → ∀ ls : Array Slot, lv_has ls 7 [(0, .ref (gA g 17)), (1, .int q), (2, .long (mBase S n)), (4, .int (nI i))] → W p l e ({ frames := 2, cells := 0, slots := 0, locals := 80 }) s m ([.ref (gA g 17), .int q] : List Value).toArray below meth c s.heap [] 0 0 (MQ below (RQ (some (.int (mRank S n q)))) ([.ref (gA g 17), .int q] : List Value).toArray s 0 0 (fun _ => False)) (F0 m 8 ls []) := by
    intro f
    induction f with
    | zero => intro i h; exact absurd h (Nat.not_lt_zero _)
    | succ f ih =>
      intro i hfi hi heq ls hl
      refine lv_iload C.1 hb dX1_ranked_8 (lv_at hl 3 rfl) ?_
      refine lv_aload_n C.1 hb dX1_ranked_10 rfl (lv_at hl 0 rfl) ?_
      refine gM_rows C hb hP dX1_ranked_11 ?_
      refine lv_icmp_ge (tgt := 112) C.1 hb dX1_ranked_14 (by decide) (fun c158 => ?_) (fun c158 => ?_)
      · have hin : i = n := by have := le_nI (a := n) (b := i) (by have := hI.1; omega) (by have := hI.1; omega) (by rw [← hI.2.1]; exact c158); omega
        rw [hin] at hl
        refine lv_iconst (v := (-1)) C.1 hb dX1_ranked_112 (by decide) ?_
        exact rdI C hb hret hlk dX1_ranked_113 (by rw [← heq, hin, Nat.sub_self]; rfl)
      · have hlti : i < n := nle_nI (a := n) (b := i) (by have := hI.1; omega) (by have := hI.1; omega) (by rw [← hI.2.1]; exact c158)
        have hn40 := hI.1
        have hd : n - i = (n - (i + 1)) + 1 := by omega
        rw [hd] at heq
        refine lv_iconst (v := 0) C.1 hb dX1_ranked_17 (by decide) ?_
        refine lv_istore (lv' := [(5, .int 0), (0, .ref (gA g 17)), (1, .int q), (2, .long (mBase S n)), (4, .int (nI i))]) C.1 hb dX1_ranked_18 hl (by decide) rfl (fun ls hl => ?_)
        refine lv_iconst (v := 0) C.1 hb dX1_ranked_20 (by decide) ?_
        refine lv_istore (lv' := [(6, .int 0), (5, .int 0), (0, .ref (gA g 17)), (1, .int q), (2, .long (mBase S n)), (4, .int (nI i))]) C.1 hb dX1_ranked_21 hl (by decide) rfl (fun ls hl => ?_)
        by_cases hg : mIa S 5 i = 0
        · have key2 : ∀ f j : Nat, n - j < f → j ≤ n → ∀ ls : Array Slot, lv_has ls 7 [(0, .ref (gA g 17)), (1, .int q), (2, .long (mBase S n)), (4, .int (nI i)), (5, .int (nI (xCnt (mRkP S (mBase S n) i) j))), (6, .int (nI j))] → W p l e ({ frames := 2, cells := 0, slots := 0, locals := 80 }) s m ([.ref (gA g 17), .int q] : List Value).toArray below meth c s.heap [] 0 0 (MQ below (RQ (some (.int (mRank S n q)))) ([.ref (gA g 17), .int q] : List Value).toArray s 0 0 (fun _ => False)) (F0 m 23 ls []) := by
            intro f
            induction f with
            | zero => intro j h; exact absurd h (Nat.not_lt_zero _)
            | succ f ih2 =>
              intro j hfj hj  ls hl
              refine lv_iload C.1 hb dX1_ranked_23 (lv_at hl 5 rfl) ?_
              refine lv_aload_n C.1 hb dX1_ranked_25 rfl (lv_at hl 0 rfl) ?_
              refine gM_rows C hb hP dX1_ranked_26 ?_
              refine lv_icmp_ge (tgt := 87) C.1 hb dX1_ranked_29 (by decide) (fun c159 => ?_) (fun c159 => ?_)
              · have hin : j = n := by have := le_nI (a := n) (b := j) (by have := hI.1; omega) (by have := hI.1; omega) (by rw [← hI.2.1]; exact c159); omega
                rw [hin] at hl
                refine lv_aload_n C.1 hb dX1_ranked_87 rfl (lv_at hl 0 rfl) ?_
                refine gM_gone C hb hP dX1_ranked_88 ?_
                refine lv_iload C.1 hb dX1_ranked_91 (lv_at hl 3 rfl) ?_
                refine ldM_gone (j := i) C hb hP rfl (by omega) dX1_ranked_93 ?_
                refine lv_if_ne (tgt := 106) C.1 hb dX1_ranked_94 (by decide) (fun c160 => ?_) (fun c160 => ?_)
                · exact absurd hg c160
                · refine lv_iload C.1 hb dX1_ranked_97 (lv_at hl 4 rfl) ?_
                  refine lv_iload_n C.1 hb dX1_ranked_99 rfl (lv_at hl 1 rfl) ?_
                  refine lv_icmp_ne (tgt := 106) C.1 hb dX1_ranked_100 (by decide) (fun c161 => ?_) (fun c161 => ?_)
                  · refine lv_iinc (v := nI (i + 1)) (lv' := [(4, .int (nI (i + 1))), (0, .ref (gA g 17)), (1, .int q), (2, .long (mBase S n)), (5, .int (nI (xCnt (mRkP S (mBase S n) i) n))), (6, .int (nI n))]) C.1 hb dX1_ranked_106 hl (k := 3) rfl (nI_1 i) (by decide) rfl (fun ls hl => ?_)
                    refine lv_goto (tgt := 8) C.1 hb dX1_ranked_109 (by decide) ?_
                    exact ih (i + 1) (by omega) (by omega) (((if_pos hg).trans (if_neg c161)).symm.trans heq) ls (lv_sub hl [1, 2, 3, 0] rfl)
                  · refine lv_iload C.1 hb dX1_ranked_103 (lv_at hl 3 rfl) ?_
                    exact rdI C hb hret hlk dX1_ranked_105 (by rw [← heq]; exact ((if_pos hg).trans (if_pos c161)).symm)
              · have hltj : j < n := nle_nI (a := n) (b := j) (by have := hI.1; omega) (by have := hI.1; omega) (by rw [← hI.2.1]; exact c159)
                have hn40 := hI.1
                refine lv_aload_n C.1 hb dX1_ranked_32 rfl (lv_at hl 0 rfl) ?_
                refine gM_gone C hb hP dX1_ranked_33 ?_
                refine lv_iload C.1 hb dX1_ranked_36 (lv_at hl 3 rfl) ?_
                refine ldM_gone (j := i) C hb hP rfl (by omega) dX1_ranked_38 ?_
                refine lv_if_ne (tgt := 87) C.1 hb dX1_ranked_39 (by decide) (fun c162 => ?_) (fun c162 => ?_)
                · exact absurd hg c162
                · refine lv_iload C.1 hb dX1_ranked_42 (lv_at hl 4 rfl) ?_
                  refine lv_aload_n C.1 hb dX1_ranked_44 rfl (lv_at hl 0 rfl) ?_
                  refine gM_gone C hb hP dX1_ranked_45 ?_
                  refine lv_iload C.1 hb dX1_ranked_48 (lv_at hl 5 rfl) ?_
                  refine ldM_gone (j := j) C hb hP rfl (by omega) dX1_ranked_50 ?_
                  refine lv_if_ne (tgt := 77) C.1 hb dX1_ranked_51 (by decide) (fun c163 => ?_) (fun c163 => ?_)
                  · refine lv_iconst (v := 0) C.1 hb dX1_ranked_77 (by decide) ?_
                    refine lv_iadd C.1 hb dX1_ranked_78 ?_
                    refine toI (Int32.add_zero _) ?_
                    refine lv_istore (lv' := [(5, .int (nI (xCnt (mRkP S (mBase S n) i) j))), (0, .ref (gA g 17)), (1, .int q), (2, .long (mBase S n)), (4, .int (nI i)), (6, .int (nI j))]) C.1 hb dX1_ranked_79 hl (by decide) rfl (fun ls hl => ?_)
                    refine lv_iinc (v := nI (j + 1)) (lv' := [(6, .int (nI (j + 1))), (5, .int (nI (xCnt (mRkP S (mBase S n) i) j))), (0, .ref (gA g 17)), (1, .int q), (2, .long (mBase S n)), (4, .int (nI i))]) C.1 hb dX1_ranked_81 hl (k := 5) rfl (nI_1 j) (by decide) rfl (fun ls hl => ?_)
                    refine lv_goto (tgt := 23) C.1 hb dX1_ranked_84 (by decide) ?_
                    exact ih2 (j + 1) (by omega) (by omega)  ls (by rw [xCnt_f (show mRkP S (mBase S n) i j = false by simp [mRkP, c163])]; exact lv_sub hl [2, 3, 4, 5, 1, 0] rfl)
                  · refine lv_iload C.1 hb dX1_ranked_54 (lv_at hl 5 rfl) ?_
                    refine lv_iload C.1 hb dX1_ranked_56 (lv_at hl 3 rfl) ?_
                    refine lv_icmp_eq (tgt := 77) C.1 hb dX1_ranked_58 (by decide) (fun c164 => ?_) (fun c164 => ?_)
                    · refine lv_iconst (v := 0) C.1 hb dX1_ranked_77 (by decide) ?_
                      refine lv_iadd C.1 hb dX1_ranked_78 ?_
                      refine toI (Int32.add_zero _) ?_
                      refine lv_istore (lv' := [(5, .int (nI (xCnt (mRkP S (mBase S n) i) j))), (0, .ref (gA g 17)), (1, .int q), (2, .long (mBase S n)), (4, .int (nI i)), (6, .int (nI j))]) C.1 hb dX1_ranked_79 hl (by decide) rfl (fun ls hl => ?_)
                      refine lv_iinc (v := nI (j + 1)) (lv' := [(6, .int (nI (j + 1))), (5, .int (nI (xCnt (mRkP S (mBase S n) i) j))), (0, .ref (gA g 17)), (1, .int q), (2, .long (mBase S n)), (4, .int (nI i))]) C.1 hb dX1_ranked_81 hl (k := 5) rfl (nI_1 j) (by decide) rfl (fun ls hl => ?_)
                      refine lv_goto (tgt := 23) C.1 hb dX1_ranked_84 (by decide) ?_
                      exact ih2 (j + 1) (by omega) (by omega)  ls (by rw [xCnt_f (show mRkP S (mBase S n) i j = false by simp [mRkP, c164])]; exact lv_sub hl [2, 3, 4, 5, 1, 0] rfl)
                    · refine lv_aload_n C.1 hb dX1_ranked_61 rfl (lv_at hl 0 rfl) ?_
                      refine lv_iload C.1 hb dX1_ranked_62 (lv_at hl 5 rfl) ?_
                      refine lv_iload C.1 hb dX1_ranked_64 (lv_at hl 3 rfl) ?_
                      refine lv_lload_n C.1 hb dX1_ranked_66 rfl (lv_at hl 2 rfl) ?_
                      refine run_rd (cRunM (As := [.int (nI j), .int (nI i), .long (mBase S n)]) (rest := [.int (nI (xCnt (mRkP S (mBase S n) i) j))]) C hb (hml.trans hl.1.symm) hP hS rfl (k_X1_isAhead l g S n hI j i hltj hlti (mBase S n)) wm_469 wm_470 wm_471 wm_472 wm_5 (n := 3) (by decide +kernel) rfl ⟨rfl, rfl, Nat.le_of_ble_eq_true rfl, Nat.le_of_ble_eq_true rfl⟩ (Nat.le_of_ble_eq_true rfl) rfl ⟨Nat.zero_le _, Nat.zero_le _⟩ dX1_ranked_67) ?_
                      refine bz_eq (tgt := 77) C hb dX1_ranked_70 (by decide) (fun c165 => ?_) (fun c165 => ?_)
                      · refine lv_iconst (v := 0) C.1 hb dX1_ranked_77 (by decide) ?_
                        refine lv_iadd C.1 hb dX1_ranked_78 ?_
                        refine toI (Int32.add_zero _) ?_
                        refine lv_istore (lv' := [(5, .int (nI (xCnt (mRkP S (mBase S n) i) j))), (0, .ref (gA g 17)), (1, .int q), (2, .long (mBase S n)), (4, .int (nI i)), (6, .int (nI j))]) C.1 hb dX1_ranked_79 hl (by decide) rfl (fun ls hl => ?_)
                        refine lv_iinc (v := nI (j + 1)) (lv' := [(6, .int (nI (j + 1))), (5, .int (nI (xCnt (mRkP S (mBase S n) i) j))), (0, .ref (gA g 17)), (1, .int q), (2, .long (mBase S n)), (4, .int (nI i))]) C.1 hb dX1_ranked_81 hl (k := 5) rfl (nI_1 j) (by decide) rfl (fun ls hl => ?_)
                        refine lv_goto (tgt := 23) C.1 hb dX1_ranked_84 (by decide) ?_
                        exact ih2 (j + 1) (by omega) (by omega)  ls (by rw [xCnt_f (show mRkP S (mBase S n) i j = false by simp [mRkP, c165])]; exact lv_sub hl [2, 3, 4, 5, 1, 0] rfl)
                      · refine lv_iconst (v := 1) C.1 hb dX1_ranked_73 (by decide) ?_
                        refine lv_goto (tgt := 78) C.1 hb dX1_ranked_74 (by decide) ?_
                        refine lv_iadd C.1 hb dX1_ranked_78 ?_
                        refine toI (nI_1 _) ?_
                        refine lv_istore (lv' := [(5, .int (nI (xCnt (mRkP S (mBase S n) i) j + 1))), (0, .ref (gA g 17)), (1, .int q), (2, .long (mBase S n)), (4, .int (nI i)), (6, .int (nI j))]) C.1 hb dX1_ranked_79 hl (by decide) rfl (fun ls hl => ?_)
                        refine lv_iinc (v := nI (j + 1)) (lv' := [(6, .int (nI (j + 1))), (5, .int (nI (xCnt (mRkP S (mBase S n) i) j + 1))), (0, .ref (gA g 17)), (1, .int q), (2, .long (mBase S n)), (4, .int (nI i))]) C.1 hb dX1_ranked_81 hl (k := 5) rfl (nI_1 j) (by decide) rfl (fun ls hl => ?_)
                        refine lv_goto (tgt := 23) C.1 hb dX1_ranked_84 (by decide) ?_
                        exact ih2 (j + 1) (by omega) (by omega)  ls (by rw [xCnt_t (show mRkP S (mBase S n) i j = true by simp [mRkP, c163, c164, c165])]; exact lv_sub hl [2, 3, 4, 5, 1, 0] rfl)
          exact key2 (n - 0 + 1) 0 (by omega) (by omega)  ls (lv_sub hl [2, 3, 4, 5, 1, 0] rfl)
        · refine lv_iload C.1 hb dX1_ranked_23 (lv_at hl 0 rfl) ?_
          refine lv_aload_n C.1 hb dX1_ranked_25 rfl (lv_at hl 2 rfl) ?_
          refine gM_rows C hb hP dX1_ranked_26 ?_
          refine lv_icmp_ge (tgt := 87) C.1 hb dX1_ranked_29 (by decide) (fun c166 => ?_) (fun c166 => ?_)
          · refine lv_aload_n C.1 hb dX1_ranked_87 rfl (lv_at hl 2 rfl) ?_
            refine gM_gone C hb hP dX1_ranked_88 ?_
            refine lv_iload C.1 hb dX1_ranked_91 (lv_at hl 5 rfl) ?_
            refine ldM_gone (j := i) C hb hP rfl (by omega) dX1_ranked_93 ?_
            refine lv_if_ne (tgt := 106) C.1 hb dX1_ranked_94 (by decide) (fun c167 => ?_) (fun c167 => ?_)
            · refine lv_iinc (v := nI (i + 1)) (lv' := [(4, .int (nI (i + 1))), (6, .int 0), (5, .int 0), (0, .ref (gA g 17)), (1, .int q), (2, .long (mBase S n))]) C.1 hb dX1_ranked_106 hl (k := 5) rfl (nI_1 i) (by decide) rfl (fun ls hl => ?_)
              refine lv_goto (tgt := 8) C.1 hb dX1_ranked_109 (by decide) ?_
              exact ih (i + 1) (by omega) (by omega) ((if_neg hg).symm.trans heq) ls (lv_sub hl [3, 4, 5, 0] rfl)
            · exact absurd c167 hg
          · refine lv_aload_n C.1 hb dX1_ranked_32 rfl (lv_at hl 2 rfl) ?_
            refine gM_gone C hb hP dX1_ranked_33 ?_
            refine lv_iload C.1 hb dX1_ranked_36 (lv_at hl 5 rfl) ?_
            refine ldM_gone (j := i) C hb hP rfl (by omega) dX1_ranked_38 ?_
            refine lv_if_ne (tgt := 87) C.1 hb dX1_ranked_39 (by decide) (fun c168 => ?_) (fun c168 => ?_)
            · refine lv_aload_n C.1 hb dX1_ranked_87 rfl (lv_at hl 2 rfl) ?_
              refine gM_gone C hb hP dX1_ranked_88 ?_
              refine lv_iload C.1 hb dX1_ranked_91 (lv_at hl 5 rfl) ?_
              refine ldM_gone (j := i) C hb hP rfl (by omega) dX1_ranked_93 ?_
              refine lv_if_ne (tgt := 106) C.1 hb dX1_ranked_94 (by decide) (fun c169 => ?_) (fun c169 => ?_)
              · refine lv_iinc (v := nI (i + 1)) (lv' := [(4, .int (nI (i + 1))), (6, .int 0), (5, .int 0), (0, .ref (gA g 17)), (1, .int q), (2, .long (mBase S n))]) C.1 hb dX1_ranked_106 hl (k := 5) rfl (nI_1 i) (by decide) rfl (fun ls hl => ?_)
                refine lv_goto (tgt := 8) C.1 hb dX1_ranked_109 (by decide) ?_
                exact ih (i + 1) (by omega) (by omega) ((if_neg hg).symm.trans heq) ls (lv_sub hl [3, 4, 5, 0] rfl)
              · exact absurd c169 hg
            · exact absurd c168 hg
  exact key (n - 0 + 1) 0 (by omega) (by omega) rfl ls (lv_sub hl [2, 3, 1, 0] rfl)

set_option maxRecDepth 100000 in
set_option maxHeartbeats 4000000 in
theorem k_X1_rankedAt (l : Launch) (g : gG) (S : WS) (n : Nat) (hI : MI n S) (q : Int32) : Met l yX1_rankedAt (wA yX1_rankedAt cX1_rankedAt 3 (some .int)) ({ frames := 3, cells := 0, slots := 0, locals := 120 }) (PW g S [.ref (gA g 17), .int q]) (WQ g (mGo S (!decide (mPlace S n q = -1)) true true) (some (.int (mV_rank S n q)))) 0 0 (Ab g) := by
  refine metI (by decide +kernel) (Nat.le_of_ble_eq_true rfl) ?_
  intro p e s m below meth c C hb hml hret hlk hP ls hl
  have C : CW g RX1 p s m ([.ref (gA g 17), .int q] : List Value).toArray := C
  have hS : va_S (Ab g) s.heap s.heap [] := va_S.rf
  have hl : lv_has ls 3 [(0, .ref (gA g 17)), (1, .int q)] := hl
  refine lv_iload_n C.1 hb dX1_rankedAt_0 rfl (lv_at hl 1 rfl) ?_
  refine lv_if_ge (tgt := 8) C.1 hb dX1_rankedAt_1 (by decide) (fun c170 => ?_) (fun c170 => ?_)
  · refine lv_aload_n C.1 hb dX1_rankedAt_8 rfl (lv_at hl 0 rfl) ?_
    refine lv_iload_n C.1 hb dX1_rankedAt_9 rfl (lv_at hl 1 rfl) ?_
    refine run_rd (cRunM (As := [.int q]) (rest := []) C hb (hml.trans hl.1.symm) hP hS rfl (k_X1_ranked l g S n hI q) wm_465 wm_466 wm_467 wm_468 wm_5 (n := 1) (by decide +kernel) rfl ⟨rfl, rfl, Nat.le_of_ble_eq_true rfl, Nat.le_of_ble_eq_true rfl⟩ (Nat.le_of_ble_eq_true rfl) rfl ⟨Nat.zero_le _, Nat.zero_le _⟩ dX1_rankedAt_10) ?_
    refine toI (show _ = mPlace S n q from (if_pos c170).symm) ?_
    refine lv_istore_n (lv' := [(2, .int (mPlace S n q)), (0, .ref (gA g 17)), (1, .int q)]) C.1 hb dX1_rankedAt_13 rfl hl (by decide) rfl (fun ls hl => ?_)
    refine lv_aload_n C.1 hb dX1_rankedAt_14 rfl (lv_at hl 1 rfl) ?_
    refine lv_iload_n C.1 hb dX1_rankedAt_15 rfl (lv_at hl 0 rfl) ?_
    refine lv_iconst (v := (-1)) C.1 hb dX1_rankedAt_16 (by decide) ?_
    refine lv_icmp_eq (tgt := 24) C.1 hb dX1_rankedAt_17 (by decide) (fun c171 => ?_) (fun c171 => ?_)
    · refine lv_iconst (v := 0) C.1 hb dX1_rankedAt_24 (by decide) ?_
      refine lv_iconst (v := 1) C.1 hb dX1_rankedAt_25 (by decide) ?_
      refine lv_iconst (v := 1) C.1 hb dX1_rankedAt_26 (by decide) ?_
      refine run_wr (cRunM (As := [.int 0, .int 1, .int 1]) (rest := []) C hb (hml.trans hl.1.symm) hP hS rfl (k_X1_goes l g S false true true) wm_108 wm_109 wm_110 wm_111 wm_5 (n := 3) (by decide +kernel) rfl ⟨rfl, rfl, Nat.le_of_ble_eq_true rfl, Nat.le_of_ble_eq_true rfl⟩ (Nat.le_of_ble_eq_true rfl) rfl ⟨Nat.zero_le _, Nat.zero_le _⟩ dX1_rankedAt_27) hS (fun H locs hP hS => ?_)
      refine toI (congrArg bI (Bool.and_true _)) ?_
      refine bz_eq (tgt := 37) C hb dX1_rankedAt_30 (by decide) (fun c172 => ?_) (fun c172 => ?_)
      · refine lv_iconst (v := 0) C.1 hb dX1_rankedAt_37 (by decide) ?_
        exact wrI C hb hret hlk hP hS dX1_rankedAt_38 (by unfold mV_rank; rw [if_pos c171]) (by rw [decide_eq_true c171]; rfl)
      · exact absurd c172 (by decide)
    · refine lv_iconst (v := 1) C.1 hb dX1_rankedAt_20 (by decide) ?_
      refine lv_goto (tgt := 25) C.1 hb dX1_rankedAt_21 (by decide) ?_
      refine lv_iconst (v := 1) C.1 hb dX1_rankedAt_25 (by decide) ?_
      refine lv_iconst (v := 1) C.1 hb dX1_rankedAt_26 (by decide) ?_
      refine run_wr (cRunM (As := [.int 1, .int 1, .int 1]) (rest := []) C hb (hml.trans hl.1.symm) hP hS rfl (k_X1_goes l g S true true true) wm_108 wm_109 wm_110 wm_111 wm_5 (n := 3) (by decide +kernel) rfl ⟨rfl, rfl, Nat.le_of_ble_eq_true rfl, Nat.le_of_ble_eq_true rfl⟩ (Nat.le_of_ble_eq_true rfl) rfl ⟨Nat.zero_le _, Nat.zero_le _⟩ dX1_rankedAt_27) hS (fun H locs hP hS => ?_)
      refine toI (congrArg bI (Bool.and_true _)) ?_
      refine bz_eq (tgt := 37) C hb dX1_rankedAt_30 (by decide) (fun c173 => ?_) (fun c173 => ?_)
      · exact absurd c173 (by decide)
      · refine lv_iload_n C.1 hb dX1_rankedAt_33 rfl (lv_at hl 0 rfl) ?_
        refine lv_goto (tgt := 38) C.1 hb dX1_rankedAt_34 (by decide) ?_
        exact wrI C hb hret hlk hP hS dX1_rankedAt_38 (by unfold mV_rank; rw [if_neg c171]) (by rw [decide_eq_false c171]; rfl)
  · refine lv_iconst (v := (-1)) C.1 hb dX1_rankedAt_4 (by decide) ?_
    refine lv_goto (tgt := 13) C.1 hb dX1_rankedAt_5 (by decide) ?_
    refine toI (show _ = mPlace S n q from (if_neg c170).symm) ?_
    refine lv_istore_n (lv' := [(2, .int (mPlace S n q)), (0, .ref (gA g 17)), (1, .int q)]) C.1 hb dX1_rankedAt_13 rfl hl (by decide) rfl (fun ls hl => ?_)
    refine lv_aload_n C.1 hb dX1_rankedAt_14 rfl (lv_at hl 1 rfl) ?_
    refine lv_iload_n C.1 hb dX1_rankedAt_15 rfl (lv_at hl 0 rfl) ?_
    refine lv_iconst (v := (-1)) C.1 hb dX1_rankedAt_16 (by decide) ?_
    refine lv_icmp_eq (tgt := 24) C.1 hb dX1_rankedAt_17 (by decide) (fun c174 => ?_) (fun c174 => ?_)
    · refine lv_iconst (v := 0) C.1 hb dX1_rankedAt_24 (by decide) ?_
      refine lv_iconst (v := 1) C.1 hb dX1_rankedAt_25 (by decide) ?_
      refine lv_iconst (v := 1) C.1 hb dX1_rankedAt_26 (by decide) ?_
      refine run_wr (cRunM (As := [.int 0, .int 1, .int 1]) (rest := []) C hb (hml.trans hl.1.symm) hP hS rfl (k_X1_goes l g S false true true) wm_108 wm_109 wm_110 wm_111 wm_5 (n := 3) (by decide +kernel) rfl ⟨rfl, rfl, Nat.le_of_ble_eq_true rfl, Nat.le_of_ble_eq_true rfl⟩ (Nat.le_of_ble_eq_true rfl) rfl ⟨Nat.zero_le _, Nat.zero_le _⟩ dX1_rankedAt_27) hS (fun H locs hP hS => ?_)
      refine toI (congrArg bI (Bool.and_true _)) ?_
      refine bz_eq (tgt := 37) C hb dX1_rankedAt_30 (by decide) (fun c175 => ?_) (fun c175 => ?_)
      · refine lv_iconst (v := 0) C.1 hb dX1_rankedAt_37 (by decide) ?_
        exact wrI C hb hret hlk hP hS dX1_rankedAt_38 (by unfold mV_rank; rw [if_pos c174]) (by rw [decide_eq_true c174]; rfl)
      · exact absurd c175 (by decide)
    · refine lv_iconst (v := 1) C.1 hb dX1_rankedAt_20 (by decide) ?_
      refine lv_goto (tgt := 25) C.1 hb dX1_rankedAt_21 (by decide) ?_
      refine lv_iconst (v := 1) C.1 hb dX1_rankedAt_25 (by decide) ?_
      refine lv_iconst (v := 1) C.1 hb dX1_rankedAt_26 (by decide) ?_
      refine run_wr (cRunM (As := [.int 1, .int 1, .int 1]) (rest := []) C hb (hml.trans hl.1.symm) hP hS rfl (k_X1_goes l g S true true true) wm_108 wm_109 wm_110 wm_111 wm_5 (n := 3) (by decide +kernel) rfl ⟨rfl, rfl, Nat.le_of_ble_eq_true rfl, Nat.le_of_ble_eq_true rfl⟩ (Nat.le_of_ble_eq_true rfl) rfl ⟨Nat.zero_le _, Nat.zero_le _⟩ dX1_rankedAt_27) hS (fun H locs hP hS => ?_)
      refine toI (congrArg bI (Bool.and_true _)) ?_
      refine bz_eq (tgt := 37) C hb dX1_rankedAt_30 (by decide) (fun c176 => ?_) (fun c176 => ?_)
      · exact absurd c176 (by decide)
      · refine lv_iload_n C.1 hb dX1_rankedAt_33 rfl (lv_at hl 0 rfl) ?_
        refine lv_goto (tgt := 38) C.1 hb dX1_rankedAt_34 (by decide) ?_
        exact wrI C hb hret hlk hP hS dX1_rankedAt_38 (by unfold mV_rank; rw [if_neg c174]) (by rw [decide_eq_false c174]; rfl)

set_option maxRecDepth 100000 in
set_option maxHeartbeats 4000000 in
theorem k_X1_withdraw (l : Launch) (g : gG) (S : WS) (n : Nat) (hI : MI n S) (r : Int32) : Met l yX1_withdraw (wA yX1_withdraw cX1_withdraw 2 (some .int)) ({ frames := 2, cells := 0, slots := 0, locals := 80 }) (PW g S [.ref (gA g 17), .int r]) (WQ g (mR_wd S r) (some (.int (mV_wd S n r)))) 0 0 (Ab g) := by
  refine metI (by decide +kernel) (Nat.le_of_ble_eq_true rfl) ?_
  intro p e s m below meth c C hb hml hret hlk hP ls hl
  have C : CW g RX1 p s m ([.ref (gA g 17), .int r] : List Value).toArray := C
  have hS : va_S (Ab g) s.heap s.heap [] := va_S.rf
  have hl : lv_has ls 2 [(0, .ref (gA g 17)), (1, .int r)] := hl
  refine lv_aload_n C.1 hb dX1_withdraw_0 rfl (lv_at hl 0 rfl) ?_
  refine lv_aload_n C.1 hb dX1_withdraw_1 rfl (lv_at hl 0 rfl) ?_
  refine lv_iload_n C.1 hb dX1_withdraw_2 rfl (lv_at hl 1 rfl) ?_
  refine run_rd (cRunM (As := [.int r]) (rest := [.ref (gA g 17)]) C hb (hml.trans hl.1.symm) hP hS rfl (k_X1_isRow l g S n hI r) wm_135 wm_136 wm_137 wm_138 wm_5 (n := 1) (by decide +kernel) rfl ⟨rfl, rfl, Nat.le_of_ble_eq_true rfl, Nat.le_of_ble_eq_true rfl⟩ (Nat.le_of_ble_eq_true rfl) rfl ⟨Nat.zero_le _, Nat.zero_le _⟩ dX1_withdraw_3) ?_
  refine lv_iconst (v := 1) C.1 hb dX1_withdraw_6 (by decide) ?_
  refine lv_iconst (v := 1) C.1 hb dX1_withdraw_7 (by decide) ?_
  refine run_wr (cRunM (As := [.int (bI (mRow S r)), .int 1, .int 1]) (rest := []) C hb (hml.trans hl.1.symm) hP hS rfl (k_X1_goes l g S (mRow S r) true true) wm_108 wm_109 wm_110 wm_111 wm_5 (n := 3) (by decide +kernel) rfl ⟨rfl, rfl, Nat.le_of_ble_eq_true rfl, Nat.le_of_ble_eq_true rfl⟩ (Nat.le_of_ble_eq_true rfl) rfl ⟨Nat.zero_le _, Nat.zero_le _⟩ dX1_withdraw_8) hS (fun H locs hP hS => ?_)
  refine toI (congrArg bI (Bool.and_true _)) ?_
  refine bz_ne (tgt := 16) C hb dX1_withdraw_11 (by decide) (fun c177 => ?_) (fun c177 => ?_)
  · rw [c177] at hP
    have hx := mRow_ix hI.1 hI.2.1 c177
    have hx1 := hx.1.1
    have hx2 := hx.1.2
    have hn40 := hI.1
    refine lv_aload_n C.1 hb dX1_withdraw_16 rfl (lv_at hl 0 rfl) ?_
    refine gM_gone C hb hP dX1_withdraw_17 ?_
    refine lv_iload_n C.1 hb dX1_withdraw_20 rfl (lv_at hl 1 rfl) ?_
    refine lv_iconst (v := 1) C.1 hb dX1_withdraw_21 (by decide) ?_
    refine stM_gone (j := (tN r)) C hb hP hS hx1 (by omega) (by decide) dX1_withdraw_22 (fun H locs hP hS => ?_)
    have hP : HW g (mWd S (tN r)) H := hP
    refine lv_aload_n C.1 hb dX1_withdraw_23 rfl (lv_at hl 0 rfl) ?_
    refine run_rd (cRunM (As := []) (rest := []) C hb (hml.trans hl.1.symm) hP hS rfl (k_X1_count l g (mWd S (tN r)) n (show MI n (mWd S (tN r)) from hI)) wm_139 wm_140 wm_141 wm_142 wm_5 (n := 0) (by decide +kernel) rfl ⟨rfl, rfl, Nat.le_of_ble_eq_true rfl, Nat.le_of_ble_eq_true rfl⟩ (Nat.le_of_ble_eq_true rfl) rfl ⟨Nat.zero_le _, Nat.zero_le _⟩ dX1_withdraw_24) ?_
    exact wrI C hb hret hlk hP hS dX1_withdraw_27 (by unfold mV_wd; rw [c177]; rfl) (by unfold mR_wd; rw [c177]; rfl)
  · rw [c177] at hP
    refine lv_iconst (v := 0) C.1 hb dX1_withdraw_14 (by decide) ?_
    exact wrI C hb hret hlk hP hS dX1_withdraw_15 (by unfold mV_wd; rw [c177]; rfl) (by unfold mR_wd; rw [c177]; rfl)

set_option maxRecDepth 100000 in
set_option maxHeartbeats 4000000 in
theorem k_X1_setOld (l : Launch) (g : gG) (S : WS) (n : Nat) (hI : MI n S) (r v : Int32) : Met l yX1_setOld (wA yX1_setOld cX1_setOld 4 (some .int)) ({ frames := 2, cells := 0, slots := 0, locals := 80 }) (PW g S [.ref (gA g 17), .int r, .int v]) (WQ g (mR_old S r v) (some (.int (mV_old S r v)))) 0 0 (Ab g) := by
  refine metI (by decide +kernel) (Nat.le_of_ble_eq_true rfl) ?_
  intro p e s m below meth c C hb hml hret hlk hP ls hl
  have C : CW g RX1 p s m ([.ref (gA g 17), .int r, .int v] : List Value).toArray := C
  have hS : va_S (Ab g) s.heap s.heap [] := va_S.rf
  have hl : lv_has ls 4 [(0, .ref (gA g 17)), (1, .int r), (2, .int v)] := hl
  refine lv_aload_n C.1 hb dX1_setOld_0 rfl (lv_at hl 0 rfl) ?_
  refine lv_aload_n C.1 hb dX1_setOld_1 rfl (lv_at hl 0 rfl) ?_
  refine lv_iload_n C.1 hb dX1_setOld_2 rfl (lv_at hl 1 rfl) ?_
  refine run_rd (cRunM (As := [.int r]) (rest := [.ref (gA g 17)]) C hb (hml.trans hl.1.symm) hP hS rfl (k_X1_isRow l g S n hI r) wm_135 wm_136 wm_137 wm_138 wm_5 (n := 1) (by decide +kernel) rfl ⟨rfl, rfl, Nat.le_of_ble_eq_true rfl, Nat.le_of_ble_eq_true rfl⟩ (Nat.le_of_ble_eq_true rfl) rfl ⟨Nat.zero_le _, Nat.zero_le _⟩ dX1_setOld_3) ?_
  refine lv_iload_n C.1 hb dX1_setOld_6 rfl (lv_at hl 2 rfl) ?_
  refine lv_iconst (v := (-1)) C.1 hb dX1_setOld_7 (by decide) ?_
  refine lv_ldc (v := 10000000) C.1 hb C.2.1 (C.2.2.1 _ wm_155) dX1_setOld_8 ?_
  refine run_rd (cRunS (As := [.int v, .int (-1), .int 10000000]) (rest := [.int (bI (mRow S r)), .ref (gA g 17)]) C hb (hml.trans hl.1.symm) hP hS (k_X1_in l g S v (-1) 10000000) wm_102 wm_103 wm_104 wm_5 (n := 3) (by decide +kernel) rfl ⟨rfl, rfl, Nat.le_of_ble_eq_true rfl, Nat.le_of_ble_eq_true rfl⟩ (Nat.le_of_ble_eq_true rfl) rfl ⟨Nat.zero_le _, Nat.zero_le _⟩ dX1_setOld_10) ?_
  refine toI (show _ = bI (mOldOk v) from rfl) ?_
  refine lv_iconst (v := 1) C.1 hb dX1_setOld_13 (by decide) ?_
  refine run_wr (cRunM (As := [.int (bI (mRow S r)), .int (bI (mOldOk v)), .int 1]) (rest := []) C hb (hml.trans hl.1.symm) hP hS rfl (k_X1_goes l g S (mRow S r) (mOldOk v) true) wm_108 wm_109 wm_110 wm_111 wm_5 (n := 3) (by decide +kernel) rfl ⟨rfl, rfl, Nat.le_of_ble_eq_true rfl, Nat.le_of_ble_eq_true rfl⟩ (Nat.le_of_ble_eq_true rfl) rfl ⟨Nat.zero_le _, Nat.zero_le _⟩ dX1_setOld_14) hS (fun H locs hP hS => ?_)
  refine bz_ne (tgt := 22) C hb dX1_setOld_17 (by decide) (fun c178 => ?_) (fun c178 => ?_)
  · simp only [Bool.and_true, Bool.and_eq_true] at c178
    rw [c178.1, c178.2] at hP
    have hx := mRow_ix hI.1 hI.2.1 c178.1
    have hx1 := hx.1.1
    have hx2 := hx.1.2
    have hn40 := hI.1
    refine lv_aload_n C.1 hb dX1_setOld_22 rfl (lv_at hl 0 rfl) ?_
    refine gM_olds C hb hP dX1_setOld_23 ?_
    refine lv_iload_n C.1 hb dX1_setOld_26 rfl (lv_at hl 1 rfl) ?_
    refine ldM_olds (j := (tN r)) C hb hP hx1 (by omega) dX1_setOld_27 ?_
    refine lv_istore_n (lv' := [(3, .int (mIa (mGo S true true true) 4 (tN r))), (0, .ref (gA g 17)), (1, .int r), (2, .int v)]) C.1 hb dX1_setOld_28 rfl hl (by decide) rfl (fun ls hl => ?_)
    refine lv_aload_n C.1 hb dX1_setOld_29 rfl (lv_at hl 1 rfl) ?_
    refine gM_olds C hb hP dX1_setOld_30 ?_
    refine lv_iload_n C.1 hb dX1_setOld_33 rfl (lv_at hl 2 rfl) ?_
    refine lv_iload_n C.1 hb dX1_setOld_34 rfl (lv_at hl 3 rfl) ?_
    refine stM_olds (j := (tN r)) C hb hP hS hx1 (by omega) dX1_setOld_35 (fun H locs hP hS => ?_)
    refine lv_iload_n C.1 hb dX1_setOld_36 rfl (lv_at hl 0 rfl) ?_
    exact wrI C hb hret hlk hP hS dX1_setOld_37 (by unfold mV_old; rw [c178.1, c178.2]; rfl) (by unfold mR_old; rw [c178.1, c178.2]; rfl)
  · refine lv_iconst (v := 0) C.1 hb dX1_setOld_20 (by decide) ?_
    exact wrI C hb hret hlk hP hS dX1_setOld_21 (by revert c178; unfold mV_old; cases mRow S r <;> cases mOldOk v <;> simp) (by revert c178; unfold mR_old; cases mRow S r <;> cases mOldOk v <;> simp)

set_option maxRecDepth 100000 in
set_option maxHeartbeats 4000000 in
theorem k_X1_setRules (l : Launch) (g : gG) (S : WS) (q k : Int32) : Met l yX1_setRules (wA yX1_setRules cX1_setRules 4 (some .int)) ({ frames := 2, cells := 0, slots := 0, locals := 80 }) (PW g S [.ref (gA g 17), .int q, .int k]) (WQ g (mR_rules S q k) (some (.int (mV_rules S q k)))) 0 0 (Ab g) := by
  refine metI (by decide +kernel) (Nat.le_of_ble_eq_true rfl) ?_
  intro p e s m below meth c C hb hml hret hlk hP ls hl
  have C : CW g RX1 p s m ([.ref (gA g 17), .int q, .int k] : List Value).toArray := C
  have hS : va_S (Ab g) s.heap s.heap [] := va_S.rf
  have hl : lv_has ls 4 [(0, .ref (gA g 17)), (1, .int q), (2, .int k)] := hl
  refine lv_aload_n C.1 hb dX1_setRules_0 rfl (lv_at hl 0 rfl) ?_
  refine lv_iload_n C.1 hb dX1_setRules_1 rfl (lv_at hl 1 rfl) ?_
  refine lv_iconst (v := 0) C.1 hb dX1_setRules_2 (by decide) ?_
  refine lv_sipush (v := 1000) C.1 hb dX1_setRules_3 (by decide) ?_
  refine run_rd (cRunS (As := [.int q, .int 0, .int 1000]) (rest := [.ref (gA g 17)]) C hb (hml.trans hl.1.symm) hP hS (k_X1_in l g S q 0 1000) wm_102 wm_103 wm_104 wm_5 (n := 3) (by decide +kernel) rfl ⟨rfl, rfl, Nat.le_of_ble_eq_true rfl, Nat.le_of_ble_eq_true rfl⟩ (Nat.le_of_ble_eq_true rfl) rfl ⟨Nat.zero_le _, Nat.zero_le _⟩ dX1_setRules_6) ?_
  refine bz_eq (tgt := 27) C hb dX1_setRules_9 (by decide) (fun c179 => ?_) (fun c179 => ?_)
  · have ho : mRulOk q k = false := by simp [mRulOk, c179]
    refine lv_iconst (v := 0) C.1 hb dX1_setRules_27 (by decide) ?_
    refine lv_iconst (v := 1) C.1 hb dX1_setRules_28 (by decide) ?_
    refine lv_iconst (v := 1) C.1 hb dX1_setRules_29 (by decide) ?_
    refine run_wr (cRunM (As := [.int 0, .int 1, .int 1]) (rest := []) C hb (hml.trans hl.1.symm) hP hS rfl (k_X1_goes l g S false true true) wm_108 wm_109 wm_110 wm_111 wm_5 (n := 3) (by decide +kernel) rfl ⟨rfl, rfl, Nat.le_of_ble_eq_true rfl, Nat.le_of_ble_eq_true rfl⟩ (Nat.le_of_ble_eq_true rfl) rfl ⟨Nat.zero_le _, Nat.zero_le _⟩ dX1_setRules_30) hS (fun H locs hP hS => ?_)
    refine toI (congrArg bI (Bool.and_true _)) ?_
    refine bz_ne (tgt := 38) C hb dX1_setRules_33 (by decide) (fun c180 => ?_) (fun c180 => ?_)
    · exact absurd c180 (by decide)
    · refine lv_iconst (v := 0) C.1 hb dX1_setRules_36 (by decide) ?_
      exact wrI C hb hret hlk hP hS dX1_setRules_37 (by unfold mV_rules; rw [ho]; rfl) (by unfold mR_rules; rw [ho]; rfl)
  · refine lv_iload_n C.1 hb dX1_setRules_12 rfl (lv_at hl 2 rfl) ?_
    refine lv_iconst (v := (-1)) C.1 hb dX1_setRules_13 (by decide) ?_
    refine lv_sipush (v := 1000) C.1 hb dX1_setRules_14 (by decide) ?_
    refine run_rd (cRunS (As := [.int k, .int (-1), .int 1000]) (rest := [.ref (gA g 17)]) C hb (hml.trans hl.1.symm) hP hS (k_X1_in l g S k (-1) 1000) wm_102 wm_103 wm_104 wm_5 (n := 3) (by decide +kernel) rfl ⟨rfl, rfl, Nat.le_of_ble_eq_true rfl, Nat.le_of_ble_eq_true rfl⟩ (Nat.le_of_ble_eq_true rfl) rfl ⟨Nat.zero_le _, Nat.zero_le _⟩ dX1_setRules_17) ?_
    refine bz_eq (tgt := 27) C hb dX1_setRules_20 (by decide) (fun c181 => ?_) (fun c181 => ?_)
    · have ho : mRulOk q k = false := by simp [mRulOk, c181]
      refine lv_iconst (v := 0) C.1 hb dX1_setRules_27 (by decide) ?_
      refine lv_iconst (v := 1) C.1 hb dX1_setRules_28 (by decide) ?_
      refine lv_iconst (v := 1) C.1 hb dX1_setRules_29 (by decide) ?_
      refine run_wr (cRunM (As := [.int 0, .int 1, .int 1]) (rest := []) C hb (hml.trans hl.1.symm) hP hS rfl (k_X1_goes l g S false true true) wm_108 wm_109 wm_110 wm_111 wm_5 (n := 3) (by decide +kernel) rfl ⟨rfl, rfl, Nat.le_of_ble_eq_true rfl, Nat.le_of_ble_eq_true rfl⟩ (Nat.le_of_ble_eq_true rfl) rfl ⟨Nat.zero_le _, Nat.zero_le _⟩ dX1_setRules_30) hS (fun H locs hP hS => ?_)
      refine toI (congrArg bI (Bool.and_true _)) ?_
      refine bz_ne (tgt := 38) C hb dX1_setRules_33 (by decide) (fun c182 => ?_) (fun c182 => ?_)
      · exact absurd c182 (by decide)
      · refine lv_iconst (v := 0) C.1 hb dX1_setRules_36 (by decide) ?_
        exact wrI C hb hret hlk hP hS dX1_setRules_37 (by unfold mV_rules; rw [ho]; rfl) (by unfold mR_rules; rw [ho]; rfl)
    · have ho : mRulOk q k = true := by simp [mRulOk, c179, c181]
      refine lv_iconst (v := 1) C.1 hb dX1_setRules_23 (by decide) ?_
      refine lv_goto (tgt := 28) C.1 hb dX1_setRules_24 (by decide) ?_
      refine lv_iconst (v := 1) C.1 hb dX1_setRules_28 (by decide) ?_
      refine lv_iconst (v := 1) C.1 hb dX1_setRules_29 (by decide) ?_
      refine run_wr (cRunM (As := [.int 1, .int 1, .int 1]) (rest := []) C hb (hml.trans hl.1.symm) hP hS rfl (k_X1_goes l g S true true true) wm_108 wm_109 wm_110 wm_111 wm_5 (n := 3) (by decide +kernel) rfl ⟨rfl, rfl, Nat.le_of_ble_eq_true rfl, Nat.le_of_ble_eq_true rfl⟩ (Nat.le_of_ble_eq_true rfl) rfl ⟨Nat.zero_le _, Nat.zero_le _⟩ dX1_setRules_30) hS (fun H locs hP hS => ?_)
      refine toI (congrArg bI (Bool.and_true _)) ?_
      refine bz_ne (tgt := 38) C hb dX1_setRules_33 (by decide) (fun c183 => ?_) (fun c183 => ?_)
      · refine lv_aload_n C.1 hb dX1_setRules_38 rfl (lv_at hl 0 rfl) ?_
        refine gM_credibility C hb hP dX1_setRules_39 ?_
        refine lv_istore_n (lv' := [(3, .int (mSc (mGo S true true true) 1)), (0, .ref (gA g 17)), (1, .int q), (2, .int k)]) C.1 hb dX1_setRules_42 rfl hl (by decide) rfl (fun ls hl => ?_)
        refine lv_aload_n C.1 hb dX1_setRules_43 rfl (lv_at hl 1 rfl) ?_
        refine lv_iload_n C.1 hb dX1_setRules_44 rfl (lv_at hl 2 rfl) ?_
        refine pM_credibility C hb hP hS dX1_setRules_45 (fun H locs hP hS => ?_)
        refine lv_aload_n C.1 hb dX1_setRules_48 rfl (lv_at hl 1 rfl) ?_
        refine lv_iload_n C.1 hb dX1_setRules_49 rfl (lv_at hl 3 rfl) ?_
        refine pM_cap C hb hP hS dX1_setRules_50 (fun H locs hP hS => ?_)
        refine lv_iload_n C.1 hb dX1_setRules_53 rfl (lv_at hl 0 rfl) ?_
        exact wrI C hb hret hlk hP hS dX1_setRules_54 (by unfold mV_rules; rw [ho]; rfl) (by unfold mR_rules; rw [ho]; rfl)
      · exact absurd c183 (by decide)

set_option maxRecDepth 100000 in
set_option maxHeartbeats 4000000 in
theorem k_X1_setFactor (l : Launch) (g : gG) (S : WS) (t k v : Int32) : Met l yX1_setFactor (wA yX1_setFactor cX1_setFactor 5 (some .int)) ({ frames := 3, cells := 0, slots := 0, locals := 100 }) (PW g S [.ref (gA g 17), .int t, .int k, .int v]) (WQ g (mR_fac S t k v) (some (.int (mV_fac S t k v)))) 0 0 (Ab g) := by
  refine metI (by decide +kernel) (Nat.le_of_ble_eq_true rfl) ?_
  intro p e s m below meth c C hb hml hret hlk hP ls hl
  have C : CW g RX1 p s m ([.ref (gA g 17), .int t, .int k, .int v] : List Value).toArray := C
  have hS : va_S (Ab g) s.heap s.heap [] := va_S.rf
  have hl : lv_has ls 5 [(0, .ref (gA g 17)), (1, .int t), (2, .int k), (3, .int v)] := hl
  refine lv_aload_n C.1 hb dX1_setFactor_0 rfl (lv_at hl 0 rfl) ?_
  refine lv_iload_n C.1 hb dX1_setFactor_1 rfl (lv_at hl 1 rfl) ?_
  refine lv_iload_n C.1 hb dX1_setFactor_2 rfl (lv_at hl 2 rfl) ?_
  refine run_rd (cRunS (As := [.int t, .int k]) (rest := [.ref (gA g 17)]) C hb (hml.trans hl.1.symm) hP hS (k_X1_isLevel l g S t k) wm_96 wm_97 wm_98 wm_5 (n := 2) (by decide +kernel) rfl ⟨rfl, rfl, Nat.le_of_ble_eq_true rfl, Nat.le_of_ble_eq_true rfl⟩ (Nat.le_of_ble_eq_true rfl) rfl ⟨Nat.zero_le _, Nat.zero_le _⟩ dX1_setFactor_3) ?_
  refine lv_iload_n C.1 hb dX1_setFactor_6 rfl (lv_at hl 3 rfl) ?_
  refine lv_bipush (v := 100) C.1 hb dX1_setFactor_7 (by decide) ?_
  refine lv_ldc (v := 100000) C.1 hb C.2.1 (C.2.2.1 _ wm_180) dX1_setFactor_9 ?_
  refine run_rd (cRunS (As := [.int v, .int 100, .int 100000]) (rest := [.int (bI (xHasLevel t k)), .ref (gA g 17)]) C hb (hml.trans hl.1.symm) hP hS (k_X1_in l g S v 100 100000) wm_102 wm_103 wm_104 wm_5 (n := 3) (by decide +kernel) rfl ⟨rfl, rfl, Nat.le_of_ble_eq_true rfl, Nat.le_of_ble_eq_true rfl⟩ (Nat.le_of_ble_eq_true rfl) rfl ⟨Nat.zero_le _, Nat.zero_le _⟩ dX1_setFactor_11) ?_
  refine lv_iconst (v := 1) C.1 hb dX1_setFactor_14 (by decide) ?_
  refine run_wr (cRunM (As := [.int (bI (xHasLevel t k)), .int (bI (xIsWithin v 100 100000)), .int 1]) (rest := []) C hb (hml.trans hl.1.symm) hP hS rfl (k_X1_goes l g S (xHasLevel t k) (xIsWithin v 100 100000) true) wm_108 wm_109 wm_110 wm_111 wm_5 (n := 3) (by decide +kernel) rfl ⟨rfl, rfl, Nat.le_of_ble_eq_true rfl, Nat.le_of_ble_eq_true rfl⟩ (Nat.le_of_ble_eq_true rfl) rfl ⟨Nat.zero_le _, Nat.zero_le _⟩ dX1_setFactor_15) hS (fun H locs hP hS => ?_)
  refine bz_ne (tgt := 23) C hb dX1_setFactor_18 (by decide) (fun c184 => ?_) (fun c184 => ?_)
  · simp only [Bool.and_true, Bool.and_eq_true] at c184
    rw [c184.1, c184.2] at hP
    have hx := xHasLevel_ix c184.1
    have ht1 := hx.1.1
    have ht2 := hx.1.2
    have hk1 := hx.2.1
    have hk2 := hx.2.2
    have h4 := levN_4 (tN t)
    refine lv_aload_n C.1 hb dX1_setFactor_23 rfl (lv_at hl 0 rfl) ?_
    refine gM_factors C hb hP dX1_setFactor_24 ?_
    refine lv_iconst (v := 4) C.1 hb dX1_setFactor_27 (by decide) ?_
    refine lv_iload_n C.1 hb dX1_setFactor_28 rfl (lv_at hl 1 rfl) ?_
    refine toI ht1 ?_
    refine lv_imul C.1 hb dX1_setFactor_29 ?_
    refine lv_iload_n C.1 hb dX1_setFactor_30 rfl (lv_at hl 2 rfl) ?_
    refine toI hk1 ?_
    refine lv_iadd C.1 hb dX1_setFactor_31 ?_
    refine ldM_factors (j := (4 * (tN t) + (tN k))) C hb hP (ix4 (tN t) (tN k)) (by omega) dX1_setFactor_32 ?_
    refine lv_istore (lv' := [(4, .int (mIa (mGo S true true true) 6 (4 * (tN t) + (tN k)))), (0, .ref (gA g 17)), (1, .int t), (2, .int k), (3, .int v)]) C.1 hb dX1_setFactor_33 hl (by decide) rfl (fun ls hl => ?_)
    refine lv_aload_n C.1 hb dX1_setFactor_35 rfl (lv_at hl 1 rfl) ?_
    refine gM_factors C hb hP dX1_setFactor_36 ?_
    refine lv_iconst (v := 4) C.1 hb dX1_setFactor_39 (by decide) ?_
    refine lv_iload_n C.1 hb dX1_setFactor_40 rfl (lv_at hl 2 rfl) ?_
    refine toI ht1 ?_
    refine lv_imul C.1 hb dX1_setFactor_41 ?_
    refine lv_iload_n C.1 hb dX1_setFactor_42 rfl (lv_at hl 3 rfl) ?_
    refine toI hk1 ?_
    refine lv_iadd C.1 hb dX1_setFactor_43 ?_
    refine lv_iload_n C.1 hb dX1_setFactor_44 rfl (lv_at hl 4 rfl) ?_
    refine stM_factors (j := (4 * (tN t) + (tN k))) C hb hP hS (ix4 (tN t) (tN k)) (by omega) dX1_setFactor_45 (fun H locs hP hS => ?_)
    refine lv_iload C.1 hb dX1_setFactor_46 (lv_at hl 0 rfl) ?_
    exact wrI C hb hret hlk hP hS dX1_setFactor_48 (by unfold mV_fac; rw [c184.1, c184.2]; rfl) (by unfold mR_fac; rw [c184.1, c184.2]; rfl)
  · refine lv_iconst (v := 0) C.1 hb dX1_setFactor_21 (by decide) ?_
    exact wrI C hb hret hlk hP hS dX1_setFactor_22 (by revert c184; unfold mV_fac; cases xHasLevel t k <;> cases xIsWithin v 100 100000 <;> simp) (by revert c184; unfold mR_fac; cases xHasLevel t k <;> cases xIsWithin v 100 100000 <;> simp)

set_option maxRecDepth 100000 in
set_option maxHeartbeats 4000000 in
theorem k_X1_add (l : Launch) (g : gG) (S : WS) (n : Nat) (hI : MI n S) (a b q ex cl lo : Int32) : Met l yX1_add (wA yX1_add cX1_add 8 (some .int)) ({ frames := 3, cells := 0, slots := 0, locals := 100 }) (PW g S [.ref (gA g 17), .int a, .int b, .int q, .int ex, .int cl, .int lo]) (WQ g (mR_add S n a b q ex cl lo) (some (.int (mV_add S n a b q ex cl lo)))) 0 0 (Ab g) := by
  refine metI (by decide +kernel) (Nat.le_of_ble_eq_true rfl) ?_
  intro p e s m below meth c C hb hml hret hlk hP ls hl
  have C : CW g RX1 p s m ([.ref (gA g 17), .int a, .int b, .int q, .int ex, .int cl, .int lo] : List Value).toArray := C
  have hS : va_S (Ab g) s.heap s.heap [] := va_S.rf
  have hl : lv_has ls 8 [(0, .ref (gA g 17)), (1, .int a), (2, .int b), (3, .int q), (4, .int ex), (5, .int cl), (6, .int lo)] := hl
  refine lv_iconst (v := 0) C.1 hb dX1_add_0 (by decide) ?_
  refine lv_iload_n C.1 hb dX1_add_1 rfl (lv_at hl 1 rfl) ?_
  refine run_rd (cRunS (As := [.int 0, .int a]) (rest := []) C hb (hml.trans hl.1.symm) hP hS (k_X1_isLevel l g S 0 a) wm_96 wm_97 wm_98 wm_5 (n := 2) (by decide +kernel) rfl ⟨rfl, rfl, Nat.le_of_ble_eq_true rfl, Nat.le_of_ble_eq_true rfl⟩ (Nat.le_of_ble_eq_true rfl) rfl ⟨Nat.zero_le _, Nat.zero_le _⟩ dX1_add_2) ?_
  refine bz_eq (tgt := 63) C hb dX1_add_5 (by decide) (fun c185 => ?_) (fun c185 => ?_)
  · have ho : xAddOk a b q ex cl lo = false := by simp [xAddOk, c185]
    refine lv_iconst (v := 0) C.1 hb dX1_add_63 (by decide) ?_
    refine lv_istore (lv' := [(7, .int 0), (0, .ref (gA g 17)), (1, .int a), (2, .int b), (3, .int q), (4, .int ex), (5, .int cl), (6, .int lo)]) C.1 hb dX1_add_64 hl (by decide) rfl (fun ls hl => ?_)
    refine lv_aload_n C.1 hb dX1_add_66 rfl (lv_at hl 1 rfl) ?_
    refine lv_iload C.1 hb dX1_add_67 (lv_at hl 0 rfl) ?_
    refine lv_aload_n C.1 hb dX1_add_69 rfl (lv_at hl 1 rfl) ?_
    refine gM_rows C hb hP dX1_add_70 ?_
    refine toI hI.2.1 ?_
    refine lv_bipush (v := 40) C.1 hb dX1_add_73 (by decide) ?_
    refine lv_icmp_ge (tgt := 82) C.1 hb dX1_add_75 (by decide) (fun c186 => ?_) (fun c186 => ?_)
    · refine lv_iconst (v := 0) C.1 hb dX1_add_82 (by decide) ?_
      refine lv_iconst (v := 1) C.1 hb dX1_add_83 (by decide) ?_
      refine run_wr (cRunM (As := [.int 0, .int 0, .int 1]) (rest := []) C hb (hml.trans hl.1.symm) hP hS rfl (k_X1_goes l g S false false true) wm_108 wm_109 wm_110 wm_111 wm_5 (n := 3) (by decide +kernel) rfl ⟨rfl, rfl, Nat.le_of_ble_eq_true rfl, Nat.le_of_ble_eq_true rfl⟩ (Nat.le_of_ble_eq_true rfl) rfl ⟨Nat.zero_le _, Nat.zero_le _⟩ dX1_add_84) hS (fun H locs hP hS => ?_)
      have hd : decide (mSc S 0 < 40) = false := by rw [hI.2.1]; exact decide_eq_false (fun h => absurd ((nI_ltI (a := n) (b := 40) (by have := hI.1; omega) (by decide)).mp h) (by have := le_nI (a := 40) (b := n) (by decide) (by have := hI.1; omega) c186; omega))
      refine bz_ne (tgt := 92) C hb dX1_add_87 (by decide) (fun c187 => ?_) (fun c187 => ?_)
      · exact absurd c187 (by decide)
      · refine lv_iconst (v := 0) C.1 hb dX1_add_90 (by decide) ?_
        exact wrI C hb hret hlk hP hS dX1_add_91 (by unfold mV_add; rw [ho]; rfl) (by unfold mR_add; rw [ho, hd]; rfl)
    · refine lv_iconst (v := 1) C.1 hb dX1_add_78 (by decide) ?_
      refine lv_goto (tgt := 83) C.1 hb dX1_add_79 (by decide) ?_
      refine lv_iconst (v := 1) C.1 hb dX1_add_83 (by decide) ?_
      refine run_wr (cRunM (As := [.int 0, .int 1, .int 1]) (rest := []) C hb (hml.trans hl.1.symm) hP hS rfl (k_X1_goes l g S false true true) wm_108 wm_109 wm_110 wm_111 wm_5 (n := 3) (by decide +kernel) rfl ⟨rfl, rfl, Nat.le_of_ble_eq_true rfl, Nat.le_of_ble_eq_true rfl⟩ (Nat.le_of_ble_eq_true rfl) rfl ⟨Nat.zero_le _, Nat.zero_le _⟩ dX1_add_84) hS (fun H locs hP hS => ?_)
      refine toI (congrArg bI (Bool.and_true _)) ?_
      have hd : decide (mSc S 0 < 40) = true := by have h := nle_nI (a := 40) (b := n) (by decide) (by have := hI.1; omega) c186; rw [hI.2.1]; exact decide_eq_true ((nI_ltI (a := n) (b := 40) (by have := hI.1; omega) (by decide)).mpr h)
      refine bz_ne (tgt := 92) C hb dX1_add_87 (by decide) (fun c188 => ?_) (fun c188 => ?_)
      · exact absurd c188 (by decide)
      · refine lv_iconst (v := 0) C.1 hb dX1_add_90 (by decide) ?_
        exact wrI C hb hret hlk hP hS dX1_add_91 (by unfold mV_add; rw [ho]; rfl) (by unfold mR_add; rw [ho, hd]; rfl)
  · refine lv_iconst (v := 1) C.1 hb dX1_add_8 (by decide) ?_
    refine lv_iload_n C.1 hb dX1_add_9 rfl (lv_at hl 2 rfl) ?_
    refine run_rd (cRunS (As := [.int 1, .int b]) (rest := []) C hb (hml.trans hl.1.symm) hP hS (k_X1_isLevel l g S 1 b) wm_96 wm_97 wm_98 wm_5 (n := 2) (by decide +kernel) rfl ⟨rfl, rfl, Nat.le_of_ble_eq_true rfl, Nat.le_of_ble_eq_true rfl⟩ (Nat.le_of_ble_eq_true rfl) rfl ⟨Nat.zero_le _, Nat.zero_le _⟩ dX1_add_10) ?_
    refine bz_eq (tgt := 63) C hb dX1_add_13 (by decide) (fun c189 => ?_) (fun c189 => ?_)
    · have ho : xAddOk a b q ex cl lo = false := by simp [xAddOk, c189]
      refine lv_iconst (v := 0) C.1 hb dX1_add_63 (by decide) ?_
      refine lv_istore (lv' := [(7, .int 0), (0, .ref (gA g 17)), (1, .int a), (2, .int b), (3, .int q), (4, .int ex), (5, .int cl), (6, .int lo)]) C.1 hb dX1_add_64 hl (by decide) rfl (fun ls hl => ?_)
      refine lv_aload_n C.1 hb dX1_add_66 rfl (lv_at hl 1 rfl) ?_
      refine lv_iload C.1 hb dX1_add_67 (lv_at hl 0 rfl) ?_
      refine lv_aload_n C.1 hb dX1_add_69 rfl (lv_at hl 1 rfl) ?_
      refine gM_rows C hb hP dX1_add_70 ?_
      refine toI hI.2.1 ?_
      refine lv_bipush (v := 40) C.1 hb dX1_add_73 (by decide) ?_
      refine lv_icmp_ge (tgt := 82) C.1 hb dX1_add_75 (by decide) (fun c190 => ?_) (fun c190 => ?_)
      · refine lv_iconst (v := 0) C.1 hb dX1_add_82 (by decide) ?_
        refine lv_iconst (v := 1) C.1 hb dX1_add_83 (by decide) ?_
        refine run_wr (cRunM (As := [.int 0, .int 0, .int 1]) (rest := []) C hb (hml.trans hl.1.symm) hP hS rfl (k_X1_goes l g S false false true) wm_108 wm_109 wm_110 wm_111 wm_5 (n := 3) (by decide +kernel) rfl ⟨rfl, rfl, Nat.le_of_ble_eq_true rfl, Nat.le_of_ble_eq_true rfl⟩ (Nat.le_of_ble_eq_true rfl) rfl ⟨Nat.zero_le _, Nat.zero_le _⟩ dX1_add_84) hS (fun H locs hP hS => ?_)
        have hd : decide (mSc S 0 < 40) = false := by rw [hI.2.1]; exact decide_eq_false (fun h => absurd ((nI_ltI (a := n) (b := 40) (by have := hI.1; omega) (by decide)).mp h) (by have := le_nI (a := 40) (b := n) (by decide) (by have := hI.1; omega) c190; omega))
        refine bz_ne (tgt := 92) C hb dX1_add_87 (by decide) (fun c191 => ?_) (fun c191 => ?_)
        · exact absurd c191 (by decide)
        · refine lv_iconst (v := 0) C.1 hb dX1_add_90 (by decide) ?_
          exact wrI C hb hret hlk hP hS dX1_add_91 (by unfold mV_add; rw [ho]; rfl) (by unfold mR_add; rw [ho, hd]; rfl)
      · refine lv_iconst (v := 1) C.1 hb dX1_add_78 (by decide) ?_
        refine lv_goto (tgt := 83) C.1 hb dX1_add_79 (by decide) ?_
        refine lv_iconst (v := 1) C.1 hb dX1_add_83 (by decide) ?_
        refine run_wr (cRunM (As := [.int 0, .int 1, .int 1]) (rest := []) C hb (hml.trans hl.1.symm) hP hS rfl (k_X1_goes l g S false true true) wm_108 wm_109 wm_110 wm_111 wm_5 (n := 3) (by decide +kernel) rfl ⟨rfl, rfl, Nat.le_of_ble_eq_true rfl, Nat.le_of_ble_eq_true rfl⟩ (Nat.le_of_ble_eq_true rfl) rfl ⟨Nat.zero_le _, Nat.zero_le _⟩ dX1_add_84) hS (fun H locs hP hS => ?_)
        refine toI (congrArg bI (Bool.and_true _)) ?_
        have hd : decide (mSc S 0 < 40) = true := by have h := nle_nI (a := 40) (b := n) (by decide) (by have := hI.1; omega) c190; rw [hI.2.1]; exact decide_eq_true ((nI_ltI (a := n) (b := 40) (by have := hI.1; omega) (by decide)).mpr h)
        refine bz_ne (tgt := 92) C hb dX1_add_87 (by decide) (fun c192 => ?_) (fun c192 => ?_)
        · exact absurd c192 (by decide)
        · refine lv_iconst (v := 0) C.1 hb dX1_add_90 (by decide) ?_
          exact wrI C hb hret hlk hP hS dX1_add_91 (by unfold mV_add; rw [ho]; rfl) (by unfold mR_add; rw [ho, hd]; rfl)
    · refine lv_iconst (v := 2) C.1 hb dX1_add_16 (by decide) ?_
      refine lv_iload_n C.1 hb dX1_add_17 rfl (lv_at hl 3 rfl) ?_
      refine run_rd (cRunS (As := [.int 2, .int q]) (rest := []) C hb (hml.trans hl.1.symm) hP hS (k_X1_isLevel l g S 2 q) wm_96 wm_97 wm_98 wm_5 (n := 2) (by decide +kernel) rfl ⟨rfl, rfl, Nat.le_of_ble_eq_true rfl, Nat.le_of_ble_eq_true rfl⟩ (Nat.le_of_ble_eq_true rfl) rfl ⟨Nat.zero_le _, Nat.zero_le _⟩ dX1_add_18) ?_
      refine bz_eq (tgt := 63) C hb dX1_add_21 (by decide) (fun c193 => ?_) (fun c193 => ?_)
      · have ho : xAddOk a b q ex cl lo = false := by simp [xAddOk, c193]
        refine lv_iconst (v := 0) C.1 hb dX1_add_63 (by decide) ?_
        refine lv_istore (lv' := [(7, .int 0), (0, .ref (gA g 17)), (1, .int a), (2, .int b), (3, .int q), (4, .int ex), (5, .int cl), (6, .int lo)]) C.1 hb dX1_add_64 hl (by decide) rfl (fun ls hl => ?_)
        refine lv_aload_n C.1 hb dX1_add_66 rfl (lv_at hl 1 rfl) ?_
        refine lv_iload C.1 hb dX1_add_67 (lv_at hl 0 rfl) ?_
        refine lv_aload_n C.1 hb dX1_add_69 rfl (lv_at hl 1 rfl) ?_
        refine gM_rows C hb hP dX1_add_70 ?_
        refine toI hI.2.1 ?_
        refine lv_bipush (v := 40) C.1 hb dX1_add_73 (by decide) ?_
        refine lv_icmp_ge (tgt := 82) C.1 hb dX1_add_75 (by decide) (fun c194 => ?_) (fun c194 => ?_)
        · refine lv_iconst (v := 0) C.1 hb dX1_add_82 (by decide) ?_
          refine lv_iconst (v := 1) C.1 hb dX1_add_83 (by decide) ?_
          refine run_wr (cRunM (As := [.int 0, .int 0, .int 1]) (rest := []) C hb (hml.trans hl.1.symm) hP hS rfl (k_X1_goes l g S false false true) wm_108 wm_109 wm_110 wm_111 wm_5 (n := 3) (by decide +kernel) rfl ⟨rfl, rfl, Nat.le_of_ble_eq_true rfl, Nat.le_of_ble_eq_true rfl⟩ (Nat.le_of_ble_eq_true rfl) rfl ⟨Nat.zero_le _, Nat.zero_le _⟩ dX1_add_84) hS (fun H locs hP hS => ?_)
          have hd : decide (mSc S 0 < 40) = false := by rw [hI.2.1]; exact decide_eq_false (fun h => absurd ((nI_ltI (a := n) (b := 40) (by have := hI.1; omega) (by decide)).mp h) (by have := le_nI (a := 40) (b := n) (by decide) (by have := hI.1; omega) c194; omega))
          refine bz_ne (tgt := 92) C hb dX1_add_87 (by decide) (fun c195 => ?_) (fun c195 => ?_)
          · exact absurd c195 (by decide)
          · refine lv_iconst (v := 0) C.1 hb dX1_add_90 (by decide) ?_
            exact wrI C hb hret hlk hP hS dX1_add_91 (by unfold mV_add; rw [ho]; rfl) (by unfold mR_add; rw [ho, hd]; rfl)
        · refine lv_iconst (v := 1) C.1 hb dX1_add_78 (by decide) ?_
          refine lv_goto (tgt := 83) C.1 hb dX1_add_79 (by decide) ?_
          refine lv_iconst (v := 1) C.1 hb dX1_add_83 (by decide) ?_
          refine run_wr (cRunM (As := [.int 0, .int 1, .int 1]) (rest := []) C hb (hml.trans hl.1.symm) hP hS rfl (k_X1_goes l g S false true true) wm_108 wm_109 wm_110 wm_111 wm_5 (n := 3) (by decide +kernel) rfl ⟨rfl, rfl, Nat.le_of_ble_eq_true rfl, Nat.le_of_ble_eq_true rfl⟩ (Nat.le_of_ble_eq_true rfl) rfl ⟨Nat.zero_le _, Nat.zero_le _⟩ dX1_add_84) hS (fun H locs hP hS => ?_)
          refine toI (congrArg bI (Bool.and_true _)) ?_
          have hd : decide (mSc S 0 < 40) = true := by have h := nle_nI (a := 40) (b := n) (by decide) (by have := hI.1; omega) c194; rw [hI.2.1]; exact decide_eq_true ((nI_ltI (a := n) (b := 40) (by have := hI.1; omega) (by decide)).mpr h)
          refine bz_ne (tgt := 92) C hb dX1_add_87 (by decide) (fun c196 => ?_) (fun c196 => ?_)
          · exact absurd c196 (by decide)
          · refine lv_iconst (v := 0) C.1 hb dX1_add_90 (by decide) ?_
            exact wrI C hb hret hlk hP hS dX1_add_91 (by unfold mV_add; rw [ho]; rfl) (by unfold mR_add; rw [ho, hd]; rfl)
      · refine lv_iload C.1 hb dX1_add_24 (lv_at hl 4 rfl) ?_
        refine lv_iconst (v := 1) C.1 hb dX1_add_26 (by decide) ?_
        refine lv_sipush (v := 1000) C.1 hb dX1_add_27 (by decide) ?_
        refine run_rd (cRunS (As := [.int ex, .int 1, .int 1000]) (rest := []) C hb (hml.trans hl.1.symm) hP hS (k_X1_in l g S ex 1 1000) wm_102 wm_103 wm_104 wm_5 (n := 3) (by decide +kernel) rfl ⟨rfl, rfl, Nat.le_of_ble_eq_true rfl, Nat.le_of_ble_eq_true rfl⟩ (Nat.le_of_ble_eq_true rfl) rfl ⟨Nat.zero_le _, Nat.zero_le _⟩ dX1_add_30) ?_
        refine bz_eq (tgt := 63) C hb dX1_add_33 (by decide) (fun c197 => ?_) (fun c197 => ?_)
        · have ho : xAddOk a b q ex cl lo = false := by simp [xAddOk, c197]
          refine lv_iconst (v := 0) C.1 hb dX1_add_63 (by decide) ?_
          refine lv_istore (lv' := [(7, .int 0), (0, .ref (gA g 17)), (1, .int a), (2, .int b), (3, .int q), (4, .int ex), (5, .int cl), (6, .int lo)]) C.1 hb dX1_add_64 hl (by decide) rfl (fun ls hl => ?_)
          refine lv_aload_n C.1 hb dX1_add_66 rfl (lv_at hl 1 rfl) ?_
          refine lv_iload C.1 hb dX1_add_67 (lv_at hl 0 rfl) ?_
          refine lv_aload_n C.1 hb dX1_add_69 rfl (lv_at hl 1 rfl) ?_
          refine gM_rows C hb hP dX1_add_70 ?_
          refine toI hI.2.1 ?_
          refine lv_bipush (v := 40) C.1 hb dX1_add_73 (by decide) ?_
          refine lv_icmp_ge (tgt := 82) C.1 hb dX1_add_75 (by decide) (fun c198 => ?_) (fun c198 => ?_)
          · refine lv_iconst (v := 0) C.1 hb dX1_add_82 (by decide) ?_
            refine lv_iconst (v := 1) C.1 hb dX1_add_83 (by decide) ?_
            refine run_wr (cRunM (As := [.int 0, .int 0, .int 1]) (rest := []) C hb (hml.trans hl.1.symm) hP hS rfl (k_X1_goes l g S false false true) wm_108 wm_109 wm_110 wm_111 wm_5 (n := 3) (by decide +kernel) rfl ⟨rfl, rfl, Nat.le_of_ble_eq_true rfl, Nat.le_of_ble_eq_true rfl⟩ (Nat.le_of_ble_eq_true rfl) rfl ⟨Nat.zero_le _, Nat.zero_le _⟩ dX1_add_84) hS (fun H locs hP hS => ?_)
            have hd : decide (mSc S 0 < 40) = false := by rw [hI.2.1]; exact decide_eq_false (fun h => absurd ((nI_ltI (a := n) (b := 40) (by have := hI.1; omega) (by decide)).mp h) (by have := le_nI (a := 40) (b := n) (by decide) (by have := hI.1; omega) c198; omega))
            refine bz_ne (tgt := 92) C hb dX1_add_87 (by decide) (fun c199 => ?_) (fun c199 => ?_)
            · exact absurd c199 (by decide)
            · refine lv_iconst (v := 0) C.1 hb dX1_add_90 (by decide) ?_
              exact wrI C hb hret hlk hP hS dX1_add_91 (by unfold mV_add; rw [ho]; rfl) (by unfold mR_add; rw [ho, hd]; rfl)
          · refine lv_iconst (v := 1) C.1 hb dX1_add_78 (by decide) ?_
            refine lv_goto (tgt := 83) C.1 hb dX1_add_79 (by decide) ?_
            refine lv_iconst (v := 1) C.1 hb dX1_add_83 (by decide) ?_
            refine run_wr (cRunM (As := [.int 0, .int 1, .int 1]) (rest := []) C hb (hml.trans hl.1.symm) hP hS rfl (k_X1_goes l g S false true true) wm_108 wm_109 wm_110 wm_111 wm_5 (n := 3) (by decide +kernel) rfl ⟨rfl, rfl, Nat.le_of_ble_eq_true rfl, Nat.le_of_ble_eq_true rfl⟩ (Nat.le_of_ble_eq_true rfl) rfl ⟨Nat.zero_le _, Nat.zero_le _⟩ dX1_add_84) hS (fun H locs hP hS => ?_)
            refine toI (congrArg bI (Bool.and_true _)) ?_
            have hd : decide (mSc S 0 < 40) = true := by have h := nle_nI (a := 40) (b := n) (by decide) (by have := hI.1; omega) c198; rw [hI.2.1]; exact decide_eq_true ((nI_ltI (a := n) (b := 40) (by have := hI.1; omega) (by decide)).mpr h)
            refine bz_ne (tgt := 92) C hb dX1_add_87 (by decide) (fun c200 => ?_) (fun c200 => ?_)
            · exact absurd c200 (by decide)
            · refine lv_iconst (v := 0) C.1 hb dX1_add_90 (by decide) ?_
              exact wrI C hb hret hlk hP hS dX1_add_91 (by unfold mV_add; rw [ho]; rfl) (by unfold mR_add; rw [ho, hd]; rfl)
        · refine lv_iload C.1 hb dX1_add_36 (lv_at hl 5 rfl) ?_
          refine lv_iconst (v := 0) C.1 hb dX1_add_38 (by decide) ?_
          refine lv_sipush (v := 1000) C.1 hb dX1_add_39 (by decide) ?_
          refine run_rd (cRunS (As := [.int cl, .int 0, .int 1000]) (rest := []) C hb (hml.trans hl.1.symm) hP hS (k_X1_in l g S cl 0 1000) wm_102 wm_103 wm_104 wm_5 (n := 3) (by decide +kernel) rfl ⟨rfl, rfl, Nat.le_of_ble_eq_true rfl, Nat.le_of_ble_eq_true rfl⟩ (Nat.le_of_ble_eq_true rfl) rfl ⟨Nat.zero_le _, Nat.zero_le _⟩ dX1_add_42) ?_
          refine bz_eq (tgt := 63) C hb dX1_add_45 (by decide) (fun c201 => ?_) (fun c201 => ?_)
          · have ho : xAddOk a b q ex cl lo = false := by simp [xAddOk, c201]
            refine lv_iconst (v := 0) C.1 hb dX1_add_63 (by decide) ?_
            refine lv_istore (lv' := [(7, .int 0), (0, .ref (gA g 17)), (1, .int a), (2, .int b), (3, .int q), (4, .int ex), (5, .int cl), (6, .int lo)]) C.1 hb dX1_add_64 hl (by decide) rfl (fun ls hl => ?_)
            refine lv_aload_n C.1 hb dX1_add_66 rfl (lv_at hl 1 rfl) ?_
            refine lv_iload C.1 hb dX1_add_67 (lv_at hl 0 rfl) ?_
            refine lv_aload_n C.1 hb dX1_add_69 rfl (lv_at hl 1 rfl) ?_
            refine gM_rows C hb hP dX1_add_70 ?_
            refine toI hI.2.1 ?_
            refine lv_bipush (v := 40) C.1 hb dX1_add_73 (by decide) ?_
            refine lv_icmp_ge (tgt := 82) C.1 hb dX1_add_75 (by decide) (fun c202 => ?_) (fun c202 => ?_)
            · refine lv_iconst (v := 0) C.1 hb dX1_add_82 (by decide) ?_
              refine lv_iconst (v := 1) C.1 hb dX1_add_83 (by decide) ?_
              refine run_wr (cRunM (As := [.int 0, .int 0, .int 1]) (rest := []) C hb (hml.trans hl.1.symm) hP hS rfl (k_X1_goes l g S false false true) wm_108 wm_109 wm_110 wm_111 wm_5 (n := 3) (by decide +kernel) rfl ⟨rfl, rfl, Nat.le_of_ble_eq_true rfl, Nat.le_of_ble_eq_true rfl⟩ (Nat.le_of_ble_eq_true rfl) rfl ⟨Nat.zero_le _, Nat.zero_le _⟩ dX1_add_84) hS (fun H locs hP hS => ?_)
              have hd : decide (mSc S 0 < 40) = false := by rw [hI.2.1]; exact decide_eq_false (fun h => absurd ((nI_ltI (a := n) (b := 40) (by have := hI.1; omega) (by decide)).mp h) (by have := le_nI (a := 40) (b := n) (by decide) (by have := hI.1; omega) c202; omega))
              refine bz_ne (tgt := 92) C hb dX1_add_87 (by decide) (fun c203 => ?_) (fun c203 => ?_)
              · exact absurd c203 (by decide)
              · refine lv_iconst (v := 0) C.1 hb dX1_add_90 (by decide) ?_
                exact wrI C hb hret hlk hP hS dX1_add_91 (by unfold mV_add; rw [ho]; rfl) (by unfold mR_add; rw [ho, hd]; rfl)
            · refine lv_iconst (v := 1) C.1 hb dX1_add_78 (by decide) ?_
              refine lv_goto (tgt := 83) C.1 hb dX1_add_79 (by decide) ?_
              refine lv_iconst (v := 1) C.1 hb dX1_add_83 (by decide) ?_
              refine run_wr (cRunM (As := [.int 0, .int 1, .int 1]) (rest := []) C hb (hml.trans hl.1.symm) hP hS rfl (k_X1_goes l g S false true true) wm_108 wm_109 wm_110 wm_111 wm_5 (n := 3) (by decide +kernel) rfl ⟨rfl, rfl, Nat.le_of_ble_eq_true rfl, Nat.le_of_ble_eq_true rfl⟩ (Nat.le_of_ble_eq_true rfl) rfl ⟨Nat.zero_le _, Nat.zero_le _⟩ dX1_add_84) hS (fun H locs hP hS => ?_)
              refine toI (congrArg bI (Bool.and_true _)) ?_
              have hd : decide (mSc S 0 < 40) = true := by have h := nle_nI (a := 40) (b := n) (by decide) (by have := hI.1; omega) c202; rw [hI.2.1]; exact decide_eq_true ((nI_ltI (a := n) (b := 40) (by have := hI.1; omega) (by decide)).mpr h)
              refine bz_ne (tgt := 92) C hb dX1_add_87 (by decide) (fun c204 => ?_) (fun c204 => ?_)
              · exact absurd c204 (by decide)
              · refine lv_iconst (v := 0) C.1 hb dX1_add_90 (by decide) ?_
                exact wrI C hb hret hlk hP hS dX1_add_91 (by unfold mV_add; rw [ho]; rfl) (by unfold mR_add; rw [ho, hd]; rfl)
          · refine lv_iload C.1 hb dX1_add_48 (lv_at hl 6 rfl) ?_
            refine lv_iconst (v := 0) C.1 hb dX1_add_50 (by decide) ?_
            refine lv_ldc (v := 1000000) C.1 hb C.2.1 (C.2.2.1 _ wm_94) dX1_add_51 ?_
            refine run_rd (cRunS (As := [.int lo, .int 0, .int 1000000]) (rest := []) C hb (hml.trans hl.1.symm) hP hS (k_X1_in l g S lo 0 1000000) wm_102 wm_103 wm_104 wm_5 (n := 3) (by decide +kernel) rfl ⟨rfl, rfl, Nat.le_of_ble_eq_true rfl, Nat.le_of_ble_eq_true rfl⟩ (Nat.le_of_ble_eq_true rfl) rfl ⟨Nat.zero_le _, Nat.zero_le _⟩ dX1_add_53) ?_
            refine bz_eq (tgt := 63) C hb dX1_add_56 (by decide) (fun c205 => ?_) (fun c205 => ?_)
            · have ho : xAddOk a b q ex cl lo = false := by simp [xAddOk, c205]
              refine lv_iconst (v := 0) C.1 hb dX1_add_63 (by decide) ?_
              refine lv_istore (lv' := [(7, .int 0), (0, .ref (gA g 17)), (1, .int a), (2, .int b), (3, .int q), (4, .int ex), (5, .int cl), (6, .int lo)]) C.1 hb dX1_add_64 hl (by decide) rfl (fun ls hl => ?_)
              refine lv_aload_n C.1 hb dX1_add_66 rfl (lv_at hl 1 rfl) ?_
              refine lv_iload C.1 hb dX1_add_67 (lv_at hl 0 rfl) ?_
              refine lv_aload_n C.1 hb dX1_add_69 rfl (lv_at hl 1 rfl) ?_
              refine gM_rows C hb hP dX1_add_70 ?_
              refine toI hI.2.1 ?_
              refine lv_bipush (v := 40) C.1 hb dX1_add_73 (by decide) ?_
              refine lv_icmp_ge (tgt := 82) C.1 hb dX1_add_75 (by decide) (fun c206 => ?_) (fun c206 => ?_)
              · refine lv_iconst (v := 0) C.1 hb dX1_add_82 (by decide) ?_
                refine lv_iconst (v := 1) C.1 hb dX1_add_83 (by decide) ?_
                refine run_wr (cRunM (As := [.int 0, .int 0, .int 1]) (rest := []) C hb (hml.trans hl.1.symm) hP hS rfl (k_X1_goes l g S false false true) wm_108 wm_109 wm_110 wm_111 wm_5 (n := 3) (by decide +kernel) rfl ⟨rfl, rfl, Nat.le_of_ble_eq_true rfl, Nat.le_of_ble_eq_true rfl⟩ (Nat.le_of_ble_eq_true rfl) rfl ⟨Nat.zero_le _, Nat.zero_le _⟩ dX1_add_84) hS (fun H locs hP hS => ?_)
                have hd : decide (mSc S 0 < 40) = false := by rw [hI.2.1]; exact decide_eq_false (fun h => absurd ((nI_ltI (a := n) (b := 40) (by have := hI.1; omega) (by decide)).mp h) (by have := le_nI (a := 40) (b := n) (by decide) (by have := hI.1; omega) c206; omega))
                refine bz_ne (tgt := 92) C hb dX1_add_87 (by decide) (fun c207 => ?_) (fun c207 => ?_)
                · exact absurd c207 (by decide)
                · refine lv_iconst (v := 0) C.1 hb dX1_add_90 (by decide) ?_
                  exact wrI C hb hret hlk hP hS dX1_add_91 (by unfold mV_add; rw [ho]; rfl) (by unfold mR_add; rw [ho, hd]; rfl)
              · refine lv_iconst (v := 1) C.1 hb dX1_add_78 (by decide) ?_
                refine lv_goto (tgt := 83) C.1 hb dX1_add_79 (by decide) ?_
                refine lv_iconst (v := 1) C.1 hb dX1_add_83 (by decide) ?_
                refine run_wr (cRunM (As := [.int 0, .int 1, .int 1]) (rest := []) C hb (hml.trans hl.1.symm) hP hS rfl (k_X1_goes l g S false true true) wm_108 wm_109 wm_110 wm_111 wm_5 (n := 3) (by decide +kernel) rfl ⟨rfl, rfl, Nat.le_of_ble_eq_true rfl, Nat.le_of_ble_eq_true rfl⟩ (Nat.le_of_ble_eq_true rfl) rfl ⟨Nat.zero_le _, Nat.zero_le _⟩ dX1_add_84) hS (fun H locs hP hS => ?_)
                refine toI (congrArg bI (Bool.and_true _)) ?_
                have hd : decide (mSc S 0 < 40) = true := by have h := nle_nI (a := 40) (b := n) (by decide) (by have := hI.1; omega) c206; rw [hI.2.1]; exact decide_eq_true ((nI_ltI (a := n) (b := 40) (by have := hI.1; omega) (by decide)).mpr h)
                refine bz_ne (tgt := 92) C hb dX1_add_87 (by decide) (fun c208 => ?_) (fun c208 => ?_)
                · exact absurd c208 (by decide)
                · refine lv_iconst (v := 0) C.1 hb dX1_add_90 (by decide) ?_
                  exact wrI C hb hret hlk hP hS dX1_add_91 (by unfold mV_add; rw [ho]; rfl) (by unfold mR_add; rw [ho, hd]; rfl)
            · have ho : xAddOk a b q ex cl lo = true := by simp [xAddOk, c185, c189, c193, c197, c201, c205]
              refine lv_iconst (v := 1) C.1 hb dX1_add_59 (by decide) ?_
              refine lv_goto (tgt := 64) C.1 hb dX1_add_60 (by decide) ?_
              refine lv_istore (lv' := [(7, .int 1), (0, .ref (gA g 17)), (1, .int a), (2, .int b), (3, .int q), (4, .int ex), (5, .int cl), (6, .int lo)]) C.1 hb dX1_add_64 hl (by decide) rfl (fun ls hl => ?_)
              refine lv_aload_n C.1 hb dX1_add_66 rfl (lv_at hl 1 rfl) ?_
              refine lv_iload C.1 hb dX1_add_67 (lv_at hl 0 rfl) ?_
              refine lv_aload_n C.1 hb dX1_add_69 rfl (lv_at hl 1 rfl) ?_
              refine gM_rows C hb hP dX1_add_70 ?_
              refine toI hI.2.1 ?_
              refine lv_bipush (v := 40) C.1 hb dX1_add_73 (by decide) ?_
              refine lv_icmp_ge (tgt := 82) C.1 hb dX1_add_75 (by decide) (fun c209 => ?_) (fun c209 => ?_)
              · refine lv_iconst (v := 0) C.1 hb dX1_add_82 (by decide) ?_
                refine lv_iconst (v := 1) C.1 hb dX1_add_83 (by decide) ?_
                refine run_wr (cRunM (As := [.int 1, .int 0, .int 1]) (rest := []) C hb (hml.trans hl.1.symm) hP hS rfl (k_X1_goes l g S true false true) wm_108 wm_109 wm_110 wm_111 wm_5 (n := 3) (by decide +kernel) rfl ⟨rfl, rfl, Nat.le_of_ble_eq_true rfl, Nat.le_of_ble_eq_true rfl⟩ (Nat.le_of_ble_eq_true rfl) rfl ⟨Nat.zero_le _, Nat.zero_le _⟩ dX1_add_84) hS (fun H locs hP hS => ?_)
                have hd : decide (mSc S 0 < 40) = false := by rw [hI.2.1]; exact decide_eq_false (fun h => absurd ((nI_ltI (a := n) (b := 40) (by have := hI.1; omega) (by decide)).mp h) (by have := le_nI (a := 40) (b := n) (by decide) (by have := hI.1; omega) c209; omega))
                refine bz_ne (tgt := 92) C hb dX1_add_87 (by decide) (fun c210 => ?_) (fun c210 => ?_)
                · exact absurd c210 (by decide)
                · refine lv_iconst (v := 0) C.1 hb dX1_add_90 (by decide) ?_
                  exact wrI C hb hret hlk hP hS dX1_add_91 (by unfold mV_add; rw [ho, if_pos rfl, if_neg (of_decide_eq_false hd)]) (by unfold mR_add; rw [ho, if_pos rfl, if_neg (of_decide_eq_false hd)])
              · refine lv_iconst (v := 1) C.1 hb dX1_add_78 (by decide) ?_
                refine lv_goto (tgt := 83) C.1 hb dX1_add_79 (by decide) ?_
                refine lv_iconst (v := 1) C.1 hb dX1_add_83 (by decide) ?_
                refine run_wr (cRunM (As := [.int 1, .int 1, .int 1]) (rest := []) C hb (hml.trans hl.1.symm) hP hS rfl (k_X1_goes l g S true true true) wm_108 wm_109 wm_110 wm_111 wm_5 (n := 3) (by decide +kernel) rfl ⟨rfl, rfl, Nat.le_of_ble_eq_true rfl, Nat.le_of_ble_eq_true rfl⟩ (Nat.le_of_ble_eq_true rfl) rfl ⟨Nat.zero_le _, Nat.zero_le _⟩ dX1_add_84) hS (fun H locs hP hS => ?_)
                refine toI (congrArg bI (Bool.and_true _)) ?_
                have hd : decide (mSc S 0 < 40) = true := by have h := nle_nI (a := 40) (b := n) (by decide) (by have := hI.1; omega) c209; rw [hI.2.1]; exact decide_eq_true ((nI_ltI (a := n) (b := 40) (by have := hI.1; omega) (by decide)).mpr h)
                refine bz_ne (tgt := 92) C hb dX1_add_87 (by decide) (fun c211 => ?_) (fun c211 => ?_)
                · have hlt : n < 40 := nle_nI (a := 40) (b := n) (by decide) (by have := hI.1; omega) c209
                  refine lv_aload_n C.1 hb dX1_add_92 rfl (lv_at hl 1 rfl) ?_
                  refine gM_levels C hb hP dX1_add_93 ?_
                  refine lv_iconst (v := 3) C.1 hb dX1_add_96 (by decide) ?_
                  refine lv_aload_n C.1 hb dX1_add_97 rfl (lv_at hl 1 rfl) ?_
                  refine gM_rows C hb hP dX1_add_98 ?_
                  refine toI (show mSc (mGo S true true true) 0 = nI n from hI.2.1) ?_
                  refine lv_imul C.1 hb dX1_add_101 ?_
                  refine lv_iload_n C.1 hb dX1_add_102 rfl (lv_at hl 2 rfl) ?_
                  refine stM_levels (j := (3 * n + 0)) C hb hP hS (ix3z n) (by omega) dX1_add_103 (fun H locs hP hS => ?_)
                  have hP : HW g (mAdd1 (mGo S true true true) n a) H := hP
                  refine lv_aload_n C.1 hb dX1_add_104 rfl (lv_at hl 1 rfl) ?_
                  refine gM_levels C hb hP dX1_add_105 ?_
                  refine lv_iconst (v := 3) C.1 hb dX1_add_108 (by decide) ?_
                  refine lv_aload_n C.1 hb dX1_add_109 rfl (lv_at hl 1 rfl) ?_
                  refine gM_rows C hb hP dX1_add_110 ?_
                  refine toI (show mSc (mAdd1 (mGo S true true true) n a) 0 = nI n from hI.2.1) ?_
                  refine lv_imul C.1 hb dX1_add_113 ?_
                  refine lv_iconst (v := 1) C.1 hb dX1_add_114 (by decide) ?_
                  refine lv_iadd C.1 hb dX1_add_115 ?_
                  refine lv_iload_n C.1 hb dX1_add_116 rfl (lv_at hl 3 rfl) ?_
                  refine stM_levels (j := (3 * n + 1)) C hb hP hS (ix3c1 n) (by omega) dX1_add_117 (fun H locs hP hS => ?_)
                  have hP : HW g (mAdd2 (mGo S true true true) n a b) H := hP
                  refine lv_aload_n C.1 hb dX1_add_118 rfl (lv_at hl 1 rfl) ?_
                  refine gM_levels C hb hP dX1_add_119 ?_
                  refine lv_iconst (v := 3) C.1 hb dX1_add_122 (by decide) ?_
                  refine lv_aload_n C.1 hb dX1_add_123 rfl (lv_at hl 1 rfl) ?_
                  refine gM_rows C hb hP dX1_add_124 ?_
                  refine toI (show mSc (mAdd2 (mGo S true true true) n a b) 0 = nI n from hI.2.1) ?_
                  refine lv_imul C.1 hb dX1_add_127 ?_
                  refine lv_iconst (v := 2) C.1 hb dX1_add_128 (by decide) ?_
                  refine lv_iadd C.1 hb dX1_add_129 ?_
                  refine lv_iload_n C.1 hb dX1_add_130 rfl (lv_at hl 4 rfl) ?_
                  refine stM_levels (j := (3 * n + 2)) C hb hP hS (ix3c2 n) (by omega) dX1_add_131 (fun H locs hP hS => ?_)
                  have hP : HW g (mAdd3 (mGo S true true true) n a b q) H := hP
                  refine lv_aload_n C.1 hb dX1_add_132 rfl (lv_at hl 1 rfl) ?_
                  refine gM_exposures C hb hP dX1_add_133 ?_
                  refine lv_aload_n C.1 hb dX1_add_136 rfl (lv_at hl 1 rfl) ?_
                  refine gM_rows C hb hP dX1_add_137 ?_
                  refine toI (show mSc (mAdd3 (mGo S true true true) n a b q) 0 = nI n from hI.2.1) ?_
                  refine lv_iload C.1 hb dX1_add_140 (lv_at hl 5 rfl) ?_
                  refine stM_exposures (j := n) C hb hP hS rfl (by omega) dX1_add_142 (fun H locs hP hS => ?_)
                  have hP : HW g (mAdd4 (mGo S true true true) n a b q ex) H := hP
                  refine lv_aload_n C.1 hb dX1_add_143 rfl (lv_at hl 1 rfl) ?_
                  refine gM_claims C hb hP dX1_add_144 ?_
                  refine lv_aload_n C.1 hb dX1_add_147 rfl (lv_at hl 1 rfl) ?_
                  refine gM_rows C hb hP dX1_add_148 ?_
                  refine toI (show mSc (mAdd4 (mGo S true true true) n a b q ex) 0 = nI n from hI.2.1) ?_
                  refine lv_iload C.1 hb dX1_add_151 (lv_at hl 6 rfl) ?_
                  refine stM_claims (j := n) C hb hP hS rfl (by omega) dX1_add_153 (fun H locs hP hS => ?_)
                  have hP : HW g (mAdd5 (mGo S true true true) n a b q ex cl) H := hP
                  refine lv_aload_n C.1 hb dX1_add_154 rfl (lv_at hl 1 rfl) ?_
                  refine gM_losses C hb hP dX1_add_155 ?_
                  refine lv_aload_n C.1 hb dX1_add_158 rfl (lv_at hl 1 rfl) ?_
                  refine gM_rows C hb hP dX1_add_159 ?_
                  refine toI (show mSc (mAdd5 (mGo S true true true) n a b q ex cl) 0 = nI n from hI.2.1) ?_
                  refine lv_iload C.1 hb dX1_add_162 (lv_at hl 7 rfl) ?_
                  refine stM_losses (j := n) C hb hP hS rfl (by omega) dX1_add_164 (fun H locs hP hS => ?_)
                  have hP : HW g (mAdd6 (mGo S true true true) n a b q ex cl lo) H := hP
                  refine lv_aload_n C.1 hb dX1_add_165 rfl (lv_at hl 1 rfl) ?_
                  refine gM_olds C hb hP dX1_add_166 ?_
                  refine lv_aload_n C.1 hb dX1_add_169 rfl (lv_at hl 1 rfl) ?_
                  refine gM_rows C hb hP dX1_add_170 ?_
                  refine toI (show mSc (mAdd6 (mGo S true true true) n a b q ex cl lo) 0 = nI n from hI.2.1) ?_
                  refine lv_iconst (v := (-1)) C.1 hb dX1_add_173 (by decide) ?_
                  refine stM_olds (j := n) C hb hP hS rfl (by omega) dX1_add_174 (fun H locs hP hS => ?_)
                  have hP : HW g (mAdd7 (mGo S true true true) n a b q ex cl lo) H := hP
                  refine lv_aload_n C.1 hb dX1_add_175 rfl (lv_at hl 1 rfl) ?_
                  refine lv_dup C.1 hb dX1_add_176 rfl ?_
                  refine gM_rows C hb hP dX1_add_177 ?_
                  refine toI (show mSc (mAdd7 (mGo S true true true) n a b q ex cl lo) 0 = nI n from hI.2.1) ?_
                  refine lv_iconst (v := 1) C.1 hb dX1_add_180 (by decide) ?_
                  refine lv_iadd C.1 hb dX1_add_181 ?_
                  refine toI (nI_1 n) ?_
                  refine pM_rows C hb hP hS dX1_add_182 (fun H locs hP hS => ?_)
                  have hP : HW g (mAdd (mGo S true true true) n a b q ex cl lo) H := hP
                  refine lv_aload_n C.1 hb dX1_add_185 rfl (lv_at hl 1 rfl) ?_
                  refine gM_rows C hb hP dX1_add_186 ?_
                  refine lv_iconst (v := 1) C.1 hb dX1_add_189 (by decide) ?_
                  refine lv_isub C.1 hb dX1_add_190 ?_
                  refine toI (show mSc (mAdd (mGo S true true true) n a b q ex cl lo) 0 - 1 = nI n from nI_pred n) ?_
                  exact wrI C hb hret hlk hP hS dX1_add_191 (by unfold mV_add; rw [ho, if_pos rfl, if_pos (of_decide_eq_true hd)]) (by unfold mR_add; rw [ho, if_pos rfl, if_pos (of_decide_eq_true hd)])
                · exact absurd c211 (by decide)
