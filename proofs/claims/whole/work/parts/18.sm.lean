set_option maxRecDepth 100000 in
set_option maxHeartbeats 4000000 in
theorem k_X1_lowestLess (l : Launch) (g : gG) (S : WS) (t : Nat) (ht : t < 3) : Met l yX1_lowestLess (wA yX1_lowestLess cX1_lowestLess 3 (some .int)) ({ frames := 1, cells := 0, slots := 0, locals := 40 }) (PW g S [.ref (gA g 17), .int (nI t)]) (RQ (some (.int (mLowS S t)))) 0 0 (fun _ => False) := by
  refine metI (by decide +kernel) (Nat.le_of_ble_eq_true rfl) ?_
  intro p e s m below meth c C hb hml hret hlk hP ls hl
  have C : CW g RX1 p s m ([.ref (gA g 17), .int (nI t)] : List Value).toArray := C
  have hS : va_S (Ab g) s.heap s.heap [] := va_S.rf
  have hl : lv_has ls 3 [(0, .ref (gA g 17)), (1, .int (nI t))] := hl
  have h4 := levN_4 t
  have h3 := levN_3 t
  refine lv_iconst (v := 1) C.1 hb dX1_lowestLess_0 (by decide) ?_
  refine lv_istore_n (lv' := [(2, .int 1), (0, .ref (gA g 17)), (1, .int (nI t))]) C.1 hb dX1_lowestLess_1 rfl hl (by decide) rfl (fun ls hl => ?_)
  have key : ∀ f i : Nat, levN t - i < f → i ≤ levN t → (xLowF (mF S t) (levN t - i) i = mLowS S t) → (1 ≤ i) → ∀ ls : Array Slot, lv_has ls 3 [(0, .ref (gA g 17)), (1, .int (nI t)), (2, .int (nI i))] → W p l e ({ frames := 1, cells := 0, slots := 0, locals := 40 }) s m ([.ref (gA g 17), .int (nI t)] : List Value).toArray below meth c s.heap [] 0 0 (MQ below (RQ (some (.int (mLowS S t)))) ([.ref (gA g 17), .int (nI t)] : List Value).toArray s 0 0 (fun _ => False)) (F0 m 2 ls []) := by
    intro f
    induction f with
    | zero => intro i h; exact absurd h (Nat.not_lt_zero _)
    | succ f ih =>
      intro i hfi hi heq h1 ls hl
      refine lv_iload_n C.1 hb dX1_lowestLess_2 rfl (lv_at hl 2 rfl) ?_
      refine lv_iload_n C.1 hb dX1_lowestLess_3 rfl (lv_at hl 1 rfl) ?_
      refine run_rd (cRunS (As := [.int (nI t)]) (rest := [.int (nI i)]) C hb (hml.trans hl.1.symm) hP hS (k_X1_levelsOf l g S t ht) wm_105 wm_106 wm_107 wm_5 (n := 1) (by decide +kernel) rfl ⟨rfl, rfl, Nat.le_of_ble_eq_true rfl, Nat.le_of_ble_eq_true rfl⟩ (Nat.le_of_ble_eq_true rfl) rfl ⟨Nat.zero_le _, Nat.zero_le _⟩ dX1_lowestLess_4) ?_
      refine lv_icmp_ge (tgt := 43) C.1 hb dX1_lowestLess_7 (by decide) (fun c212 => ?_) (fun c212 => ?_)
      · have hin : i = levN t := by have := le_nI (a := levN t) (b := i) (by omega) (by omega) c212; omega
        rw [hin] at hl
        refine lv_iconst (v := (-1)) C.1 hb dX1_lowestLess_43 (by decide) ?_
        exact rdI C hb hret hlk dX1_lowestLess_44 (by rw [← heq, hin, Nat.sub_self]; rfl)
      · have hlt : i < levN t := nle_nI (a := levN t) (b := i) (by omega) (by omega) c212
        have hd : levN t - i = (levN t - (i + 1)) + 1 := by omega
        rw [hd] at heq
        refine lv_aload_n C.1 hb dX1_lowestLess_10 rfl (lv_at hl 0 rfl) ?_
        refine gM_factors C hb hP dX1_lowestLess_11 ?_
        refine lv_iconst (v := 4) C.1 hb dX1_lowestLess_14 (by decide) ?_
        refine lv_iload_n C.1 hb dX1_lowestLess_15 rfl (lv_at hl 1 rfl) ?_
        refine lv_imul C.1 hb dX1_lowestLess_16 ?_
        refine lv_iload_n C.1 hb dX1_lowestLess_17 rfl (lv_at hl 2 rfl) ?_
        refine lv_iadd C.1 hb dX1_lowestLess_18 ?_
        refine ldM_factors (j := (4 * t + i)) C hb hP (ix4 t i) (by omega) dX1_lowestLess_19 ?_
        refine lv_aload_n C.1 hb dX1_lowestLess_20 rfl (lv_at hl 0 rfl) ?_
        refine gM_factors C hb hP dX1_lowestLess_21 ?_
        refine lv_iconst (v := 4) C.1 hb dX1_lowestLess_24 (by decide) ?_
        refine lv_iload_n C.1 hb dX1_lowestLess_25 rfl (lv_at hl 1 rfl) ?_
        refine lv_imul C.1 hb dX1_lowestLess_26 ?_
        refine lv_iload_n C.1 hb dX1_lowestLess_27 rfl (lv_at hl 2 rfl) ?_
        refine lv_iadd C.1 hb dX1_lowestLess_28 ?_
        refine lv_iconst (v := 1) C.1 hb dX1_lowestLess_29 (by decide) ?_
        refine lv_isub C.1 hb dX1_lowestLess_30 ?_
        refine ldM_factors (j := (4 * t + (i - 1))) C hb hP (ix4m t i h1) (by omega) dX1_lowestLess_31 ?_
        refine lv_icmp_ge (tgt := 37) C.1 hb dX1_lowestLess_32 (by decide) (fun c213 => ?_) (fun c213 => ?_)
        · refine lv_iinc (v := nI (i + 1)) (lv' := [(2, .int (nI (i + 1))), (0, .ref (gA g 17)), (1, .int (nI t))]) C.1 hb dX1_lowestLess_37 hl (k := 2) rfl (nI_1 i) (by decide) rfl (fun ls hl => ?_)
          refine lv_goto (tgt := 2) C.1 hb dX1_lowestLess_40 (by decide) ?_
          exact ih (i + 1) (by omega) (by omega) ((if_pos c213).symm.trans heq) (by omega) ls (lv_sub hl [1, 2, 0] rfl)
        · refine lv_iload_n C.1 hb dX1_lowestLess_35 rfl (lv_at hl 2 rfl) ?_
          exact rdI C hb hret hlk dX1_lowestLess_36 (by rw [← heq]; exact (if_neg c213).symm)
  exact key (levN t - 1 + 1) 1 (by omega) (by omega) rfl (Nat.le_refl 1) ls (lv_sub hl [1, 2, 0] rfl)

set_option maxRecDepth 100000 in
set_option maxHeartbeats 4000000 in
theorem k_X1_means (l : Launch) (g : gG) (S : WS) (n : Nat) (hI : MI n S) (t : Nat) (ht : t < 3) (a b : Int32) (hc : 0 < xCnt (mMP S a b) (levN t)) : Met l yX1_means (wA yX1_means cX1_means 14 none) ({ frames := 2, cells := 0, slots := 0, locals := 80 }) (PW g S [.ref (gA g 17), .int (nI t), .int a, .int b]) (WQ g (mMeans S n t a b) (none)) 0 0 (Ab g) := by
  refine metI (by decide +kernel) (Nat.le_of_ble_eq_true rfl) ?_
  intro p e s m below meth c C hb hml hret hlk hP ls hl
  have C : CW g RX1 p s m ([.ref (gA g 17), .int (nI t), .int a, .int b] : List Value).toArray := C
  have hS : va_S (Ab g) s.heap s.heap [] := va_S.rf
  have hl : lv_has ls 14 [(0, .ref (gA g 17)), (1, .int (nI t)), (2, .int a), (3, .int b)] := hl
  have h4 := levN_4 t
  have h3 := levN_3 t
  have hn40 := hI.1
  refine lv_lconst (v := 0) C.1 hb dX1_means_0 (by decide) ?_
  refine lv_lstore (lv' := [(4, .long 0), (0, .ref (gA g 17)), (1, .int (nI t)), (2, .int a), (3, .int b)]) C.1 hb dX1_means_1 hl (by decide) rfl (fun ls hl => ?_)
  refine lv_lconst (v := 0) C.1 hb dX1_means_3 (by decide) ?_
  refine lv_lstore (lv' := [(6, .long 0), (4, .long 0), (0, .ref (gA g 17)), (1, .int (nI t)), (2, .int a), (3, .int b)]) C.1 hb dX1_means_4 hl (by decide) rfl (fun ls hl => ?_)
  refine lv_lconst (v := 0) C.1 hb dX1_means_6 (by decide) ?_
  refine lv_lstore (lv' := [(8, .long 0), (6, .long 0), (4, .long 0), (0, .ref (gA g 17)), (1, .int (nI t)), (2, .int a), (3, .int b)]) C.1 hb dX1_means_7 hl (by decide) rfl (fun ls hl => ?_)
  refine lv_iconst (v := 0) C.1 hb dX1_means_9 (by decide) ?_
  refine lv_istore (lv' := [(10, .int 0), (8, .long 0), (6, .long 0), (4, .long 0), (0, .ref (gA g 17)), (1, .int (nI t)), (2, .int a), (3, .int b)]) C.1 hb dX1_means_10 hl (by decide) rfl (fun ls hl => ?_)
  refine lv_iconst (v := 0) C.1 hb dX1_means_12 (by decide) ?_
  refine lv_istore (lv' := [(11, .int 0), (10, .int 0), (8, .long 0), (6, .long 0), (4, .long 0), (0, .ref (gA g 17)), (1, .int (nI t)), (2, .int a), (3, .int b)]) C.1 hb dX1_means_13 hl (by decide) rfl (fun ls hl => ?_)
  have key : ∀ f i : Nat, levN t - i < f → i ≤ levN t → ∀ (H : Heap) (locs : List Loc), HW g S H → va_S (Ab g) s.heap H locs → ∀ ls : Array Slot, lv_has ls 14 [(0, .ref (gA g 17)), (1, .int (nI t)), (2, .int a), (3, .int b), (4, .long (wsum (mMP S a b) (fun k => mEx S n t k * (mIa S 6 (4 * t + k)).toInt64) i)), (6, .long (wsum (mMP S a b) (fun k => (mIa S 6 (4 * t + k)).toInt64) i)), (8, .long (wsum (mMP S a b) (mEx S n t) i)), (10, .int (nI (xCnt (mMP S a b) i))), (11, .int (nI i))] → W p l e ({ frames := 2, cells := 0, slots := 0, locals := 80 }) s m ([.ref (gA g 17), .int (nI t), .int a, .int b] : List Value).toArray below meth c H locs 0 0 (MQ below (WQ g (mMeans S n t a b) (none)) ([.ref (gA g 17), .int (nI t), .int a, .int b] : List Value).toArray s 0 0 (Ab g)) (F0 m 15 ls []) := by
    intro f
    induction f with
    | zero => intro i h; exact absurd h (Nat.not_lt_zero _)
    | succ f ih =>
      intro i hfi hi  H locs hP hS ls hl
      refine lv_iload C.1 hb dX1_means_15 (lv_at hl 8 rfl) ?_
      refine lv_iload_n C.1 hb dX1_means_17 rfl (lv_at hl 1 rfl) ?_
      refine run_rd (cRunS (As := [.int (nI t)]) (rest := [.int (nI i)]) C hb (hml.trans hl.1.symm) hP hS (k_X1_levelsOf l g S t ht) wm_105 wm_106 wm_107 wm_5 (n := 1) (by decide +kernel) rfl ⟨rfl, rfl, Nat.le_of_ble_eq_true rfl, Nat.le_of_ble_eq_true rfl⟩ (Nat.le_of_ble_eq_true rfl) rfl ⟨Nat.zero_le _, Nat.zero_le _⟩ dX1_means_18) ?_
      refine lv_icmp_ge (tgt := 109) C.1 hb dX1_means_21 (by decide) (fun c214 => ?_) (fun c214 => ?_)
      · have hin : i = levN t := by have := le_nI (a := levN t) (b := i) (by omega) (by omega) c214; omega
        rw [hin] at hl
        refine lv_lload C.1 hb dX1_means_109 (lv_at hl 6 rfl) ?_
        refine lv_lconst (v := 0) C.1 hb dX1_means_111 (by decide) ?_
        refine lc_ne (tgt := 125) C hb dX1_means_112 dX1_means_113 (by decide) (fun c215 => ?_) (fun c215 => ?_)
        · refine lv_lload C.1 hb dX1_means_125 (lv_at hl 4 rfl) ?_
          refine lv_lload C.1 hb dX1_means_127 (lv_at hl 6 rfl) ?_
          refine lv_ldiv C.1 hb dX1_means_129 c215 ?_
          refine toL (show _ = (mMean S n t a b) from (if_neg c215).symm) ?_
          refine lv_lstore (lv' := [(11, .long (mMean S n t a b)), (0, .ref (gA g 17)), (1, .int (nI t)), (2, .int a), (3, .int b), (4, .long (wsum (mMP S a b) (fun k => mEx S n t k * (mIa S 6 (4 * t + k)).toInt64) (levN t))), (6, .long (wsum (mMP S a b) (fun k => (mIa S 6 (4 * t + k)).toInt64) (levN t))), (8, .long (wsum (mMP S a b) (mEx S n t) (levN t))), (10, .int (nI (xCnt (mMP S a b) (levN t))))]) C.1 hb dX1_means_130 hl (by decide) rfl (fun ls hl => ?_)
          refine lv_iconst (v := 0) C.1 hb dX1_means_132 (by decide) ?_
          refine lv_istore (lv' := [(13, .int 0), (11, .long (mMean S n t a b)), (0, .ref (gA g 17)), (1, .int (nI t)), (2, .int a), (3, .int b), (4, .long (wsum (mMP S a b) (fun k => mEx S n t k * (mIa S 6 (4 * t + k)).toInt64) (levN t))), (6, .long (wsum (mMP S a b) (fun k => (mIa S 6 (4 * t + k)).toInt64) (levN t))), (8, .long (wsum (mMP S a b) (mEx S n t) (levN t))), (10, .int (nI (xCnt (mMP S a b) (levN t))))]) C.1 hb dX1_means_133 hl (by decide) rfl (fun ls hl => ?_)
          have key2 : ∀ f i : Nat, levN t - i < f → i ≤ levN t → ∀ (H : Heap) (locs : List Loc), HW g (mMs S t a b (mMean S n t a b).toInt32 i) H → va_S (Ab g) s.heap H locs → ∀ ls : Array Slot, lv_has ls 14 [(0, .ref (gA g 17)), (1, .int (nI t)), (2, .int a), (3, .int b), (11, .long (mMean S n t a b)), (13, .int (nI i))] → W p l e ({ frames := 2, cells := 0, slots := 0, locals := 80 }) s m ([.ref (gA g 17), .int (nI t), .int a, .int b] : List Value).toArray below meth c H locs 0 0 (MQ below (WQ g (mMeans S n t a b) (none)) ([.ref (gA g 17), .int (nI t), .int a, .int b] : List Value).toArray s 0 0 (Ab g)) (F0 m 135 ls []) := by
            intro f
            induction f with
            | zero => intro i h; exact absurd h (Nat.not_lt_zero _)
            | succ f ih =>
              intro i hfi hi  H locs hP hS ls hl
              refine lv_iload C.1 hb dX1_means_135 (lv_at hl 5 rfl) ?_
              refine lv_iload_n C.1 hb dX1_means_137 rfl (lv_at hl 1 rfl) ?_
              refine run_rd (cRunS (As := [.int (nI t)]) (rest := [.int (nI i)]) C hb (hml.trans hl.1.symm) hP hS (k_X1_levelsOf l g (mMs S t a b (mMean S n t a b).toInt32 i) t ht) wm_105 wm_106 wm_107 wm_5 (n := 1) (by decide +kernel) rfl ⟨rfl, rfl, Nat.le_of_ble_eq_true rfl, Nat.le_of_ble_eq_true rfl⟩ (Nat.le_of_ble_eq_true rfl) rfl ⟨Nat.zero_le _, Nat.zero_le _⟩ dX1_means_138) ?_
              refine lv_icmp_ge (tgt := 194) C.1 hb dX1_means_141 (by decide) (fun c216 => ?_) (fun c216 => ?_)
              · have hin : i = levN t := by have := le_nI (a := levN t) (b := i) (by omega) (by omega) c216; omega
                rw [hin] at hl hP
                exact wrV C hb hret hlk hP hS dX1_means_194 rfl
              · have hlt : i < levN t := nle_nI (a := levN t) (b := i) (by omega) (by omega) c216
                refine lv_aload_n C.1 hb dX1_means_144 rfl (lv_at hl 0 rfl) ?_
                refine gM_joined C hb hP dX1_means_145 ?_
                refine lv_iload C.1 hb dX1_means_148 (lv_at hl 5 rfl) ?_
                refine ldM_joined (j := i) C hb hP rfl (by omega) dX1_means_150 ?_
                refine toI (show mIa (mMs S t a b (mMean S n t a b).toInt32 i) 8 i = mIa S 8 i from (congrFun (mia_at S 8 _) i).trans (mMJ_at S a b i)) ?_
                refine lv_iload_n C.1 hb dX1_means_151 rfl (lv_at hl 2 rfl) ?_
                refine lv_icmp_eq (tgt := 166) C.1 hb dX1_means_152 (by decide) (fun c217 => ?_) (fun c217 => ?_)
                · refine lv_aload_n C.1 hb dX1_means_166 rfl (lv_at hl 0 rfl) ?_
                  refine gM_joined C hb hP dX1_means_167 ?_
                  refine lv_iload C.1 hb dX1_means_170 (lv_at hl 5 rfl) ?_
                  refine lv_iload_n C.1 hb dX1_means_172 rfl (lv_at hl 2 rfl) ?_
                  refine stM_joined (j := i) C hb hP hS rfl (by omega) dX1_means_173 (fun H locs hP hS => ?_)
                  refine lv_aload_n C.1 hb dX1_means_174 rfl (lv_at hl 0 rfl) ?_
                  refine gM_factors C hb hP dX1_means_175 ?_
                  refine lv_iconst (v := 4) C.1 hb dX1_means_178 (by decide) ?_
                  refine lv_iload_n C.1 hb dX1_means_179 rfl (lv_at hl 1 rfl) ?_
                  refine lv_imul C.1 hb dX1_means_180 ?_
                  refine lv_iload C.1 hb dX1_means_181 (lv_at hl 5 rfl) ?_
                  refine lv_iadd C.1 hb dX1_means_183 ?_
                  refine lv_lload C.1 hb dX1_means_184 (lv_at hl 4 rfl) ?_
                  refine lv_l2i C.1 hb dX1_means_186 rfl ?_
                  refine stM_factors (j := (4 * t + i)) C hb hP hS (ix4 t i) (by omega) dX1_means_187 (fun H locs hP hS => ?_)
                  refine lv_iinc (v := nI (i + 1)) (lv' := [(13, .int (nI (i + 1))), (0, .ref (gA g 17)), (1, .int (nI t)), (2, .int a), (3, .int b), (11, .long (mMean S n t a b))]) C.1 hb dX1_means_188 hl (k := 5) rfl (nI_1 i) (by decide) rfl (fun ls hl => ?_)
                  refine lv_goto (tgt := 135) C.1 hb dX1_means_191 (by decide) ?_
                  exact ih (i + 1) (by omega) (by omega)  _ _ (by rw [← mMs_put S t a b _ i (by simp [mMP, c217])]; exact hP) hS ls (lv_sub hl [1, 2, 3, 4, 5, 0] rfl)
                · refine lv_aload_n C.1 hb dX1_means_155 rfl (lv_at hl 0 rfl) ?_
                  refine gM_joined C hb hP dX1_means_156 ?_
                  refine lv_iload C.1 hb dX1_means_159 (lv_at hl 5 rfl) ?_
                  refine ldM_joined (j := i) C hb hP rfl (by omega) dX1_means_161 ?_
                  refine toI (show mIa (mMs S t a b (mMean S n t a b).toInt32 i) 8 i = mIa S 8 i from (congrFun (mia_at S 8 _) i).trans (mMJ_at S a b i)) ?_
                  refine lv_iload_n C.1 hb dX1_means_162 rfl (lv_at hl 3 rfl) ?_
                  refine lv_icmp_ne (tgt := 188) C.1 hb dX1_means_163 (by decide) (fun c218 => ?_) (fun c218 => ?_)
                  · refine lv_iinc (v := nI (i + 1)) (lv' := [(13, .int (nI (i + 1))), (0, .ref (gA g 17)), (1, .int (nI t)), (2, .int a), (3, .int b), (11, .long (mMean S n t a b))]) C.1 hb dX1_means_188 hl (k := 5) rfl (nI_1 i) (by decide) rfl (fun ls hl => ?_)
                    refine lv_goto (tgt := 135) C.1 hb dX1_means_191 (by decide) ?_
                    exact ih (i + 1) (by omega) (by omega)  _ _ (by rw [mMs_keep S t a b _ i (by simp [mMP, c217, c218])]; exact hP) hS ls (lv_sub hl [1, 2, 3, 4, 5, 0] rfl)
                  · refine lv_aload_n C.1 hb dX1_means_166 rfl (lv_at hl 0 rfl) ?_
                    refine gM_joined C hb hP dX1_means_167 ?_
                    refine lv_iload C.1 hb dX1_means_170 (lv_at hl 5 rfl) ?_
                    refine lv_iload_n C.1 hb dX1_means_172 rfl (lv_at hl 2 rfl) ?_
                    refine stM_joined (j := i) C hb hP hS rfl (by omega) dX1_means_173 (fun H locs hP hS => ?_)
                    refine lv_aload_n C.1 hb dX1_means_174 rfl (lv_at hl 0 rfl) ?_
                    refine gM_factors C hb hP dX1_means_175 ?_
                    refine lv_iconst (v := 4) C.1 hb dX1_means_178 (by decide) ?_
                    refine lv_iload_n C.1 hb dX1_means_179 rfl (lv_at hl 1 rfl) ?_
                    refine lv_imul C.1 hb dX1_means_180 ?_
                    refine lv_iload C.1 hb dX1_means_181 (lv_at hl 5 rfl) ?_
                    refine lv_iadd C.1 hb dX1_means_183 ?_
                    refine lv_lload C.1 hb dX1_means_184 (lv_at hl 4 rfl) ?_
                    refine lv_l2i C.1 hb dX1_means_186 rfl ?_
                    refine stM_factors (j := (4 * t + i)) C hb hP hS (ix4 t i) (by omega) dX1_means_187 (fun H locs hP hS => ?_)
                    refine lv_iinc (v := nI (i + 1)) (lv' := [(13, .int (nI (i + 1))), (0, .ref (gA g 17)), (1, .int (nI t)), (2, .int a), (3, .int b), (11, .long (mMean S n t a b))]) C.1 hb dX1_means_188 hl (k := 5) rfl (nI_1 i) (by decide) rfl (fun ls hl => ?_)
                    refine lv_goto (tgt := 135) C.1 hb dX1_means_191 (by decide) ?_
                    exact ih (i + 1) (by omega) (by omega)  _ _ (by rw [← mMs_put S t a b _ i (by simp [mMP, c218])]; exact hP) hS ls (lv_sub hl [1, 2, 3, 4, 5, 0] rfl)
          exact key2 (levN t - 0 + 1) 0 (by omega) (by omega)  _ _ (by rw [mMs_0]; exact hP) hS ls (lv_sub hl [2, 3, 4, 5, 1, 0] rfl)
        · refine lv_lload C.1 hb dX1_means_116 (lv_at hl 5 rfl) ?_
          refine lv_iload C.1 hb dX1_means_118 (lv_at hl 7 rfl) ?_
          refine lv_i2l C.1 hb dX1_means_120 rfl ?_
          refine lv_ldiv C.1 hb dX1_means_121 (nI_cnt_ne0 (by have := xCnt_le (mMP S a b) (levN t); omega) hc) ?_
          refine lv_goto (tgt := 130) C.1 hb dX1_means_122 (by decide) ?_
          refine toL (show _ = (mMean S n t a b) from (if_pos c215).symm) ?_
          refine lv_lstore (lv' := [(11, .long (mMean S n t a b)), (0, .ref (gA g 17)), (1, .int (nI t)), (2, .int a), (3, .int b), (4, .long (wsum (mMP S a b) (fun k => mEx S n t k * (mIa S 6 (4 * t + k)).toInt64) (levN t))), (6, .long (wsum (mMP S a b) (fun k => (mIa S 6 (4 * t + k)).toInt64) (levN t))), (8, .long (wsum (mMP S a b) (mEx S n t) (levN t))), (10, .int (nI (xCnt (mMP S a b) (levN t))))]) C.1 hb dX1_means_130 hl (by decide) rfl (fun ls hl => ?_)
          refine lv_iconst (v := 0) C.1 hb dX1_means_132 (by decide) ?_
          refine lv_istore (lv' := [(13, .int 0), (11, .long (mMean S n t a b)), (0, .ref (gA g 17)), (1, .int (nI t)), (2, .int a), (3, .int b), (4, .long (wsum (mMP S a b) (fun k => mEx S n t k * (mIa S 6 (4 * t + k)).toInt64) (levN t))), (6, .long (wsum (mMP S a b) (fun k => (mIa S 6 (4 * t + k)).toInt64) (levN t))), (8, .long (wsum (mMP S a b) (mEx S n t) (levN t))), (10, .int (nI (xCnt (mMP S a b) (levN t))))]) C.1 hb dX1_means_133 hl (by decide) rfl (fun ls hl => ?_)
          have key2 : ∀ f i : Nat, levN t - i < f → i ≤ levN t → ∀ (H : Heap) (locs : List Loc), HW g (mMs S t a b (mMean S n t a b).toInt32 i) H → va_S (Ab g) s.heap H locs → ∀ ls : Array Slot, lv_has ls 14 [(0, .ref (gA g 17)), (1, .int (nI t)), (2, .int a), (3, .int b), (11, .long (mMean S n t a b)), (13, .int (nI i))] → W p l e ({ frames := 2, cells := 0, slots := 0, locals := 80 }) s m ([.ref (gA g 17), .int (nI t), .int a, .int b] : List Value).toArray below meth c H locs 0 0 (MQ below (WQ g (mMeans S n t a b) (none)) ([.ref (gA g 17), .int (nI t), .int a, .int b] : List Value).toArray s 0 0 (Ab g)) (F0 m 135 ls []) := by
            intro f
            induction f with
            | zero => intro i h; exact absurd h (Nat.not_lt_zero _)
            | succ f ih =>
              intro i hfi hi  H locs hP hS ls hl
              refine lv_iload C.1 hb dX1_means_135 (lv_at hl 5 rfl) ?_
              refine lv_iload_n C.1 hb dX1_means_137 rfl (lv_at hl 1 rfl) ?_
              refine run_rd (cRunS (As := [.int (nI t)]) (rest := [.int (nI i)]) C hb (hml.trans hl.1.symm) hP hS (k_X1_levelsOf l g (mMs S t a b (mMean S n t a b).toInt32 i) t ht) wm_105 wm_106 wm_107 wm_5 (n := 1) (by decide +kernel) rfl ⟨rfl, rfl, Nat.le_of_ble_eq_true rfl, Nat.le_of_ble_eq_true rfl⟩ (Nat.le_of_ble_eq_true rfl) rfl ⟨Nat.zero_le _, Nat.zero_le _⟩ dX1_means_138) ?_
              refine lv_icmp_ge (tgt := 194) C.1 hb dX1_means_141 (by decide) (fun c219 => ?_) (fun c219 => ?_)
              · have hin : i = levN t := by have := le_nI (a := levN t) (b := i) (by omega) (by omega) c219; omega
                rw [hin] at hl hP
                exact wrV C hb hret hlk hP hS dX1_means_194 rfl
              · have hlt : i < levN t := nle_nI (a := levN t) (b := i) (by omega) (by omega) c219
                refine lv_aload_n C.1 hb dX1_means_144 rfl (lv_at hl 0 rfl) ?_
                refine gM_joined C hb hP dX1_means_145 ?_
                refine lv_iload C.1 hb dX1_means_148 (lv_at hl 5 rfl) ?_
                refine ldM_joined (j := i) C hb hP rfl (by omega) dX1_means_150 ?_
                refine toI (show mIa (mMs S t a b (mMean S n t a b).toInt32 i) 8 i = mIa S 8 i from (congrFun (mia_at S 8 _) i).trans (mMJ_at S a b i)) ?_
                refine lv_iload_n C.1 hb dX1_means_151 rfl (lv_at hl 2 rfl) ?_
                refine lv_icmp_eq (tgt := 166) C.1 hb dX1_means_152 (by decide) (fun c220 => ?_) (fun c220 => ?_)
                · refine lv_aload_n C.1 hb dX1_means_166 rfl (lv_at hl 0 rfl) ?_
                  refine gM_joined C hb hP dX1_means_167 ?_
                  refine lv_iload C.1 hb dX1_means_170 (lv_at hl 5 rfl) ?_
                  refine lv_iload_n C.1 hb dX1_means_172 rfl (lv_at hl 2 rfl) ?_
                  refine stM_joined (j := i) C hb hP hS rfl (by omega) dX1_means_173 (fun H locs hP hS => ?_)
                  refine lv_aload_n C.1 hb dX1_means_174 rfl (lv_at hl 0 rfl) ?_
                  refine gM_factors C hb hP dX1_means_175 ?_
                  refine lv_iconst (v := 4) C.1 hb dX1_means_178 (by decide) ?_
                  refine lv_iload_n C.1 hb dX1_means_179 rfl (lv_at hl 1 rfl) ?_
                  refine lv_imul C.1 hb dX1_means_180 ?_
                  refine lv_iload C.1 hb dX1_means_181 (lv_at hl 5 rfl) ?_
                  refine lv_iadd C.1 hb dX1_means_183 ?_
                  refine lv_lload C.1 hb dX1_means_184 (lv_at hl 4 rfl) ?_
                  refine lv_l2i C.1 hb dX1_means_186 rfl ?_
                  refine stM_factors (j := (4 * t + i)) C hb hP hS (ix4 t i) (by omega) dX1_means_187 (fun H locs hP hS => ?_)
                  refine lv_iinc (v := nI (i + 1)) (lv' := [(13, .int (nI (i + 1))), (0, .ref (gA g 17)), (1, .int (nI t)), (2, .int a), (3, .int b), (11, .long (mMean S n t a b))]) C.1 hb dX1_means_188 hl (k := 5) rfl (nI_1 i) (by decide) rfl (fun ls hl => ?_)
                  refine lv_goto (tgt := 135) C.1 hb dX1_means_191 (by decide) ?_
                  exact ih (i + 1) (by omega) (by omega)  _ _ (by rw [← mMs_put S t a b _ i (by simp [mMP, c220])]; exact hP) hS ls (lv_sub hl [1, 2, 3, 4, 5, 0] rfl)
                · refine lv_aload_n C.1 hb dX1_means_155 rfl (lv_at hl 0 rfl) ?_
                  refine gM_joined C hb hP dX1_means_156 ?_
                  refine lv_iload C.1 hb dX1_means_159 (lv_at hl 5 rfl) ?_
                  refine ldM_joined (j := i) C hb hP rfl (by omega) dX1_means_161 ?_
                  refine toI (show mIa (mMs S t a b (mMean S n t a b).toInt32 i) 8 i = mIa S 8 i from (congrFun (mia_at S 8 _) i).trans (mMJ_at S a b i)) ?_
                  refine lv_iload_n C.1 hb dX1_means_162 rfl (lv_at hl 3 rfl) ?_
                  refine lv_icmp_ne (tgt := 188) C.1 hb dX1_means_163 (by decide) (fun c221 => ?_) (fun c221 => ?_)
                  · refine lv_iinc (v := nI (i + 1)) (lv' := [(13, .int (nI (i + 1))), (0, .ref (gA g 17)), (1, .int (nI t)), (2, .int a), (3, .int b), (11, .long (mMean S n t a b))]) C.1 hb dX1_means_188 hl (k := 5) rfl (nI_1 i) (by decide) rfl (fun ls hl => ?_)
                    refine lv_goto (tgt := 135) C.1 hb dX1_means_191 (by decide) ?_
                    exact ih (i + 1) (by omega) (by omega)  _ _ (by rw [mMs_keep S t a b _ i (by simp [mMP, c220, c221])]; exact hP) hS ls (lv_sub hl [1, 2, 3, 4, 5, 0] rfl)
                  · refine lv_aload_n C.1 hb dX1_means_166 rfl (lv_at hl 0 rfl) ?_
                    refine gM_joined C hb hP dX1_means_167 ?_
                    refine lv_iload C.1 hb dX1_means_170 (lv_at hl 5 rfl) ?_
                    refine lv_iload_n C.1 hb dX1_means_172 rfl (lv_at hl 2 rfl) ?_
                    refine stM_joined (j := i) C hb hP hS rfl (by omega) dX1_means_173 (fun H locs hP hS => ?_)
                    refine lv_aload_n C.1 hb dX1_means_174 rfl (lv_at hl 0 rfl) ?_
                    refine gM_factors C hb hP dX1_means_175 ?_
                    refine lv_iconst (v := 4) C.1 hb dX1_means_178 (by decide) ?_
                    refine lv_iload_n C.1 hb dX1_means_179 rfl (lv_at hl 1 rfl) ?_
                    refine lv_imul C.1 hb dX1_means_180 ?_
                    refine lv_iload C.1 hb dX1_means_181 (lv_at hl 5 rfl) ?_
                    refine lv_iadd C.1 hb dX1_means_183 ?_
                    refine lv_lload C.1 hb dX1_means_184 (lv_at hl 4 rfl) ?_
                    refine lv_l2i C.1 hb dX1_means_186 rfl ?_
                    refine stM_factors (j := (4 * t + i)) C hb hP hS (ix4 t i) (by omega) dX1_means_187 (fun H locs hP hS => ?_)
                    refine lv_iinc (v := nI (i + 1)) (lv' := [(13, .int (nI (i + 1))), (0, .ref (gA g 17)), (1, .int (nI t)), (2, .int a), (3, .int b), (11, .long (mMean S n t a b))]) C.1 hb dX1_means_188 hl (k := 5) rfl (nI_1 i) (by decide) rfl (fun ls hl => ?_)
                    refine lv_goto (tgt := 135) C.1 hb dX1_means_191 (by decide) ?_
                    exact ih (i + 1) (by omega) (by omega)  _ _ (by rw [← mMs_put S t a b _ i (by simp [mMP, c221])]; exact hP) hS ls (lv_sub hl [1, 2, 3, 4, 5, 0] rfl)
          exact key2 (levN t - 0 + 1) 0 (by omega) (by omega)  _ _ (by rw [mMs_0]; exact hP) hS ls (lv_sub hl [2, 3, 4, 5, 1, 0] rfl)
      · have hlt : i < levN t := nle_nI (a := levN t) (b := i) (by omega) (by omega) c214
        refine lv_aload_n C.1 hb dX1_means_24 rfl (lv_at hl 0 rfl) ?_
        refine gM_joined C hb hP dX1_means_25 ?_
        refine lv_iload C.1 hb dX1_means_28 (lv_at hl 8 rfl) ?_
        refine ldM_joined (j := i) C hb hP rfl (by omega) dX1_means_30 ?_
        refine lv_iload_n C.1 hb dX1_means_31 rfl (lv_at hl 2 rfl) ?_
        refine lv_icmp_eq (tgt := 46) C.1 hb dX1_means_32 (by decide) (fun c222 => ?_) (fun c222 => ?_)
        · have hp : mMP S a b i = true := by simp [mMP, c222]
          refine lv_lload C.1 hb dX1_means_46 (lv_at hl 4 rfl) ?_
          refine lv_aload_n C.1 hb dX1_means_48 rfl (lv_at hl 0 rfl) ?_
          refine lv_iload_n C.1 hb dX1_means_49 rfl (lv_at hl 1 rfl) ?_
          refine lv_iload C.1 hb dX1_means_50 (lv_at hl 8 rfl) ?_
          refine run_rd (cRunM (As := [.int (nI t), .int (nI i)]) (rest := [.long (wsum (mMP S a b) (fun k => mEx S n t k * (mIa S 6 (4 * t + k)).toInt64) i)]) C hb (hml.trans hl.1.symm) hP hS rfl (k_X1_exposed l g S n hI t ht (nI i)) wm_300 wm_301 wm_302 wm_303 wm_5 (n := 2) (by decide +kernel) rfl ⟨rfl, rfl, Nat.le_of_ble_eq_true rfl, Nat.le_of_ble_eq_true rfl⟩ (Nat.le_of_ble_eq_true rfl) rfl ⟨Nat.zero_le _, Nat.zero_le _⟩ dX1_means_52) ?_
          refine lv_aload_n C.1 hb dX1_means_55 rfl (lv_at hl 0 rfl) ?_
          refine gM_factors C hb hP dX1_means_56 ?_
          refine lv_iconst (v := 4) C.1 hb dX1_means_59 (by decide) ?_
          refine lv_iload_n C.1 hb dX1_means_60 rfl (lv_at hl 1 rfl) ?_
          refine lv_imul C.1 hb dX1_means_61 ?_
          refine lv_iload C.1 hb dX1_means_62 (lv_at hl 8 rfl) ?_
          refine lv_iadd C.1 hb dX1_means_64 ?_
          refine ldM_factors (j := (4 * t + i)) C hb hP (ix4 t i) (by omega) dX1_means_65 ?_
          refine lv_i2l C.1 hb dX1_means_66 rfl ?_
          refine lv_lmul C.1 hb dX1_means_67 ?_
          refine lv_ladd C.1 hb dX1_means_68 ?_
          refine lv_lstore (lv' := [(4, .long ((wsum (mMP S a b) (fun k => mEx S n t k * (mIa S 6 (4 * t + k)).toInt64) i) + ((mEx S n t i) * (mIa S 6 (4 * t + i)).toInt64))), (0, .ref (gA g 17)), (1, .int (nI t)), (2, .int a), (3, .int b), (6, .long (wsum (mMP S a b) (fun k => (mIa S 6 (4 * t + k)).toInt64) i)), (8, .long (wsum (mMP S a b) (mEx S n t) i)), (10, .int (nI (xCnt (mMP S a b) i))), (11, .int (nI i))]) C.1 hb dX1_means_69 hl (by decide) rfl (fun ls hl => ?_)
          refine lv_lload C.1 hb dX1_means_71 (lv_at hl 6 rfl) ?_
          refine lv_aload_n C.1 hb dX1_means_73 rfl (lv_at hl 1 rfl) ?_
          refine lv_iload_n C.1 hb dX1_means_74 rfl (lv_at hl 2 rfl) ?_
          refine lv_iload C.1 hb dX1_means_75 (lv_at hl 8 rfl) ?_
          refine run_rd (cRunM (As := [.int (nI t), .int (nI i)]) (rest := [.long (wsum (mMP S a b) (mEx S n t) i)]) C hb (hml.trans hl.1.symm) hP hS rfl (k_X1_exposed l g S n hI t ht (nI i)) wm_300 wm_301 wm_302 wm_303 wm_5 (n := 2) (by decide +kernel) rfl ⟨rfl, rfl, Nat.le_of_ble_eq_true rfl, Nat.le_of_ble_eq_true rfl⟩ (Nat.le_of_ble_eq_true rfl) rfl ⟨Nat.zero_le _, Nat.zero_le _⟩ dX1_means_77) ?_
          refine lv_ladd C.1 hb dX1_means_80 ?_
          refine lv_lstore (lv' := [(8, .long ((wsum (mMP S a b) (mEx S n t) i) + (mEx S n t i))), (4, .long ((wsum (mMP S a b) (fun k => mEx S n t k * (mIa S 6 (4 * t + k)).toInt64) i) + ((mEx S n t i) * (mIa S 6 (4 * t + i)).toInt64))), (0, .ref (gA g 17)), (1, .int (nI t)), (2, .int a), (3, .int b), (6, .long (wsum (mMP S a b) (fun k => (mIa S 6 (4 * t + k)).toInt64) i)), (10, .int (nI (xCnt (mMP S a b) i))), (11, .int (nI i))]) C.1 hb dX1_means_81 hl (by decide) rfl (fun ls hl => ?_)
          refine lv_lload C.1 hb dX1_means_83 (lv_at hl 6 rfl) ?_
          refine lv_aload_n C.1 hb dX1_means_85 rfl (lv_at hl 2 rfl) ?_
          refine gM_factors C hb hP dX1_means_86 ?_
          refine lv_iconst (v := 4) C.1 hb dX1_means_89 (by decide) ?_
          refine lv_iload_n C.1 hb dX1_means_90 rfl (lv_at hl 3 rfl) ?_
          refine lv_imul C.1 hb dX1_means_91 ?_
          refine lv_iload C.1 hb dX1_means_92 (lv_at hl 8 rfl) ?_
          refine lv_iadd C.1 hb dX1_means_94 ?_
          refine ldM_factors (j := (4 * t + i)) C hb hP (ix4 t i) (by omega) dX1_means_95 ?_
          refine lv_i2l C.1 hb dX1_means_96 rfl ?_
          refine lv_ladd C.1 hb dX1_means_97 ?_
          refine lv_lstore (lv' := [(6, .long ((wsum (mMP S a b) (fun k => (mIa S 6 (4 * t + k)).toInt64) i) + (mIa S 6 (4 * t + i)).toInt64)), (8, .long ((wsum (mMP S a b) (mEx S n t) i) + (mEx S n t i))), (4, .long ((wsum (mMP S a b) (fun k => mEx S n t k * (mIa S 6 (4 * t + k)).toInt64) i) + ((mEx S n t i) * (mIa S 6 (4 * t + i)).toInt64))), (0, .ref (gA g 17)), (1, .int (nI t)), (2, .int a), (3, .int b), (10, .int (nI (xCnt (mMP S a b) i))), (11, .int (nI i))]) C.1 hb dX1_means_98 hl (by decide) rfl (fun ls hl => ?_)
          refine lv_iinc (v := nI ((xCnt (mMP S a b) i) + 1)) (lv' := [(10, .int (nI ((xCnt (mMP S a b) i) + 1))), (6, .long ((wsum (mMP S a b) (fun k => (mIa S 6 (4 * t + k)).toInt64) i) + (mIa S 6 (4 * t + i)).toInt64)), (8, .long ((wsum (mMP S a b) (mEx S n t) i) + (mEx S n t i))), (4, .long ((wsum (mMP S a b) (fun k => mEx S n t k * (mIa S 6 (4 * t + k)).toInt64) i) + ((mEx S n t i) * (mIa S 6 (4 * t + i)).toInt64))), (0, .ref (gA g 17)), (1, .int (nI t)), (2, .int a), (3, .int b), (11, .int (nI i))]) C.1 hb dX1_means_100 hl (k := 7) rfl (nI_1 (xCnt (mMP S a b) i)) (by decide) rfl (fun ls hl => ?_)
          refine lv_iinc (v := nI (i + 1)) (lv' := [(11, .int (nI (i + 1))), (10, .int (nI ((xCnt (mMP S a b) i) + 1))), (6, .long ((wsum (mMP S a b) (fun k => (mIa S 6 (4 * t + k)).toInt64) i) + (mIa S 6 (4 * t + i)).toInt64)), (8, .long ((wsum (mMP S a b) (mEx S n t) i) + (mEx S n t i))), (4, .long ((wsum (mMP S a b) (fun k => mEx S n t k * (mIa S 6 (4 * t + k)).toInt64) i) + ((mEx S n t i) * (mIa S 6 (4 * t + i)).toInt64))), (0, .ref (gA g 17)), (1, .int (nI t)), (2, .int a), (3, .int b)]) C.1 hb dX1_means_103 hl (k := 8) rfl (nI_1 i) (by decide) rfl (fun ls hl => ?_)
          refine lv_goto (tgt := 15) C.1 hb dX1_means_106 (by decide) ?_
          exact ih (i + 1) (by omega) (by omega)  _ _ hP hS ls (by rw [wsum_t hp, wsum_t hp, wsum_t hp, xCnt_t hp]; exact lv_sub hl [5, 6, 7, 8, 4, 2, 3, 1, 0] rfl)
        · refine lv_aload_n C.1 hb dX1_means_35 rfl (lv_at hl 0 rfl) ?_
          refine gM_joined C hb hP dX1_means_36 ?_
          refine lv_iload C.1 hb dX1_means_39 (lv_at hl 8 rfl) ?_
          refine ldM_joined (j := i) C hb hP rfl (by omega) dX1_means_41 ?_
          refine lv_iload_n C.1 hb dX1_means_42 rfl (lv_at hl 3 rfl) ?_
          refine lv_icmp_ne (tgt := 103) C.1 hb dX1_means_43 (by decide) (fun c223 => ?_) (fun c223 => ?_)
          · have hp : mMP S a b i = false := by simp [mMP, c222, c223]
            refine lv_iinc (v := nI (i + 1)) (lv' := [(11, .int (nI (i + 1))), (0, .ref (gA g 17)), (1, .int (nI t)), (2, .int a), (3, .int b), (4, .long (wsum (mMP S a b) (fun k => mEx S n t k * (mIa S 6 (4 * t + k)).toInt64) i)), (6, .long (wsum (mMP S a b) (fun k => (mIa S 6 (4 * t + k)).toInt64) i)), (8, .long (wsum (mMP S a b) (mEx S n t) i)), (10, .int (nI (xCnt (mMP S a b) i)))]) C.1 hb dX1_means_103 hl (k := 8) rfl (nI_1 i) (by decide) rfl (fun ls hl => ?_)
            refine lv_goto (tgt := 15) C.1 hb dX1_means_106 (by decide) ?_
            exact ih (i + 1) (by omega) (by omega)  _ _ hP hS ls (by rw [wsum_f hp, wsum_f hp, wsum_f hp, xCnt_f hp]; exact lv_sub hl [1, 2, 3, 4, 5, 6, 7, 8, 0] rfl)
          · have hp : mMP S a b i = true := by simp [mMP, c223]
            refine lv_lload C.1 hb dX1_means_46 (lv_at hl 4 rfl) ?_
            refine lv_aload_n C.1 hb dX1_means_48 rfl (lv_at hl 0 rfl) ?_
            refine lv_iload_n C.1 hb dX1_means_49 rfl (lv_at hl 1 rfl) ?_
            refine lv_iload C.1 hb dX1_means_50 (lv_at hl 8 rfl) ?_
            refine run_rd (cRunM (As := [.int (nI t), .int (nI i)]) (rest := [.long (wsum (mMP S a b) (fun k => mEx S n t k * (mIa S 6 (4 * t + k)).toInt64) i)]) C hb (hml.trans hl.1.symm) hP hS rfl (k_X1_exposed l g S n hI t ht (nI i)) wm_300 wm_301 wm_302 wm_303 wm_5 (n := 2) (by decide +kernel) rfl ⟨rfl, rfl, Nat.le_of_ble_eq_true rfl, Nat.le_of_ble_eq_true rfl⟩ (Nat.le_of_ble_eq_true rfl) rfl ⟨Nat.zero_le _, Nat.zero_le _⟩ dX1_means_52) ?_
            refine lv_aload_n C.1 hb dX1_means_55 rfl (lv_at hl 0 rfl) ?_
            refine gM_factors C hb hP dX1_means_56 ?_
            refine lv_iconst (v := 4) C.1 hb dX1_means_59 (by decide) ?_
            refine lv_iload_n C.1 hb dX1_means_60 rfl (lv_at hl 1 rfl) ?_
            refine lv_imul C.1 hb dX1_means_61 ?_
            refine lv_iload C.1 hb dX1_means_62 (lv_at hl 8 rfl) ?_
            refine lv_iadd C.1 hb dX1_means_64 ?_
            refine ldM_factors (j := (4 * t + i)) C hb hP (ix4 t i) (by omega) dX1_means_65 ?_
            refine lv_i2l C.1 hb dX1_means_66 rfl ?_
            refine lv_lmul C.1 hb dX1_means_67 ?_
            refine lv_ladd C.1 hb dX1_means_68 ?_
            refine lv_lstore (lv' := [(4, .long ((wsum (mMP S a b) (fun k => mEx S n t k * (mIa S 6 (4 * t + k)).toInt64) i) + ((mEx S n t i) * (mIa S 6 (4 * t + i)).toInt64))), (0, .ref (gA g 17)), (1, .int (nI t)), (2, .int a), (3, .int b), (6, .long (wsum (mMP S a b) (fun k => (mIa S 6 (4 * t + k)).toInt64) i)), (8, .long (wsum (mMP S a b) (mEx S n t) i)), (10, .int (nI (xCnt (mMP S a b) i))), (11, .int (nI i))]) C.1 hb dX1_means_69 hl (by decide) rfl (fun ls hl => ?_)
            refine lv_lload C.1 hb dX1_means_71 (lv_at hl 6 rfl) ?_
            refine lv_aload_n C.1 hb dX1_means_73 rfl (lv_at hl 1 rfl) ?_
            refine lv_iload_n C.1 hb dX1_means_74 rfl (lv_at hl 2 rfl) ?_
            refine lv_iload C.1 hb dX1_means_75 (lv_at hl 8 rfl) ?_
            refine run_rd (cRunM (As := [.int (nI t), .int (nI i)]) (rest := [.long (wsum (mMP S a b) (mEx S n t) i)]) C hb (hml.trans hl.1.symm) hP hS rfl (k_X1_exposed l g S n hI t ht (nI i)) wm_300 wm_301 wm_302 wm_303 wm_5 (n := 2) (by decide +kernel) rfl ⟨rfl, rfl, Nat.le_of_ble_eq_true rfl, Nat.le_of_ble_eq_true rfl⟩ (Nat.le_of_ble_eq_true rfl) rfl ⟨Nat.zero_le _, Nat.zero_le _⟩ dX1_means_77) ?_
            refine lv_ladd C.1 hb dX1_means_80 ?_
            refine lv_lstore (lv' := [(8, .long ((wsum (mMP S a b) (mEx S n t) i) + (mEx S n t i))), (4, .long ((wsum (mMP S a b) (fun k => mEx S n t k * (mIa S 6 (4 * t + k)).toInt64) i) + ((mEx S n t i) * (mIa S 6 (4 * t + i)).toInt64))), (0, .ref (gA g 17)), (1, .int (nI t)), (2, .int a), (3, .int b), (6, .long (wsum (mMP S a b) (fun k => (mIa S 6 (4 * t + k)).toInt64) i)), (10, .int (nI (xCnt (mMP S a b) i))), (11, .int (nI i))]) C.1 hb dX1_means_81 hl (by decide) rfl (fun ls hl => ?_)
            refine lv_lload C.1 hb dX1_means_83 (lv_at hl 6 rfl) ?_
            refine lv_aload_n C.1 hb dX1_means_85 rfl (lv_at hl 2 rfl) ?_
            refine gM_factors C hb hP dX1_means_86 ?_
            refine lv_iconst (v := 4) C.1 hb dX1_means_89 (by decide) ?_
            refine lv_iload_n C.1 hb dX1_means_90 rfl (lv_at hl 3 rfl) ?_
            refine lv_imul C.1 hb dX1_means_91 ?_
            refine lv_iload C.1 hb dX1_means_92 (lv_at hl 8 rfl) ?_
            refine lv_iadd C.1 hb dX1_means_94 ?_
            refine ldM_factors (j := (4 * t + i)) C hb hP (ix4 t i) (by omega) dX1_means_95 ?_
            refine lv_i2l C.1 hb dX1_means_96 rfl ?_
            refine lv_ladd C.1 hb dX1_means_97 ?_
            refine lv_lstore (lv' := [(6, .long ((wsum (mMP S a b) (fun k => (mIa S 6 (4 * t + k)).toInt64) i) + (mIa S 6 (4 * t + i)).toInt64)), (8, .long ((wsum (mMP S a b) (mEx S n t) i) + (mEx S n t i))), (4, .long ((wsum (mMP S a b) (fun k => mEx S n t k * (mIa S 6 (4 * t + k)).toInt64) i) + ((mEx S n t i) * (mIa S 6 (4 * t + i)).toInt64))), (0, .ref (gA g 17)), (1, .int (nI t)), (2, .int a), (3, .int b), (10, .int (nI (xCnt (mMP S a b) i))), (11, .int (nI i))]) C.1 hb dX1_means_98 hl (by decide) rfl (fun ls hl => ?_)
            refine lv_iinc (v := nI ((xCnt (mMP S a b) i) + 1)) (lv' := [(10, .int (nI ((xCnt (mMP S a b) i) + 1))), (6, .long ((wsum (mMP S a b) (fun k => (mIa S 6 (4 * t + k)).toInt64) i) + (mIa S 6 (4 * t + i)).toInt64)), (8, .long ((wsum (mMP S a b) (mEx S n t) i) + (mEx S n t i))), (4, .long ((wsum (mMP S a b) (fun k => mEx S n t k * (mIa S 6 (4 * t + k)).toInt64) i) + ((mEx S n t i) * (mIa S 6 (4 * t + i)).toInt64))), (0, .ref (gA g 17)), (1, .int (nI t)), (2, .int a), (3, .int b), (11, .int (nI i))]) C.1 hb dX1_means_100 hl (k := 7) rfl (nI_1 (xCnt (mMP S a b) i)) (by decide) rfl (fun ls hl => ?_)
            refine lv_iinc (v := nI (i + 1)) (lv' := [(11, .int (nI (i + 1))), (10, .int (nI ((xCnt (mMP S a b) i) + 1))), (6, .long ((wsum (mMP S a b) (fun k => (mIa S 6 (4 * t + k)).toInt64) i) + (mIa S 6 (4 * t + i)).toInt64)), (8, .long ((wsum (mMP S a b) (mEx S n t) i) + (mEx S n t i))), (4, .long ((wsum (mMP S a b) (fun k => mEx S n t k * (mIa S 6 (4 * t + k)).toInt64) i) + ((mEx S n t i) * (mIa S 6 (4 * t + i)).toInt64))), (0, .ref (gA g 17)), (1, .int (nI t)), (2, .int a), (3, .int b)]) C.1 hb dX1_means_103 hl (k := 8) rfl (nI_1 i) (by decide) rfl (fun ls hl => ?_)
            refine lv_goto (tgt := 15) C.1 hb dX1_means_106 (by decide) ?_
            exact ih (i + 1) (by omega) (by omega)  _ _ hP hS ls (by rw [wsum_t hp, wsum_t hp, wsum_t hp, xCnt_t hp]; exact lv_sub hl [5, 6, 7, 8, 4, 2, 3, 1, 0] rfl)
  exact key (levN t - 0 + 1) 0 (by omega) (by omega)  _ _ hP hS ls (lv_sub hl [5, 6, 7, 8, 4, 3, 2, 1, 0] rfl)

set_option maxRecDepth 100000 in
set_option maxHeartbeats 4000000 in
theorem k_X1_smooth (l : Launch) (g : gG) (S : WS) (n : Nat) (hI : MI n S) (t : Int32) : Met l yX1_smooth (wA yX1_smooth cX1_smooth 4 (some .int)) ({ frames := 3, cells := 0, slots := 0, locals := 120 }) (PW g S [.ref (gA g 17), .int t]) (WQ g (mR_smooth S n t) (some (.int (mV_smooth S n t)))) 0 0 (Ab g) := by
  refine metI (by decide +kernel) (Nat.le_of_ble_eq_true rfl) ?_
  intro p e s m below meth c C hb hml hret hlk hP ls hl
  have C : CW g RX1 p s m ([.ref (gA g 17), .int t] : List Value).toArray := C
  have hS : va_S (Ab g) s.heap s.heap [] := va_S.rf
  have hl : lv_has ls 4 [(0, .ref (gA g 17)), (1, .int t)] := hl
  refine lv_aload_n C.1 hb dX1_smooth_0 rfl (lv_at hl 0 rfl) ?_
  refine lv_iload_n C.1 hb dX1_smooth_1 rfl (lv_at hl 1 rfl) ?_
  refine run_rd (cRunS (As := [.int t]) (rest := [.ref (gA g 17)]) C hb (hml.trans hl.1.symm) hP hS (k_X1_isTrait l g S t) wm_99 wm_100 wm_101 wm_5 (n := 1) (by decide +kernel) rfl ⟨rfl, rfl, Nat.le_of_ble_eq_true rfl, Nat.le_of_ble_eq_true rfl⟩ (Nat.le_of_ble_eq_true rfl) rfl ⟨Nat.zero_le _, Nat.zero_le _⟩ dX1_smooth_2) ?_
  refine lv_iconst (v := 1) C.1 hb dX1_smooth_5 (by decide) ?_
  refine lv_iconst (v := 1) C.1 hb dX1_smooth_6 (by decide) ?_
  refine run_wr (cRunM (As := [.int (bI (xHasTrait t)), .int 1, .int 1]) (rest := []) C hb (hml.trans hl.1.symm) hP hS rfl (k_X1_goes l g S (xHasTrait t) true true) wm_108 wm_109 wm_110 wm_111 wm_5 (n := 3) (by decide +kernel) rfl ⟨rfl, rfl, Nat.le_of_ble_eq_true rfl, Nat.le_of_ble_eq_true rfl⟩ (Nat.le_of_ble_eq_true rfl) rfl ⟨Nat.zero_le _, Nat.zero_le _⟩ dX1_smooth_7) hS (fun H locs hP hS => ?_)
  refine toI (congrArg bI (Bool.and_true _)) ?_
  refine bz_ne (tgt := 15) C hb dX1_smooth_10 (by decide) (fun c224 => ?_) (fun c224 => ?_)
  · rw [c224] at hP
    have hx := xHasTrait_ix c224
    have ht1 := hx.1
    have ht2 := hx.2
    have h4 := levN_4 (tN t)
    have h3 := levN_3 (tN t)
    refine lv_iconst (v := 0) C.1 hb dX1_smooth_15 (by decide) ?_
    refine lv_istore_n (lv' := [(2, .int 0), (0, .ref (gA g 17)), (1, .int t)]) C.1 hb dX1_smooth_16 rfl hl (by decide) rfl (fun ls hl => ?_)
    have key : ∀ f i : Nat, levN (tN t) - i < f → i ≤ levN (tN t) → ∀ (H : Heap) (locs : List Loc), HW g (mSm0 (mGo S true true true) (tN t) i) H → va_S (Ab g) s.heap H locs → ∀ ls : Array Slot, lv_has ls 4 [(0, .ref (gA g 17)), (1, .int t), (2, .int (nI i))] → W p l e ({ frames := 3, cells := 0, slots := 0, locals := 120 }) s m ([.ref (gA g 17), .int t] : List Value).toArray below meth c H locs 0 0 (MQ below (WQ g (mR_smooth S n t) (some (.int (mV_smooth S n t)))) ([.ref (gA g 17), .int t] : List Value).toArray s 0 0 (Ab g)) (F0 m 17 ls []) := by
      intro f
      induction f with
      | zero => intro i h; exact absurd h (Nat.not_lt_zero _)
      | succ f ih =>
        intro i hfi hi  H locs hP hS ls hl
        refine lv_iload_n C.1 hb dX1_smooth_17 rfl (lv_at hl 2 rfl) ?_
        refine lv_iload_n C.1 hb dX1_smooth_18 rfl (lv_at hl 1 rfl) ?_
        refine toI ht1 ?_
        refine run_rd (cRunS (As := [.int (nI (tN t))]) (rest := [.int (nI i)]) C hb (hml.trans hl.1.symm) hP hS (k_X1_levelsOf l g (mSm0 (mGo S true true true) (tN t) i) (tN t) ht2) wm_105 wm_106 wm_107 wm_5 (n := 1) (by decide +kernel) rfl ⟨rfl, rfl, Nat.le_of_ble_eq_true rfl, Nat.le_of_ble_eq_true rfl⟩ (Nat.le_of_ble_eq_true rfl) rfl ⟨Nat.zero_le _, Nat.zero_le _⟩ dX1_smooth_19) ?_
        refine lv_icmp_ge (tgt := 54) C.1 hb dX1_smooth_22 (by decide) (fun c225 => ?_) (fun c225 => ?_)
        · have hin : i = levN (tN t) := by have := le_nI (a := levN (tN t)) (b := i) (by omega) (by omega) c225; omega
          rw [hin] at hl hP
          have key2 : ∀ (f : Nat) (S2 : WS), MI n S2 → mJI S2 (tN t) → jCnt (mIa S2 8) (levN (tN t)) ≤ f → mSmF n (tN t) f S2 = mSmF n (tN t) (levN (tN t)) (mSm0 (mGo S true true true) (tN t) (levN (tN t))) → ∀ (H : Heap) (locs : List Loc), HW g S2 H → va_S (Ab g) s.heap H locs → ∀ ls : Array Slot, lv_has ls 4 [(0, .ref (gA g 17)), (1, .int t)] → W p l e ({ frames := 3, cells := 0, slots := 0, locals := 120 }) s m ([.ref (gA g 17), .int t] : List Value).toArray below meth c H locs 0 0 (MQ below (WQ g (mR_smooth S n t) (some (.int (mV_smooth S n t)))) ([.ref (gA g 17), .int t] : List Value).toArray s 0 0 (Ab g)) (F0 m 54 ls []) := by
            intro f
            induction f with
            | zero => intro S2 hI2 hJ2 hc; exact absurd (jCnt_pos hJ2 (by omega)) (by omega)
            | succ f ih2 =>
              intro S2 hI2 hJ2 hc he H locs hP hS ls hl
              refine lv_aload_n C.1 hb dX1_smooth_54 rfl (lv_at hl 0 rfl) ?_
              refine lv_iload_n C.1 hb dX1_smooth_55 rfl (lv_at hl 1 rfl) ?_
              refine toI ht1 ?_
              refine run_rd (cRunM (As := [.int (nI (tN t))]) (rest := []) C hb (hml.trans hl.1.symm) hP hS rfl (k_X1_lowestLess l g S2 (tN t) ht2) wm_292 wm_293 wm_294 wm_295 wm_5 (n := 1) (by decide +kernel) rfl ⟨rfl, rfl, Nat.le_of_ble_eq_true rfl, Nat.le_of_ble_eq_true rfl⟩ (Nat.le_of_ble_eq_true rfl) rfl ⟨Nat.zero_le _, Nat.zero_le _⟩ dX1_smooth_56) ?_
              refine lv_iconst (v := (-1)) C.1 hb dX1_smooth_59 (by decide) ?_
              refine lv_icmp_eq (tgt := 91) C.1 hb dX1_smooth_60 (by decide) (fun c226 => ?_) (fun c226 => ?_)
              · have he2 : S2 = mSmF n (tN t) (levN (tN t)) (mSm0 (mGo S true true true) (tN t) (levN (tN t))) := (if_pos c226).symm.trans he
                rw [he2] at hP
                refine lv_iconst (v := 0) C.1 hb dX1_smooth_91 (by decide) ?_
                refine lv_istore_n (lv' := [(2, .int 0), (0, .ref (gA g 17)), (1, .int t)]) C.1 hb dX1_smooth_92 rfl hl (by decide) rfl (fun ls hl => ?_)
                refine lv_iconst (v := 0) C.1 hb dX1_smooth_93 (by decide) ?_
                refine lv_istore_n (lv' := [(3, .int 0), (2, .int 0), (0, .ref (gA g 17)), (1, .int t)]) C.1 hb dX1_smooth_94 rfl hl (by decide) rfl (fun ls hl => ?_)
                have key3 : ∀ f i : Nat, levN (tN t) - i < f → i ≤ levN (tN t) → ∀ (H : Heap) (locs : List Loc), HW g (mSmF n (tN t) (levN (tN t)) (mSm0 (mGo S true true true) (tN t) (levN (tN t)))) H → va_S (Ab g) s.heap H locs → ∀ ls : Array Slot, lv_has ls 4 [(0, .ref (gA g 17)), (1, .int t), (2, .int (nI (xCnt (mChP (mSmF n (tN t) (levN (tN t)) (mSm0 (mGo S true true true) (tN t) (levN (tN t)))) (tN t)) i))), (3, .int (nI i))] → W p l e ({ frames := 3, cells := 0, slots := 0, locals := 120 }) s m ([.ref (gA g 17), .int t] : List Value).toArray below meth c H locs 0 0 (MQ below (WQ g (mR_smooth S n t) (some (.int (mV_smooth S n t)))) ([.ref (gA g 17), .int t] : List Value).toArray s 0 0 (Ab g)) (F0 m 95 ls []) := by
                  intro f
                  induction f with
                  | zero => intro i h; exact absurd h (Nat.not_lt_zero _)
                  | succ f ih3 =>
                    intro i hfi hi  H locs hP hS ls hl
                    refine lv_iload_n C.1 hb dX1_smooth_95 rfl (lv_at hl 3 rfl) ?_
                    refine lv_iload_n C.1 hb dX1_smooth_96 rfl (lv_at hl 1 rfl) ?_
                    refine toI ht1 ?_
                    refine run_rd (cRunS (As := [.int (nI (tN t))]) (rest := [.int (nI i)]) C hb (hml.trans hl.1.symm) hP hS (k_X1_levelsOf l g (mSmF n (tN t) (levN (tN t)) (mSm0 (mGo S true true true) (tN t) (levN (tN t)))) (tN t) ht2) wm_105 wm_106 wm_107 wm_5 (n := 1) (by decide +kernel) rfl ⟨rfl, rfl, Nat.le_of_ble_eq_true rfl, Nat.le_of_ble_eq_true rfl⟩ (Nat.le_of_ble_eq_true rfl) rfl ⟨Nat.zero_le _, Nat.zero_le _⟩ dX1_smooth_97) ?_
                    refine lv_icmp_ge (tgt := 136) C.1 hb dX1_smooth_100 (by decide) (fun c227 => ?_) (fun c227 => ?_)
                    · have hin : i = levN (tN t) := by have := le_nI (a := levN (tN t)) (b := i) (by omega) (by omega) c227; omega
                      rw [hin] at hl
                      refine lv_iload_n C.1 hb dX1_smooth_136 rfl (lv_at hl 2 rfl) ?_
                      exact wrI C hb hret hlk hP hS dX1_smooth_137 (by unfold mV_smooth; rw [c224]; rfl) (by unfold mR_smooth; rw [c224]; rfl)
                    · have hlt : i < levN (tN t) := nle_nI (a := levN (tN t)) (b := i) (by omega) (by omega) c227
                      refine lv_iload_n C.1 hb dX1_smooth_103 rfl (lv_at hl 2 rfl) ?_
                      refine lv_aload_n C.1 hb dX1_smooth_104 rfl (lv_at hl 0 rfl) ?_
                      refine gM_factors C hb hP dX1_smooth_105 ?_
                      refine lv_iconst (v := 4) C.1 hb dX1_smooth_108 (by decide) ?_
                      refine lv_iload_n C.1 hb dX1_smooth_109 rfl (lv_at hl 1 rfl) ?_
                      refine toI ht1 ?_
                      refine lv_imul C.1 hb dX1_smooth_110 ?_
                      refine lv_iload_n C.1 hb dX1_smooth_111 rfl (lv_at hl 3 rfl) ?_
                      refine lv_iadd C.1 hb dX1_smooth_112 ?_
                      refine ldM_factors (j := (4 * (tN t) + i)) C hb hP (ix4 (tN t) i) (by omega) dX1_smooth_113 ?_
                      refine lv_aload_n C.1 hb dX1_smooth_114 rfl (lv_at hl 0 rfl) ?_
                      refine gM_found C hb hP dX1_smooth_115 ?_
                      refine lv_iload_n C.1 hb dX1_smooth_118 rfl (lv_at hl 3 rfl) ?_
                      refine ldM_found (j := i) C hb hP rfl (by omega) dX1_smooth_119 ?_
                      refine lv_icmp_eq (tgt := 127) C.1 hb dX1_smooth_120 (by decide) (fun c228 => ?_) (fun c228 => ?_)
                      · refine lv_iconst (v := 0) C.1 hb dX1_smooth_127 (by decide) ?_
                        refine lv_iadd C.1 hb dX1_smooth_128 ?_
                        refine toI (Int32.add_zero _) ?_
                        refine lv_istore_n (lv' := [(2, .int (nI (xCnt (mChP (mSmF n (tN t) (levN (tN t)) (mSm0 (mGo S true true true) (tN t) (levN (tN t)))) (tN t)) i))), (0, .ref (gA g 17)), (1, .int t), (3, .int (nI i))]) C.1 hb dX1_smooth_129 rfl hl (by decide) rfl (fun ls hl => ?_)
                        refine lv_iinc (v := nI (i + 1)) (lv' := [(3, .int (nI (i + 1))), (2, .int (nI (xCnt (mChP (mSmF n (tN t) (levN (tN t)) (mSm0 (mGo S true true true) (tN t) (levN (tN t)))) (tN t)) i))), (0, .ref (gA g 17)), (1, .int t)]) C.1 hb dX1_smooth_130 hl (k := 3) rfl (nI_1 i) (by decide) rfl (fun ls hl => ?_)
                        refine lv_goto (tgt := 95) C.1 hb dX1_smooth_133 (by decide) ?_
                        exact ih3 (i + 1) (by omega) (by omega)  _ _ hP hS ls (by rw [xCnt_f (show mChP (mSmF n (tN t) (levN (tN t)) (mSm0 (mGo S true true true) (tN t) (levN (tN t)))) (tN t) i = false by simp [mChP, c228])]; exact lv_sub hl [2, 3, 1, 0] rfl)
                      · refine lv_iconst (v := 1) C.1 hb dX1_smooth_123 (by decide) ?_
                        refine lv_goto (tgt := 128) C.1 hb dX1_smooth_124 (by decide) ?_
                        refine lv_iadd C.1 hb dX1_smooth_128 ?_
                        refine toI (nI_1 _) ?_
                        refine lv_istore_n (lv' := [(2, .int (nI (xCnt (mChP (mSmF n (tN t) (levN (tN t)) (mSm0 (mGo S true true true) (tN t) (levN (tN t)))) (tN t)) i + 1))), (0, .ref (gA g 17)), (1, .int t), (3, .int (nI i))]) C.1 hb dX1_smooth_129 rfl hl (by decide) rfl (fun ls hl => ?_)
                        refine lv_iinc (v := nI (i + 1)) (lv' := [(3, .int (nI (i + 1))), (2, .int (nI (xCnt (mChP (mSmF n (tN t) (levN (tN t)) (mSm0 (mGo S true true true) (tN t) (levN (tN t)))) (tN t)) i + 1))), (0, .ref (gA g 17)), (1, .int t)]) C.1 hb dX1_smooth_130 hl (k := 3) rfl (nI_1 i) (by decide) rfl (fun ls hl => ?_)
                        refine lv_goto (tgt := 95) C.1 hb dX1_smooth_133 (by decide) ?_
                        exact ih3 (i + 1) (by omega) (by omega)  _ _ hP hS ls (by rw [xCnt_t (show mChP (mSmF n (tN t) (levN (tN t)) (mSm0 (mGo S true true true) (tN t) (levN (tN t)))) (tN t) i = true by simp [mChP, c228])]; exact lv_sub hl [2, 3, 1, 0] rfl)
                exact key3 (levN (tN t) - 0 + 1) 0 (by omega) (by omega)  _ _ hP hS ls (lv_sub hl [2, 3, 1, 0] rfl)
              · obtain ⟨hw1, hw2, hw3, hw4⟩ := mLow_cases c226
                refine lv_aload_n C.1 hb dX1_smooth_63 rfl (lv_at hl 0 rfl) ?_
                refine lv_iload_n C.1 hb dX1_smooth_64 rfl (lv_at hl 1 rfl) ?_
                refine toI ht1 ?_
                refine run_rd (cRunM (As := [.int (nI (tN t))]) (rest := []) C hb (hml.trans hl.1.symm) hP hS rfl (k_X1_lowestLess l g S2 (tN t) ht2) wm_292 wm_293 wm_294 wm_295 wm_5 (n := 1) (by decide +kernel) rfl ⟨rfl, rfl, Nat.le_of_ble_eq_true rfl, Nat.le_of_ble_eq_true rfl⟩ (Nat.le_of_ble_eq_true rfl) rfl ⟨Nat.zero_le _, Nat.zero_le _⟩ dX1_smooth_65) ?_
                refine toI hw1 ?_
                refine lv_istore_n (lv' := [(2, .int (nI (tN (mLowS S2 (tN t))))), (0, .ref (gA g 17)), (1, .int t)]) C.1 hb dX1_smooth_68 rfl hl (by decide) rfl (fun ls hl => ?_)
                refine lv_aload_n C.1 hb dX1_smooth_69 rfl (lv_at hl 1 rfl) ?_
                refine lv_iload_n C.1 hb dX1_smooth_70 rfl (lv_at hl 2 rfl) ?_
                refine toI ht1 ?_
                refine lv_aload_n C.1 hb dX1_smooth_71 rfl (lv_at hl 1 rfl) ?_
                refine gM_joined C hb hP dX1_smooth_72 ?_
                refine lv_iload_n C.1 hb dX1_smooth_75 rfl (lv_at hl 0 rfl) ?_
                refine lv_iconst (v := 1) C.1 hb dX1_smooth_76 (by decide) ?_
                refine lv_isub C.1 hb dX1_smooth_77 ?_
                refine ldM_joined (j := ((tN (mLowS S2 (tN t))) - 1)) C hb hP (nI_sub1 hw2) (by omega) dX1_smooth_78 ?_
                refine lv_aload_n C.1 hb dX1_smooth_79 rfl (lv_at hl 1 rfl) ?_
                refine gM_joined C hb hP dX1_smooth_80 ?_
                refine lv_iload_n C.1 hb dX1_smooth_83 rfl (lv_at hl 0 rfl) ?_
                refine ldM_joined (j := (tN (mLowS S2 (tN t)))) C hb hP rfl (by omega) dX1_smooth_84 ?_
                refine run_wr (cRunM (As := [.int (nI (tN t)), .int (mIa S2 8 ((tN (mLowS S2 (tN t))) - 1)), .int (mIa S2 8 (tN (mLowS S2 (tN t))))]) (rest := []) C hb (hml.trans hl.1.symm) hP hS rfl (k_X1_means l g S2 n hI2 (tN t) ht2 (mIa S2 8 ((tN (mLowS S2 (tN t))) - 1)) (mIa S2 8 (tN (mLowS S2 (tN t)))) (mMP_some c226)) wm_296 wm_297 wm_298 wm_299 wm_5 (n := 3) (by decide +kernel) rfl ⟨rfl, rfl, Nat.le_of_ble_eq_true rfl, Nat.le_of_ble_eq_true rfl⟩ (Nat.le_of_ble_eq_true rfl) rfl ⟨Nat.zero_le _, Nat.zero_le _⟩ dX1_smooth_85) hS (fun H locs hP hS => ?_)
                have hP : HW g (mStep S2 n (tN t)) H := hP
                refine lv_goto (tgt := 54) C.1 hb dX1_smooth_88 (by decide) ?_
                exact ih2 (mStep S2 n (tN t)) (MI_means (tN t) _ _ hI2) (mJI_step hJ2 c226) (by have := mJc_step (n := n) hJ2 c226; omega) ((if_neg c226).symm.trans he) _ _ hP hS ls (lv_sub hl [1, 2] rfl)
          exact key2 (levN (tN t)) (mSm0 (mGo S true true true) (tN t) (levN (tN t))) (MI_sm0 (tN t) _ (MI_go true true true hI)) (mJI_0 (mGo S true true true) (tN t)) (xCnt_le _ _) rfl _ _ hP hS ls (lv_sub hl [0, 1] rfl)
        · have hlt : i < levN (tN t) := nle_nI (a := levN (tN t)) (b := i) (by omega) (by omega) c225
          refine lv_aload_n C.1 hb dX1_smooth_25 rfl (lv_at hl 0 rfl) ?_
          refine gM_joined C hb hP dX1_smooth_26 ?_
          refine lv_iload_n C.1 hb dX1_smooth_29 rfl (lv_at hl 2 rfl) ?_
          refine lv_iload_n C.1 hb dX1_smooth_30 rfl (lv_at hl 2 rfl) ?_
          refine stM_joined (j := i) C hb hP hS rfl (by omega) dX1_smooth_31 (fun H locs hP hS => ?_)
          refine lv_aload_n C.1 hb dX1_smooth_32 rfl (lv_at hl 0 rfl) ?_
          refine gM_found C hb hP dX1_smooth_33 ?_
          refine lv_iload_n C.1 hb dX1_smooth_36 rfl (lv_at hl 2 rfl) ?_
          refine lv_aload_n C.1 hb dX1_smooth_37 rfl (lv_at hl 0 rfl) ?_
          refine gM_factors C hb hP dX1_smooth_38 ?_
          refine lv_iconst (v := 4) C.1 hb dX1_smooth_41 (by decide) ?_
          refine lv_iload_n C.1 hb dX1_smooth_42 rfl (lv_at hl 1 rfl) ?_
          refine toI ht1 ?_
          refine lv_imul C.1 hb dX1_smooth_43 ?_
          refine lv_iload_n C.1 hb dX1_smooth_44 rfl (lv_at hl 2 rfl) ?_
          refine lv_iadd C.1 hb dX1_smooth_45 ?_
          refine ldM_factors (j := (4 * (tN t) + i)) C hb hP (ix4 (tN t) i) (by omega) dX1_smooth_46 ?_
          refine toI (show _ = mF (mGo S true true true) (tN t) i from rfl) ?_
          refine stM_found (j := i) C hb hP hS rfl (by omega) dX1_smooth_47 (fun H locs hP hS => ?_)
          refine lv_iinc (v := nI (i + 1)) (lv' := [(2, .int (nI (i + 1))), (0, .ref (gA g 17)), (1, .int t)]) C.1 hb dX1_smooth_48 hl (k := 2) rfl (nI_1 i) (by decide) rfl (fun ls hl => ?_)
          refine lv_goto (tgt := 17) C.1 hb dX1_smooth_51 (by decide) ?_
          exact ih (i + 1) (by omega) (by omega)  _ _ (by rw [← mSm0_s (mGo S true true true) (tN t) i]; exact hP) hS ls (lv_sub hl [1, 2, 0] rfl)
    exact key (levN (tN t) - 0 + 1) 0 (by omega) (by omega)  _ _ (by rw [mSm0_0]; exact hP) hS ls (lv_sub hl [1, 2, 0] rfl)
  · rw [c224] at hP
    refine lv_iconst (v := 0) C.1 hb dX1_smooth_13 (by decide) ?_
    exact wrI C hb hret hlk hP hS dX1_smooth_14 (by unfold mV_smooth; rw [c224]; rfl) (by unfold mR_smooth; rw [c224]; rfl)

set_option maxRecDepth 100000 in
set_option maxHeartbeats 4000000 in
theorem k_X0_smooth (l : Launch) (hl0 : l.stackTraces = false) (g : gG) (S : WS) (n : Nat) (hI : XI n S) (t : Int32) : vx_Met l yX0_smooth (wA yX0_smooth cX0_smooth 4 (some .int)) ({ frames := 6, cells := 1, slots := 6, locals := 250 }) (PW g S [.ref (gA g 0), .int t]) (TQ g (xR_smooth S n t) (xE_trait t) (some (.int (nI (xV_smooth S n (tN t)))))) (TX g (xR_smooth S n t) (xE_trait t)) 1 6 (Ab g) := by
  refine metX (by decide +kernel) (Nat.le_of_ble_eq_true rfl) ?_
  intro p e s m below meth c C hb hml hret hlk hP het ls hl
  have C : CW g RX0 p s m ([.ref (gA g 0), .int t] : List Value).toArray := C
  have hS : va_S (Ab g) s.heap s.heap [] := va_S.rf
  have hl : lv_has ls 4 [(0, .ref (gA g 0)), (1, .int t)] := hl
  refine lv_iload_n C.1 hb dX0_smooth_0 rfl (lv_at hl 1 rfl) ?_
  refine run_rd (cRunS (As := [.int t]) (rest := []) C hb (hml.trans hl.1.symm) hP hS (k_X0_hasTrait l g S t) wm_71 wm_72 wm_73 wm_2 (n := 1) (by decide +kernel) rfl ⟨rfl, rfl, Nat.le_of_ble_eq_true rfl, Nat.le_of_ble_eq_true rfl⟩ (Nat.le_of_ble_eq_true rfl) rfl ⟨Nat.zero_le _, Nat.zero_le _⟩ dX0_smooth_1) ?_
  refine bz_ne (tgt := 17) C hb dX0_smooth_4 (by decide) (fun c229 => ?_) (fun c229 => ?_)
  · have hx := xHasTrait_ix c229
    have ht1 := hx.1
    have ht2 := hx.2
    have h4 := levN_4 (tN t)
    have h3 := levN_3 (tN t)
    refine lv_iconst (v := 0) C.1 hb dX0_smooth_17 (by decide) ?_
    refine lv_istore_n (lv' := [(2, .int 0), (0, .ref (gA g 0)), (1, .int t)]) C.1 hb dX0_smooth_18 rfl hl (by decide) rfl (fun ls hl => ?_)
    have key : ∀ f i : Nat, levN (tN t) - i < f → i ≤ levN (tN t) → ∀ (H : Heap) (locs : List Loc), HW g (xSm0 S (tN t) i) H → va_S (Ab g) s.heap H locs → ∀ ls : Array Slot, lv_has ls 4 [(0, .ref (gA g 0)), (1, .int t), (2, .int (nI i))] → W p l e ({ frames := 6, cells := 1, slots := 6, locals := 250 }) s m ([.ref (gA g 0), .int t] : List Value).toArray below meth c H locs 0 0 (vx_MQ below (TQ g (xR_smooth S n t) (xE_trait t) (some (.int (nI (xV_smooth S n (tN t)))))) (TX g (xR_smooth S n t) (xE_trait t)) ([.ref (gA g 0), .int t] : List Value).toArray s 1 6 (Ab g)) (F0 m 19 ls []) := by
      intro f
      induction f with
      | zero => intro i h; exact absurd h (Nat.not_lt_zero _)
      | succ f ih =>
        intro i hfi hi  H locs hP hS ls hl
        refine lv_iload_n C.1 hb dX0_smooth_19 rfl (lv_at hl 2 rfl) ?_
        refine gX_LEVELS C hb hS dX0_smooth_20 ?_
        refine lv_iload_n C.1 hb dX0_smooth_23 rfl (lv_at hl 1 rfl) ?_
        refine toI ht1 ?_
        refine ldX_LEVELS (j := (tN t)) C hb hS rfl ht2 dX0_smooth_24 ?_
        refine lv_icmp_ge (tgt := 55) C.1 hb dX0_smooth_25 (by decide) (fun c230 => ?_) (fun c230 => ?_)
        · have hin : i = levN (tN t) := by have := le_nI (a := levN (tN t)) (b := i) (by omega) (by omega) c230; omega
          rw [hin] at hl hP
          refine lv_iconst (v := 0) C.1 hb dX0_smooth_55 (by decide) ?_
          refine lv_istore_n (lv' := [(2, .int 0), (0, .ref (gA g 0)), (1, .int t)]) C.1 hb dX0_smooth_56 rfl hl (by decide) rfl (fun ls hl => ?_)
          have key2 : ∀ (f i : Nat) (S2 : WS), i + f = levN (tN t) → XI n S2 → xJI S2 (tN t) → xSmF n (tN t) f S2 = xSmF n (tN t) (levN (tN t)) (xSm0 S (tN t) (levN (tN t))) → ∀ (H : Heap) (locs : List Loc), HW g S2 H → va_S (Ab g) s.heap H locs → ∀ ls : Array Slot, lv_has ls 4 [(0, .ref (gA g 0)), (1, .int t), (2, .int (nI i))] → W p l e ({ frames := 6, cells := 1, slots := 6, locals := 250 }) s m ([.ref (gA g 0), .int t] : List Value).toArray below meth c H locs 0 0 (vx_MQ below (TQ g (xR_smooth S n t) (xE_trait t) (some (.int (nI (xV_smooth S n (tN t)))))) (TX g (xR_smooth S n t) (xE_trait t)) ([.ref (gA g 0), .int t] : List Value).toArray s 1 6 (Ab g)) (F0 m 57 ls []) := by
            intro f
            induction f with
            | zero =>
              intro i S2 hi2 hI2 hJ2 he H locs hP hS ls hl
              refine lv_iload_n C.1 hb dX0_smooth_57 rfl (lv_at hl 2 rfl) ?_
              refine gX_LEVELS C hb hS dX0_smooth_58 ?_
              refine lv_iload_n C.1 hb dX0_smooth_61 rfl (lv_at hl 1 rfl) ?_
              refine toI ht1 ?_
              refine ldX_LEVELS (j := (tN t)) C hb hS rfl ht2 dX0_smooth_62 ?_
              refine lv_icmp_ge (tgt := 92) C.1 hb dX0_smooth_63 (by decide) (fun c231 => ?_) (fun c231 => ?_)
              · have he2 : S2 = xSmF n (tN t) (levN (tN t)) (xSm0 S (tN t) (levN (tN t))) := he
                have hIE : XI n (xSmF n (tN t) (levN (tN t)) (xSm0 S (tN t) (levN (tN t)))) := by rw [← he2]; exact hI2
                rw [he2] at hP
                refine lv_aload_n C.1 hb dX0_smooth_92 rfl (lv_at hl 0 rfl) ?_
                refine run_wr (cRunX (As := []) (rest := []) C hb (hml.trans hl.1.symm) hP hS rfl (k_X0_refit l g (xSmF n (tN t) (levN (tN t)) (xSm0 S (tN t) (levN (tN t)))) n hIE) wm_77 wm_78 wm_79 wm_80 wm_2 (n := 0) (by decide +kernel) rfl ⟨rfl, rfl, Nat.le_of_ble_eq_true rfl, Nat.le_of_ble_eq_true rfl⟩ (Nat.le_of_ble_eq_true rfl) rfl ⟨Nat.zero_le _, Nat.zero_le _⟩ dX0_smooth_93) hS (fun H locs hP hS => ?_)
                have hP : HW g (xSmS S n (tN t)) H := hP
                refine lv_aload_n C.1 hb dX0_smooth_96 rfl (lv_at hl 0 rfl) ?_
                refine lv_iload_n C.1 hb dX0_smooth_97 rfl (lv_at hl 1 rfl) ?_
                refine toI ht1 ?_
                refine run_rd (cRunX (As := [.int (nI (tN t))]) (rest := []) C hb (hml.trans hl.1.symm) hP hS rfl (k_X0_changedSinceBefore l g (xSmS S n (tN t)) (tN t) ht2) wm_284 wm_285 wm_286 wm_287 wm_2 (n := 1) (by decide +kernel) rfl ⟨rfl, rfl, Nat.le_of_ble_eq_true rfl, Nat.le_of_ble_eq_true rfl⟩ (Nat.le_of_ble_eq_true rfl) rfl ⟨Nat.zero_le _, Nat.zero_le _⟩ dX0_smooth_98) ?_
                exact txI C hb hret hlk hP hS dX0_smooth_101 rfl (by unfold xR_smooth; rw [c229]; rfl) (by unfold xE_trait; rw [c229]; rfl)
              · exact absurd ((nI_leI (a := levN (tN t)) (b := i) (by omega) (by omega)).mpr (by omega)) c231
            | succ f ih2 =>
              intro i S2 hi2 hI2 hJ2 he H locs hP hS ls hl
              refine lv_iload_n C.1 hb dX0_smooth_57 rfl (lv_at hl 2 rfl) ?_
              refine gX_LEVELS C hb hS dX0_smooth_58 ?_
              refine lv_iload_n C.1 hb dX0_smooth_61 rfl (lv_at hl 1 rfl) ?_
              refine toI ht1 ?_
              refine ldX_LEVELS (j := (tN t)) C hb hS rfl ht2 dX0_smooth_62 ?_
              refine lv_icmp_ge (tgt := 92) C.1 hb dX0_smooth_63 (by decide) (fun c232 => ?_) (fun c232 => ?_)
              · exact absurd ((nI_leI (a := levN (tN t)) (b := i) (by omega) (by omega)).mp c232) (by omega)
              · refine lv_aload_n C.1 hb dX0_smooth_66 rfl (lv_at hl 0 rfl) ?_
                refine lv_iload_n C.1 hb dX0_smooth_67 rfl (lv_at hl 1 rfl) ?_
                refine toI ht1 ?_
                refine run_rd (cRunX (As := [.int (nI (tN t))]) (rest := []) C hb (hml.trans hl.1.symm) hP hS rfl (k_X0_lowestFallingLevel l g S2 (tN t) ht2) wm_269 wm_270 wm_271 wm_272 wm_2 (n := 1) (by decide +kernel) rfl ⟨rfl, rfl, Nat.le_of_ble_eq_true rfl, Nat.le_of_ble_eq_true rfl⟩ (Nat.le_of_ble_eq_true rfl) rfl ⟨Nat.zero_le _, Nat.zero_le _⟩ dX0_smooth_68) ?_
                refine lv_istore_n (lv' := [(3, .int (xLow S2 (tN t))), (0, .ref (gA g 0)), (1, .int t), (2, .int (nI i))]) C.1 hb dX0_smooth_71 rfl hl (by decide) rfl (fun ls hl => ?_)
                refine lv_iload_n C.1 hb dX0_smooth_72 rfl (lv_at hl 0 rfl) ?_
                refine lv_iconst (v := (-1)) C.1 hb dX0_smooth_73 (by decide) ?_
                refine lv_icmp_ne (tgt := 80) C.1 hb dX0_smooth_74 (by decide) (fun c233 => ?_) (fun c233 => ?_)
                · obtain ⟨hw1, hw2, hw3, hw4⟩ := xLow_cases c233
                  obtain ⟨hj1, hj2, hj3⟩ := xJst_ok hJ2 c233
                  refine lv_aload_n C.1 hb dX0_smooth_80 rfl (lv_at hl 1 rfl) ?_
                  refine lv_iload_n C.1 hb dX0_smooth_81 rfl (lv_at hl 2 rfl) ?_
                  refine toI ht1 ?_
                  refine lv_iload_n C.1 hb dX0_smooth_82 rfl (lv_at hl 0 rfl) ?_
                  refine toI hw1 ?_
                  refine run_wr (cRunX (As := [.int (nI (tN t)), .int (nI (tN (xLow S2 (tN t))))]) (rest := []) C hb (hml.trans hl.1.symm) hP hS rfl (k_X0_joinToLevelAhead l g S2 n hI2 (tN t) (tN (xLow S2 (tN t))) (xJst S2 (tN t)) ht2 hw2 hw3 hj1 hj2) wm_273 wm_274 wm_275 wm_276 wm_2 (n := 2) (by decide +kernel) rfl ⟨rfl, rfl, Nat.le_of_ble_eq_true rfl, Nat.le_of_ble_eq_true rfl⟩ (Nat.le_of_ble_eq_true rfl) rfl ⟨Nat.zero_le _, Nat.zero_le _⟩ dX0_smooth_83) hS (fun H locs hP hS => ?_)
                  refine lv_iinc (v := nI (i + 1)) (lv' := [(2, .int (nI (i + 1))), (3, .int (xLow S2 (tN t))), (0, .ref (gA g 0)), (1, .int t)]) C.1 hb dX0_smooth_86 hl (k := 3) rfl (nI_1 i) (by decide) rfl (fun ls hl => ?_)
                  refine lv_goto (tgt := 57) C.1 hb dX0_smooth_89 (by decide) ?_
                  exact ih2 (i + 1) _ (by omega) (XI_join (tN t) _ _ hI2) (xJI_join hJ2 c233) ((if_neg c233).symm.trans he) _ _ hP hS ls (lv_sub hl [2, 3, 0] rfl)
                · have he2 : S2 = xSmF n (tN t) (levN (tN t)) (xSm0 S (tN t) (levN (tN t))) := (if_pos c233).symm.trans he
                  have hIE : XI n (xSmF n (tN t) (levN (tN t)) (xSm0 S (tN t) (levN (tN t)))) := by rw [← he2]; exact hI2
                  rw [he2] at hP
                  refine lv_goto (tgt := 92) C.1 hb dX0_smooth_77 (by decide) ?_
                  refine lv_aload_n C.1 hb dX0_smooth_92 rfl (lv_at hl 1 rfl) ?_
                  refine run_wr (cRunX (As := []) (rest := []) C hb (hml.trans hl.1.symm) hP hS rfl (k_X0_refit l g (xSmF n (tN t) (levN (tN t)) (xSm0 S (tN t) (levN (tN t)))) n hIE) wm_77 wm_78 wm_79 wm_80 wm_2 (n := 0) (by decide +kernel) rfl ⟨rfl, rfl, Nat.le_of_ble_eq_true rfl, Nat.le_of_ble_eq_true rfl⟩ (Nat.le_of_ble_eq_true rfl) rfl ⟨Nat.zero_le _, Nat.zero_le _⟩ dX0_smooth_93) hS (fun H locs hP hS => ?_)
                  have hP : HW g (xSmS S n (tN t)) H := hP
                  refine lv_aload_n C.1 hb dX0_smooth_96 rfl (lv_at hl 1 rfl) ?_
                  refine lv_iload_n C.1 hb dX0_smooth_97 rfl (lv_at hl 2 rfl) ?_
                  refine toI ht1 ?_
                  refine run_rd (cRunX (As := [.int (nI (tN t))]) (rest := []) C hb (hml.trans hl.1.symm) hP hS rfl (k_X0_changedSinceBefore l g (xSmS S n (tN t)) (tN t) ht2) wm_284 wm_285 wm_286 wm_287 wm_2 (n := 1) (by decide +kernel) rfl ⟨rfl, rfl, Nat.le_of_ble_eq_true rfl, Nat.le_of_ble_eq_true rfl⟩ (Nat.le_of_ble_eq_true rfl) rfl ⟨Nat.zero_le _, Nat.zero_le _⟩ dX0_smooth_98) ?_
                  exact txI C hb hret hlk hP hS dX0_smooth_101 rfl (by unfold xR_smooth; rw [c229]; rfl) (by unfold xE_trait; rw [c229]; rfl)
          exact key2 (levN (tN t)) 0 (xSm0 S (tN t) (levN (tN t))) (by omega) (XI_sm0 (tN t) _ hI) (xJI_0 S (tN t)) rfl _ _ hP hS ls (lv_sub hl [1, 2, 0] rfl)
        · have hlt : i < levN (tN t) := nle_nI (a := levN (tN t)) (b := i) (by omega) (by omega) c230
          refine lv_aload_n C.1 hb dX0_smooth_28 rfl (lv_at hl 0 rfl) ?_
          refine gX_factorsBefore C hb hP dX0_smooth_29 ?_
          refine lv_iload_n C.1 hb dX0_smooth_32 rfl (lv_at hl 2 rfl) ?_
          refine lv_aload_n C.1 hb dX0_smooth_33 rfl (lv_at hl 0 rfl) ?_
          refine gX_factors C hb hP dX0_smooth_34 ?_
          refine lv_iload_n C.1 hb dX0_smooth_37 rfl (lv_at hl 1 rfl) ?_
          refine toI ht1 ?_
          refine al_fac (t := (tN t)) C hb hP rfl ht2 dX0_smooth_38 ?_
          refine lv_iload_n C.1 hb dX0_smooth_39 rfl (lv_at hl 2 rfl) ?_
          refine ldX_fac (t := (tN t)) (j := i) C hb hP ht2 rfl (by omega) dX0_smooth_40 ?_
          refine toI (show _ = xFac S (tN t) i from rfl) ?_
          refine stX_factorsBefore (j := i) C hb hP hS rfl (by omega) dX0_smooth_41 (fun H locs hP hS => ?_)
          refine lv_aload_n C.1 hb dX0_smooth_42 rfl (lv_at hl 0 rfl) ?_
          refine gX_groupStarts C hb hP dX0_smooth_43 ?_
          refine lv_iload_n C.1 hb dX0_smooth_46 rfl (lv_at hl 2 rfl) ?_
          refine lv_iload_n C.1 hb dX0_smooth_47 rfl (lv_at hl 2 rfl) ?_
          refine stX_groupStarts (j := i) C hb hP hS rfl (by omega) dX0_smooth_48 (fun H locs hP hS => ?_)
          refine lv_iinc (v := nI (i + 1)) (lv' := [(2, .int (nI (i + 1))), (0, .ref (gA g 0)), (1, .int t)]) C.1 hb dX0_smooth_49 hl (k := 2) rfl (nI_1 i) (by decide) rfl (fun ls hl => ?_)
          refine lv_goto (tgt := 19) C.1 hb dX0_smooth_52 (by decide) ?_
          exact ih (i + 1) (by omega) (by omega)  _ _ (by rw [← xSm0_s S (tN t) i]; exact hP) hS ls (lv_sub hl [1, 2, 0] rfl)
    exact key (levN (tN t) - 0 + 1) 0 (by omega) (by omega)  _ _ (by rw [xSm0_0]; exact hP) hS ls (lv_sub hl [1, 2, 0] rfl)
  · exact xthrowB C hb hl0 hlk hP hS (hl.1.trans hml.symm) het (text := "no such trait") (by decide) dX0_smooth_7 dX0_smooth_10 dX0_smooth_11 dX0_smooth_13 dX0_smooth_16 ⟨Nat.le_of_ble_eq_true rfl, Nat.le_of_ble_eq_true rfl, Nat.le_of_ble_eq_true rfl, Nat.le_of_ble_eq_true rfl⟩ (by unfold xE_trait; rw [c229]; rfl) (by unfold xR_smooth; rw [c229]; rfl)
