set_option maxRecDepth 100000 in
set_option maxHeartbeats 4000000 in
theorem k_X0_smooth (l : Launch) (hl0 : l.stackTraces = false) (g : gG) (S : WS) (n : Nat) (hI : XI n S) (t : Int32) : vx_Met l yX0_smooth (wA yX0_smooth cX0_smooth 4 (some .int)) ({ frames := 6, cells := 1, slots := 6, locals := 250 }) (PW g S [.ref (gA g 0), .int t]) (TQ g (xR_smooth S n t) (xE_trait t) (some (.int (nI (xV_smooth S n (tN t)))))) (TX g (xR_smooth S n t) (xE_trait t)) 1 6 (Ab g) := by
  refine metX (by decide +kernel) (Nat.le_of_ble_eq_true rfl) ?_
  intro p e s m below meth c C hb hml hret hlk hP het ls hl
  have C : CW g RX0 p s m ([.ref (gA g 0), .int t] : List Value).toArray := C
  have hS : va_S (Ab g) s.heap s.heap [] := va_S.rf
  have hl : lv_has ls 4 [(0, .ref (gA g 0)), (1, .int t)] := hl
  refine lv_iload_n C.1 hb dX0_smooth_0 rfl (lv_at hl 1 rfl) ?_
  refine run_rd (cRunS (As := [.int t]) (rest := []) C hb (hml.trans hl.1.symm) hP hS (k_X0_hasTrait l g S t) wm_124 wm_125 wm_126 wm_12 (n := 1) (by decide +kernel) rfl ⟨rfl, rfl, Nat.le_of_ble_eq_true rfl, Nat.le_of_ble_eq_true rfl⟩ (Nat.le_of_ble_eq_true rfl) rfl ⟨Nat.zero_le _, Nat.zero_le _⟩ dX0_smooth_1) ?_
  refine bz_ne (tgt := 17) C hb dX0_smooth_4 (by decide) (fun c78 => ?_) (fun c78 => ?_)
  · have hx := xHasTrait_ix c78
    have ht1 := hx.1
    have ht2 := hx.2
    have h4 := levN_4 (tN t)
    have h3 := levN_3 (tN t)
    refine lv_iconst (v := 0) C.1 hb dX0_smooth_17 (by decide) ?_
    refine lv_istore_n (lv' := [(2, .int 0), (0, .ref (gA g 0)), (1, .int t)]) C.1 hb dX0_smooth_18 rfl hl (by decide) rfl (fun ls hl => ?_)
    have key : ∀ f i : Nat, levN (tN t) - i < f → i ≤ levN (tN t) → ∀ (H : Heap) (locs : List Loc), HW g (xSm0 S (tN t) i) H → va_S (Ab g) s.heap H locs → ∀ ls : Array Slot, lv_has ls 4 [(0, .ref (gA g 0)), (1, .int t), (2, .int (nI i))] → W p l e ({ frames := 6, cells := 1, slots := 6, locals := 250 }) s m ([.ref (gA g 0), .int t] : List Value).toArray below meth c H locs 0 0 (vx_MQ below (TQ g (xR_smooth S n t) (xE_trait t) (some (.int (nI (xV_smooth S n (tN t)))))) (TX g (xR_smooth S n t) (xE_trait t)) ([.ref (gA g 0), .int t] : List Value).toArray s 1 6 (Ab g)) (F0 m 19 ls []) := by
      intro f
      induction f with
      | zero => intro i h; exact absurd h (Nat.not_lt_zero _)
      | succ f ih =>
        intro i hfi hi  H locs hP hS ls hl
        refine lv_iload_n C.1 hb dX0_smooth_19 rfl (lv_at hl 2 rfl) ?_
        refine gX_LEVELS C hb hS dX0_smooth_20 ?_
        refine lv_iload_n C.1 hb dX0_smooth_23 rfl (lv_at hl 1 rfl) ?_
        refine toI ht1 ?_
        refine ldX_LEVELS (j := (tN t)) C hb hS rfl ht2 dX0_smooth_24 ?_
        refine lv_icmp_ge (tgt := 55) C.1 hb dX0_smooth_25 (by decide) (fun c79 => ?_) (fun c79 => ?_)
        · have hin : i = levN (tN t) := by have := le_nI (a := levN (tN t)) (b := i) (by omega) (by omega) c79; omega
          rw [hin] at hl hP
          refine lv_iconst (v := 0) C.1 hb dX0_smooth_55 (by decide) ?_
          refine lv_istore_n (lv' := [(2, .int 0), (0, .ref (gA g 0)), (1, .int t)]) C.1 hb dX0_smooth_56 rfl hl (by decide) rfl (fun ls hl => ?_)
          have key2 : ∀ (f i : Nat) (S2 : WS), i + f = levN (tN t) → XI n S2 → xJI S2 (tN t) → xSmF n (tN t) f S2 = xSmF n (tN t) (levN (tN t)) (xSm0 S (tN t) (levN (tN t))) → ∀ (H : Heap) (locs : List Loc), HW g S2 H → va_S (Ab g) s.heap H locs → ∀ ls : Array Slot, lv_has ls 4 [(0, .ref (gA g 0)), (1, .int t), (2, .int (nI i))] → W p l e ({ frames := 6, cells := 1, slots := 6, locals := 250 }) s m ([.ref (gA g 0), .int t] : List Value).toArray below meth c H locs 0 0 (vx_MQ below (TQ g (xR_smooth S n t) (xE_trait t) (some (.int (nI (xV_smooth S n (tN t)))))) (TX g (xR_smooth S n t) (xE_trait t)) ([.ref (gA g 0), .int t] : List Value).toArray s 1 6 (Ab g)) (F0 m 57 ls []) := by
            intro f
            induction f with
            | zero =>
              intro i S2 hi2 hI2 hJ2 he H locs hP hS ls hl
              refine lv_iload_n C.1 hb dX0_smooth_57 rfl (lv_at hl 2 rfl) ?_
              refine gX_LEVELS C hb hS dX0_smooth_58 ?_
              refine lv_iload_n C.1 hb dX0_smooth_61 rfl (lv_at hl 1 rfl) ?_
              refine toI ht1 ?_
              refine ldX_LEVELS (j := (tN t)) C hb hS rfl ht2 dX0_smooth_62 ?_
              refine lv_icmp_ge (tgt := 92) C.1 hb dX0_smooth_63 (by decide) (fun c80 => ?_) (fun c80 => ?_)
              · have he2 : S2 = xSmF n (tN t) (levN (tN t)) (xSm0 S (tN t) (levN (tN t))) := he
                have hIE : XI n (xSmF n (tN t) (levN (tN t)) (xSm0 S (tN t) (levN (tN t)))) := by rw [← he2]; exact hI2
                rw [he2] at hP
                refine lv_aload_n C.1 hb dX0_smooth_92 rfl (lv_at hl 0 rfl) ?_
                refine run_wr (cRunX (As := []) (rest := []) C hb (hml.trans hl.1.symm) hP hS rfl (k_X0_refit l g (xSmF n (tN t) (levN (tN t)) (xSm0 S (tN t) (levN (tN t)))) n hIE) wm_85 wm_86 wm_87 wm_88 wm_12 (n := 0) (by decide +kernel) rfl ⟨rfl, rfl, Nat.le_of_ble_eq_true rfl, Nat.le_of_ble_eq_true rfl⟩ (Nat.le_of_ble_eq_true rfl) rfl ⟨Nat.zero_le _, Nat.zero_le _⟩ dX0_smooth_93) hS (fun H locs hP hS => ?_)
                have hP : HW g (xSmS S n (tN t)) H := hP
                refine lv_aload_n C.1 hb dX0_smooth_96 rfl (lv_at hl 0 rfl) ?_
                refine lv_iload_n C.1 hb dX0_smooth_97 rfl (lv_at hl 1 rfl) ?_
                refine toI ht1 ?_
                refine run_rd (cRunX (As := [.int (nI (tN t))]) (rest := []) C hb (hml.trans hl.1.symm) hP hS rfl (k_X0_changedSinceBefore l g (xSmS S n (tN t)) (tN t) ht2) wm_217 wm_218 wm_219 wm_220 wm_12 (n := 1) (by decide +kernel) rfl ⟨rfl, rfl, Nat.le_of_ble_eq_true rfl, Nat.le_of_ble_eq_true rfl⟩ (Nat.le_of_ble_eq_true rfl) rfl ⟨Nat.zero_le _, Nat.zero_le _⟩ dX0_smooth_98) ?_
                exact txI C hb hret hlk hP hS dX0_smooth_101 rfl (by unfold xR_smooth; rw [c78]; rfl) (by unfold xE_trait; rw [c78]; rfl)
              · exact absurd ((nI_leI (a := levN (tN t)) (b := i) (by omega) (by omega)).mpr (by omega)) c80
            | succ f ih2 =>
              intro i S2 hi2 hI2 hJ2 he H locs hP hS ls hl
              refine lv_iload_n C.1 hb dX0_smooth_57 rfl (lv_at hl 2 rfl) ?_
              refine gX_LEVELS C hb hS dX0_smooth_58 ?_
              refine lv_iload_n C.1 hb dX0_smooth_61 rfl (lv_at hl 1 rfl) ?_
              refine toI ht1 ?_
              refine ldX_LEVELS (j := (tN t)) C hb hS rfl ht2 dX0_smooth_62 ?_
              refine lv_icmp_ge (tgt := 92) C.1 hb dX0_smooth_63 (by decide) (fun c81 => ?_) (fun c81 => ?_)
              · exact absurd ((nI_leI (a := levN (tN t)) (b := i) (by omega) (by omega)).mp c81) (by omega)
              · refine lv_aload_n C.1 hb dX0_smooth_66 rfl (lv_at hl 0 rfl) ?_
                refine lv_iload_n C.1 hb dX0_smooth_67 rfl (lv_at hl 1 rfl) ?_
                refine toI ht1 ?_
                refine run_rd (cRunX (As := [.int (nI (tN t))]) (rest := []) C hb (hml.trans hl.1.symm) hP hS rfl (k_X0_lowestFallingLevel l g S2 (tN t) ht2) wm_205 wm_206 wm_207 wm_208 wm_12 (n := 1) (by decide +kernel) rfl ⟨rfl, rfl, Nat.le_of_ble_eq_true rfl, Nat.le_of_ble_eq_true rfl⟩ (Nat.le_of_ble_eq_true rfl) rfl ⟨Nat.zero_le _, Nat.zero_le _⟩ dX0_smooth_68) ?_
                refine lv_istore_n (lv' := [(3, .int (xLow S2 (tN t))), (0, .ref (gA g 0)), (1, .int t), (2, .int (nI i))]) C.1 hb dX0_smooth_71 rfl hl (by decide) rfl (fun ls hl => ?_)
                refine lv_iload_n C.1 hb dX0_smooth_72 rfl (lv_at hl 0 rfl) ?_
                refine lv_iconst (v := (-1)) C.1 hb dX0_smooth_73 (by decide) ?_
                refine lv_icmp_ne (tgt := 80) C.1 hb dX0_smooth_74 (by decide) (fun c82 => ?_) (fun c82 => ?_)
                · obtain ⟨hw1, hw2, hw3, hw4⟩ := xLow_cases c82
                  obtain ⟨hj1, hj2, hj3⟩ := xJst_ok hJ2 c82
                  refine lv_aload_n C.1 hb dX0_smooth_80 rfl (lv_at hl 1 rfl) ?_
                  refine lv_iload_n C.1 hb dX0_smooth_81 rfl (lv_at hl 2 rfl) ?_
                  refine toI ht1 ?_
                  refine lv_iload_n C.1 hb dX0_smooth_82 rfl (lv_at hl 0 rfl) ?_
                  refine toI hw1 ?_
                  refine run_wr (cRunX (As := [.int (nI (tN t)), .int (nI (tN (xLow S2 (tN t))))]) (rest := []) C hb (hml.trans hl.1.symm) hP hS rfl (k_X0_joinToLevelAhead l g S2 n hI2 (tN t) (tN (xLow S2 (tN t))) (xJst S2 (tN t)) ht2 hw2 hw3 hj1 hj2) wm_209 wm_210 wm_211 wm_212 wm_12 (n := 2) (by decide +kernel) rfl ⟨rfl, rfl, Nat.le_of_ble_eq_true rfl, Nat.le_of_ble_eq_true rfl⟩ (Nat.le_of_ble_eq_true rfl) rfl ⟨Nat.zero_le _, Nat.zero_le _⟩ dX0_smooth_83) hS (fun H locs hP hS => ?_)
                  refine lv_iinc (v := nI (i + 1)) (lv' := [(2, .int (nI (i + 1))), (3, .int (xLow S2 (tN t))), (0, .ref (gA g 0)), (1, .int t)]) C.1 hb dX0_smooth_86 hl (k := 3) rfl (nI_1 i) (by decide) rfl (fun ls hl => ?_)
                  refine lv_goto (tgt := 57) C.1 hb dX0_smooth_89 (by decide) ?_
                  exact ih2 (i + 1) _ (by omega) (XI_join (tN t) _ _ hI2) (xJI_join hJ2 c82) ((if_neg c82).symm.trans he) _ _ hP hS ls (lv_sub hl [2, 3, 0] rfl)
                · have he2 : S2 = xSmF n (tN t) (levN (tN t)) (xSm0 S (tN t) (levN (tN t))) := (if_pos c82).symm.trans he
                  have hIE : XI n (xSmF n (tN t) (levN (tN t)) (xSm0 S (tN t) (levN (tN t)))) := by rw [← he2]; exact hI2
                  rw [he2] at hP
                  refine lv_goto (tgt := 92) C.1 hb dX0_smooth_77 (by decide) ?_
                  refine lv_aload_n C.1 hb dX0_smooth_92 rfl (lv_at hl 1 rfl) ?_
                  refine run_wr (cRunX (As := []) (rest := []) C hb (hml.trans hl.1.symm) hP hS rfl (k_X0_refit l g (xSmF n (tN t) (levN (tN t)) (xSm0 S (tN t) (levN (tN t)))) n hIE) wm_85 wm_86 wm_87 wm_88 wm_12 (n := 0) (by decide +kernel) rfl ⟨rfl, rfl, Nat.le_of_ble_eq_true rfl, Nat.le_of_ble_eq_true rfl⟩ (Nat.le_of_ble_eq_true rfl) rfl ⟨Nat.zero_le _, Nat.zero_le _⟩ dX0_smooth_93) hS (fun H locs hP hS => ?_)
                  have hP : HW g (xSmS S n (tN t)) H := hP
                  refine lv_aload_n C.1 hb dX0_smooth_96 rfl (lv_at hl 1 rfl) ?_
                  refine lv_iload_n C.1 hb dX0_smooth_97 rfl (lv_at hl 2 rfl) ?_
                  refine toI ht1 ?_
                  refine run_rd (cRunX (As := [.int (nI (tN t))]) (rest := []) C hb (hml.trans hl.1.symm) hP hS rfl (k_X0_changedSinceBefore l g (xSmS S n (tN t)) (tN t) ht2) wm_217 wm_218 wm_219 wm_220 wm_12 (n := 1) (by decide +kernel) rfl ⟨rfl, rfl, Nat.le_of_ble_eq_true rfl, Nat.le_of_ble_eq_true rfl⟩ (Nat.le_of_ble_eq_true rfl) rfl ⟨Nat.zero_le _, Nat.zero_le _⟩ dX0_smooth_98) ?_
                  exact txI C hb hret hlk hP hS dX0_smooth_101 rfl (by unfold xR_smooth; rw [c78]; rfl) (by unfold xE_trait; rw [c78]; rfl)
          exact key2 (levN (tN t)) 0 (xSm0 S (tN t) (levN (tN t))) (by omega) (XI_sm0 (tN t) _ hI) (xJI_0 S (tN t)) rfl _ _ hP hS ls (lv_sub hl [1, 2, 0] rfl)
        · have hlt : i < levN (tN t) := nle_nI (a := levN (tN t)) (b := i) (by omega) (by omega) c79
          refine lv_aload_n C.1 hb dX0_smooth_28 rfl (lv_at hl 0 rfl) ?_
          refine gX_factorsBefore C hb hP dX0_smooth_29 ?_
          refine lv_iload_n C.1 hb dX0_smooth_32 rfl (lv_at hl 2 rfl) ?_
          refine lv_aload_n C.1 hb dX0_smooth_33 rfl (lv_at hl 0 rfl) ?_
          refine gX_factors C hb hP dX0_smooth_34 ?_
          refine lv_iload_n C.1 hb dX0_smooth_37 rfl (lv_at hl 1 rfl) ?_
          refine toI ht1 ?_
          refine al_fac (t := (tN t)) C hb hP rfl ht2 dX0_smooth_38 ?_
          refine lv_iload_n C.1 hb dX0_smooth_39 rfl (lv_at hl 2 rfl) ?_
          refine ldX_fac (t := (tN t)) (j := i) C hb hP ht2 rfl (by omega) dX0_smooth_40 ?_
          refine toI (show _ = xFac S (tN t) i from rfl) ?_
          refine stX_factorsBefore (j := i) C hb hP hS rfl (by omega) dX0_smooth_41 (fun H locs hP hS => ?_)
          refine lv_aload_n C.1 hb dX0_smooth_42 rfl (lv_at hl 0 rfl) ?_
          refine gX_groupStarts C hb hP dX0_smooth_43 ?_
          refine lv_iload_n C.1 hb dX0_smooth_46 rfl (lv_at hl 2 rfl) ?_
          refine lv_iload_n C.1 hb dX0_smooth_47 rfl (lv_at hl 2 rfl) ?_
          refine stX_groupStarts (j := i) C hb hP hS rfl (by omega) dX0_smooth_48 (fun H locs hP hS => ?_)
          refine lv_iinc (v := nI (i + 1)) (lv' := [(2, .int (nI (i + 1))), (0, .ref (gA g 0)), (1, .int t)]) C.1 hb dX0_smooth_49 hl (k := 2) rfl (nI_1 i) (by decide) rfl (fun ls hl => ?_)
          refine lv_goto (tgt := 19) C.1 hb dX0_smooth_52 (by decide) ?_
          exact ih (i + 1) (by omega) (by omega)  _ _ (by rw [← xSm0_s S (tN t) i]; exact hP) hS ls (lv_sub hl [1, 2, 0] rfl)
    exact key (levN (tN t) - 0 + 1) 0 (by omega) (by omega)  _ _ (by rw [xSm0_0]; exact hP) hS ls (lv_sub hl [1, 2, 0] rfl)
  · exact xthrowB C hb hl0 hlk hP hS (hl.1.trans hml.symm) het (text := "no such trait") (by decide) dX0_smooth_7 dX0_smooth_10 dX0_smooth_11 dX0_smooth_13 dX0_smooth_16 ⟨Nat.le_of_ble_eq_true rfl, Nat.le_of_ble_eq_true rfl, Nat.le_of_ble_eq_true rfl, Nat.le_of_ble_eq_true rfl⟩ (by unfold xE_trait; rw [c78]; rfl) (by unfold xR_smooth; rw [c78]; rfl)
