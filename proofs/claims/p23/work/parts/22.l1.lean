set_option maxRecDepth 100000 in
set_option maxHeartbeats 4000000 in
theorem k_L_from (l : Launch) (g : gG) (S : WS) (k b : Nat) (hk : k < 1000) (hb0 : 0 < b) (hb1 : b < 2 ^ 31) : Met l yL_from (wA yL_from cL_from 4 (some .int)) ({ frames := 0, cells := 0, slots := 0, locals := 0 }) (PW g S [.ref (gB g), .int (nI k), .int (nI b)]) (RQ (some (.int (nI (fV (gN g) (gX g) k b))))) 0 0 (fun _ => False) := by
  refine metI (by decide +kernel) (Nat.le_of_ble_eq_true rfl) ?_
  intro p e s m below meth c C hb hml hret hlk hP ls hl
  have C : CW g RL p s m ([.ref (gB g), .int (nI k), .int (nI b)] : List Value).toArray := C
  have hS : va_S (Ab g) s.heap s.heap [] := va_S.rf
  have hl : lv_has ls 4 [(0, .ref (gB g)), (1, .int (nI k)), (2, .int (nI b))] := hl
  obtain ⟨hX, hbl, hbA, hN⟩ := C.2.2.2.2.2.2.2.2.2
  refine lv_aload_n C.1 hb dL_from_0 rfl (lv_at hl 0 rfl) ?_
  refine va_slen C.1 hb hX hbl hbA hS dL_from_1 ?_
  refine lv_if_ne (tgt := 17) C.1 hb dL_from_2 (by decide) (fun c83 => ?_) (fun c83 => ?_)
  · have hz : ¬ gN g = 0 := fun q => c83 (by rw [q]; rfl)
    refine lv_aload_n C.1 hb dL_from_17 rfl (lv_at hl 0 rfl) ?_
    refine lv_iload_n C.1 hb dL_from_18 rfl (lv_at hl 1 rfl) ?_
    refine lv_aload_n C.1 hb dL_from_19 rfl (lv_at hl 0 rfl) ?_
    refine va_slen C.1 hb hX hbl hbA hS dL_from_20 ?_
    refine lv_irem C.1 hb dL_from_21 (nI_ne0 (by omega) (by omega)) ?_
    refine toI (pk_rem (a := k) (d := (gN g)) (by omega) (by omega) (by omega)) ?_
    have hlt : k % gN g < gN g := Nat.mod_lt _ (by omega)
    refine va_sld C.1 hb hX hbl hbA hS (vp_in_nI hlt (by omega)) dL_from_22 ?_
    rw [nI_clamp (by omega)]
    refine lv_ldc (v := 156007) C.1 hb C.2.1 (C.2.2.1 _ wm_101) dL_from_23 ?_
    refine lv_iload_n C.1 hb dL_from_25 rfl (lv_at hl 1 rfl) ?_
    refine lv_imul C.1 hb dL_from_26 ?_
    refine lv_ixor C.1 hb dL_from_27 ?_
    refine toI (show _ = fraw (gN g) (gX g) k from (if_neg hz).symm) ?_
    refine lv_istore_n (lv' := [(3, .int (fraw (gN g) (gX g) k)), (0, .ref (gB g)), (1, .int (nI k)), (2, .int (nI b))]) C.1 hb dL_from_28 rfl hl (by decide) rfl (fun ls hl => ?_)
    refine lv_iload_n C.1 hb dL_from_29 rfl (lv_at hl 0 rfl) ?_
    refine lv_ldc (v := 2147483647) C.1 hb C.2.1 (C.2.2.1 _ wm_102) dL_from_30 ?_
    refine lv_iand C.1 hb dL_from_32 ?_
    refine toI (pk_and (fraw (gN g) (gX g) k) (m := 2147483647) 31 (by decide)) ?_
    refine lv_iload_n C.1 hb dL_from_33 rfl (lv_at hl 3 rfl) ?_
    refine lv_irem C.1 hb dL_from_34 (nI_ne0 hb0 hb1) ?_
    refine toI (pk_rem (a := ((fraw (gN g) (gX g) k).toBitVec.toNat % 2 ^ 31)) (d := b) (by omega) hb0 hb1) ?_
    exact rdI C hb hret hlk dL_from_35 rfl
  · have hz : gN g = 0 := (nI_eq (a := gN g) (b := 0) (by omega) (by decide)).mp c83
    refine lv_sipush (v := 181) C.1 hb dL_from_5 (by decide) ?_
    refine lv_iload_n C.1 hb dL_from_8 rfl (lv_at hl 1 rfl) ?_
    refine lv_imul C.1 hb dL_from_9 ?_
    refine lv_sipush (v := 157) C.1 hb dL_from_10 (by decide) ?_
    refine lv_iadd C.1 hb dL_from_13 ?_
    refine lv_goto (tgt := 28) C.1 hb dL_from_14 (by decide) ?_
    refine toI (show _ = fraw (gN g) (gX g) k from (if_pos hz).symm) ?_
    refine lv_istore_n (lv' := [(3, .int (fraw (gN g) (gX g) k)), (0, .ref (gB g)), (1, .int (nI k)), (2, .int (nI b))]) C.1 hb dL_from_28 rfl hl (by decide) rfl (fun ls hl => ?_)
    refine lv_iload_n C.1 hb dL_from_29 rfl (lv_at hl 0 rfl) ?_
    refine lv_ldc (v := 2147483647) C.1 hb C.2.1 (C.2.2.1 _ wm_102) dL_from_30 ?_
    refine lv_iand C.1 hb dL_from_32 ?_
    refine toI (pk_and (fraw (gN g) (gX g) k) (m := 2147483647) 31 (by decide)) ?_
    refine lv_iload_n C.1 hb dL_from_33 rfl (lv_at hl 3 rfl) ?_
    refine lv_irem C.1 hb dL_from_34 (nI_ne0 hb0 hb1) ?_
    refine toI (pk_rem (a := ((fraw (gN g) (gX g) k).toBitVec.toNat % 2 ^ 31)) (d := b) (by omega) hb0 hb1) ?_
    exact rdI C hb hret hlk dL_from_35 rfl

set_option maxRecDepth 100000 in
set_option maxHeartbeats 4000000 in
theorem k_L_many (l : Launch) (g : gG) (S : WS) (t : Nat) (ht : t < 3) : Met l yL_many (wA yL_many cL_many 1 (some .int)) ({ frames := 0, cells := 0, slots := 0, locals := 0 }) (PW g S [.int (nI t)]) (RQ (some (.int (nI (levN t))))) 0 0 (fun _ => False) := by
  refine metI (by decide +kernel) (Nat.le_of_ble_eq_true rfl) ?_
  intro p e s m below meth c C hb hml hret hlk hP ls hl
  have C : CW g RL p s m ([.int (nI t)] : List Value).toArray := C
  have hS : va_S (Ab g) s.heap s.heap [] := va_S.rf
  have hl : lv_has ls 1 [(0, .int (nI t))] := hl
  refine lv_iload_n C.1 hb dL_many_0 rfl (lv_at hl 0 rfl) ?_
  refine lv_iconst (v := 1) C.1 hb dL_many_1 (by decide) ?_
  refine lv_icmp_ne (tgt := 9) C.1 hb dL_many_2 (by decide) (fun c84 => ?_) (fun c84 => ?_)
  · refine lv_iconst (v := 4) C.1 hb dL_many_9 (by decide) ?_
    exact rdI C hb hret hlk dL_many_10 (by rw [show levN t = 4 from if_neg (fun q => c84 (by rw [q]; rfl))]; rfl)
  · refine lv_iconst (v := 3) C.1 hb dL_many_5 (by decide) ?_
    refine lv_goto (tgt := 10) C.1 hb dL_many_6 (by decide) ?_
    exact rdI C hb hret hlk dL_many_10 (by rw [show levN t = 3 from if_pos ((nI_eq (a := t) (b := 1) (by omega) (by decide)).mp c84)]; rfl)

set_option maxRecDepth 100000 in
set_option maxHeartbeats 4000000 in
theorem k_L_base (l : Launch) (g : gG) (S : WS) (n : Nat) (T : WS) (hR : LR n T S) : Met l yL_base (wA yL_base cL_base 9 (some .long)) ({ frames := 0, cells := 0, slots := 0, locals := 0 }) (PW g S [.ref (gA g 18), .ref (gA g 20), .ref (gA g 22), .ref (gA g 24)]) (RQ (some (.long (xBase1 T n)))) 0 0 (fun _ => False) := by
  refine metI (by decide +kernel) (Nat.le_of_ble_eq_true rfl) ?_
  intro p e s m below meth c C hb hml hret hlk hP ls hl
  have C : CW g RL p s m ([.ref (gA g 18), .ref (gA g 20), .ref (gA g 22), .ref (gA g 24)] : List Value).toArray := C
  have hS : va_S (Ab g) s.heap s.heap [] := va_S.rf
  have hl : lv_has ls 9 [(0, .ref (gA g 18)), (1, .ref (gA g 20)), (2, .ref (gA g 22)), (3, .ref (gA g 24))] := hl
  have hn12 := lr_n hR
  refine lv_lconst (v := 0) C.1 hb dL_base_0 (by decide) ?_
  refine lv_lstore (lv' := [(4, .long 0), (0, .ref (gA g 18)), (1, .ref (gA g 20)), (2, .ref (gA g 22)), (3, .ref (gA g 24))]) C.1 hb dL_base_1 hl (by decide) rfl (fun ls hl => ?_)
  refine lv_lconst (v := 0) C.1 hb dL_base_3 (by decide) ?_
  refine lv_lstore (lv' := [(6, .long 0), (4, .long 0), (0, .ref (gA g 18)), (1, .ref (gA g 20)), (2, .ref (gA g 22)), (3, .ref (gA g 24))]) C.1 hb dL_base_4 hl (by decide) rfl (fun ls hl => ?_)
  refine lv_iconst (v := 0) C.1 hb dL_base_6 (by decide) ?_
  refine lv_istore (lv' := [(8, .int 0), (6, .long 0), (4, .long 0), (0, .ref (gA g 18)), (1, .ref (gA g 20)), (2, .ref (gA g 22)), (3, .ref (gA g 24))]) C.1 hb dL_base_7 hl (by decide) rfl (fun ls hl => ?_)
  have key : ∀ f i : Nat, n - i < f → i ≤ n → ∀ ls : Array Slot, lv_has ls 9 [(0, .ref (gA g 18)), (1, .ref (gA g 20)), (2, .ref (gA g 22)), (3, .ref (gA g 24)), (4, .long (xTot (xIa T 1) (xLng T 2) i)), (6, .long (xTot (xIa T 1) (xLng T 0) i)), (8, .int (nI i))] → W p l e ({ frames := 0, cells := 0, slots := 0, locals := 0 }) s m ([.ref (gA g 18), .ref (gA g 20), .ref (gA g 22), .ref (gA g 24)] : List Value).toArray below meth c s.heap [] 0 0 (MQ below (RQ (some (.long (xBase1 T n)))) ([.ref (gA g 18), .ref (gA g 20), .ref (gA g 22), .ref (gA g 24)] : List Value).toArray s 0 0 (fun _ => False)) (F0 m 9 ls []) := by
    intro f
    induction f with
    | zero => intro i h; exact absurd h (Nat.not_lt_zero _)
    | succ f ih =>
      intro i hfi hi  ls hl
      refine lv_iload C.1 hb dL_base_9 (lv_at hl 6 rfl) ?_
      refine lv_aload_n C.1 hb dL_base_11 rfl (lv_at hl 3 rfl) ?_
      refine lv_iconst (v := 0) C.1 hb dL_base_12 (by decide) ?_
      refine ldA_m (j := 0) C hb hP (by decide) (by decide) dL_base_13 ?_
      refine toI (lr_m0 hR) ?_
      refine lv_icmp_ge (tgt := 67) C.1 hb dL_base_14 (by decide) (fun c85 => ?_) (fun c85 => ?_)
      · have hin : i = n := by have := le_nI (a := n) (b := i) (by omega) (by omega) c85; omega
        rw [hin] at hl
        refine lv_lload C.1 hb dL_base_67 (lv_at hl 5 rfl) ?_
        refine lv_lconst (v := 0) C.1 hb dL_base_69 (by decide) ?_
        refine lc_ne (tgt := 78) C hb dL_base_70 dL_base_71 (by decide) (fun c86 => ?_) (fun c86 => ?_)
        · refine lv_lload C.1 hb dL_base_78 (lv_at hl 4 rfl) ?_
          refine lv_ldc2 (v := 10000) C.1 hb C.2.1 (C.2.2.1 _ wm_110) dL_base_80 ?_
          refine lv_lmul C.1 hb dL_base_83 ?_
          refine lv_lload C.1 hb dL_base_84 (lv_at hl 5 rfl) ?_
          refine lv_ldiv C.1 hb dL_base_86 c86 ?_
          exact rdL C hb hret hlk dL_base_87 (lr_b2 hR.1 c86)
        · refine lv_lconst (v := 0) C.1 hb dL_base_74 (by decide) ?_
          refine lv_goto (tgt := 87) C.1 hb dL_base_75 (by decide) ?_
          exact rdL C hb hret hlk dL_base_87 (lr_b1 hR.1 c86)
      · have hlt : i < n := nle_nI (a := n) (b := i) (by omega) (by omega) c85
        refine lv_lload C.1 hb dL_base_17 (lv_at hl 4 rfl) ?_
        refine lv_aload_n C.1 hb dL_base_19 rfl (lv_at hl 2 rfl) ?_
        refine lv_iload C.1 hb dL_base_20 (lv_at hl 6 rfl) ?_
        refine ldA_g (j := i) C hb hP rfl (by omega) dL_base_22 ?_
        refine lv_iconst (v := 1) C.1 hb dL_base_23 (by decide) ?_
        refine lv_icmp_ne (tgt := 31) C.1 hb dL_base_24 (by decide) (fun c87 => ?_) (fun c87 => ?_)
        · have hv := lr_g0 hR hlt c87
          refine lv_aload_n C.1 hb dL_base_31 rfl (lv_at hl 1 rfl) ?_
          refine lv_iload C.1 hb dL_base_32 (lv_at hl 6 rfl) ?_
          refine ldA_d (j := i) C hb hP rfl (by omega) dL_base_34 ?_
          refine lv_i2l C.1 hb dL_base_35 rfl ?_
          refine toL (show _ = xLng T 2 i from (lr_d hR hlt)) ?_
          refine lv_ladd C.1 hb dL_base_36 ?_
          refine lv_lstore (lv' := [(4, .long ((xTot (xIa T 1) (xLng T 2) i) + (xLng T 2 i))), (0, .ref (gA g 18)), (1, .ref (gA g 20)), (2, .ref (gA g 22)), (3, .ref (gA g 24)), (6, .long (xTot (xIa T 1) (xLng T 0) i)), (8, .int (nI i))]) C.1 hb dL_base_37 hl (by decide) rfl (fun ls hl => ?_)
          refine lv_lload C.1 hb dL_base_39 (lv_at hl 5 rfl) ?_
          refine lv_aload_n C.1 hb dL_base_41 rfl (lv_at hl 3 rfl) ?_
          refine lv_iload C.1 hb dL_base_42 (lv_at hl 6 rfl) ?_
          refine ldA_g (j := i) C hb hP rfl (by omega) dL_base_44 ?_
          refine lv_iconst (v := 1) C.1 hb dL_base_45 (by decide) ?_
          refine lv_icmp_ne (tgt := 53) C.1 hb dL_base_46 (by decide) (fun _ => ?_) (fun c9 => absurd c9 c87)
          refine lv_aload_n C.1 hb dL_base_53 rfl (lv_at hl 1 rfl) ?_
          refine lv_iload C.1 hb dL_base_54 (lv_at hl 6 rfl) ?_
          refine ldA_x (j := i) C hb hP rfl (by omega) dL_base_56 ?_
          refine lv_i2l C.1 hb dL_base_57 rfl ?_
          refine toL (show _ = xLng T 0 i from (lr_x hR hlt)) ?_
          refine lv_ladd C.1 hb dL_base_58 ?_
          refine lv_lstore (lv' := [(6, .long ((xTot (xIa T 1) (xLng T 0) i) + (xLng T 0 i))), (4, .long ((xTot (xIa T 1) (xLng T 2) i) + (xLng T 2 i))), (0, .ref (gA g 18)), (1, .ref (gA g 20)), (2, .ref (gA g 22)), (3, .ref (gA g 24)), (8, .int (nI i))]) C.1 hb dL_base_59 hl (by decide) rfl (fun ls hl => ?_)
          refine lv_iinc (v := nI (i + 1)) (lv' := [(8, .int (nI (i + 1))), (6, .long ((xTot (xIa T 1) (xLng T 0) i) + (xLng T 0 i))), (4, .long ((xTot (xIa T 1) (xLng T 2) i) + (xLng T 2 i))), (0, .ref (gA g 18)), (1, .ref (gA g 20)), (2, .ref (gA g 22)), (3, .ref (gA g 24))]) C.1 hb dL_base_61 hl (k := 6) rfl (nI_1 i) (by decide) rfl (fun ls hl => ?_)
          refine lv_goto (tgt := 9) C.1 hb dL_base_64 (by decide) ?_
          exact ih (i + 1) (by omega) (by omega)  ls (by rw [xTot_n hv, xTot_n hv]; exact lv_sub hl [3, 4, 5, 6, 2, 1, 0] rfl)
        · have hv := lr_g1 hR hlt c87
          refine lv_lconst (v := 0) C.1 hb dL_base_27 (by decide) ?_
          refine lv_goto (tgt := 36) C.1 hb dL_base_28 (by decide) ?_
          refine lv_ladd C.1 hb dL_base_36 ?_
          refine toL (show _ = xTot (xIa T 1) (xLng T 2) i from (Int64.add_zero _)) ?_
          refine lv_lstore (lv' := [(4, .long (xTot (xIa T 1) (xLng T 2) i)), (0, .ref (gA g 18)), (1, .ref (gA g 20)), (2, .ref (gA g 22)), (3, .ref (gA g 24)), (6, .long (xTot (xIa T 1) (xLng T 0) i)), (8, .int (nI i))]) C.1 hb dL_base_37 hl (by decide) rfl (fun ls hl => ?_)
          refine lv_lload C.1 hb dL_base_39 (lv_at hl 5 rfl) ?_
          refine lv_aload_n C.1 hb dL_base_41 rfl (lv_at hl 3 rfl) ?_
          refine lv_iload C.1 hb dL_base_42 (lv_at hl 6 rfl) ?_
          refine ldA_g (j := i) C hb hP rfl (by omega) dL_base_44 ?_
          refine lv_iconst (v := 1) C.1 hb dL_base_45 (by decide) ?_
          refine lv_icmp_ne (tgt := 53) C.1 hb dL_base_46 (by decide) (fun c9 => absurd c87 c9) (fun _ => ?_)
          refine lv_lconst (v := 0) C.1 hb dL_base_49 (by decide) ?_
          refine lv_goto (tgt := 58) C.1 hb dL_base_50 (by decide) ?_
          refine lv_ladd C.1 hb dL_base_58 ?_
          refine toL (show _ = xTot (xIa T 1) (xLng T 0) i from (Int64.add_zero _)) ?_
          refine lv_lstore (lv' := [(6, .long (xTot (xIa T 1) (xLng T 0) i)), (4, .long (xTot (xIa T 1) (xLng T 2) i)), (0, .ref (gA g 18)), (1, .ref (gA g 20)), (2, .ref (gA g 22)), (3, .ref (gA g 24)), (8, .int (nI i))]) C.1 hb dL_base_59 hl (by decide) rfl (fun ls hl => ?_)
          refine lv_iinc (v := nI (i + 1)) (lv' := [(8, .int (nI (i + 1))), (6, .long (xTot (xIa T 1) (xLng T 0) i)), (4, .long (xTot (xIa T 1) (xLng T 2) i)), (0, .ref (gA g 18)), (1, .ref (gA g 20)), (2, .ref (gA g 22)), (3, .ref (gA g 24))]) C.1 hb dL_base_61 hl (k := 6) rfl (nI_1 i) (by decide) rfl (fun ls hl => ?_)
          refine lv_goto (tgt := 9) C.1 hb dL_base_64 (by decide) ?_
          exact ih (i + 1) (by omega) (by omega)  ls (by rw [xTot_z hv, xTot_z hv]; exact lv_sub hl [3, 4, 5, 6, 2, 1, 0] rfl)
  exact key (n - 0 + 1) 0 (by omega) (by omega)  ls (lv_sub hl [3, 4, 5, 6, 2, 1, 0] rfl)

set_option maxRecDepth 100000 in
set_option maxHeartbeats 4000000 in
theorem k_L_fitted (l : Launch) (g : gG) (S : WS) (n : Nat) (T : WS) (hR : LR n T S) (r : Nat) (hr : r < n) : Met l yL_fitted (wA yL_fitted cL_fitted 12 (some .long)) ({ frames := 0, cells := 0, slots := 0, locals := 0 }) (PW g S [.ref (gA g 17), .ref (gA g 18), .ref (gA g 23), .int (nI r), .long (xBase T)]) (RQ (some (.long (xFit T r)))) 0 0 (fun _ => False) := by
  refine metI (by decide +kernel) (Nat.le_of_ble_eq_true rfl) ?_
  intro p e s m below meth c C hb hml hret hlk hP ls hl
  have C : CW g RL p s m ([.ref (gA g 17), .ref (gA g 18), .ref (gA g 23), .int (nI r), .long (xBase T)] : List Value).toArray := C
  have hS : va_S (Ab g) s.heap s.heap [] := va_S.rf
  have hl : lv_has ls 12 [(0, .ref (gA g 17)), (1, .ref (gA g 18)), (2, .ref (gA g 23)), (3, .int (nI r)), (4, .long (xBase T))] := hl
  have hn12 := lr_n hR
  have hl0 := lr_lev hR (t := 0) (k := r) (by decide) hr
  have hl1 := lr_lev hR (t := 1) (k := r) (by decide) hr
  have hl2 := lr_lev hR (t := 2) (k := r) (by decide) hr
  refine lv_lload C.1 hb dL_fitted_0 (lv_at hl 4 rfl) ?_
  refine lv_aload_n C.1 hb dL_fitted_2 rfl (lv_at hl 1 rfl) ?_
  refine lv_iload_n C.1 hb dL_fitted_3 rfl (lv_at hl 3 rfl) ?_
  refine ldA_x (j := r) C hb hP rfl (by omega) dL_fitted_4 ?_
  refine lv_i2l C.1 hb dL_fitted_5 rfl ?_
  refine lv_lmul C.1 hb dL_fitted_6 ?_
  refine lv_ldc2 (v := 10000) C.1 hb C.2.1 (C.2.2.1 _ wm_110) dL_fitted_7 ?_
  refine lv_ldiv C.1 hb dL_fitted_10 (by decide) ?_
  refine toL (show _ = xFitN T r 0 from (lr_fit0 hR hr)) ?_
  refine lv_lstore (lv' := [(6, .long (xFitN T r 0)), (0, .ref (gA g 17)), (1, .ref (gA g 18)), (2, .ref (gA g 23)), (3, .int (nI r)), (4, .long (xBase T))]) C.1 hb dL_fitted_11 hl (by decide) rfl (fun ls hl => ?_)
  refine lv_lload C.1 hb dL_fitted_13 (lv_at hl 0 rfl) ?_
  refine lv_aload_n C.1 hb dL_fitted_15 rfl (lv_at hl 3 rfl) ?_
  refine lv_aload_n C.1 hb dL_fitted_16 rfl (lv_at hl 1 rfl) ?_
  refine lv_iconst (v := 3) C.1 hb dL_fitted_17 (by decide) ?_
  refine lv_iload_n C.1 hb dL_fitted_18 rfl (lv_at hl 4 rfl) ?_
  refine lv_imul C.1 hb dL_fitted_19 ?_
  refine ldA_l (j := (3 * r)) C hb hP (pk_mul 3 r) (by omega) dL_fitted_20 ?_
  refine toI (lr_l hR (t := 0) (by decide) hr) ?_
  refine ldA_f (j := (tN (xLev T 0 r))) C hb hP rfl (by have := levN_4 0; omega) dL_fitted_21 ?_
  refine toI (show _ = xFac T 0 (tN (xLev T 0 r)) from ((congrArg (lA S 6) (by omega : tN (xLev T 0 r) = 4 * 0 + tN (xLev T 0 r))).trans (lr_fl hR (t := 0) (by decide) hr))) ?_
  refine lv_i2l C.1 hb dL_fitted_22 rfl ?_
  refine lv_lmul C.1 hb dL_fitted_23 ?_
  refine lv_ldc2 (v := 10000) C.1 hb C.2.1 (C.2.2.1 _ wm_110) dL_fitted_24 ?_
  refine lv_ldiv C.1 hb dL_fitted_27 (by decide) ?_
  refine toL (show _ = xFitN T r 1 from rfl) ?_
  refine lv_lstore (lv' := [(8, .long (xFitN T r 1)), (6, .long (xFitN T r 0)), (0, .ref (gA g 17)), (1, .ref (gA g 18)), (2, .ref (gA g 23)), (3, .int (nI r)), (4, .long (xBase T))]) C.1 hb dL_fitted_28 hl (by decide) rfl (fun ls hl => ?_)
  refine lv_lload C.1 hb dL_fitted_30 (lv_at hl 0 rfl) ?_
  refine lv_aload_n C.1 hb dL_fitted_32 rfl (lv_at hl 4 rfl) ?_
  refine lv_iconst (v := 4) C.1 hb dL_fitted_33 (by decide) ?_
  refine lv_aload_n C.1 hb dL_fitted_34 rfl (lv_at hl 2 rfl) ?_
  refine lv_iconst (v := 3) C.1 hb dL_fitted_35 (by decide) ?_
  refine lv_iload_n C.1 hb dL_fitted_36 rfl (lv_at hl 5 rfl) ?_
  refine lv_imul C.1 hb dL_fitted_37 ?_
  refine lv_iconst (v := 1) C.1 hb dL_fitted_38 (by decide) ?_
  refine lv_iadd C.1 hb dL_fitted_39 ?_
  refine ldA_l (j := (3 * r + 1)) C hb hP (ix3 r 1) (by omega) dL_fitted_40 ?_
  refine toI (lr_l hR (t := 1) (by decide) hr) ?_
  refine lv_iadd C.1 hb dL_fitted_41 ?_
  refine ldA_f (j := (4 + tN (xLev T 1 r))) C hb hP (nI_add 4 _) (by have := levN_4 1; omega) dL_fitted_42 ?_
  refine toI (show _ = xFac T 1 (tN (xLev T 1 r)) from (lr_fl hR (t := 1) (by decide) hr)) ?_
  refine lv_i2l C.1 hb dL_fitted_43 rfl ?_
  refine lv_lmul C.1 hb dL_fitted_44 ?_
  refine lv_ldc2 (v := 10000) C.1 hb C.2.1 (C.2.2.1 _ wm_110) dL_fitted_45 ?_
  refine lv_ldiv C.1 hb dL_fitted_48 (by decide) ?_
  refine toL (show _ = xFitN T r 2 from rfl) ?_
  refine lv_lstore (lv' := [(10, .long (xFitN T r 2)), (8, .long (xFitN T r 1)), (6, .long (xFitN T r 0)), (0, .ref (gA g 17)), (1, .ref (gA g 18)), (2, .ref (gA g 23)), (3, .int (nI r)), (4, .long (xBase T))]) C.1 hb dL_fitted_49 hl (by decide) rfl (fun ls hl => ?_)
  refine lv_lload C.1 hb dL_fitted_51 (lv_at hl 0 rfl) ?_
  refine lv_aload_n C.1 hb dL_fitted_53 rfl (lv_at hl 5 rfl) ?_
  refine lv_bipush (v := 8) C.1 hb dL_fitted_54 (by decide) ?_
  refine lv_aload_n C.1 hb dL_fitted_56 rfl (lv_at hl 3 rfl) ?_
  refine lv_iconst (v := 3) C.1 hb dL_fitted_57 (by decide) ?_
  refine lv_iload_n C.1 hb dL_fitted_58 rfl (lv_at hl 6 rfl) ?_
  refine lv_imul C.1 hb dL_fitted_59 ?_
  refine lv_iconst (v := 2) C.1 hb dL_fitted_60 (by decide) ?_
  refine lv_iadd C.1 hb dL_fitted_61 ?_
  refine ldA_l (j := (3 * r + 2)) C hb hP (ix3 r 2) (by omega) dL_fitted_62 ?_
  refine toI (lr_l hR (t := 2) (by decide) hr) ?_
  refine lv_iadd C.1 hb dL_fitted_63 ?_
  refine ldA_f (j := (8 + tN (xLev T 2 r))) C hb hP (nI_add 8 _) (by have := levN_4 2; omega) dL_fitted_64 ?_
  refine toI (show _ = xFac T 2 (tN (xLev T 2 r)) from (lr_fl hR (t := 2) (by decide) hr)) ?_
  refine lv_i2l C.1 hb dL_fitted_65 rfl ?_
  refine lv_lmul C.1 hb dL_fitted_66 ?_
  refine lv_ldc2 (v := 10000) C.1 hb C.2.1 (C.2.2.1 _ wm_110) dL_fitted_67 ?_
  refine lv_ldiv C.1 hb dL_fitted_70 (by decide) ?_
  refine toL (show _ = xFitN T r 3 from rfl) ?_
  exact rdL C hb hret hlk dL_fitted_71 rfl

set_option maxRecDepth 100000 in
set_option maxHeartbeats 4000000 in
theorem k_L_sum0 (l : Launch) (g : gG) (S : WS) (n : Nat) (T : WS) (hR : LR n T S) (t k : Nat) (ht : t < 3) (hk : k < levN t) : Met l yL_sum (wA yL_sum cL_sum 16 (some .long)) ({ frames := 1, cells := 0, slots := 0, locals := 40 }) (PW g S [.ref (gA g 17), .ref (gA g 18), .ref (gA g 19), .ref (gA g 20), .ref (gA g 22), .ref (gA g 23), .ref (gA g 24), .int 0, .int (nI t), .int (nI k)]) (RQ (some (.long (xLTot (xIa T 1) (xLev T t) (nI k) (xLng T 2) n)))) 0 0 (fun _ => False) := by
  refine metI (by decide +kernel) (Nat.le_of_ble_eq_true rfl) ?_
  intro p e s m below meth c C hb hml hret hlk hP ls hl
  have C : CW g RL p s m ([.ref (gA g 17), .ref (gA g 18), .ref (gA g 19), .ref (gA g 20), .ref (gA g 22), .ref (gA g 23), .ref (gA g 24), .int 0, .int (nI t), .int (nI k)] : List Value).toArray := C
  have hS : va_S (Ab g) s.heap s.heap [] := va_S.rf
  have hl : lv_has ls 16 [(0, .ref (gA g 17)), (1, .ref (gA g 18)), (2, .ref (gA g 19)), (3, .ref (gA g 20)), (4, .ref (gA g 22)), (5, .ref (gA g 23)), (6, .ref (gA g 24)), (7, .int 0), (8, .int (nI t)), (9, .int (nI k))] := hl
  have hn12 := lr_n hR
  refine lv_aload_n C.1 hb dL_sum_0 rfl (lv_at hl 1 rfl) ?_
  refine lv_aload_n C.1 hb dL_sum_1 rfl (lv_at hl 3 rfl) ?_
  refine lv_aload C.1 hb dL_sum_2 (lv_at hl 4 rfl) ?_
  refine lv_aload C.1 hb dL_sum_4 (lv_at hl 6 rfl) ?_
  refine run_rd (cRunS (As := [.ref (gA g 18), .ref (gA g 20), .ref (gA g 22), .ref (gA g 24)]) (rest := []) C hb (hml.trans hl.1.symm) hP hS (k_L_base l g S n T hR) wm_195 wm_196 wm_197 wm_2 (n := 4) (by decide +kernel) rfl ⟨rfl, rfl, Nat.le_of_ble_eq_true rfl, Nat.le_of_ble_eq_true rfl⟩ (Nat.le_of_ble_eq_true rfl) rfl ⟨Nat.zero_le _, Nat.zero_le _⟩ dL_sum_6) ?_
  refine toL (show _ = xBase T from (lr_base hR).symm) ?_
  refine lv_lstore (lv' := [(10, .long (xBase T)), (0, .ref (gA g 17)), (1, .ref (gA g 18)), (2, .ref (gA g 19)), (3, .ref (gA g 20)), (4, .ref (gA g 22)), (5, .ref (gA g 23)), (6, .ref (gA g 24)), (7, .int 0), (8, .int (nI t)), (9, .int (nI k))]) C.1 hb dL_sum_9 hl (by decide) rfl (fun ls hl => ?_)
  refine lv_lconst (v := 0) C.1 hb dL_sum_11 (by decide) ?_
  refine lv_lstore (lv' := [(12, .long 0), (10, .long (xBase T)), (0, .ref (gA g 17)), (1, .ref (gA g 18)), (2, .ref (gA g 19)), (3, .ref (gA g 20)), (4, .ref (gA g 22)), (5, .ref (gA g 23)), (6, .ref (gA g 24)), (7, .int 0), (8, .int (nI t)), (9, .int (nI k))]) C.1 hb dL_sum_12 hl (by decide) rfl (fun ls hl => ?_)
  refine lv_iconst (v := 0) C.1 hb dL_sum_14 (by decide) ?_
  refine lv_istore (lv' := [(14, .int 0), (12, .long 0), (10, .long (xBase T)), (0, .ref (gA g 17)), (1, .ref (gA g 18)), (2, .ref (gA g 19)), (3, .ref (gA g 20)), (4, .ref (gA g 22)), (5, .ref (gA g 23)), (6, .ref (gA g 24)), (7, .int 0), (8, .int (nI t)), (9, .int (nI k))]) C.1 hb dL_sum_15 hl (by decide) rfl (fun ls hl => ?_)
  have key : ∀ f i : Nat, n - i < f → i ≤ n → ∀ ls : Array Slot, lv_has ls 16 [(0, .ref (gA g 17)), (1, .ref (gA g 18)), (2, .ref (gA g 19)), (3, .ref (gA g 20)), (4, .ref (gA g 22)), (5, .ref (gA g 23)), (6, .ref (gA g 24)), (7, .int 0), (8, .int (nI t)), (9, .int (nI k)), (10, .long (xBase T)), (12, .long (xLTot (xIa T 1) (xLev T t) (nI k) (xLng T 2) i)), (14, .int (nI i))] → W p l e ({ frames := 1, cells := 0, slots := 0, locals := 40 }) s m ([.ref (gA g 17), .ref (gA g 18), .ref (gA g 19), .ref (gA g 20), .ref (gA g 22), .ref (gA g 23), .ref (gA g 24), .int 0, .int (nI t), .int (nI k)] : List Value).toArray below meth c s.heap [] 0 0 (MQ below (RQ (some (.long (xLTot (xIa T 1) (xLev T t) (nI k) (xLng T 2) n)))) ([.ref (gA g 17), .ref (gA g 18), .ref (gA g 19), .ref (gA g 20), .ref (gA g 22), .ref (gA g 23), .ref (gA g 24), .int 0, .int (nI t), .int (nI k)] : List Value).toArray s 0 0 (fun _ => False)) (F0 m 17 ls []) := by
    intro f
    induction f with
    | zero => intro i h; exact absurd h (Nat.not_lt_zero _)
    | succ f ih =>
      intro i hfi hi  ls hl
      refine lv_iload C.1 hb dL_sum_17 (lv_at hl 12 rfl) ?_
      refine lv_aload C.1 hb dL_sum_19 (lv_at hl 6 rfl) ?_
      refine lv_iconst (v := 0) C.1 hb dL_sum_21 (by decide) ?_
      refine ldA_m (j := 0) C hb hP (by decide) (by decide) dL_sum_22 ?_
      refine toI (lr_m0 hR) ?_
      refine lv_icmp_ge (tgt := 137) C.1 hb dL_sum_23 (by decide) (fun c88 => ?_) (fun c88 => ?_)
      · have hin : i = n := by have := le_nI (a := n) (b := i) (by omega) (by omega) c88; omega
        rw [hin] at hl
        refine lv_lload C.1 hb dL_sum_137 (lv_at hl 11 rfl) ?_
        exact rdL C hb hret hlk dL_sum_139 rfl
      · have hlt : i < n := nle_nI (a := n) (b := i) (by omega) (by omega) c88
        refine lv_aload C.1 hb dL_sum_26 (lv_at hl 4 rfl) ?_
        refine lv_iload C.1 hb dL_sum_28 (lv_at hl 12 rfl) ?_
        refine ldA_g (j := i) C hb hP rfl (by omega) dL_sum_30 ?_
        refine lv_if_ne (tgt := 52) C.1 hb dL_sum_31 (by decide) (fun c89 => ?_) (fun c89 => ?_)
        · have hv := lr_z1 hR hlt c89
          refine lv_iconst (v := 0) C.1 hb dL_sum_52 (by decide) ?_
          refine lv_istore (lv' := [(15, .int 0), (0, .ref (gA g 17)), (1, .ref (gA g 18)), (2, .ref (gA g 19)), (3, .ref (gA g 20)), (4, .ref (gA g 22)), (5, .ref (gA g 23)), (6, .ref (gA g 24)), (7, .int 0), (8, .int (nI t)), (9, .int (nI k)), (10, .long (xBase T)), (12, .long (xLTot (xIa T 1) (xLev T t) (nI k) (xLng T 2) i)), (14, .int (nI i))]) C.1 hb dL_sum_53 hl (by decide) rfl (fun ls hl => ?_)
          refine lv_lload C.1 hb dL_sum_55 (lv_at hl 12 rfl) ?_
          refine lv_iload C.1 hb dL_sum_57 (lv_at hl 0 rfl) ?_
          refine lv_if_ne (tgt := 66) C.1 hb dL_sum_59 (by decide) (fun c9 => absurd (by decide) c9) (fun _ => ?_)
          refine lv_lconst (v := 0) C.1 hb dL_sum_62 (by decide) ?_
          refine lv_goto (tgt := 128) C.1 hb dL_sum_63 (by decide) ?_
          refine lv_ladd C.1 hb dL_sum_128 ?_
          refine toL (show _ = xLTot (xIa T 1) (xLev T t) (nI k) (xLng T 2) i from (Int64.add_zero _)) ?_
          refine lv_lstore (lv' := [(12, .long (xLTot (xIa T 1) (xLev T t) (nI k) (xLng T 2) i)), (15, .int 0), (0, .ref (gA g 17)), (1, .ref (gA g 18)), (2, .ref (gA g 19)), (3, .ref (gA g 20)), (4, .ref (gA g 22)), (5, .ref (gA g 23)), (6, .ref (gA g 24)), (7, .int 0), (8, .int (nI t)), (9, .int (nI k)), (10, .long (xBase T)), (14, .int (nI i))]) C.1 hb dL_sum_129 hl (by decide) rfl (fun ls hl => ?_)
          refine lv_iinc (v := nI (i + 1)) (lv' := [(14, .int (nI (i + 1))), (12, .long (xLTot (xIa T 1) (xLev T t) (nI k) (xLng T 2) i)), (15, .int 0), (0, .ref (gA g 17)), (1, .ref (gA g 18)), (2, .ref (gA g 19)), (3, .ref (gA g 20)), (4, .ref (gA g 22)), (5, .ref (gA g 23)), (6, .ref (gA g 24)), (7, .int 0), (8, .int (nI t)), (9, .int (nI k)), (10, .long (xBase T))]) C.1 hb dL_sum_131 hl (k := 13) rfl (nI_1 i) (by decide) rfl (fun ls hl => ?_)
          refine lv_goto (tgt := 17) C.1 hb dL_sum_134 (by decide) ?_
          exact ih (i + 1) (by omega) (by omega)  ls (by rw [xLTot_z hv]; exact lv_sub hl [3, 4, 5, 6, 7, 8, 9, 10, 11, 12, 13, 1, 0] rfl)
        · have hv := lr_z0 hR hlt c89
          refine lv_aload_n C.1 hb dL_sum_34 rfl (lv_at hl 0 rfl) ?_
          refine lv_iconst (v := 3) C.1 hb dL_sum_35 (by decide) ?_
          refine lv_iload C.1 hb dL_sum_36 (lv_at hl 12 rfl) ?_
          refine lv_imul C.1 hb dL_sum_38 ?_
          refine lv_iload C.1 hb dL_sum_39 (lv_at hl 8 rfl) ?_
          refine lv_iadd C.1 hb dL_sum_41 ?_
          refine ldA_l (j := (3 * i + t)) C hb hP (ix3 i t) (by omega) dL_sum_42 ?_
          refine toI (hR.2.2.2.1 t i ht hlt) ?_
          refine lv_iload C.1 hb dL_sum_43 (lv_at hl 9 rfl) ?_
          refine lv_icmp_ne (tgt := 52) C.1 hb dL_sum_45 (by decide) (fun c90 => ?_) (fun c90 => ?_)
          · refine lv_iconst (v := 0) C.1 hb dL_sum_52 (by decide) ?_
            refine lv_istore (lv' := [(15, .int 0), (0, .ref (gA g 17)), (1, .ref (gA g 18)), (2, .ref (gA g 19)), (3, .ref (gA g 20)), (4, .ref (gA g 22)), (5, .ref (gA g 23)), (6, .ref (gA g 24)), (7, .int 0), (8, .int (nI t)), (9, .int (nI k)), (10, .long (xBase T)), (12, .long (xLTot (xIa T 1) (xLev T t) (nI k) (xLng T 2) i)), (14, .int (nI i))]) C.1 hb dL_sum_53 hl (by decide) rfl (fun ls hl => ?_)
            refine lv_lload C.1 hb dL_sum_55 (lv_at hl 12 rfl) ?_
            refine lv_iload C.1 hb dL_sum_57 (lv_at hl 0 rfl) ?_
            refine lv_if_ne (tgt := 66) C.1 hb dL_sum_59 (by decide) (fun c9 => absurd (by decide) c9) (fun _ => ?_)
            refine lv_lconst (v := 0) C.1 hb dL_sum_62 (by decide) ?_
            refine lv_goto (tgt := 128) C.1 hb dL_sum_63 (by decide) ?_
            refine lv_ladd C.1 hb dL_sum_128 ?_
            refine toL (show _ = xLTot (xIa T 1) (xLev T t) (nI k) (xLng T 2) i from (Int64.add_zero _)) ?_
            refine lv_lstore (lv' := [(12, .long (xLTot (xIa T 1) (xLev T t) (nI k) (xLng T 2) i)), (15, .int 0), (0, .ref (gA g 17)), (1, .ref (gA g 18)), (2, .ref (gA g 19)), (3, .ref (gA g 20)), (4, .ref (gA g 22)), (5, .ref (gA g 23)), (6, .ref (gA g 24)), (7, .int 0), (8, .int (nI t)), (9, .int (nI k)), (10, .long (xBase T)), (14, .int (nI i))]) C.1 hb dL_sum_129 hl (by decide) rfl (fun ls hl => ?_)
            refine lv_iinc (v := nI (i + 1)) (lv' := [(14, .int (nI (i + 1))), (12, .long (xLTot (xIa T 1) (xLev T t) (nI k) (xLng T 2) i)), (15, .int 0), (0, .ref (gA g 17)), (1, .ref (gA g 18)), (2, .ref (gA g 19)), (3, .ref (gA g 20)), (4, .ref (gA g 22)), (5, .ref (gA g 23)), (6, .ref (gA g 24)), (7, .int 0), (8, .int (nI t)), (9, .int (nI k)), (10, .long (xBase T))]) C.1 hb dL_sum_131 hl (k := 13) rfl (nI_1 i) (by decide) rfl (fun ls hl => ?_)
            refine lv_goto (tgt := 17) C.1 hb dL_sum_134 (by decide) ?_
            exact ih (i + 1) (by omega) (by omega)  ls (by rw [xLTot_o hv c90]; exact lv_sub hl [3, 4, 5, 6, 7, 8, 9, 10, 11, 12, 13, 1, 0] rfl)
          · refine lv_iconst (v := 1) C.1 hb dL_sum_48 (by decide) ?_
            refine lv_goto (tgt := 53) C.1 hb dL_sum_49 (by decide) ?_
            refine lv_istore (lv' := [(15, .int 1), (0, .ref (gA g 17)), (1, .ref (gA g 18)), (2, .ref (gA g 19)), (3, .ref (gA g 20)), (4, .ref (gA g 22)), (5, .ref (gA g 23)), (6, .ref (gA g 24)), (7, .int 0), (8, .int (nI t)), (9, .int (nI k)), (10, .long (xBase T)), (12, .long (xLTot (xIa T 1) (xLev T t) (nI k) (xLng T 2) i)), (14, .int (nI i))]) C.1 hb dL_sum_53 hl (by decide) rfl (fun ls hl => ?_)
            refine lv_lload C.1 hb dL_sum_55 (lv_at hl 12 rfl) ?_
            refine lv_iload C.1 hb dL_sum_57 (lv_at hl 0 rfl) ?_
            refine lv_if_ne (tgt := 66) C.1 hb dL_sum_59 (by decide) (fun _ => ?_) (fun c9 => absurd c9 (by decide))
            refine lv_iload C.1 hb dL_sum_66 (lv_at hl 8 rfl) ?_
            refine lv_if_ne (tgt := 79) C.1 hb dL_sum_68 (by decide) (fun c9 => absurd (by decide) c9) (fun _ => ?_)
            refine lv_aload_n C.1 hb dL_sum_71 rfl (lv_at hl 4 rfl) ?_
            refine lv_iload C.1 hb dL_sum_72 (lv_at hl 13 rfl) ?_
            refine ldA_d (j := i) C hb hP rfl (by omega) dL_sum_74 ?_
            refine lv_i2l C.1 hb dL_sum_75 rfl ?_
            refine toL (show _ = xLng T 2 i from (lr_d hR hlt)) ?_
            refine lv_goto (tgt := 128) C.1 hb dL_sum_76 (by decide) ?_
            refine lv_ladd C.1 hb dL_sum_128 ?_
            refine lv_lstore (lv' := [(12, .long ((xLTot (xIa T 1) (xLev T t) (nI k) (xLng T 2) i) + (xLng T 2 i))), (15, .int 1), (0, .ref (gA g 17)), (1, .ref (gA g 18)), (2, .ref (gA g 19)), (3, .ref (gA g 20)), (4, .ref (gA g 22)), (5, .ref (gA g 23)), (6, .ref (gA g 24)), (7, .int 0), (8, .int (nI t)), (9, .int (nI k)), (10, .long (xBase T)), (14, .int (nI i))]) C.1 hb dL_sum_129 hl (by decide) rfl (fun ls hl => ?_)
            refine lv_iinc (v := nI (i + 1)) (lv' := [(14, .int (nI (i + 1))), (12, .long ((xLTot (xIa T 1) (xLev T t) (nI k) (xLng T 2) i) + (xLng T 2 i))), (15, .int 1), (0, .ref (gA g 17)), (1, .ref (gA g 18)), (2, .ref (gA g 19)), (3, .ref (gA g 20)), (4, .ref (gA g 22)), (5, .ref (gA g 23)), (6, .ref (gA g 24)), (7, .int 0), (8, .int (nI t)), (9, .int (nI k)), (10, .long (xBase T))]) C.1 hb dL_sum_131 hl (k := 13) rfl (nI_1 i) (by decide) rfl (fun ls hl => ?_)
            refine lv_goto (tgt := 17) C.1 hb dL_sum_134 (by decide) ?_
            exact ih (i + 1) (by omega) (by omega)  ls (by rw [xLTot_q hv c90]; exact lv_sub hl [3, 4, 5, 6, 7, 8, 9, 10, 11, 12, 13, 1, 0] rfl)
  exact key (n - 0 + 1) 0 (by omega) (by omega)  ls (lv_sub hl [3, 4, 5, 6, 7, 8, 9, 10, 11, 12, 2, 1, 0] rfl)

set_option maxRecDepth 100000 in
set_option maxHeartbeats 4000000 in
theorem k_L_sum1 (l : Launch) (g : gG) (S : WS) (n : Nat) (T : WS) (hR : LR n T S) (t k : Nat) (ht : t < 3) (hk : k < levN t) : Met l yL_sum (wA yL_sum cL_sum 16 (some .long)) ({ frames := 1, cells := 0, slots := 0, locals := 40 }) (PW g S [.ref (gA g 17), .ref (gA g 18), .ref (gA g 19), .ref (gA g 20), .ref (gA g 22), .ref (gA g 23), .ref (gA g 24), .int 1, .int (nI t), .int (nI k)]) (RQ (some (.long (xLTot (xIa T 1) (xLev T t) (nI k) (xLng T 3) n)))) 0 0 (fun _ => False) := by
  refine metI (by decide +kernel) (Nat.le_of_ble_eq_true rfl) ?_
  intro p e s m below meth c C hb hml hret hlk hP ls hl
  have C : CW g RL p s m ([.ref (gA g 17), .ref (gA g 18), .ref (gA g 19), .ref (gA g 20), .ref (gA g 22), .ref (gA g 23), .ref (gA g 24), .int 1, .int (nI t), .int (nI k)] : List Value).toArray := C
  have hS : va_S (Ab g) s.heap s.heap [] := va_S.rf
  have hl : lv_has ls 16 [(0, .ref (gA g 17)), (1, .ref (gA g 18)), (2, .ref (gA g 19)), (3, .ref (gA g 20)), (4, .ref (gA g 22)), (5, .ref (gA g 23)), (6, .ref (gA g 24)), (7, .int 1), (8, .int (nI t)), (9, .int (nI k))] := hl
  have hn12 := lr_n hR
  refine lv_aload_n C.1 hb dL_sum_0 rfl (lv_at hl 1 rfl) ?_
  refine lv_aload_n C.1 hb dL_sum_1 rfl (lv_at hl 3 rfl) ?_
  refine lv_aload C.1 hb dL_sum_2 (lv_at hl 4 rfl) ?_
  refine lv_aload C.1 hb dL_sum_4 (lv_at hl 6 rfl) ?_
  refine run_rd (cRunS (As := [.ref (gA g 18), .ref (gA g 20), .ref (gA g 22), .ref (gA g 24)]) (rest := []) C hb (hml.trans hl.1.symm) hP hS (k_L_base l g S n T hR) wm_195 wm_196 wm_197 wm_2 (n := 4) (by decide +kernel) rfl ⟨rfl, rfl, Nat.le_of_ble_eq_true rfl, Nat.le_of_ble_eq_true rfl⟩ (Nat.le_of_ble_eq_true rfl) rfl ⟨Nat.zero_le _, Nat.zero_le _⟩ dL_sum_6) ?_
  refine toL (show _ = xBase T from (lr_base hR).symm) ?_
  refine lv_lstore (lv' := [(10, .long (xBase T)), (0, .ref (gA g 17)), (1, .ref (gA g 18)), (2, .ref (gA g 19)), (3, .ref (gA g 20)), (4, .ref (gA g 22)), (5, .ref (gA g 23)), (6, .ref (gA g 24)), (7, .int 1), (8, .int (nI t)), (9, .int (nI k))]) C.1 hb dL_sum_9 hl (by decide) rfl (fun ls hl => ?_)
  refine lv_lconst (v := 0) C.1 hb dL_sum_11 (by decide) ?_
  refine lv_lstore (lv' := [(12, .long 0), (10, .long (xBase T)), (0, .ref (gA g 17)), (1, .ref (gA g 18)), (2, .ref (gA g 19)), (3, .ref (gA g 20)), (4, .ref (gA g 22)), (5, .ref (gA g 23)), (6, .ref (gA g 24)), (7, .int 1), (8, .int (nI t)), (9, .int (nI k))]) C.1 hb dL_sum_12 hl (by decide) rfl (fun ls hl => ?_)
  refine lv_iconst (v := 0) C.1 hb dL_sum_14 (by decide) ?_
  refine lv_istore (lv' := [(14, .int 0), (12, .long 0), (10, .long (xBase T)), (0, .ref (gA g 17)), (1, .ref (gA g 18)), (2, .ref (gA g 19)), (3, .ref (gA g 20)), (4, .ref (gA g 22)), (5, .ref (gA g 23)), (6, .ref (gA g 24)), (7, .int 1), (8, .int (nI t)), (9, .int (nI k))]) C.1 hb dL_sum_15 hl (by decide) rfl (fun ls hl => ?_)
  have key : ∀ f i : Nat, n - i < f → i ≤ n → ∀ ls : Array Slot, lv_has ls 16 [(0, .ref (gA g 17)), (1, .ref (gA g 18)), (2, .ref (gA g 19)), (3, .ref (gA g 20)), (4, .ref (gA g 22)), (5, .ref (gA g 23)), (6, .ref (gA g 24)), (7, .int 1), (8, .int (nI t)), (9, .int (nI k)), (10, .long (xBase T)), (12, .long (xLTot (xIa T 1) (xLev T t) (nI k) (xLng T 3) i)), (14, .int (nI i))] → W p l e ({ frames := 1, cells := 0, slots := 0, locals := 40 }) s m ([.ref (gA g 17), .ref (gA g 18), .ref (gA g 19), .ref (gA g 20), .ref (gA g 22), .ref (gA g 23), .ref (gA g 24), .int 1, .int (nI t), .int (nI k)] : List Value).toArray below meth c s.heap [] 0 0 (MQ below (RQ (some (.long (xLTot (xIa T 1) (xLev T t) (nI k) (xLng T 3) n)))) ([.ref (gA g 17), .ref (gA g 18), .ref (gA g 19), .ref (gA g 20), .ref (gA g 22), .ref (gA g 23), .ref (gA g 24), .int 1, .int (nI t), .int (nI k)] : List Value).toArray s 0 0 (fun _ => False)) (F0 m 17 ls []) := by
    intro f
    induction f with
    | zero => intro i h; exact absurd h (Nat.not_lt_zero _)
    | succ f ih =>
      intro i hfi hi  ls hl
      refine lv_iload C.1 hb dL_sum_17 (lv_at hl 12 rfl) ?_
      refine lv_aload C.1 hb dL_sum_19 (lv_at hl 6 rfl) ?_
      refine lv_iconst (v := 0) C.1 hb dL_sum_21 (by decide) ?_
      refine ldA_m (j := 0) C hb hP (by decide) (by decide) dL_sum_22 ?_
      refine toI (lr_m0 hR) ?_
      refine lv_icmp_ge (tgt := 137) C.1 hb dL_sum_23 (by decide) (fun c91 => ?_) (fun c91 => ?_)
      · have hin : i = n := by have := le_nI (a := n) (b := i) (by omega) (by omega) c91; omega
        rw [hin] at hl
        refine lv_lload C.1 hb dL_sum_137 (lv_at hl 11 rfl) ?_
        exact rdL C hb hret hlk dL_sum_139 rfl
      · have hlt : i < n := nle_nI (a := n) (b := i) (by omega) (by omega) c91
        refine lv_aload C.1 hb dL_sum_26 (lv_at hl 4 rfl) ?_
        refine lv_iload C.1 hb dL_sum_28 (lv_at hl 12 rfl) ?_
        refine ldA_g (j := i) C hb hP rfl (by omega) dL_sum_30 ?_
        refine lv_if_ne (tgt := 52) C.1 hb dL_sum_31 (by decide) (fun c92 => ?_) (fun c92 => ?_)
        · have hv := lr_z1 hR hlt c92
          refine lv_iconst (v := 0) C.1 hb dL_sum_52 (by decide) ?_
          refine lv_istore (lv' := [(15, .int 0), (0, .ref (gA g 17)), (1, .ref (gA g 18)), (2, .ref (gA g 19)), (3, .ref (gA g 20)), (4, .ref (gA g 22)), (5, .ref (gA g 23)), (6, .ref (gA g 24)), (7, .int 1), (8, .int (nI t)), (9, .int (nI k)), (10, .long (xBase T)), (12, .long (xLTot (xIa T 1) (xLev T t) (nI k) (xLng T 3) i)), (14, .int (nI i))]) C.1 hb dL_sum_53 hl (by decide) rfl (fun ls hl => ?_)
          refine lv_lload C.1 hb dL_sum_55 (lv_at hl 12 rfl) ?_
          refine lv_iload C.1 hb dL_sum_57 (lv_at hl 0 rfl) ?_
          refine lv_if_ne (tgt := 66) C.1 hb dL_sum_59 (by decide) (fun c9 => absurd (by decide) c9) (fun _ => ?_)
          refine lv_lconst (v := 0) C.1 hb dL_sum_62 (by decide) ?_
          refine lv_goto (tgt := 128) C.1 hb dL_sum_63 (by decide) ?_
          refine lv_ladd C.1 hb dL_sum_128 ?_
          refine toL (show _ = xLTot (xIa T 1) (xLev T t) (nI k) (xLng T 3) i from (Int64.add_zero _)) ?_
          refine lv_lstore (lv' := [(12, .long (xLTot (xIa T 1) (xLev T t) (nI k) (xLng T 3) i)), (15, .int 0), (0, .ref (gA g 17)), (1, .ref (gA g 18)), (2, .ref (gA g 19)), (3, .ref (gA g 20)), (4, .ref (gA g 22)), (5, .ref (gA g 23)), (6, .ref (gA g 24)), (7, .int 1), (8, .int (nI t)), (9, .int (nI k)), (10, .long (xBase T)), (14, .int (nI i))]) C.1 hb dL_sum_129 hl (by decide) rfl (fun ls hl => ?_)
          refine lv_iinc (v := nI (i + 1)) (lv' := [(14, .int (nI (i + 1))), (12, .long (xLTot (xIa T 1) (xLev T t) (nI k) (xLng T 3) i)), (15, .int 0), (0, .ref (gA g 17)), (1, .ref (gA g 18)), (2, .ref (gA g 19)), (3, .ref (gA g 20)), (4, .ref (gA g 22)), (5, .ref (gA g 23)), (6, .ref (gA g 24)), (7, .int 1), (8, .int (nI t)), (9, .int (nI k)), (10, .long (xBase T))]) C.1 hb dL_sum_131 hl (k := 13) rfl (nI_1 i) (by decide) rfl (fun ls hl => ?_)
          refine lv_goto (tgt := 17) C.1 hb dL_sum_134 (by decide) ?_
          exact ih (i + 1) (by omega) (by omega)  ls (by rw [xLTot_z hv]; exact lv_sub hl [3, 4, 5, 6, 7, 8, 9, 10, 11, 12, 13, 1, 0] rfl)
        · have hv := lr_z0 hR hlt c92
          refine lv_aload_n C.1 hb dL_sum_34 rfl (lv_at hl 0 rfl) ?_
          refine lv_iconst (v := 3) C.1 hb dL_sum_35 (by decide) ?_
          refine lv_iload C.1 hb dL_sum_36 (lv_at hl 12 rfl) ?_
          refine lv_imul C.1 hb dL_sum_38 ?_
          refine lv_iload C.1 hb dL_sum_39 (lv_at hl 8 rfl) ?_
          refine lv_iadd C.1 hb dL_sum_41 ?_
          refine ldA_l (j := (3 * i + t)) C hb hP (ix3 i t) (by omega) dL_sum_42 ?_
          refine toI (hR.2.2.2.1 t i ht hlt) ?_
          refine lv_iload C.1 hb dL_sum_43 (lv_at hl 9 rfl) ?_
          refine lv_icmp_ne (tgt := 52) C.1 hb dL_sum_45 (by decide) (fun c93 => ?_) (fun c93 => ?_)
          · refine lv_iconst (v := 0) C.1 hb dL_sum_52 (by decide) ?_
            refine lv_istore (lv' := [(15, .int 0), (0, .ref (gA g 17)), (1, .ref (gA g 18)), (2, .ref (gA g 19)), (3, .ref (gA g 20)), (4, .ref (gA g 22)), (5, .ref (gA g 23)), (6, .ref (gA g 24)), (7, .int 1), (8, .int (nI t)), (9, .int (nI k)), (10, .long (xBase T)), (12, .long (xLTot (xIa T 1) (xLev T t) (nI k) (xLng T 3) i)), (14, .int (nI i))]) C.1 hb dL_sum_53 hl (by decide) rfl (fun ls hl => ?_)
            refine lv_lload C.1 hb dL_sum_55 (lv_at hl 12 rfl) ?_
            refine lv_iload C.1 hb dL_sum_57 (lv_at hl 0 rfl) ?_
            refine lv_if_ne (tgt := 66) C.1 hb dL_sum_59 (by decide) (fun c9 => absurd (by decide) c9) (fun _ => ?_)
            refine lv_lconst (v := 0) C.1 hb dL_sum_62 (by decide) ?_
            refine lv_goto (tgt := 128) C.1 hb dL_sum_63 (by decide) ?_
            refine lv_ladd C.1 hb dL_sum_128 ?_
            refine toL (show _ = xLTot (xIa T 1) (xLev T t) (nI k) (xLng T 3) i from (Int64.add_zero _)) ?_
            refine lv_lstore (lv' := [(12, .long (xLTot (xIa T 1) (xLev T t) (nI k) (xLng T 3) i)), (15, .int 0), (0, .ref (gA g 17)), (1, .ref (gA g 18)), (2, .ref (gA g 19)), (3, .ref (gA g 20)), (4, .ref (gA g 22)), (5, .ref (gA g 23)), (6, .ref (gA g 24)), (7, .int 1), (8, .int (nI t)), (9, .int (nI k)), (10, .long (xBase T)), (14, .int (nI i))]) C.1 hb dL_sum_129 hl (by decide) rfl (fun ls hl => ?_)
            refine lv_iinc (v := nI (i + 1)) (lv' := [(14, .int (nI (i + 1))), (12, .long (xLTot (xIa T 1) (xLev T t) (nI k) (xLng T 3) i)), (15, .int 0), (0, .ref (gA g 17)), (1, .ref (gA g 18)), (2, .ref (gA g 19)), (3, .ref (gA g 20)), (4, .ref (gA g 22)), (5, .ref (gA g 23)), (6, .ref (gA g 24)), (7, .int 1), (8, .int (nI t)), (9, .int (nI k)), (10, .long (xBase T))]) C.1 hb dL_sum_131 hl (k := 13) rfl (nI_1 i) (by decide) rfl (fun ls hl => ?_)
            refine lv_goto (tgt := 17) C.1 hb dL_sum_134 (by decide) ?_
            exact ih (i + 1) (by omega) (by omega)  ls (by rw [xLTot_o hv c93]; exact lv_sub hl [3, 4, 5, 6, 7, 8, 9, 10, 11, 12, 13, 1, 0] rfl)
          · refine lv_iconst (v := 1) C.1 hb dL_sum_48 (by decide) ?_
            refine lv_goto (tgt := 53) C.1 hb dL_sum_49 (by decide) ?_
            refine lv_istore (lv' := [(15, .int 1), (0, .ref (gA g 17)), (1, .ref (gA g 18)), (2, .ref (gA g 19)), (3, .ref (gA g 20)), (4, .ref (gA g 22)), (5, .ref (gA g 23)), (6, .ref (gA g 24)), (7, .int 1), (8, .int (nI t)), (9, .int (nI k)), (10, .long (xBase T)), (12, .long (xLTot (xIa T 1) (xLev T t) (nI k) (xLng T 3) i)), (14, .int (nI i))]) C.1 hb dL_sum_53 hl (by decide) rfl (fun ls hl => ?_)
            refine lv_lload C.1 hb dL_sum_55 (lv_at hl 12 rfl) ?_
            refine lv_iload C.1 hb dL_sum_57 (lv_at hl 0 rfl) ?_
            refine lv_if_ne (tgt := 66) C.1 hb dL_sum_59 (by decide) (fun _ => ?_) (fun c9 => absurd c9 (by decide))
            refine lv_iload C.1 hb dL_sum_66 (lv_at hl 8 rfl) ?_
            refine lv_if_ne (tgt := 79) C.1 hb dL_sum_68 (by decide) (fun _ => ?_) (fun c9 => absurd c9 (by decide))
            refine lv_iload C.1 hb dL_sum_79 (lv_at hl 8 rfl) ?_
            refine lv_iconst (v := 1) C.1 hb dL_sum_81 (by decide) ?_
            refine lv_icmp_ne (tgt := 99) C.1 hb dL_sum_82 (by decide) (fun c9 => absurd (by decide) c9) (fun _ => ?_)
            refine lv_aload_n C.1 hb dL_sum_85 rfl (lv_at hl 1 rfl) ?_
            refine lv_aload_n C.1 hb dL_sum_86 rfl (lv_at hl 2 rfl) ?_
            refine lv_aload C.1 hb dL_sum_87 (lv_at hl 6 rfl) ?_
            refine lv_iload C.1 hb dL_sum_89 (lv_at hl 13 rfl) ?_
            refine lv_lload C.1 hb dL_sum_91 (lv_at hl 11 rfl) ?_
            refine run_rd (cRunS (As := [.ref (gA g 17), .ref (gA g 18), .ref (gA g 23), .int (nI i), .long (xBase T)]) (rest := [.long (xLTot (xIa T 1) (xLev T t) (nI k) (xLng T 3) i)]) C hb (hml.trans hl.1.symm) hP hS (k_L_fitted l g S n T hR i hlt) wm_198 wm_199 wm_200 wm_2 (n := 5) (by decide +kernel) rfl ⟨rfl, rfl, Nat.le_of_ble_eq_true rfl, Nat.le_of_ble_eq_true rfl⟩ (Nat.le_of_ble_eq_true rfl) rfl ⟨Nat.zero_le _, Nat.zero_le _⟩ dL_sum_93) ?_
            refine toL (show _ = xLng T 3 i from (lr_fit hR hlt).symm) ?_
            refine lv_goto (tgt := 128) C.1 hb dL_sum_96 (by decide) ?_
            refine lv_ladd C.1 hb dL_sum_128 ?_
            refine lv_lstore (lv' := [(12, .long ((xLTot (xIa T 1) (xLev T t) (nI k) (xLng T 3) i) + (xLng T 3 i))), (15, .int 1), (0, .ref (gA g 17)), (1, .ref (gA g 18)), (2, .ref (gA g 19)), (3, .ref (gA g 20)), (4, .ref (gA g 22)), (5, .ref (gA g 23)), (6, .ref (gA g 24)), (7, .int 1), (8, .int (nI t)), (9, .int (nI k)), (10, .long (xBase T)), (14, .int (nI i))]) C.1 hb dL_sum_129 hl (by decide) rfl (fun ls hl => ?_)
            refine lv_iinc (v := nI (i + 1)) (lv' := [(14, .int (nI (i + 1))), (12, .long ((xLTot (xIa T 1) (xLev T t) (nI k) (xLng T 3) i) + (xLng T 3 i))), (15, .int 1), (0, .ref (gA g 17)), (1, .ref (gA g 18)), (2, .ref (gA g 19)), (3, .ref (gA g 20)), (4, .ref (gA g 22)), (5, .ref (gA g 23)), (6, .ref (gA g 24)), (7, .int 1), (8, .int (nI t)), (9, .int (nI k)), (10, .long (xBase T))]) C.1 hb dL_sum_131 hl (k := 13) rfl (nI_1 i) (by decide) rfl (fun ls hl => ?_)
            refine lv_goto (tgt := 17) C.1 hb dL_sum_134 (by decide) ?_
            exact ih (i + 1) (by omega) (by omega)  ls (by rw [xLTot_q hv c93]; exact lv_sub hl [3, 4, 5, 6, 7, 8, 9, 10, 11, 12, 13, 1, 0] rfl)
  exact key (n - 0 + 1) 0 (by omega) (by omega)  ls (lv_sub hl [3, 4, 5, 6, 7, 8, 9, 10, 11, 12, 2, 1, 0] rfl)

set_option maxRecDepth 100000 in
set_option maxHeartbeats 4000000 in
theorem k_L_sum2 (l : Launch) (g : gG) (S : WS) (n : Nat) (T : WS) (hR : LR n T S) (t k : Nat) (ht : t < 3) (hk : k < levN t) : Met l yL_sum (wA yL_sum cL_sum 16 (some .long)) ({ frames := 1, cells := 0, slots := 0, locals := 40 }) (PW g S [.ref (gA g 17), .ref (gA g 18), .ref (gA g 19), .ref (gA g 20), .ref (gA g 22), .ref (gA g 23), .ref (gA g 24), .int 2, .int (nI t), .int (nI k)]) (RQ (some (.long (xLTot (xIa T 1) (xLev T t) (nI k) (xLng T 1) n)))) 0 0 (fun _ => False) := by
  refine metI (by decide +kernel) (Nat.le_of_ble_eq_true rfl) ?_
  intro p e s m below meth c C hb hml hret hlk hP ls hl
  have C : CW g RL p s m ([.ref (gA g 17), .ref (gA g 18), .ref (gA g 19), .ref (gA g 20), .ref (gA g 22), .ref (gA g 23), .ref (gA g 24), .int 2, .int (nI t), .int (nI k)] : List Value).toArray := C
  have hS : va_S (Ab g) s.heap s.heap [] := va_S.rf
  have hl : lv_has ls 16 [(0, .ref (gA g 17)), (1, .ref (gA g 18)), (2, .ref (gA g 19)), (3, .ref (gA g 20)), (4, .ref (gA g 22)), (5, .ref (gA g 23)), (6, .ref (gA g 24)), (7, .int 2), (8, .int (nI t)), (9, .int (nI k))] := hl
  have hn12 := lr_n hR
  refine lv_aload_n C.1 hb dL_sum_0 rfl (lv_at hl 1 rfl) ?_
  refine lv_aload_n C.1 hb dL_sum_1 rfl (lv_at hl 3 rfl) ?_
  refine lv_aload C.1 hb dL_sum_2 (lv_at hl 4 rfl) ?_
  refine lv_aload C.1 hb dL_sum_4 (lv_at hl 6 rfl) ?_
  refine run_rd (cRunS (As := [.ref (gA g 18), .ref (gA g 20), .ref (gA g 22), .ref (gA g 24)]) (rest := []) C hb (hml.trans hl.1.symm) hP hS (k_L_base l g S n T hR) wm_195 wm_196 wm_197 wm_2 (n := 4) (by decide +kernel) rfl ⟨rfl, rfl, Nat.le_of_ble_eq_true rfl, Nat.le_of_ble_eq_true rfl⟩ (Nat.le_of_ble_eq_true rfl) rfl ⟨Nat.zero_le _, Nat.zero_le _⟩ dL_sum_6) ?_
  refine toL (show _ = xBase T from (lr_base hR).symm) ?_
  refine lv_lstore (lv' := [(10, .long (xBase T)), (0, .ref (gA g 17)), (1, .ref (gA g 18)), (2, .ref (gA g 19)), (3, .ref (gA g 20)), (4, .ref (gA g 22)), (5, .ref (gA g 23)), (6, .ref (gA g 24)), (7, .int 2), (8, .int (nI t)), (9, .int (nI k))]) C.1 hb dL_sum_9 hl (by decide) rfl (fun ls hl => ?_)
  refine lv_lconst (v := 0) C.1 hb dL_sum_11 (by decide) ?_
  refine lv_lstore (lv' := [(12, .long 0), (10, .long (xBase T)), (0, .ref (gA g 17)), (1, .ref (gA g 18)), (2, .ref (gA g 19)), (3, .ref (gA g 20)), (4, .ref (gA g 22)), (5, .ref (gA g 23)), (6, .ref (gA g 24)), (7, .int 2), (8, .int (nI t)), (9, .int (nI k))]) C.1 hb dL_sum_12 hl (by decide) rfl (fun ls hl => ?_)
  refine lv_iconst (v := 0) C.1 hb dL_sum_14 (by decide) ?_
  refine lv_istore (lv' := [(14, .int 0), (12, .long 0), (10, .long (xBase T)), (0, .ref (gA g 17)), (1, .ref (gA g 18)), (2, .ref (gA g 19)), (3, .ref (gA g 20)), (4, .ref (gA g 22)), (5, .ref (gA g 23)), (6, .ref (gA g 24)), (7, .int 2), (8, .int (nI t)), (9, .int (nI k))]) C.1 hb dL_sum_15 hl (by decide) rfl (fun ls hl => ?_)
  have key : ∀ f i : Nat, n - i < f → i ≤ n → ∀ ls : Array Slot, lv_has ls 16 [(0, .ref (gA g 17)), (1, .ref (gA g 18)), (2, .ref (gA g 19)), (3, .ref (gA g 20)), (4, .ref (gA g 22)), (5, .ref (gA g 23)), (6, .ref (gA g 24)), (7, .int 2), (8, .int (nI t)), (9, .int (nI k)), (10, .long (xBase T)), (12, .long (xLTot (xIa T 1) (xLev T t) (nI k) (xLng T 1) i)), (14, .int (nI i))] → W p l e ({ frames := 1, cells := 0, slots := 0, locals := 40 }) s m ([.ref (gA g 17), .ref (gA g 18), .ref (gA g 19), .ref (gA g 20), .ref (gA g 22), .ref (gA g 23), .ref (gA g 24), .int 2, .int (nI t), .int (nI k)] : List Value).toArray below meth c s.heap [] 0 0 (MQ below (RQ (some (.long (xLTot (xIa T 1) (xLev T t) (nI k) (xLng T 1) n)))) ([.ref (gA g 17), .ref (gA g 18), .ref (gA g 19), .ref (gA g 20), .ref (gA g 22), .ref (gA g 23), .ref (gA g 24), .int 2, .int (nI t), .int (nI k)] : List Value).toArray s 0 0 (fun _ => False)) (F0 m 17 ls []) := by
    intro f
    induction f with
    | zero => intro i h; exact absurd h (Nat.not_lt_zero _)
    | succ f ih =>
      intro i hfi hi  ls hl
      refine lv_iload C.1 hb dL_sum_17 (lv_at hl 12 rfl) ?_
      refine lv_aload C.1 hb dL_sum_19 (lv_at hl 6 rfl) ?_
      refine lv_iconst (v := 0) C.1 hb dL_sum_21 (by decide) ?_
      refine ldA_m (j := 0) C hb hP (by decide) (by decide) dL_sum_22 ?_
      refine toI (lr_m0 hR) ?_
      refine lv_icmp_ge (tgt := 137) C.1 hb dL_sum_23 (by decide) (fun c94 => ?_) (fun c94 => ?_)
      · have hin : i = n := by have := le_nI (a := n) (b := i) (by omega) (by omega) c94; omega
        rw [hin] at hl
        refine lv_lload C.1 hb dL_sum_137 (lv_at hl 11 rfl) ?_
        exact rdL C hb hret hlk dL_sum_139 rfl
      · have hlt : i < n := nle_nI (a := n) (b := i) (by omega) (by omega) c94
        refine lv_aload C.1 hb dL_sum_26 (lv_at hl 4 rfl) ?_
        refine lv_iload C.1 hb dL_sum_28 (lv_at hl 12 rfl) ?_
        refine ldA_g (j := i) C hb hP rfl (by omega) dL_sum_30 ?_
        refine lv_if_ne (tgt := 52) C.1 hb dL_sum_31 (by decide) (fun c95 => ?_) (fun c95 => ?_)
        · have hv := lr_z1 hR hlt c95
          refine lv_iconst (v := 0) C.1 hb dL_sum_52 (by decide) ?_
          refine lv_istore (lv' := [(15, .int 0), (0, .ref (gA g 17)), (1, .ref (gA g 18)), (2, .ref (gA g 19)), (3, .ref (gA g 20)), (4, .ref (gA g 22)), (5, .ref (gA g 23)), (6, .ref (gA g 24)), (7, .int 2), (8, .int (nI t)), (9, .int (nI k)), (10, .long (xBase T)), (12, .long (xLTot (xIa T 1) (xLev T t) (nI k) (xLng T 1) i)), (14, .int (nI i))]) C.1 hb dL_sum_53 hl (by decide) rfl (fun ls hl => ?_)
          refine lv_lload C.1 hb dL_sum_55 (lv_at hl 12 rfl) ?_
          refine lv_iload C.1 hb dL_sum_57 (lv_at hl 0 rfl) ?_
          refine lv_if_ne (tgt := 66) C.1 hb dL_sum_59 (by decide) (fun c9 => absurd (by decide) c9) (fun _ => ?_)
          refine lv_lconst (v := 0) C.1 hb dL_sum_62 (by decide) ?_
          refine lv_goto (tgt := 128) C.1 hb dL_sum_63 (by decide) ?_
          refine lv_ladd C.1 hb dL_sum_128 ?_
          refine toL (show _ = xLTot (xIa T 1) (xLev T t) (nI k) (xLng T 1) i from (Int64.add_zero _)) ?_
          refine lv_lstore (lv' := [(12, .long (xLTot (xIa T 1) (xLev T t) (nI k) (xLng T 1) i)), (15, .int 0), (0, .ref (gA g 17)), (1, .ref (gA g 18)), (2, .ref (gA g 19)), (3, .ref (gA g 20)), (4, .ref (gA g 22)), (5, .ref (gA g 23)), (6, .ref (gA g 24)), (7, .int 2), (8, .int (nI t)), (9, .int (nI k)), (10, .long (xBase T)), (14, .int (nI i))]) C.1 hb dL_sum_129 hl (by decide) rfl (fun ls hl => ?_)
          refine lv_iinc (v := nI (i + 1)) (lv' := [(14, .int (nI (i + 1))), (12, .long (xLTot (xIa T 1) (xLev T t) (nI k) (xLng T 1) i)), (15, .int 0), (0, .ref (gA g 17)), (1, .ref (gA g 18)), (2, .ref (gA g 19)), (3, .ref (gA g 20)), (4, .ref (gA g 22)), (5, .ref (gA g 23)), (6, .ref (gA g 24)), (7, .int 2), (8, .int (nI t)), (9, .int (nI k)), (10, .long (xBase T))]) C.1 hb dL_sum_131 hl (k := 13) rfl (nI_1 i) (by decide) rfl (fun ls hl => ?_)
          refine lv_goto (tgt := 17) C.1 hb dL_sum_134 (by decide) ?_
          exact ih (i + 1) (by omega) (by omega)  ls (by rw [xLTot_z hv]; exact lv_sub hl [3, 4, 5, 6, 7, 8, 9, 10, 11, 12, 13, 1, 0] rfl)
        · have hv := lr_z0 hR hlt c95
          refine lv_aload_n C.1 hb dL_sum_34 rfl (lv_at hl 0 rfl) ?_
          refine lv_iconst (v := 3) C.1 hb dL_sum_35 (by decide) ?_
          refine lv_iload C.1 hb dL_sum_36 (lv_at hl 12 rfl) ?_
          refine lv_imul C.1 hb dL_sum_38 ?_
          refine lv_iload C.1 hb dL_sum_39 (lv_at hl 8 rfl) ?_
          refine lv_iadd C.1 hb dL_sum_41 ?_
          refine ldA_l (j := (3 * i + t)) C hb hP (ix3 i t) (by omega) dL_sum_42 ?_
          refine toI (hR.2.2.2.1 t i ht hlt) ?_
          refine lv_iload C.1 hb dL_sum_43 (lv_at hl 9 rfl) ?_
          refine lv_icmp_ne (tgt := 52) C.1 hb dL_sum_45 (by decide) (fun c96 => ?_) (fun c96 => ?_)
          · refine lv_iconst (v := 0) C.1 hb dL_sum_52 (by decide) ?_
            refine lv_istore (lv' := [(15, .int 0), (0, .ref (gA g 17)), (1, .ref (gA g 18)), (2, .ref (gA g 19)), (3, .ref (gA g 20)), (4, .ref (gA g 22)), (5, .ref (gA g 23)), (6, .ref (gA g 24)), (7, .int 2), (8, .int (nI t)), (9, .int (nI k)), (10, .long (xBase T)), (12, .long (xLTot (xIa T 1) (xLev T t) (nI k) (xLng T 1) i)), (14, .int (nI i))]) C.1 hb dL_sum_53 hl (by decide) rfl (fun ls hl => ?_)
            refine lv_lload C.1 hb dL_sum_55 (lv_at hl 12 rfl) ?_
            refine lv_iload C.1 hb dL_sum_57 (lv_at hl 0 rfl) ?_
            refine lv_if_ne (tgt := 66) C.1 hb dL_sum_59 (by decide) (fun c9 => absurd (by decide) c9) (fun _ => ?_)
            refine lv_lconst (v := 0) C.1 hb dL_sum_62 (by decide) ?_
            refine lv_goto (tgt := 128) C.1 hb dL_sum_63 (by decide) ?_
            refine lv_ladd C.1 hb dL_sum_128 ?_
            refine toL (show _ = xLTot (xIa T 1) (xLev T t) (nI k) (xLng T 1) i from (Int64.add_zero _)) ?_
            refine lv_lstore (lv' := [(12, .long (xLTot (xIa T 1) (xLev T t) (nI k) (xLng T 1) i)), (15, .int 0), (0, .ref (gA g 17)), (1, .ref (gA g 18)), (2, .ref (gA g 19)), (3, .ref (gA g 20)), (4, .ref (gA g 22)), (5, .ref (gA g 23)), (6, .ref (gA g 24)), (7, .int 2), (8, .int (nI t)), (9, .int (nI k)), (10, .long (xBase T)), (14, .int (nI i))]) C.1 hb dL_sum_129 hl (by decide) rfl (fun ls hl => ?_)
            refine lv_iinc (v := nI (i + 1)) (lv' := [(14, .int (nI (i + 1))), (12, .long (xLTot (xIa T 1) (xLev T t) (nI k) (xLng T 1) i)), (15, .int 0), (0, .ref (gA g 17)), (1, .ref (gA g 18)), (2, .ref (gA g 19)), (3, .ref (gA g 20)), (4, .ref (gA g 22)), (5, .ref (gA g 23)), (6, .ref (gA g 24)), (7, .int 2), (8, .int (nI t)), (9, .int (nI k)), (10, .long (xBase T))]) C.1 hb dL_sum_131 hl (k := 13) rfl (nI_1 i) (by decide) rfl (fun ls hl => ?_)
            refine lv_goto (tgt := 17) C.1 hb dL_sum_134 (by decide) ?_
            exact ih (i + 1) (by omega) (by omega)  ls (by rw [xLTot_o hv c96]; exact lv_sub hl [3, 4, 5, 6, 7, 8, 9, 10, 11, 12, 13, 1, 0] rfl)
          · refine lv_iconst (v := 1) C.1 hb dL_sum_48 (by decide) ?_
            refine lv_goto (tgt := 53) C.1 hb dL_sum_49 (by decide) ?_
            refine lv_istore (lv' := [(15, .int 1), (0, .ref (gA g 17)), (1, .ref (gA g 18)), (2, .ref (gA g 19)), (3, .ref (gA g 20)), (4, .ref (gA g 22)), (5, .ref (gA g 23)), (6, .ref (gA g 24)), (7, .int 2), (8, .int (nI t)), (9, .int (nI k)), (10, .long (xBase T)), (12, .long (xLTot (xIa T 1) (xLev T t) (nI k) (xLng T 1) i)), (14, .int (nI i))]) C.1 hb dL_sum_53 hl (by decide) rfl (fun ls hl => ?_)
            refine lv_lload C.1 hb dL_sum_55 (lv_at hl 12 rfl) ?_
            refine lv_iload C.1 hb dL_sum_57 (lv_at hl 0 rfl) ?_
            refine lv_if_ne (tgt := 66) C.1 hb dL_sum_59 (by decide) (fun _ => ?_) (fun c9 => absurd c9 (by decide))
            refine lv_iload C.1 hb dL_sum_66 (lv_at hl 8 rfl) ?_
            refine lv_if_ne (tgt := 79) C.1 hb dL_sum_68 (by decide) (fun _ => ?_) (fun c9 => absurd c9 (by decide))
            refine lv_iload C.1 hb dL_sum_79 (lv_at hl 8 rfl) ?_
            refine lv_iconst (v := 1) C.1 hb dL_sum_81 (by decide) ?_
            refine lv_icmp_ne (tgt := 99) C.1 hb dL_sum_82 (by decide) (fun _ => ?_) (fun c9 => absurd c9 (by decide))
            refine lv_iload C.1 hb dL_sum_99 (lv_at hl 8 rfl) ?_
            refine lv_iconst (v := 2) C.1 hb dL_sum_101 (by decide) ?_
            refine lv_icmp_ne (tgt := 113) C.1 hb dL_sum_102 (by decide) (fun c9 => absurd (by decide) c9) (fun _ => ?_)
            refine lv_aload_n C.1 hb dL_sum_105 rfl (lv_at hl 3 rfl) ?_
            refine lv_iload C.1 hb dL_sum_106 (lv_at hl 13 rfl) ?_
            refine ldA_c (j := i) C hb hP rfl (by omega) dL_sum_108 ?_
            refine lv_i2l C.1 hb dL_sum_109 rfl ?_
            refine toL (show _ = xLng T 1 i from (lr_c hR hlt)) ?_
            refine lv_goto (tgt := 128) C.1 hb dL_sum_110 (by decide) ?_
            refine lv_ladd C.1 hb dL_sum_128 ?_
            refine lv_lstore (lv' := [(12, .long ((xLTot (xIa T 1) (xLev T t) (nI k) (xLng T 1) i) + (xLng T 1 i))), (15, .int 1), (0, .ref (gA g 17)), (1, .ref (gA g 18)), (2, .ref (gA g 19)), (3, .ref (gA g 20)), (4, .ref (gA g 22)), (5, .ref (gA g 23)), (6, .ref (gA g 24)), (7, .int 2), (8, .int (nI t)), (9, .int (nI k)), (10, .long (xBase T)), (14, .int (nI i))]) C.1 hb dL_sum_129 hl (by decide) rfl (fun ls hl => ?_)
            refine lv_iinc (v := nI (i + 1)) (lv' := [(14, .int (nI (i + 1))), (12, .long ((xLTot (xIa T 1) (xLev T t) (nI k) (xLng T 1) i) + (xLng T 1 i))), (15, .int 1), (0, .ref (gA g 17)), (1, .ref (gA g 18)), (2, .ref (gA g 19)), (3, .ref (gA g 20)), (4, .ref (gA g 22)), (5, .ref (gA g 23)), (6, .ref (gA g 24)), (7, .int 2), (8, .int (nI t)), (9, .int (nI k)), (10, .long (xBase T))]) C.1 hb dL_sum_131 hl (k := 13) rfl (nI_1 i) (by decide) rfl (fun ls hl => ?_)
            refine lv_goto (tgt := 17) C.1 hb dL_sum_134 (by decide) ?_
            exact ih (i + 1) (by omega) (by omega)  ls (by rw [xLTot_q hv c96]; exact lv_sub hl [3, 4, 5, 6, 7, 8, 9, 10, 11, 12, 13, 1, 0] rfl)
  exact key (n - 0 + 1) 0 (by omega) (by omega)  ls (lv_sub hl [3, 4, 5, 6, 7, 8, 9, 10, 11, 12, 2, 1, 0] rfl)

set_option maxRecDepth 100000 in
set_option maxHeartbeats 4000000 in
theorem k_L_sum3 (l : Launch) (g : gG) (S : WS) (n : Nat) (T : WS) (hR : LR n T S) (t k : Nat) (ht : t < 3) (hk : k < levN t) : Met l yL_sum (wA yL_sum cL_sum 16 (some .long)) ({ frames := 1, cells := 0, slots := 0, locals := 40 }) (PW g S [.ref (gA g 17), .ref (gA g 18), .ref (gA g 19), .ref (gA g 20), .ref (gA g 22), .ref (gA g 23), .ref (gA g 24), .int 3, .int (nI t), .int (nI k)]) (RQ (some (.long (xLTot (xIa T 1) (xLev T t) (nI k) (xLng T 0) n)))) 0 0 (fun _ => False) := by
  refine metI (by decide +kernel) (Nat.le_of_ble_eq_true rfl) ?_
  intro p e s m below meth c C hb hml hret hlk hP ls hl
  have C : CW g RL p s m ([.ref (gA g 17), .ref (gA g 18), .ref (gA g 19), .ref (gA g 20), .ref (gA g 22), .ref (gA g 23), .ref (gA g 24), .int 3, .int (nI t), .int (nI k)] : List Value).toArray := C
  have hS : va_S (Ab g) s.heap s.heap [] := va_S.rf
  have hl : lv_has ls 16 [(0, .ref (gA g 17)), (1, .ref (gA g 18)), (2, .ref (gA g 19)), (3, .ref (gA g 20)), (4, .ref (gA g 22)), (5, .ref (gA g 23)), (6, .ref (gA g 24)), (7, .int 3), (8, .int (nI t)), (9, .int (nI k))] := hl
  have hn12 := lr_n hR
  refine lv_aload_n C.1 hb dL_sum_0 rfl (lv_at hl 1 rfl) ?_
  refine lv_aload_n C.1 hb dL_sum_1 rfl (lv_at hl 3 rfl) ?_
  refine lv_aload C.1 hb dL_sum_2 (lv_at hl 4 rfl) ?_
  refine lv_aload C.1 hb dL_sum_4 (lv_at hl 6 rfl) ?_
  refine run_rd (cRunS (As := [.ref (gA g 18), .ref (gA g 20), .ref (gA g 22), .ref (gA g 24)]) (rest := []) C hb (hml.trans hl.1.symm) hP hS (k_L_base l g S n T hR) wm_195 wm_196 wm_197 wm_2 (n := 4) (by decide +kernel) rfl ⟨rfl, rfl, Nat.le_of_ble_eq_true rfl, Nat.le_of_ble_eq_true rfl⟩ (Nat.le_of_ble_eq_true rfl) rfl ⟨Nat.zero_le _, Nat.zero_le _⟩ dL_sum_6) ?_
  refine toL (show _ = xBase T from (lr_base hR).symm) ?_
  refine lv_lstore (lv' := [(10, .long (xBase T)), (0, .ref (gA g 17)), (1, .ref (gA g 18)), (2, .ref (gA g 19)), (3, .ref (gA g 20)), (4, .ref (gA g 22)), (5, .ref (gA g 23)), (6, .ref (gA g 24)), (7, .int 3), (8, .int (nI t)), (9, .int (nI k))]) C.1 hb dL_sum_9 hl (by decide) rfl (fun ls hl => ?_)
  refine lv_lconst (v := 0) C.1 hb dL_sum_11 (by decide) ?_
  refine lv_lstore (lv' := [(12, .long 0), (10, .long (xBase T)), (0, .ref (gA g 17)), (1, .ref (gA g 18)), (2, .ref (gA g 19)), (3, .ref (gA g 20)), (4, .ref (gA g 22)), (5, .ref (gA g 23)), (6, .ref (gA g 24)), (7, .int 3), (8, .int (nI t)), (9, .int (nI k))]) C.1 hb dL_sum_12 hl (by decide) rfl (fun ls hl => ?_)
  refine lv_iconst (v := 0) C.1 hb dL_sum_14 (by decide) ?_
  refine lv_istore (lv' := [(14, .int 0), (12, .long 0), (10, .long (xBase T)), (0, .ref (gA g 17)), (1, .ref (gA g 18)), (2, .ref (gA g 19)), (3, .ref (gA g 20)), (4, .ref (gA g 22)), (5, .ref (gA g 23)), (6, .ref (gA g 24)), (7, .int 3), (8, .int (nI t)), (9, .int (nI k))]) C.1 hb dL_sum_15 hl (by decide) rfl (fun ls hl => ?_)
  have key : ∀ f i : Nat, n - i < f → i ≤ n → ∀ ls : Array Slot, lv_has ls 16 [(0, .ref (gA g 17)), (1, .ref (gA g 18)), (2, .ref (gA g 19)), (3, .ref (gA g 20)), (4, .ref (gA g 22)), (5, .ref (gA g 23)), (6, .ref (gA g 24)), (7, .int 3), (8, .int (nI t)), (9, .int (nI k)), (10, .long (xBase T)), (12, .long (xLTot (xIa T 1) (xLev T t) (nI k) (xLng T 0) i)), (14, .int (nI i))] → W p l e ({ frames := 1, cells := 0, slots := 0, locals := 40 }) s m ([.ref (gA g 17), .ref (gA g 18), .ref (gA g 19), .ref (gA g 20), .ref (gA g 22), .ref (gA g 23), .ref (gA g 24), .int 3, .int (nI t), .int (nI k)] : List Value).toArray below meth c s.heap [] 0 0 (MQ below (RQ (some (.long (xLTot (xIa T 1) (xLev T t) (nI k) (xLng T 0) n)))) ([.ref (gA g 17), .ref (gA g 18), .ref (gA g 19), .ref (gA g 20), .ref (gA g 22), .ref (gA g 23), .ref (gA g 24), .int 3, .int (nI t), .int (nI k)] : List Value).toArray s 0 0 (fun _ => False)) (F0 m 17 ls []) := by
    intro f
    induction f with
    | zero => intro i h; exact absurd h (Nat.not_lt_zero _)
    | succ f ih =>
      intro i hfi hi  ls hl
      refine lv_iload C.1 hb dL_sum_17 (lv_at hl 12 rfl) ?_
      refine lv_aload C.1 hb dL_sum_19 (lv_at hl 6 rfl) ?_
      refine lv_iconst (v := 0) C.1 hb dL_sum_21 (by decide) ?_
      refine ldA_m (j := 0) C hb hP (by decide) (by decide) dL_sum_22 ?_
      refine toI (lr_m0 hR) ?_
      refine lv_icmp_ge (tgt := 137) C.1 hb dL_sum_23 (by decide) (fun c97 => ?_) (fun c97 => ?_)
      · have hin : i = n := by have := le_nI (a := n) (b := i) (by omega) (by omega) c97; omega
        rw [hin] at hl
        refine lv_lload C.1 hb dL_sum_137 (lv_at hl 11 rfl) ?_
        exact rdL C hb hret hlk dL_sum_139 rfl
      · have hlt : i < n := nle_nI (a := n) (b := i) (by omega) (by omega) c97
        refine lv_aload C.1 hb dL_sum_26 (lv_at hl 4 rfl) ?_
        refine lv_iload C.1 hb dL_sum_28 (lv_at hl 12 rfl) ?_
        refine ldA_g (j := i) C hb hP rfl (by omega) dL_sum_30 ?_
        refine lv_if_ne (tgt := 52) C.1 hb dL_sum_31 (by decide) (fun c98 => ?_) (fun c98 => ?_)
        · have hv := lr_z1 hR hlt c98
          refine lv_iconst (v := 0) C.1 hb dL_sum_52 (by decide) ?_
          refine lv_istore (lv' := [(15, .int 0), (0, .ref (gA g 17)), (1, .ref (gA g 18)), (2, .ref (gA g 19)), (3, .ref (gA g 20)), (4, .ref (gA g 22)), (5, .ref (gA g 23)), (6, .ref (gA g 24)), (7, .int 3), (8, .int (nI t)), (9, .int (nI k)), (10, .long (xBase T)), (12, .long (xLTot (xIa T 1) (xLev T t) (nI k) (xLng T 0) i)), (14, .int (nI i))]) C.1 hb dL_sum_53 hl (by decide) rfl (fun ls hl => ?_)
          refine lv_lload C.1 hb dL_sum_55 (lv_at hl 12 rfl) ?_
          refine lv_iload C.1 hb dL_sum_57 (lv_at hl 0 rfl) ?_
          refine lv_if_ne (tgt := 66) C.1 hb dL_sum_59 (by decide) (fun c9 => absurd (by decide) c9) (fun _ => ?_)
          refine lv_lconst (v := 0) C.1 hb dL_sum_62 (by decide) ?_
          refine lv_goto (tgt := 128) C.1 hb dL_sum_63 (by decide) ?_
          refine lv_ladd C.1 hb dL_sum_128 ?_
          refine toL (show _ = xLTot (xIa T 1) (xLev T t) (nI k) (xLng T 0) i from (Int64.add_zero _)) ?_
          refine lv_lstore (lv' := [(12, .long (xLTot (xIa T 1) (xLev T t) (nI k) (xLng T 0) i)), (15, .int 0), (0, .ref (gA g 17)), (1, .ref (gA g 18)), (2, .ref (gA g 19)), (3, .ref (gA g 20)), (4, .ref (gA g 22)), (5, .ref (gA g 23)), (6, .ref (gA g 24)), (7, .int 3), (8, .int (nI t)), (9, .int (nI k)), (10, .long (xBase T)), (14, .int (nI i))]) C.1 hb dL_sum_129 hl (by decide) rfl (fun ls hl => ?_)
          refine lv_iinc (v := nI (i + 1)) (lv' := [(14, .int (nI (i + 1))), (12, .long (xLTot (xIa T 1) (xLev T t) (nI k) (xLng T 0) i)), (15, .int 0), (0, .ref (gA g 17)), (1, .ref (gA g 18)), (2, .ref (gA g 19)), (3, .ref (gA g 20)), (4, .ref (gA g 22)), (5, .ref (gA g 23)), (6, .ref (gA g 24)), (7, .int 3), (8, .int (nI t)), (9, .int (nI k)), (10, .long (xBase T))]) C.1 hb dL_sum_131 hl (k := 13) rfl (nI_1 i) (by decide) rfl (fun ls hl => ?_)
          refine lv_goto (tgt := 17) C.1 hb dL_sum_134 (by decide) ?_
          exact ih (i + 1) (by omega) (by omega)  ls (by rw [xLTot_z hv]; exact lv_sub hl [3, 4, 5, 6, 7, 8, 9, 10, 11, 12, 13, 1, 0] rfl)
        · have hv := lr_z0 hR hlt c98
          refine lv_aload_n C.1 hb dL_sum_34 rfl (lv_at hl 0 rfl) ?_
          refine lv_iconst (v := 3) C.1 hb dL_sum_35 (by decide) ?_
          refine lv_iload C.1 hb dL_sum_36 (lv_at hl 12 rfl) ?_
          refine lv_imul C.1 hb dL_sum_38 ?_
          refine lv_iload C.1 hb dL_sum_39 (lv_at hl 8 rfl) ?_
          refine lv_iadd C.1 hb dL_sum_41 ?_
          refine ldA_l (j := (3 * i + t)) C hb hP (ix3 i t) (by omega) dL_sum_42 ?_
          refine toI (hR.2.2.2.1 t i ht hlt) ?_
          refine lv_iload C.1 hb dL_sum_43 (lv_at hl 9 rfl) ?_
          refine lv_icmp_ne (tgt := 52) C.1 hb dL_sum_45 (by decide) (fun c99 => ?_) (fun c99 => ?_)
          · refine lv_iconst (v := 0) C.1 hb dL_sum_52 (by decide) ?_
            refine lv_istore (lv' := [(15, .int 0), (0, .ref (gA g 17)), (1, .ref (gA g 18)), (2, .ref (gA g 19)), (3, .ref (gA g 20)), (4, .ref (gA g 22)), (5, .ref (gA g 23)), (6, .ref (gA g 24)), (7, .int 3), (8, .int (nI t)), (9, .int (nI k)), (10, .long (xBase T)), (12, .long (xLTot (xIa T 1) (xLev T t) (nI k) (xLng T 0) i)), (14, .int (nI i))]) C.1 hb dL_sum_53 hl (by decide) rfl (fun ls hl => ?_)
            refine lv_lload C.1 hb dL_sum_55 (lv_at hl 12 rfl) ?_
            refine lv_iload C.1 hb dL_sum_57 (lv_at hl 0 rfl) ?_
            refine lv_if_ne (tgt := 66) C.1 hb dL_sum_59 (by decide) (fun c9 => absurd (by decide) c9) (fun _ => ?_)
            refine lv_lconst (v := 0) C.1 hb dL_sum_62 (by decide) ?_
            refine lv_goto (tgt := 128) C.1 hb dL_sum_63 (by decide) ?_
            refine lv_ladd C.1 hb dL_sum_128 ?_
            refine toL (show _ = xLTot (xIa T 1) (xLev T t) (nI k) (xLng T 0) i from (Int64.add_zero _)) ?_
            refine lv_lstore (lv' := [(12, .long (xLTot (xIa T 1) (xLev T t) (nI k) (xLng T 0) i)), (15, .int 0), (0, .ref (gA g 17)), (1, .ref (gA g 18)), (2, .ref (gA g 19)), (3, .ref (gA g 20)), (4, .ref (gA g 22)), (5, .ref (gA g 23)), (6, .ref (gA g 24)), (7, .int 3), (8, .int (nI t)), (9, .int (nI k)), (10, .long (xBase T)), (14, .int (nI i))]) C.1 hb dL_sum_129 hl (by decide) rfl (fun ls hl => ?_)
            refine lv_iinc (v := nI (i + 1)) (lv' := [(14, .int (nI (i + 1))), (12, .long (xLTot (xIa T 1) (xLev T t) (nI k) (xLng T 0) i)), (15, .int 0), (0, .ref (gA g 17)), (1, .ref (gA g 18)), (2, .ref (gA g 19)), (3, .ref (gA g 20)), (4, .ref (gA g 22)), (5, .ref (gA g 23)), (6, .ref (gA g 24)), (7, .int 3), (8, .int (nI t)), (9, .int (nI k)), (10, .long (xBase T))]) C.1 hb dL_sum_131 hl (k := 13) rfl (nI_1 i) (by decide) rfl (fun ls hl => ?_)
            refine lv_goto (tgt := 17) C.1 hb dL_sum_134 (by decide) ?_
            exact ih (i + 1) (by omega) (by omega)  ls (by rw [xLTot_o hv c99]; exact lv_sub hl [3, 4, 5, 6, 7, 8, 9, 10, 11, 12, 13, 1, 0] rfl)
          · refine lv_iconst (v := 1) C.1 hb dL_sum_48 (by decide) ?_
            refine lv_goto (tgt := 53) C.1 hb dL_sum_49 (by decide) ?_
            refine lv_istore (lv' := [(15, .int 1), (0, .ref (gA g 17)), (1, .ref (gA g 18)), (2, .ref (gA g 19)), (3, .ref (gA g 20)), (4, .ref (gA g 22)), (5, .ref (gA g 23)), (6, .ref (gA g 24)), (7, .int 3), (8, .int (nI t)), (9, .int (nI k)), (10, .long (xBase T)), (12, .long (xLTot (xIa T 1) (xLev T t) (nI k) (xLng T 0) i)), (14, .int (nI i))]) C.1 hb dL_sum_53 hl (by decide) rfl (fun ls hl => ?_)
            refine lv_lload C.1 hb dL_sum_55 (lv_at hl 12 rfl) ?_
            refine lv_iload C.1 hb dL_sum_57 (lv_at hl 0 rfl) ?_
            refine lv_if_ne (tgt := 66) C.1 hb dL_sum_59 (by decide) (fun _ => ?_) (fun c9 => absurd c9 (by decide))
            refine lv_iload C.1 hb dL_sum_66 (lv_at hl 8 rfl) ?_
            refine lv_if_ne (tgt := 79) C.1 hb dL_sum_68 (by decide) (fun _ => ?_) (fun c9 => absurd c9 (by decide))
            refine lv_iload C.1 hb dL_sum_79 (lv_at hl 8 rfl) ?_
            refine lv_iconst (v := 1) C.1 hb dL_sum_81 (by decide) ?_
            refine lv_icmp_ne (tgt := 99) C.1 hb dL_sum_82 (by decide) (fun _ => ?_) (fun c9 => absurd c9 (by decide))
            refine lv_iload C.1 hb dL_sum_99 (lv_at hl 8 rfl) ?_
            refine lv_iconst (v := 2) C.1 hb dL_sum_101 (by decide) ?_
            refine lv_icmp_ne (tgt := 113) C.1 hb dL_sum_102 (by decide) (fun _ => ?_) (fun c9 => absurd c9 (by decide))
            refine lv_iload C.1 hb dL_sum_113 (lv_at hl 8 rfl) ?_
            refine lv_iconst (v := 3) C.1 hb dL_sum_115 (by decide) ?_
            refine lv_icmp_ne (tgt := 127) C.1 hb dL_sum_116 (by decide) (fun c9 => absurd (by decide) c9) (fun _ => ?_)
            refine lv_aload_n C.1 hb dL_sum_119 rfl (lv_at hl 2 rfl) ?_
            refine lv_iload C.1 hb dL_sum_120 (lv_at hl 13 rfl) ?_
            refine ldA_x (j := i) C hb hP rfl (by omega) dL_sum_122 ?_
            refine lv_i2l C.1 hb dL_sum_123 rfl ?_
            refine toL (show _ = xLng T 0 i from (lr_x hR hlt)) ?_
            refine lv_goto (tgt := 128) C.1 hb dL_sum_124 (by decide) ?_
            refine lv_ladd C.1 hb dL_sum_128 ?_
            refine lv_lstore (lv' := [(12, .long ((xLTot (xIa T 1) (xLev T t) (nI k) (xLng T 0) i) + (xLng T 0 i))), (15, .int 1), (0, .ref (gA g 17)), (1, .ref (gA g 18)), (2, .ref (gA g 19)), (3, .ref (gA g 20)), (4, .ref (gA g 22)), (5, .ref (gA g 23)), (6, .ref (gA g 24)), (7, .int 3), (8, .int (nI t)), (9, .int (nI k)), (10, .long (xBase T)), (14, .int (nI i))]) C.1 hb dL_sum_129 hl (by decide) rfl (fun ls hl => ?_)
            refine lv_iinc (v := nI (i + 1)) (lv' := [(14, .int (nI (i + 1))), (12, .long ((xLTot (xIa T 1) (xLev T t) (nI k) (xLng T 0) i) + (xLng T 0 i))), (15, .int 1), (0, .ref (gA g 17)), (1, .ref (gA g 18)), (2, .ref (gA g 19)), (3, .ref (gA g 20)), (4, .ref (gA g 22)), (5, .ref (gA g 23)), (6, .ref (gA g 24)), (7, .int 3), (8, .int (nI t)), (9, .int (nI k)), (10, .long (xBase T))]) C.1 hb dL_sum_131 hl (k := 13) rfl (nI_1 i) (by decide) rfl (fun ls hl => ?_)
            refine lv_goto (tgt := 17) C.1 hb dL_sum_134 (by decide) ?_
            exact ih (i + 1) (by omega) (by omega)  ls (by rw [xLTot_q hv c99]; exact lv_sub hl [3, 4, 5, 6, 7, 8, 9, 10, 11, 12, 13, 1, 0] rfl)
  exact key (n - 0 + 1) 0 (by omega) (by omega)  ls (lv_sub hl [3, 4, 5, 6, 7, 8, 9, 10, 11, 12, 2, 1, 0] rfl)

set_option maxRecDepth 100000 in
set_option maxHeartbeats 4000000 in
theorem k_L_capped (l : Launch) (g : gG) (S : WS) (n : Nat) (T : WS) (hR : LR n T S) (r : Nat) (hr : r < n) : Met l yL_capped (wA yL_capped cL_capped 14 (some .long)) ({ frames := 1, cells := 0, slots := 0, locals := 40 }) (PW g S [.ref (gA g 17), .ref (gA g 18), .ref (gA g 20), .ref (gA g 21), .ref (gA g 22), .ref (gA g 23), .ref (gA g 24), .int (nI r)]) (RQ (some (.long (xCapP T r)))) 0 0 (fun _ => False) := by
  refine metI (by decide +kernel) (Nat.le_of_ble_eq_true rfl) ?_
  intro p e s m below meth c C hb hml hret hlk hP ls hl
  have C : CW g RL p s m ([.ref (gA g 17), .ref (gA g 18), .ref (gA g 20), .ref (gA g 21), .ref (gA g 22), .ref (gA g 23), .ref (gA g 24), .int (nI r)] : List Value).toArray := C
  have hS : va_S (Ab g) s.heap s.heap [] := va_S.rf
  have hl : lv_has ls 14 [(0, .ref (gA g 17)), (1, .ref (gA g 18)), (2, .ref (gA g 20)), (3, .ref (gA g 21)), (4, .ref (gA g 22)), (5, .ref (gA g 23)), (6, .ref (gA g 24)), (7, .int (nI r))] := hl
  have hn12 := lr_n hR
  refine lv_aload_n C.1 hb dL_capped_0 rfl (lv_at hl 0 rfl) ?_
  refine lv_aload_n C.1 hb dL_capped_1 rfl (lv_at hl 1 rfl) ?_
  refine lv_aload C.1 hb dL_capped_2 (lv_at hl 5 rfl) ?_
  refine lv_iload C.1 hb dL_capped_4 (lv_at hl 7 rfl) ?_
  refine lv_aload_n C.1 hb dL_capped_6 rfl (lv_at hl 1 rfl) ?_
  refine lv_aload_n C.1 hb dL_capped_7 rfl (lv_at hl 2 rfl) ?_
  refine lv_aload C.1 hb dL_capped_8 (lv_at hl 4 rfl) ?_
  refine lv_aload C.1 hb dL_capped_10 (lv_at hl 6 rfl) ?_
  refine run_rd (cRunS (As := [.ref (gA g 18), .ref (gA g 20), .ref (gA g 22), .ref (gA g 24)]) (rest := [.int (nI r), .ref (gA g 23), .ref (gA g 18), .ref (gA g 17)]) C hb (hml.trans hl.1.symm) hP hS (k_L_base l g S n T hR) wm_195 wm_196 wm_197 wm_2 (n := 4) (by decide +kernel) rfl ⟨rfl, rfl, Nat.le_of_ble_eq_true rfl, Nat.le_of_ble_eq_true rfl⟩ (Nat.le_of_ble_eq_true rfl) rfl ⟨Nat.zero_le _, Nat.zero_le _⟩ dL_capped_12) ?_
  refine toL (show _ = xBase T from (lr_base hR).symm) ?_
  refine run_rd (cRunS (As := [.ref (gA g 17), .ref (gA g 18), .ref (gA g 23), .int (nI r), .long (xBase T)]) (rest := []) C hb (hml.trans hl.1.symm) hP hS (k_L_fitted l g S n T hR r hr) wm_198 wm_199 wm_200 wm_2 (n := 5) (by decide +kernel) rfl ⟨rfl, rfl, Nat.le_of_ble_eq_true rfl, Nat.le_of_ble_eq_true rfl⟩ (Nat.le_of_ble_eq_true rfl) rfl ⟨Nat.zero_le _, Nat.zero_le _⟩ dL_capped_15) ?_
  refine lv_aload C.1 hb dL_capped_18 (lv_at hl 6 rfl) ?_
  refine lv_iconst (v := 3) C.1 hb dL_capped_20 (by decide) ?_
  refine ldA_m (j := 3) C hb hP (by decide) (by decide) dL_capped_21 ?_
  refine lv_i2l C.1 hb dL_capped_22 rfl ?_
  refine lv_lmul C.1 hb dL_capped_23 ?_
  refine lv_ldc2 (v := 10000) C.1 hb C.2.1 (C.2.2.1 _ wm_110) dL_capped_24 ?_
  refine lv_ldiv C.1 hb dL_capped_27 (by decide) ?_
  refine toL (show _ = xNewP T r from (lr_newp hR hr)) ?_
  refine lv_lstore (lv' := [(8, .long (xNewP T r)), (0, .ref (gA g 17)), (1, .ref (gA g 18)), (2, .ref (gA g 20)), (3, .ref (gA g 21)), (4, .ref (gA g 22)), (5, .ref (gA g 23)), (6, .ref (gA g 24)), (7, .int (nI r))]) C.1 hb dL_capped_28 hl (by decide) rfl (fun ls hl => ?_)
  refine lv_aload C.1 hb dL_capped_30 (lv_at hl 7 rfl) ?_
  refine lv_iconst (v := 2) C.1 hb dL_capped_32 (by decide) ?_
  refine ldA_m (j := 2) C hb hP (by decide) (by decide) dL_capped_33 ?_
  refine lv_if_lt (tgt := 44) C.1 hb dL_capped_34 (by decide) (fun c100 => ?_) (fun c100 => ?_)
  · refine lv_lload C.1 hb dL_capped_44 (lv_at hl 0 rfl) ?_
    exact rdL C hb hret hlk dL_capped_46 (lr_capA hR c100)
  · refine lv_aload_n C.1 hb dL_capped_37 rfl (lv_at hl 4 rfl) ?_
    refine lv_iload C.1 hb dL_capped_38 (lv_at hl 8 rfl) ?_
    refine ldA_o (j := r) C hb hP rfl (by omega) dL_capped_40 ?_
    refine lv_if_ge (tgt := 47) C.1 hb dL_capped_41 (by decide) (fun c101 => ?_) (fun c101 => ?_)
    · have hd : ¬ lA S 4 r < 0 := Int32.not_lt.mpr c101
      refine lv_aload C.1 hb dL_capped_47 (lv_at hl 7 rfl) ?_
      refine lv_iconst (v := 2) C.1 hb dL_capped_49 (by decide) ?_
      refine ldA_m (j := 2) C hb hP (by decide) (by decide) dL_capped_50 ?_
      refine lv_bipush (v := 100) C.1 hb dL_capped_51 (by decide) ?_
      refine lv_icmp_le (tgt := 60) C.1 hb dL_capped_53 (by decide) (fun c102 => ?_) (fun c102 => ?_)
      · refine lv_ldc2 (v := 100) C.1 hb C.2.1 (C.2.2.1 _ wm_190) dL_capped_60 ?_
        refine lv_aload C.1 hb dL_capped_63 (lv_at hl 7 rfl) ?_
        refine lv_iconst (v := 2) C.1 hb dL_capped_65 (by decide) ?_
        refine ldA_m (j := 2) C hb hP (by decide) (by decide) dL_capped_66 ?_
        refine lv_i2l C.1 hb dL_capped_67 rfl ?_
        refine lv_lsub C.1 hb dL_capped_68 ?_
        refine lv_aload_n C.1 hb dL_capped_69 rfl (lv_at hl 4 rfl) ?_
        refine lv_iload C.1 hb dL_capped_70 (lv_at hl 8 rfl) ?_
        refine ldA_o (j := r) C hb hP rfl (by omega) dL_capped_72 ?_
        refine lv_i2l C.1 hb dL_capped_73 rfl ?_
        refine lv_lmul C.1 hb dL_capped_74 ?_
        refine lv_ldc2 (v := 100) C.1 hb C.2.1 (C.2.2.1 _ wm_190) dL_capped_75 ?_
        refine lv_ldiv C.1 hb dL_capped_78 (by decide) ?_
        refine toL (show _ = capLo T r from (lr_cLe hR hr c100 hd c102)) ?_
        refine lv_lstore (lv' := [(10, .long (capLo T r)), (8, .long (xNewP T r)), (0, .ref (gA g 17)), (1, .ref (gA g 18)), (2, .ref (gA g 20)), (3, .ref (gA g 21)), (4, .ref (gA g 22)), (5, .ref (gA g 23)), (6, .ref (gA g 24)), (7, .int (nI r))]) C.1 hb dL_capped_79 hl (by decide) rfl (fun ls hl => ?_)
        refine lv_ldc2 (v := 100) C.1 hb C.2.1 (C.2.2.1 _ wm_190) dL_capped_81 ?_
        refine lv_aload C.1 hb dL_capped_84 (lv_at hl 8 rfl) ?_
        refine lv_iconst (v := 2) C.1 hb dL_capped_86 (by decide) ?_
        refine ldA_m (j := 2) C hb hP (by decide) (by decide) dL_capped_87 ?_
        refine lv_i2l C.1 hb dL_capped_88 rfl ?_
        refine lv_ladd C.1 hb dL_capped_89 ?_
        refine lv_aload_n C.1 hb dL_capped_90 rfl (lv_at hl 5 rfl) ?_
        refine lv_iload C.1 hb dL_capped_91 (lv_at hl 9 rfl) ?_
        refine ldA_o (j := r) C hb hP rfl (by omega) dL_capped_93 ?_
        refine lv_i2l C.1 hb dL_capped_94 rfl ?_
        refine lv_lmul C.1 hb dL_capped_95 ?_
        refine lv_ldc2 (v := 100) C.1 hb C.2.1 (C.2.2.1 _ wm_190) dL_capped_96 ?_
        refine lv_ldiv C.1 hb dL_capped_99 (by decide) ?_
        refine toL (show _ = capHi T r from (lr_cHi hR hr c100 hd)) ?_
        refine lv_lstore (lv' := [(12, .long (capHi T r)), (10, .long (capLo T r)), (8, .long (xNewP T r)), (0, .ref (gA g 17)), (1, .ref (gA g 18)), (2, .ref (gA g 20)), (3, .ref (gA g 21)), (4, .ref (gA g 22)), (5, .ref (gA g 23)), (6, .ref (gA g 24)), (7, .int (nI r))]) C.1 hb dL_capped_100 hl (by decide) rfl (fun ls hl => ?_)
        refine lv_lload C.1 hb dL_capped_102 (lv_at hl 2 rfl) ?_
        refine lv_lload C.1 hb dL_capped_104 (lv_at hl 1 rfl) ?_
        have hE := lr_capC hR hr c100 hd
        refine lc_ge (tgt := 115) C hb dL_capped_106 dL_capped_107 (by decide) (fun c103 => ?_) (fun c103 => ?_)
        · refine lv_lload C.1 hb dL_capped_115 (lv_at hl 2 rfl) ?_
          refine lv_lload C.1 hb dL_capped_117 (lv_at hl 0 rfl) ?_
          refine lc_le (tgt := 128) C hb dL_capped_119 dL_capped_120 (by decide) (fun c104 => ?_) (fun c104 => ?_)
          · refine lv_lload C.1 hb dL_capped_128 (lv_at hl 2 rfl) ?_
            exact rdL C hb hret hlk dL_capped_130 (by rw [hE, if_neg (Int64.not_lt.mpr c103), if_neg (Int64.not_lt.mpr c104)])
          · refine lv_lload C.1 hb dL_capped_123 (lv_at hl 0 rfl) ?_
            refine lv_goto (tgt := 130) C.1 hb dL_capped_125 (by decide) ?_
            exact rdL C hb hret hlk dL_capped_130 (by rw [hE, if_neg (Int64.not_lt.mpr c103), if_pos (Int64.not_le.mp c104)])
        · refine lv_lload C.1 hb dL_capped_110 (lv_at hl 1 rfl) ?_
          refine lv_goto (tgt := 130) C.1 hb dL_capped_112 (by decide) ?_
          exact rdL C hb hret hlk dL_capped_130 (by rw [hE, if_pos (Int64.not_le.mp c103)])
      · refine lv_lconst (v := 0) C.1 hb dL_capped_56 (by decide) ?_
        refine lv_goto (tgt := 79) C.1 hb dL_capped_57 (by decide) ?_
        refine toL (show _ = capLo T r from (lr_cLz hR hr c100 hd c102)) ?_
        refine lv_lstore (lv' := [(10, .long (capLo T r)), (8, .long (xNewP T r)), (0, .ref (gA g 17)), (1, .ref (gA g 18)), (2, .ref (gA g 20)), (3, .ref (gA g 21)), (4, .ref (gA g 22)), (5, .ref (gA g 23)), (6, .ref (gA g 24)), (7, .int (nI r))]) C.1 hb dL_capped_79 hl (by decide) rfl (fun ls hl => ?_)
        refine lv_ldc2 (v := 100) C.1 hb C.2.1 (C.2.2.1 _ wm_190) dL_capped_81 ?_
        refine lv_aload C.1 hb dL_capped_84 (lv_at hl 8 rfl) ?_
        refine lv_iconst (v := 2) C.1 hb dL_capped_86 (by decide) ?_
        refine ldA_m (j := 2) C hb hP (by decide) (by decide) dL_capped_87 ?_
        refine lv_i2l C.1 hb dL_capped_88 rfl ?_
        refine lv_ladd C.1 hb dL_capped_89 ?_
        refine lv_aload_n C.1 hb dL_capped_90 rfl (lv_at hl 5 rfl) ?_
        refine lv_iload C.1 hb dL_capped_91 (lv_at hl 9 rfl) ?_
        refine ldA_o (j := r) C hb hP rfl (by omega) dL_capped_93 ?_
        refine lv_i2l C.1 hb dL_capped_94 rfl ?_
        refine lv_lmul C.1 hb dL_capped_95 ?_
        refine lv_ldc2 (v := 100) C.1 hb C.2.1 (C.2.2.1 _ wm_190) dL_capped_96 ?_
        refine lv_ldiv C.1 hb dL_capped_99 (by decide) ?_
        refine toL (show _ = capHi T r from (lr_cHi hR hr c100 hd)) ?_
        refine lv_lstore (lv' := [(12, .long (capHi T r)), (10, .long (capLo T r)), (8, .long (xNewP T r)), (0, .ref (gA g 17)), (1, .ref (gA g 18)), (2, .ref (gA g 20)), (3, .ref (gA g 21)), (4, .ref (gA g 22)), (5, .ref (gA g 23)), (6, .ref (gA g 24)), (7, .int (nI r))]) C.1 hb dL_capped_100 hl (by decide) rfl (fun ls hl => ?_)
        refine lv_lload C.1 hb dL_capped_102 (lv_at hl 2 rfl) ?_
        refine lv_lload C.1 hb dL_capped_104 (lv_at hl 1 rfl) ?_
        have hE := lr_capC hR hr c100 hd
        refine lc_ge (tgt := 115) C hb dL_capped_106 dL_capped_107 (by decide) (fun c105 => ?_) (fun c105 => ?_)
        · refine lv_lload C.1 hb dL_capped_115 (lv_at hl 2 rfl) ?_
          refine lv_lload C.1 hb dL_capped_117 (lv_at hl 0 rfl) ?_
          refine lc_le (tgt := 128) C hb dL_capped_119 dL_capped_120 (by decide) (fun c106 => ?_) (fun c106 => ?_)
          · refine lv_lload C.1 hb dL_capped_128 (lv_at hl 2 rfl) ?_
            exact rdL C hb hret hlk dL_capped_130 (by rw [hE, if_neg (Int64.not_lt.mpr c105), if_neg (Int64.not_lt.mpr c106)])
          · refine lv_lload C.1 hb dL_capped_123 (lv_at hl 0 rfl) ?_
            refine lv_goto (tgt := 130) C.1 hb dL_capped_125 (by decide) ?_
            exact rdL C hb hret hlk dL_capped_130 (by rw [hE, if_neg (Int64.not_lt.mpr c105), if_pos (Int64.not_le.mp c106)])
        · refine lv_lload C.1 hb dL_capped_110 (lv_at hl 1 rfl) ?_
          refine lv_goto (tgt := 130) C.1 hb dL_capped_112 (by decide) ?_
          exact rdL C hb hret hlk dL_capped_130 (by rw [hE, if_pos (Int64.not_le.mp c105)])
    · refine lv_lload C.1 hb dL_capped_44 (lv_at hl 0 rfl) ?_
      exact rdL C hb hret hlk dL_capped_46 (lr_capB hR hr (Int32.not_le.mp c101))

set_option maxRecDepth 100000 in
set_option maxHeartbeats 4000000 in
theorem k_L_all0 (l : Launch) (g : gG) (S : WS) (n : Nat) (T : WS) (hR : LR n T S) : Met l yL_all (wA yL_all cL_all 13 (some .long)) ({ frames := 2, cells := 0, slots := 0, locals := 80 }) (PW g S [.ref (gA g 17), .ref (gA g 18), .ref (gA g 20), .ref (gA g 21), .ref (gA g 22), .ref (gA g 23), .ref (gA g 24), .int 0]) (RQ (some (.long (xTot (xIa T 1) (xLng T 3) n)))) 0 0 (fun _ => False) := by
  refine metI (by decide +kernel) (Nat.le_of_ble_eq_true rfl) ?_
  intro p e s m below meth c C hb hml hret hlk hP ls hl
  have C : CW g RL p s m ([.ref (gA g 17), .ref (gA g 18), .ref (gA g 20), .ref (gA g 21), .ref (gA g 22), .ref (gA g 23), .ref (gA g 24), .int 0] : List Value).toArray := C
  have hS : va_S (Ab g) s.heap s.heap [] := va_S.rf
  have hl : lv_has ls 13 [(0, .ref (gA g 17)), (1, .ref (gA g 18)), (2, .ref (gA g 20)), (3, .ref (gA g 21)), (4, .ref (gA g 22)), (5, .ref (gA g 23)), (6, .ref (gA g 24)), (7, .int 0)] := hl
  have hn12 := lr_n hR
  refine lv_aload_n C.1 hb dL_all_0 rfl (lv_at hl 1 rfl) ?_
  refine lv_aload_n C.1 hb dL_all_1 rfl (lv_at hl 2 rfl) ?_
  refine lv_aload C.1 hb dL_all_2 (lv_at hl 4 rfl) ?_
  refine lv_aload C.1 hb dL_all_4 (lv_at hl 6 rfl) ?_
  refine run_rd (cRunS (As := [.ref (gA g 18), .ref (gA g 20), .ref (gA g 22), .ref (gA g 24)]) (rest := []) C hb (hml.trans hl.1.symm) hP hS (k_L_base l g S n T hR) wm_195 wm_196 wm_197 wm_2 (n := 4) (by decide +kernel) rfl ⟨rfl, rfl, Nat.le_of_ble_eq_true rfl, Nat.le_of_ble_eq_true rfl⟩ (Nat.le_of_ble_eq_true rfl) rfl ⟨Nat.zero_le _, Nat.zero_le _⟩ dL_all_6) ?_
  refine toL (show _ = xBase T from (lr_base hR).symm) ?_
  refine lv_lstore (lv' := [(8, .long (xBase T)), (0, .ref (gA g 17)), (1, .ref (gA g 18)), (2, .ref (gA g 20)), (3, .ref (gA g 21)), (4, .ref (gA g 22)), (5, .ref (gA g 23)), (6, .ref (gA g 24)), (7, .int 0)]) C.1 hb dL_all_9 hl (by decide) rfl (fun ls hl => ?_)
  refine lv_lconst (v := 0) C.1 hb dL_all_11 (by decide) ?_
  refine lv_lstore (lv' := [(10, .long 0), (8, .long (xBase T)), (0, .ref (gA g 17)), (1, .ref (gA g 18)), (2, .ref (gA g 20)), (3, .ref (gA g 21)), (4, .ref (gA g 22)), (5, .ref (gA g 23)), (6, .ref (gA g 24)), (7, .int 0)]) C.1 hb dL_all_12 hl (by decide) rfl (fun ls hl => ?_)
  refine lv_iconst (v := 0) C.1 hb dL_all_14 (by decide) ?_
  refine lv_istore (lv' := [(12, .int 0), (10, .long 0), (8, .long (xBase T)), (0, .ref (gA g 17)), (1, .ref (gA g 18)), (2, .ref (gA g 20)), (3, .ref (gA g 21)), (4, .ref (gA g 22)), (5, .ref (gA g 23)), (6, .ref (gA g 24)), (7, .int 0)]) C.1 hb dL_all_15 hl (by decide) rfl (fun ls hl => ?_)
  have key : ∀ f i : Nat, n - i < f → i ≤ n → ∀ ls : Array Slot, lv_has ls 13 [(0, .ref (gA g 17)), (1, .ref (gA g 18)), (2, .ref (gA g 20)), (3, .ref (gA g 21)), (4, .ref (gA g 22)), (5, .ref (gA g 23)), (6, .ref (gA g 24)), (7, .int 0), (8, .long (xBase T)), (10, .long (xTot (xIa T 1) (xLng T 3) i)), (12, .int (nI i))] → W p l e ({ frames := 2, cells := 0, slots := 0, locals := 80 }) s m ([.ref (gA g 17), .ref (gA g 18), .ref (gA g 20), .ref (gA g 21), .ref (gA g 22), .ref (gA g 23), .ref (gA g 24), .int 0] : List Value).toArray below meth c s.heap [] 0 0 (MQ below (RQ (some (.long (xTot (xIa T 1) (xLng T 3) n)))) ([.ref (gA g 17), .ref (gA g 18), .ref (gA g 20), .ref (gA g 21), .ref (gA g 22), .ref (gA g 23), .ref (gA g 24), .int 0] : List Value).toArray s 0 0 (fun _ => False)) (F0 m 17 ls []) := by
    intro f
    induction f with
    | zero => intro i h; exact absurd h (Nat.not_lt_zero _)
    | succ f ih =>
      intro i hfi hi  ls hl
      refine lv_iload C.1 hb dL_all_17 (lv_at hl 10 rfl) ?_
      refine lv_aload C.1 hb dL_all_19 (lv_at hl 6 rfl) ?_
      refine lv_iconst (v := 0) C.1 hb dL_all_21 (by decide) ?_
      refine ldA_m (j := 0) C hb hP (by decide) (by decide) dL_all_22 ?_
      refine toI (lr_m0 hR) ?_
      refine lv_icmp_ge (tgt := 84) C.1 hb dL_all_23 (by decide) (fun c107 => ?_) (fun c107 => ?_)
      · have hin : i = n := by have := le_nI (a := n) (b := i) (by omega) (by omega) c107; omega
        rw [hin] at hl
        refine lv_lload C.1 hb dL_all_84 (lv_at hl 9 rfl) ?_
        exact rdL C hb hret hlk dL_all_86 rfl
      · have hlt : i < n := nle_nI (a := n) (b := i) (by omega) (by omega) c107
        refine lv_lload C.1 hb dL_all_26 (lv_at hl 9 rfl) ?_
        refine lv_aload C.1 hb dL_all_28 (lv_at hl 4 rfl) ?_
        refine lv_iload C.1 hb dL_all_30 (lv_at hl 10 rfl) ?_
        refine ldA_g (j := i) C hb hP rfl (by omega) dL_all_32 ?_
        refine lv_iconst (v := 1) C.1 hb dL_all_33 (by decide) ?_
        refine lv_icmp_ne (tgt := 41) C.1 hb dL_all_34 (by decide) (fun c108 => ?_) (fun c108 => ?_)
        · have hv := lr_g0 hR hlt c108
          refine lv_iload C.1 hb dL_all_41 (lv_at hl 7 rfl) ?_
          refine lv_if_eq (tgt := 64) C.1 hb dL_all_43 (by decide) (fun _ => ?_) (fun c9 => absurd (by decide) c9)
          refine lv_aload_n C.1 hb dL_all_64 rfl (lv_at hl 0 rfl) ?_
          refine lv_aload_n C.1 hb dL_all_65 rfl (lv_at hl 1 rfl) ?_
          refine lv_aload C.1 hb dL_all_66 (lv_at hl 5 rfl) ?_
          refine lv_iload C.1 hb dL_all_68 (lv_at hl 10 rfl) ?_
          refine lv_lload C.1 hb dL_all_70 (lv_at hl 8 rfl) ?_
          refine run_rd (cRunS (As := [.ref (gA g 17), .ref (gA g 18), .ref (gA g 23), .int (nI i), .long (xBase T)]) (rest := [.long (xTot (xIa T 1) (xLng T 3) i)]) C hb (hml.trans hl.1.symm) hP hS (k_L_fitted l g S n T hR i hlt) wm_198 wm_199 wm_200 wm_2 (n := 5) (by decide +kernel) rfl ⟨rfl, rfl, Nat.le_of_ble_eq_true rfl, Nat.le_of_ble_eq_true rfl⟩ (Nat.le_of_ble_eq_true rfl) rfl ⟨Nat.zero_le _, Nat.zero_le _⟩ dL_all_72) ?_
          refine toL (show _ = xLng T 3 i from (lr_fit hR hlt).symm) ?_
          refine lv_ladd C.1 hb dL_all_75 ?_
          refine lv_lstore (lv' := [(10, .long ((xTot (xIa T 1) (xLng T 3) i) + (xLng T 3 i))), (0, .ref (gA g 17)), (1, .ref (gA g 18)), (2, .ref (gA g 20)), (3, .ref (gA g 21)), (4, .ref (gA g 22)), (5, .ref (gA g 23)), (6, .ref (gA g 24)), (7, .int 0), (8, .long (xBase T)), (12, .int (nI i))]) C.1 hb dL_all_76 hl (by decide) rfl (fun ls hl => ?_)
          refine lv_iinc (v := nI (i + 1)) (lv' := [(12, .int (nI (i + 1))), (10, .long ((xTot (xIa T 1) (xLng T 3) i) + (xLng T 3 i))), (0, .ref (gA g 17)), (1, .ref (gA g 18)), (2, .ref (gA g 20)), (3, .ref (gA g 21)), (4, .ref (gA g 22)), (5, .ref (gA g 23)), (6, .ref (gA g 24)), (7, .int 0), (8, .long (xBase T))]) C.1 hb dL_all_78 hl (k := 10) rfl (nI_1 i) (by decide) rfl (fun ls hl => ?_)
          refine lv_goto (tgt := 17) C.1 hb dL_all_81 (by decide) ?_
          exact ih (i + 1) (by omega) (by omega)  ls (by rw [xTot_n hv]; exact lv_sub hl [2, 3, 4, 5, 6, 7, 8, 9, 10, 1, 0] rfl)
        · have hv := lr_g1 hR hlt c108
          refine lv_lconst (v := 0) C.1 hb dL_all_37 (by decide) ?_
          refine lv_goto (tgt := 75) C.1 hb dL_all_38 (by decide) ?_
          refine lv_ladd C.1 hb dL_all_75 ?_
          refine toL (show _ = xTot (xIa T 1) (xLng T 3) i from (Int64.add_zero _)) ?_
          refine lv_lstore (lv' := [(10, .long (xTot (xIa T 1) (xLng T 3) i)), (0, .ref (gA g 17)), (1, .ref (gA g 18)), (2, .ref (gA g 20)), (3, .ref (gA g 21)), (4, .ref (gA g 22)), (5, .ref (gA g 23)), (6, .ref (gA g 24)), (7, .int 0), (8, .long (xBase T)), (12, .int (nI i))]) C.1 hb dL_all_76 hl (by decide) rfl (fun ls hl => ?_)
          refine lv_iinc (v := nI (i + 1)) (lv' := [(12, .int (nI (i + 1))), (10, .long (xTot (xIa T 1) (xLng T 3) i)), (0, .ref (gA g 17)), (1, .ref (gA g 18)), (2, .ref (gA g 20)), (3, .ref (gA g 21)), (4, .ref (gA g 22)), (5, .ref (gA g 23)), (6, .ref (gA g 24)), (7, .int 0), (8, .long (xBase T))]) C.1 hb dL_all_78 hl (k := 10) rfl (nI_1 i) (by decide) rfl (fun ls hl => ?_)
          refine lv_goto (tgt := 17) C.1 hb dL_all_81 (by decide) ?_
          exact ih (i + 1) (by omega) (by omega)  ls (by rw [xTot_z hv]; exact lv_sub hl [2, 3, 4, 5, 6, 7, 8, 9, 10, 1, 0] rfl)
  exact key (n - 0 + 1) 0 (by omega) (by omega)  ls (lv_sub hl [3, 4, 5, 6, 7, 8, 9, 10, 2, 1, 0] rfl)

set_option maxRecDepth 100000 in
set_option maxHeartbeats 4000000 in
theorem k_L_all1 (l : Launch) (g : gG) (S : WS) (n : Nat) (T : WS) (hR : LR n T S) : Met l yL_all (wA yL_all cL_all 13 (some .long)) ({ frames := 2, cells := 0, slots := 0, locals := 80 }) (PW g S [.ref (gA g 17), .ref (gA g 18), .ref (gA g 20), .ref (gA g 21), .ref (gA g 22), .ref (gA g 23), .ref (gA g 24), .int 1]) (RQ (some (.long (xTot (xIa T 1) (xCapP T) n)))) 0 0 (fun _ => False) := by
  refine metI (by decide +kernel) (Nat.le_of_ble_eq_true rfl) ?_
  intro p e s m below meth c C hb hml hret hlk hP ls hl
  have C : CW g RL p s m ([.ref (gA g 17), .ref (gA g 18), .ref (gA g 20), .ref (gA g 21), .ref (gA g 22), .ref (gA g 23), .ref (gA g 24), .int 1] : List Value).toArray := C
  have hS : va_S (Ab g) s.heap s.heap [] := va_S.rf
  have hl : lv_has ls 13 [(0, .ref (gA g 17)), (1, .ref (gA g 18)), (2, .ref (gA g 20)), (3, .ref (gA g 21)), (4, .ref (gA g 22)), (5, .ref (gA g 23)), (6, .ref (gA g 24)), (7, .int 1)] := hl
  have hn12 := lr_n hR
  refine lv_aload_n C.1 hb dL_all_0 rfl (lv_at hl 1 rfl) ?_
  refine lv_aload_n C.1 hb dL_all_1 rfl (lv_at hl 2 rfl) ?_
  refine lv_aload C.1 hb dL_all_2 (lv_at hl 4 rfl) ?_
  refine lv_aload C.1 hb dL_all_4 (lv_at hl 6 rfl) ?_
  refine run_rd (cRunS (As := [.ref (gA g 18), .ref (gA g 20), .ref (gA g 22), .ref (gA g 24)]) (rest := []) C hb (hml.trans hl.1.symm) hP hS (k_L_base l g S n T hR) wm_195 wm_196 wm_197 wm_2 (n := 4) (by decide +kernel) rfl ⟨rfl, rfl, Nat.le_of_ble_eq_true rfl, Nat.le_of_ble_eq_true rfl⟩ (Nat.le_of_ble_eq_true rfl) rfl ⟨Nat.zero_le _, Nat.zero_le _⟩ dL_all_6) ?_
  refine toL (show _ = xBase T from (lr_base hR).symm) ?_
  refine lv_lstore (lv' := [(8, .long (xBase T)), (0, .ref (gA g 17)), (1, .ref (gA g 18)), (2, .ref (gA g 20)), (3, .ref (gA g 21)), (4, .ref (gA g 22)), (5, .ref (gA g 23)), (6, .ref (gA g 24)), (7, .int 1)]) C.1 hb dL_all_9 hl (by decide) rfl (fun ls hl => ?_)
  refine lv_lconst (v := 0) C.1 hb dL_all_11 (by decide) ?_
  refine lv_lstore (lv' := [(10, .long 0), (8, .long (xBase T)), (0, .ref (gA g 17)), (1, .ref (gA g 18)), (2, .ref (gA g 20)), (3, .ref (gA g 21)), (4, .ref (gA g 22)), (5, .ref (gA g 23)), (6, .ref (gA g 24)), (7, .int 1)]) C.1 hb dL_all_12 hl (by decide) rfl (fun ls hl => ?_)
  refine lv_iconst (v := 0) C.1 hb dL_all_14 (by decide) ?_
  refine lv_istore (lv' := [(12, .int 0), (10, .long 0), (8, .long (xBase T)), (0, .ref (gA g 17)), (1, .ref (gA g 18)), (2, .ref (gA g 20)), (3, .ref (gA g 21)), (4, .ref (gA g 22)), (5, .ref (gA g 23)), (6, .ref (gA g 24)), (7, .int 1)]) C.1 hb dL_all_15 hl (by decide) rfl (fun ls hl => ?_)
  have key : ∀ f i : Nat, n - i < f → i ≤ n → ∀ ls : Array Slot, lv_has ls 13 [(0, .ref (gA g 17)), (1, .ref (gA g 18)), (2, .ref (gA g 20)), (3, .ref (gA g 21)), (4, .ref (gA g 22)), (5, .ref (gA g 23)), (6, .ref (gA g 24)), (7, .int 1), (8, .long (xBase T)), (10, .long (xTot (xIa T 1) (xCapP T) i)), (12, .int (nI i))] → W p l e ({ frames := 2, cells := 0, slots := 0, locals := 80 }) s m ([.ref (gA g 17), .ref (gA g 18), .ref (gA g 20), .ref (gA g 21), .ref (gA g 22), .ref (gA g 23), .ref (gA g 24), .int 1] : List Value).toArray below meth c s.heap [] 0 0 (MQ below (RQ (some (.long (xTot (xIa T 1) (xCapP T) n)))) ([.ref (gA g 17), .ref (gA g 18), .ref (gA g 20), .ref (gA g 21), .ref (gA g 22), .ref (gA g 23), .ref (gA g 24), .int 1] : List Value).toArray s 0 0 (fun _ => False)) (F0 m 17 ls []) := by
    intro f
    induction f with
    | zero => intro i h; exact absurd h (Nat.not_lt_zero _)
    | succ f ih =>
      intro i hfi hi  ls hl
      refine lv_iload C.1 hb dL_all_17 (lv_at hl 10 rfl) ?_
      refine lv_aload C.1 hb dL_all_19 (lv_at hl 6 rfl) ?_
      refine lv_iconst (v := 0) C.1 hb dL_all_21 (by decide) ?_
      refine ldA_m (j := 0) C hb hP (by decide) (by decide) dL_all_22 ?_
      refine toI (lr_m0 hR) ?_
      refine lv_icmp_ge (tgt := 84) C.1 hb dL_all_23 (by decide) (fun c109 => ?_) (fun c109 => ?_)
      · have hin : i = n := by have := le_nI (a := n) (b := i) (by omega) (by omega) c109; omega
        rw [hin] at hl
        refine lv_lload C.1 hb dL_all_84 (lv_at hl 9 rfl) ?_
        exact rdL C hb hret hlk dL_all_86 rfl
      · have hlt : i < n := nle_nI (a := n) (b := i) (by omega) (by omega) c109
        refine lv_lload C.1 hb dL_all_26 (lv_at hl 9 rfl) ?_
        refine lv_aload C.1 hb dL_all_28 (lv_at hl 4 rfl) ?_
        refine lv_iload C.1 hb dL_all_30 (lv_at hl 10 rfl) ?_
        refine ldA_g (j := i) C hb hP rfl (by omega) dL_all_32 ?_
        refine lv_iconst (v := 1) C.1 hb dL_all_33 (by decide) ?_
        refine lv_icmp_ne (tgt := 41) C.1 hb dL_all_34 (by decide) (fun c110 => ?_) (fun c110 => ?_)
        · have hv := lr_g0 hR hlt c110
          refine lv_iload C.1 hb dL_all_41 (lv_at hl 7 rfl) ?_
          refine lv_if_eq (tgt := 64) C.1 hb dL_all_43 (by decide) (fun c9 => absurd c9 (by decide)) (fun _ => ?_)
          refine lv_aload_n C.1 hb dL_all_46 rfl (lv_at hl 0 rfl) ?_
          refine lv_aload_n C.1 hb dL_all_47 rfl (lv_at hl 1 rfl) ?_
          refine lv_aload_n C.1 hb dL_all_48 rfl (lv_at hl 2 rfl) ?_
          refine lv_aload_n C.1 hb dL_all_49 rfl (lv_at hl 3 rfl) ?_
          refine lv_aload C.1 hb dL_all_50 (lv_at hl 4 rfl) ?_
          refine lv_aload C.1 hb dL_all_52 (lv_at hl 5 rfl) ?_
          refine lv_aload C.1 hb dL_all_54 (lv_at hl 6 rfl) ?_
          refine lv_iload C.1 hb dL_all_56 (lv_at hl 10 rfl) ?_
          refine run_rd (cRunS (As := [.ref (gA g 17), .ref (gA g 18), .ref (gA g 20), .ref (gA g 21), .ref (gA g 22), .ref (gA g 23), .ref (gA g 24), .int (nI i)]) (rest := [.long (xTot (xIa T 1) (xCapP T) i)]) C hb (hml.trans hl.1.symm) hP hS (k_L_capped l g S n T hR i hlt) wm_227 wm_228 wm_229 wm_2 (n := 8) (by decide +kernel) rfl ⟨rfl, rfl, Nat.le_of_ble_eq_true rfl, Nat.le_of_ble_eq_true rfl⟩ (Nat.le_of_ble_eq_true rfl) rfl ⟨Nat.zero_le _, Nat.zero_le _⟩ dL_all_58) ?_
          refine lv_goto (tgt := 75) C.1 hb dL_all_61 (by decide) ?_
          refine lv_ladd C.1 hb dL_all_75 ?_
          refine lv_lstore (lv' := [(10, .long ((xTot (xIa T 1) (xCapP T) i) + (xCapP T i))), (0, .ref (gA g 17)), (1, .ref (gA g 18)), (2, .ref (gA g 20)), (3, .ref (gA g 21)), (4, .ref (gA g 22)), (5, .ref (gA g 23)), (6, .ref (gA g 24)), (7, .int 1), (8, .long (xBase T)), (12, .int (nI i))]) C.1 hb dL_all_76 hl (by decide) rfl (fun ls hl => ?_)
          refine lv_iinc (v := nI (i + 1)) (lv' := [(12, .int (nI (i + 1))), (10, .long ((xTot (xIa T 1) (xCapP T) i) + (xCapP T i))), (0, .ref (gA g 17)), (1, .ref (gA g 18)), (2, .ref (gA g 20)), (3, .ref (gA g 21)), (4, .ref (gA g 22)), (5, .ref (gA g 23)), (6, .ref (gA g 24)), (7, .int 1), (8, .long (xBase T))]) C.1 hb dL_all_78 hl (k := 10) rfl (nI_1 i) (by decide) rfl (fun ls hl => ?_)
          refine lv_goto (tgt := 17) C.1 hb dL_all_81 (by decide) ?_
          exact ih (i + 1) (by omega) (by omega)  ls (by rw [xTot_n hv]; exact lv_sub hl [2, 3, 4, 5, 6, 7, 8, 9, 10, 1, 0] rfl)
        · have hv := lr_g1 hR hlt c110
          refine lv_lconst (v := 0) C.1 hb dL_all_37 (by decide) ?_
          refine lv_goto (tgt := 75) C.1 hb dL_all_38 (by decide) ?_
          refine lv_ladd C.1 hb dL_all_75 ?_
          refine toL (show _ = xTot (xIa T 1) (xCapP T) i from (Int64.add_zero _)) ?_
          refine lv_lstore (lv' := [(10, .long (xTot (xIa T 1) (xCapP T) i)), (0, .ref (gA g 17)), (1, .ref (gA g 18)), (2, .ref (gA g 20)), (3, .ref (gA g 21)), (4, .ref (gA g 22)), (5, .ref (gA g 23)), (6, .ref (gA g 24)), (7, .int 1), (8, .long (xBase T)), (12, .int (nI i))]) C.1 hb dL_all_76 hl (by decide) rfl (fun ls hl => ?_)
          refine lv_iinc (v := nI (i + 1)) (lv' := [(12, .int (nI (i + 1))), (10, .long (xTot (xIa T 1) (xCapP T) i)), (0, .ref (gA g 17)), (1, .ref (gA g 18)), (2, .ref (gA g 20)), (3, .ref (gA g 21)), (4, .ref (gA g 22)), (5, .ref (gA g 23)), (6, .ref (gA g 24)), (7, .int 1), (8, .long (xBase T))]) C.1 hb dL_all_78 hl (k := 10) rfl (nI_1 i) (by decide) rfl (fun ls hl => ?_)
          refine lv_goto (tgt := 17) C.1 hb dL_all_81 (by decide) ?_
          exact ih (i + 1) (by omega) (by omega)  ls (by rw [xTot_z hv]; exact lv_sub hl [2, 3, 4, 5, 6, 7, 8, 9, 10, 1, 0] rfl)
  exact key (n - 0 + 1) 0 (by omega) (by omega)  ls (lv_sub hl [3, 4, 5, 6, 7, 8, 9, 10, 2, 1, 0] rfl)
