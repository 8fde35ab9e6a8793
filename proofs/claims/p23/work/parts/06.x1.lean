set_option maxRecDepth 100000 in
set_option maxHeartbeats 4000000 in
theorem k_X0_isWithin (l : Launch) (g : gG) (S : WS) (v lo hi : Int32) : Met l yX0_isWithin (wA yX0_isWithin cX0_isWithin 3 (some .boolean)) ({ frames := 0, cells := 0, slots := 0, locals := 0 }) (PW g S [.int v, .int lo, .int hi]) (RQ (some (.int (bI (xIsWithin v lo hi))))) 0 0 (fun _ => False) := by
  refine metI (by decide +kernel) (Nat.le_of_ble_eq_true rfl) ?_
  intro p e s m below meth c C hb hml hret hlk hP ls hl
  have C : CW g RX0 p s m ([.int v, .int lo, .int hi] : List Value).toArray := C
  have hS : va_S (Ab g) s.heap s.heap [] := va_S.rf
  have hl : lv_has ls 3 [(0, .int v), (1, .int lo), (2, .int hi)] := hl
  refine lv_iload_n C.1 hb dX0_isWithin_0 rfl (lv_at hl 0 rfl) ?_
  refine lv_iload_n C.1 hb dX0_isWithin_1 rfl (lv_at hl 1 rfl) ?_
  refine lv_icmp_lt (tgt := 14) C.1 hb dX0_isWithin_2 (by decide) (fun c1 => ?_) (fun c1 => ?_)
  · refine lv_iconst (v := 0) C.1 hb dX0_isWithin_14 (by decide) ?_
    exact rdZ C hb hret hlk dX0_isWithin_15 (by simp [xIsWithin, bI, c1])
  · refine lv_iload_n C.1 hb dX0_isWithin_5 rfl (lv_at hl 0 rfl) ?_
    refine lv_iload_n C.1 hb dX0_isWithin_6 rfl (lv_at hl 2 rfl) ?_
    refine lv_icmp_gt (tgt := 14) C.1 hb dX0_isWithin_7 (by decide) (fun c2 => ?_) (fun c2 => ?_)
    · refine lv_iconst (v := 0) C.1 hb dX0_isWithin_14 (by decide) ?_
      exact rdZ C hb hret hlk dX0_isWithin_15 (by simp [xIsWithin, bI, c1, c2])
    · refine lv_iconst (v := 1) C.1 hb dX0_isWithin_10 (by decide) ?_
      refine lv_goto (tgt := 15) C.1 hb dX0_isWithin_11 (by decide) ?_
      exact rdZ C hb hret hlk dX0_isWithin_15 (by simp [xIsWithin, bI, c1, c2])

set_option maxRecDepth 100000 in
set_option maxHeartbeats 4000000 in
theorem k_X0_hasTrait (l : Launch) (g : gG) (S : WS) (t : Int32) : Met l yX0_hasTrait (wA yX0_hasTrait cX0_hasTrait 1 (some .boolean)) ({ frames := 0, cells := 0, slots := 0, locals := 0 }) (PW g S [.int t]) (RQ (some (.int (bI (xHasTrait t))))) 0 0 (fun _ => False) := by
  refine metI (by decide +kernel) (Nat.le_of_ble_eq_true rfl) ?_
  intro p e s m below meth c C hb hml hret hlk hP ls hl
  have C : CW g RX0 p s m ([.int t] : List Value).toArray := C
  have hS : va_S (Ab g) s.heap s.heap [] := va_S.rf
  have hl : lv_has ls 1 [(0, .int t)] := hl
  refine lv_iload_n C.1 hb dX0_hasTrait_0 rfl (lv_at hl 0 rfl) ?_
  refine lv_if_lt (tgt := 13) C.1 hb dX0_hasTrait_1 (by decide) (fun c3 => ?_) (fun c3 => ?_)
  · refine lv_iconst (v := 0) C.1 hb dX0_hasTrait_13 (by decide) ?_
    exact rdZ C hb hret hlk dX0_hasTrait_14 (by simp [xHasTrait, bI, c3])
  · refine lv_iload_n C.1 hb dX0_hasTrait_4 rfl (lv_at hl 0 rfl) ?_
    refine lv_iconst (v := 3) C.1 hb dX0_hasTrait_5 (by decide) ?_
    refine lv_icmp_ge (tgt := 13) C.1 hb dX0_hasTrait_6 (by decide) (fun c4 => ?_) (fun c4 => ?_)
    · refine lv_iconst (v := 0) C.1 hb dX0_hasTrait_13 (by decide) ?_
      exact rdZ C hb hret hlk dX0_hasTrait_14 (by simp [xHasTrait, bI, c4])
    · refine lv_iconst (v := 1) C.1 hb dX0_hasTrait_9 (by decide) ?_
      refine lv_goto (tgt := 14) C.1 hb dX0_hasTrait_10 (by decide) ?_
      exact rdZ C hb hret hlk dX0_hasTrait_14 (by simp [xHasTrait, bI, c3, c4])

set_option maxRecDepth 100000 in
set_option maxHeartbeats 4000000 in
theorem k_X0_hasLevel (l : Launch) (g : gG) (S : WS) (t k : Int32) : Met l yX0_hasLevel (wA yX0_hasLevel cX0_hasLevel 2 (some .boolean)) ({ frames := 1, cells := 0, slots := 0, locals := 30 }) (PW g S [.int t, .int k]) (RQ (some (.int (bI (xHasLevel t k))))) 0 0 (fun _ => False) := by
  refine metI (by decide +kernel) (Nat.le_of_ble_eq_true rfl) ?_
  intro p e s m below meth c C hb hml hret hlk hP ls hl
  have C : CW g RX0 p s m ([.int t, .int k] : List Value).toArray := C
  have hS : va_S (Ab g) s.heap s.heap [] := va_S.rf
  have hl : lv_has ls 2 [(0, .int t), (1, .int k)] := hl
  refine lv_iload_n C.1 hb dX0_hasLevel_0 rfl (lv_at hl 0 rfl) ?_
  refine run_rd (cRunS (As := [.int t]) (rest := []) C hb (hml.trans hl.1.symm) hP hS (k_X0_hasTrait l g S t) wm_124 wm_125 wm_126 wm_12 (n := 1) (by decide +kernel) rfl ⟨rfl, rfl, Nat.le_of_ble_eq_true rfl, Nat.le_of_ble_eq_true rfl⟩ (Nat.le_of_ble_eq_true rfl) rfl ⟨Nat.zero_le _, Nat.zero_le _⟩ dX0_hasLevel_1) ?_
  refine bz_eq (tgt := 24) C hb dX0_hasLevel_4 (by decide) (fun c5 => ?_) (fun c5 => ?_)
  · refine lv_iconst (v := 0) C.1 hb dX0_hasLevel_24 (by decide) ?_
    exact rdZ C hb hret hlk dX0_hasLevel_25 (by simp [xHasLevel, bI, c5])
  · refine lv_iload_n C.1 hb dX0_hasLevel_7 rfl (lv_at hl 1 rfl) ?_
    refine lv_if_lt (tgt := 24) C.1 hb dX0_hasLevel_8 (by decide) (fun c6 => ?_) (fun c6 => ?_)
    · refine lv_iconst (v := 0) C.1 hb dX0_hasLevel_24 (by decide) ?_
      exact rdZ C hb hret hlk dX0_hasLevel_25 (by simp [xHasLevel, bI, c6])
    · have ht := xHasTrait_ix c5
      refine lv_iload_n C.1 hb dX0_hasLevel_11 rfl (lv_at hl 1 rfl) ?_
      refine gX_LEVELS C hb hS dX0_hasLevel_12 ?_
      refine lv_iload_n C.1 hb dX0_hasLevel_15 rfl (lv_at hl 0 rfl) ?_
      refine ldX_LEVELS (j := (tN t)) C hb hS ht.1 ht.2 dX0_hasLevel_16 ?_
      refine lv_icmp_ge (tgt := 24) C.1 hb dX0_hasLevel_17 (by decide) (fun c7 => ?_) (fun c7 => ?_)
      · refine lv_iconst (v := 0) C.1 hb dX0_hasLevel_24 (by decide) ?_
        exact rdZ C hb hret hlk dX0_hasLevel_25 (by simp [xHasLevel, bI, c7])
      · refine lv_iconst (v := 1) C.1 hb dX0_hasLevel_20 (by decide) ?_
        refine lv_goto (tgt := 25) C.1 hb dX0_hasLevel_21 (by decide) ?_
        exact rdZ C hb hret hlk dX0_hasLevel_25 (by simp [xHasLevel, bI, c5, c6, c7])

set_option maxRecDepth 100000 in
set_option maxHeartbeats 4000000 in
theorem k_X0_hasRow (l : Launch) (g : gG) (S : WS) (n : Nat) (hI : XI n S) (r : Int32) : Met l yX0_hasRow (wA yX0_hasRow cX0_hasRow 2 (some .boolean)) ({ frames := 0, cells := 0, slots := 0, locals := 0 }) (PW g S [.ref (gA g 0), .int r]) (RQ (some (.int (bI (xHasRow S r))))) 0 0 (fun _ => False) := by
  refine metI (by decide +kernel) (Nat.le_of_ble_eq_true rfl) ?_
  intro p e s m below meth c C hb hml hret hlk hP ls hl
  have C : CW g RX0 p s m ([.ref (gA g 0), .int r] : List Value).toArray := C
  have hS : va_S (Ab g) s.heap s.heap [] := va_S.rf
  have hl : lv_has ls 2 [(0, .ref (gA g 0)), (1, .int r)] := hl
  refine lv_iload_n C.1 hb dX0_hasRow_0 rfl (lv_at hl 1 rfl) ?_
  refine lv_if_lt (tgt := 25) C.1 hb dX0_hasRow_1 (by decide) (fun c8 => ?_) (fun c8 => ?_)
  · refine lv_iconst (v := 0) C.1 hb dX0_hasRow_25 (by decide) ?_
    exact rdZ C hb hret hlk dX0_hasRow_26 (by simp [xHasRow, bI, c8])
  · refine lv_iload_n C.1 hb dX0_hasRow_4 rfl (lv_at hl 1 rfl) ?_
    refine lv_aload_n C.1 hb dX0_hasRow_5 rfl (lv_at hl 0 rfl) ?_
    refine gX_addedRows C hb hP dX0_hasRow_6 ?_
    refine lv_icmp_ge (tgt := 25) C.1 hb dX0_hasRow_9 (by decide) (fun c9 => ?_) (fun c9 => ?_)
    · refine lv_iconst (v := 0) C.1 hb dX0_hasRow_25 (by decide) ?_
      exact rdZ C hb hret hlk dX0_hasRow_26 (by simp [xHasRow, bI, c9])
    · have hr2 := ixN (n := n) (by have := hI.1; omega) c8 (by rw [← hI.2.1]; exact c9)
      refine lv_aload_n C.1 hb dX0_hasRow_12 rfl (lv_at hl 0 rfl) ?_
      refine gX_live C hb hP dX0_hasRow_13 ?_
      refine lv_iload_n C.1 hb dX0_hasRow_16 rfl (lv_at hl 1 rfl) ?_
      refine ldX_live (j := (tN r)) C hb hP hr2.1 (by have := hr2.2; have := hI.1; omega) dX0_hasRow_17 ?_
      refine lv_if_eq (tgt := 25) C.1 hb dX0_hasRow_18 (by decide) (fun c10 => ?_) (fun c10 => ?_)
      · refine lv_iconst (v := 0) C.1 hb dX0_hasRow_25 (by decide) ?_
        exact rdZ C hb hret hlk dX0_hasRow_26 (by simp [xHasRow, bI, c10])
      · refine lv_iconst (v := 1) C.1 hb dX0_hasRow_21 (by decide) ?_
        refine lv_goto (tgt := 26) C.1 hb dX0_hasRow_22 (by decide) ?_
        exact rdZ C hb hret hlk dX0_hasRow_26 (by simp [xHasRow, bI, c8, c9, c10])

set_option maxRecDepth 100000 in
set_option maxHeartbeats 4000000 in
theorem k_X0_total (l : Launch) (g : gG) (S : WS) (n : Nat) (hI : XI n S) (q : Nat) (hq : q < 4) : Met l yX0_total (wA yX0_total cX0_total 5 (some .long)) ({ frames := 0, cells := 0, slots := 0, locals := 0 }) (PW g S [.ref (gA g 0), .ref (gA g (lngP q))]) (RQ (some (.long (xTot (xIa S 1) (xLng S q) n)))) 0 0 (fun _ => False) := by
  refine metI (by decide +kernel) (Nat.le_of_ble_eq_true rfl) ?_
  intro p e s m below meth c C hb hml hret hlk hP ls hl
  have C : CW g RX0 p s m ([.ref (gA g 0), .ref (gA g (lngP q))] : List Value).toArray := C
  have hS : va_S (Ab g) s.heap s.heap [] := va_S.rf
  have hl : lv_has ls 5 [(0, .ref (gA g 0)), (1, .ref (gA g (lngP q)))] := hl
  refine lv_lconst (v := 0) C.1 hb dX0_total_0 (by decide) ?_
  refine lv_lstore_n (lv' := [(2, .long 0), (0, .ref (gA g 0)), (1, .ref (gA g (lngP q)))]) C.1 hb dX0_total_1 rfl hl (by decide) rfl (fun ls hl => ?_)
  refine lv_iconst (v := 0) C.1 hb dX0_total_2 (by decide) ?_
  refine lv_istore (lv' := [(4, .int 0), (2, .long 0), (0, .ref (gA g 0)), (1, .ref (gA g (lngP q)))]) C.1 hb dX0_total_3 hl (by decide) rfl (fun ls hl => ?_)
  have key : ∀ f i : Nat, n - i < f → i ≤ n → ∀ ls : Array Slot, lv_has ls 5 [(0, .ref (gA g 0)), (1, .ref (gA g (lngP q))), (2, .long (xTot (xIa S 1) (xLng S q) i)), (4, .int (nI i))] → W p l e ({ frames := 0, cells := 0, slots := 0, locals := 0 }) s m ([.ref (gA g 0), .ref (gA g (lngP q))] : List Value).toArray below meth c s.heap [] 0 0 (MQ below (RQ (some (.long (xTot (xIa S 1) (xLng S q) n)))) ([.ref (gA g 0), .ref (gA g (lngP q))] : List Value).toArray s 0 0 (fun _ => False)) (F0 m 5 ls []) := by
    intro f
    induction f with
    | zero => intro i h; exact absurd h (Nat.not_lt_zero _)
    | succ f ih =>
      intro i hfi hi  ls hl
      refine lv_iload C.1 hb dX0_total_5 (lv_at hl 3 rfl) ?_
      refine lv_aload_n C.1 hb dX0_total_7 rfl (lv_at hl 0 rfl) ?_
      refine gX_addedRows C hb hP dX0_total_8 ?_
      refine lv_icmp_ge (tgt := 37) C.1 hb dX0_total_11 (by decide) (fun c11 => ?_) (fun c11 => ?_)
      · have hin : i = n := by have := le_nI (a := n) (b := i) (by have := hI.1; omega) (by have := hI.1; omega) (by rw [← hI.2.1]; exact c11); omega
        rw [hin] at hl
        refine lv_lload_n C.1 hb dX0_total_37 rfl (lv_at hl 2 rfl) ?_
        exact rdL C hb hret hlk dX0_total_38 rfl
      · have hlt : i < n := nle_nI (a := n) (b := i) (by have := hI.1; omega) (by have := hI.1; omega) (by rw [← hI.2.1]; exact c11)
        have hn40 := hI.1
        refine lv_aload_n C.1 hb dX0_total_14 rfl (lv_at hl 0 rfl) ?_
        refine gX_live C hb hP dX0_total_15 ?_
        refine lv_iload C.1 hb dX0_total_18 (lv_at hl 3 rfl) ?_
        refine ldX_live (j := i) C hb hP rfl (by omega) dX0_total_20 ?_
        refine lv_if_eq (tgt := 31) C.1 hb dX0_total_21 (by decide) (fun c12 => ?_) (fun c12 => ?_)
        · refine lv_iinc (v := nI (i + 1)) (lv' := [(4, .int (nI (i + 1))), (0, .ref (gA g 0)), (1, .ref (gA g (lngP q))), (2, .long (xTot (xIa S 1) (xLng S q) i))]) C.1 hb dX0_total_31 hl (k := 3) rfl (nI_1 i) (by decide) rfl (fun ls hl => ?_)
          refine lv_goto (tgt := 5) C.1 hb dX0_total_34 (by decide) ?_
          exact ih (i + 1) (by omega) (by omega)  ls (by rw [xTot_z c12]; exact lv_sub hl [1, 2, 3, 0] rfl)
        · refine lv_lload_n C.1 hb dX0_total_24 rfl (lv_at hl 2 rfl) ?_
          refine lv_aload_n C.1 hb dX0_total_25 rfl (lv_at hl 1 rfl) ?_
          refine lv_iload C.1 hb dX0_total_26 (lv_at hl 3 rfl) ?_
          refine ldX_lng (q := q) (j := i) C hb hP hq rfl (by omega) dX0_total_28 ?_
          refine lv_ladd C.1 hb dX0_total_29 ?_
          refine lv_lstore_n (lv' := [(2, .long ((xTot (xIa S 1) (xLng S q) i) + (xLng S q i))), (0, .ref (gA g 0)), (1, .ref (gA g (lngP q))), (4, .int (nI i))]) C.1 hb dX0_total_30 rfl hl (by decide) rfl (fun ls hl => ?_)
          refine lv_iinc (v := nI (i + 1)) (lv' := [(4, .int (nI (i + 1))), (2, .long ((xTot (xIa S 1) (xLng S q) i) + (xLng S q i))), (0, .ref (gA g 0)), (1, .ref (gA g (lngP q)))]) C.1 hb dX0_total_31 hl (k := 3) rfl (nI_1 i) (by decide) rfl (fun ls hl => ?_)
          refine lv_goto (tgt := 5) C.1 hb dX0_total_34 (by decide) ?_
          exact ih (i + 1) (by omega) (by omega)  ls (by rw [xTot_n c12]; exact lv_sub hl [2, 3, 1, 0] rfl)
  exact key (n - 0 + 1) 0 (by omega) (by omega)  ls (lv_sub hl [2, 3, 1, 0] rfl)

set_option maxRecDepth 100000 in
set_option maxHeartbeats 4000000 in
theorem k_X0_levelTotal (l : Launch) (g : gG) (S : WS) (n : Nat) (hI : XI n S) (q : Nat) (hq : q < 4) (t : Nat) (ht : t < 3) (k : Int32) : Met l yX0_levelTotal (wA yX0_levelTotal cX0_levelTotal 7 (some .long)) ({ frames := 0, cells := 0, slots := 0, locals := 0 }) (PW g S [.ref (gA g 0), .ref (gA g (lngP q)), .int (nI t), .int k]) (RQ (some (.long (xLTot (xIa S 1) (xLev S t) k (xLng S q) n)))) 0 0 (fun _ => False) := by
  refine metI (by decide +kernel) (Nat.le_of_ble_eq_true rfl) ?_
  intro p e s m below meth c C hb hml hret hlk hP ls hl
  have C : CW g RX0 p s m ([.ref (gA g 0), .ref (gA g (lngP q)), .int (nI t), .int k] : List Value).toArray := C
  have hS : va_S (Ab g) s.heap s.heap [] := va_S.rf
  have hl : lv_has ls 7 [(0, .ref (gA g 0)), (1, .ref (gA g (lngP q))), (2, .int (nI t)), (3, .int k)] := hl
  refine lv_lconst (v := 0) C.1 hb dX0_levelTotal_0 (by decide) ?_
  refine lv_lstore (lv' := [(4, .long 0), (0, .ref (gA g 0)), (1, .ref (gA g (lngP q))), (2, .int (nI t)), (3, .int k)]) C.1 hb dX0_levelTotal_1 hl (by decide) rfl (fun ls hl => ?_)
  refine lv_iconst (v := 0) C.1 hb dX0_levelTotal_3 (by decide) ?_
  refine lv_istore (lv' := [(6, .int 0), (4, .long 0), (0, .ref (gA g 0)), (1, .ref (gA g (lngP q))), (2, .int (nI t)), (3, .int k)]) C.1 hb dX0_levelTotal_4 hl (by decide) rfl (fun ls hl => ?_)
  have key : ∀ f i : Nat, n - i < f → i ≤ n → ∀ ls : Array Slot, lv_has ls 7 [(0, .ref (gA g 0)), (1, .ref (gA g (lngP q))), (2, .int (nI t)), (3, .int k), (4, .long (xLTot (xIa S 1) (xLev S t) k (xLng S q) i)), (6, .int (nI i))] → W p l e ({ frames := 0, cells := 0, slots := 0, locals := 0 }) s m ([.ref (gA g 0), .ref (gA g (lngP q)), .int (nI t), .int k] : List Value).toArray below meth c s.heap [] 0 0 (MQ below (RQ (some (.long (xLTot (xIa S 1) (xLev S t) k (xLng S q) n)))) ([.ref (gA g 0), .ref (gA g (lngP q)), .int (nI t), .int k] : List Value).toArray s 0 0 (fun _ => False)) (F0 m 6 ls []) := by
    intro f
    induction f with
    | zero => intro i h; exact absurd h (Nat.not_lt_zero _)
    | succ f ih =>
      intro i hfi hi  ls hl
      refine lv_iload C.1 hb dX0_levelTotal_6 (lv_at hl 5 rfl) ?_
      refine lv_aload_n C.1 hb dX0_levelTotal_8 rfl (lv_at hl 0 rfl) ?_
      refine gX_addedRows C hb hP dX0_levelTotal_9 ?_
      refine lv_icmp_ge (tgt := 53) C.1 hb dX0_levelTotal_12 (by decide) (fun c13 => ?_) (fun c13 => ?_)
      · have hin : i = n := by have := le_nI (a := n) (b := i) (by have := hI.1; omega) (by have := hI.1; omega) (by rw [← hI.2.1]; exact c13); omega
        rw [hin] at hl
        refine lv_lload C.1 hb dX0_levelTotal_53 (lv_at hl 4 rfl) ?_
        exact rdL C hb hret hlk dX0_levelTotal_55 rfl
      · have hlt : i < n := nle_nI (a := n) (b := i) (by have := hI.1; omega) (by have := hI.1; omega) (by rw [← hI.2.1]; exact c13)
        have hn40 := hI.1
        refine lv_aload_n C.1 hb dX0_levelTotal_15 rfl (lv_at hl 0 rfl) ?_
        refine gX_live C hb hP dX0_levelTotal_16 ?_
        refine lv_iload C.1 hb dX0_levelTotal_19 (lv_at hl 5 rfl) ?_
        refine ldX_live (j := i) C hb hP rfl (by omega) dX0_levelTotal_21 ?_
        refine lv_if_eq (tgt := 47) C.1 hb dX0_levelTotal_22 (by decide) (fun c14 => ?_) (fun c14 => ?_)
        · refine lv_iinc (v := nI (i + 1)) (lv' := [(6, .int (nI (i + 1))), (0, .ref (gA g 0)), (1, .ref (gA g (lngP q))), (2, .int (nI t)), (3, .int k), (4, .long (xLTot (xIa S 1) (xLev S t) k (xLng S q) i))]) C.1 hb dX0_levelTotal_47 hl (k := 5) rfl (nI_1 i) (by decide) rfl (fun ls hl => ?_)
          refine lv_goto (tgt := 6) C.1 hb dX0_levelTotal_50 (by decide) ?_
          exact ih (i + 1) (by omega) (by omega)  ls (by rw [xLTot_z c14]; exact lv_sub hl [1, 2, 3, 4, 5, 0] rfl)
        · refine lv_aload_n C.1 hb dX0_levelTotal_25 rfl (lv_at hl 0 rfl) ?_
          refine gX_rowLevels C hb hP dX0_levelTotal_26 ?_
          refine lv_iload_n C.1 hb dX0_levelTotal_29 rfl (lv_at hl 2 rfl) ?_
          refine al_lev (t := t) C hb hP rfl ht dX0_levelTotal_30 ?_
          refine lv_iload C.1 hb dX0_levelTotal_31 (lv_at hl 5 rfl) ?_
          refine ldX_lev (t := t) (j := i) C hb hP ht rfl (by omega) dX0_levelTotal_33 ?_
          refine lv_iload_n C.1 hb dX0_levelTotal_34 rfl (lv_at hl 3 rfl) ?_
          refine lv_icmp_ne (tgt := 47) C.1 hb dX0_levelTotal_35 (by decide) (fun c15 => ?_) (fun c15 => ?_)
          · refine lv_iinc (v := nI (i + 1)) (lv' := [(6, .int (nI (i + 1))), (0, .ref (gA g 0)), (1, .ref (gA g (lngP q))), (2, .int (nI t)), (3, .int k), (4, .long (xLTot (xIa S 1) (xLev S t) k (xLng S q) i))]) C.1 hb dX0_levelTotal_47 hl (k := 5) rfl (nI_1 i) (by decide) rfl (fun ls hl => ?_)
            refine lv_goto (tgt := 6) C.1 hb dX0_levelTotal_50 (by decide) ?_
            exact ih (i + 1) (by omega) (by omega)  ls (by rw [xLTot_o c14 c15]; exact lv_sub hl [1, 2, 3, 4, 5, 0] rfl)
          · refine lv_lload C.1 hb dX0_levelTotal_38 (lv_at hl 4 rfl) ?_
            refine lv_aload_n C.1 hb dX0_levelTotal_40 rfl (lv_at hl 1 rfl) ?_
            refine lv_iload C.1 hb dX0_levelTotal_41 (lv_at hl 5 rfl) ?_
            refine ldX_lng (q := q) (j := i) C hb hP hq rfl (by omega) dX0_levelTotal_43 ?_
            refine lv_ladd C.1 hb dX0_levelTotal_44 ?_
            refine lv_lstore (lv' := [(4, .long ((xLTot (xIa S 1) (xLev S t) k (xLng S q) i) + (xLng S q i))), (0, .ref (gA g 0)), (1, .ref (gA g (lngP q))), (2, .int (nI t)), (3, .int k), (6, .int (nI i))]) C.1 hb dX0_levelTotal_45 hl (by decide) rfl (fun ls hl => ?_)
            refine lv_iinc (v := nI (i + 1)) (lv' := [(6, .int (nI (i + 1))), (4, .long ((xLTot (xIa S 1) (xLev S t) k (xLng S q) i) + (xLng S q i))), (0, .ref (gA g 0)), (1, .ref (gA g (lngP q))), (2, .int (nI t)), (3, .int k)]) C.1 hb dX0_levelTotal_47 hl (k := 5) rfl (nI_1 i) (by decide) rfl (fun ls hl => ?_)
            refine lv_goto (tgt := 6) C.1 hb dX0_levelTotal_50 (by decide) ?_
            exact ih (i + 1) (by omega) (by omega)  ls (by rw [xLTot_q c14 c15]; exact lv_sub hl [2, 3, 4, 5, 1, 0] rfl)
  exact key (n - 0 + 1) 0 (by omega) (by omega)  ls (lv_sub hl [2, 3, 4, 5, 1, 0] rfl)
