set_option maxRecDepth 100000 in
set_option maxHeartbeats 4000000 in
theorem law_loop {p : Program} (l : Launch) (hl0 : l.stackTraces = false) {e : Env} {s : State} {m : MethodId} {below : List Frame} {meth : Method} {c : Code} {g : gG} {b L : Nat} {xs : Nat → Int32} (C : CW g RL p s m #[Value.ref b]) (hN : NcX s) (hb : c.code = cL_law) (hml : c.maxLocals = 8) (hret : meth.sig.returnType = ret) (hlk : meth.locks = false) (hX : va_X b L xs s s.heap) (hbl : b < s.heap.size) (hbA : ¬ Ab g b) (hL : L ≤ 3584) (hAb : ∀ q, Ab g q → s.heap.size ≤ q) :
    ∀ f j : Nat, 513 - j < f → 7 * j ≤ L → ∀ (n : Nat) (S : WS) (H : Heap) (locs : List Loc) (ls : Array Slot), RR n S S → HW g S H → va_S (Ab g) s.heap H locs → lv_has ls 8 [(0, .ref b), (1, .ref (gA g 0)), (2, .ref (gA g 17)), (3, .ref (gA g 27)), (4, .int (nI (7 * j)))] → W p l e room_1 s m #[Value.ref b] below meth c H locs (1000 + j) (5000 + 6 * j) (lw_Z below #[Value.ref b] s) (F0 m 23 ls []) := by
  intro f
  induction f with
  | zero => intro j h; exact absurd h (Nat.not_lt_zero _)
  | succ f ih =>
    intro j hf hj n S H locs ls hR hP hS hl
    refine lv_iload C.1 hb dL_law_23 (lv_at hl 4 rfl) ?_
    refine lv_aload_n C.1 hb dL_law_25 rfl (lv_at hl 0 rfl) ?_
    refine va_slen C.1 hb hX hbl hbA hS dL_law_26 ?_
    refine lv_bipush (v := 7) C.1 hb dL_law_27 (by decide) ?_
    refine lv_isub C.1 hb dL_law_29 ?_
    refine lv_icmp_gt (tgt := 1189) C.1 hb dL_law_30 (by decide) (fun c1 => ?_) (fun c1 => ?_)
    · refine lv_iconst (v := 1) C.1 hb dL_law_1189 (by decide) ?_
      refine va_forget (fun q hq => hAb _ (hS.2.2 q hq)) ?_
      refine W.widen (k := 617616) (n := 7243256) (by omega) (by omega) ?_
      exact lw_ret C.1 hb hret hlk dL_law_1190
    · have hj7 : 7 * j + 7 ≤ L := Nat.le_of_not_lt (fun q => c1 ((len7 hL (by omega)).mpr q))
      refine lv_aload_n C.1 hb dL_law_33 rfl (lv_at hl 0 rfl) ?_
      refine lv_iload C.1 hb dL_law_34 (lv_at hl 4 rfl) ?_
      refine ld_s (j := 7 * j) C hb hX hbl hbA hS hL rfl (by omega) dL_law_36 ?_
      refine lv_bipush (v := 31) C.1 hb dL_law_37 (by decide) ?_
      refine lv_iand C.1 hb dL_law_39 ?_
      obtain ⟨k, hk, ek⟩ := and31 (xs (7 * j))
      refine toI ek ?_
      have hc : 1000 + j + 1 ≤ 617616 := by omega
      have hs : 5000 + 6 * j + 6 ≤ 7243256 := by omega
      have K : ∀ (n : Nat) (S : WS) (H : Heap) (locs : List Loc) (ls : Array Slot), RR n S S → HW g S H → va_S (Ab g) s.heap H locs → lv_has ls 8 [(0, .ref b), (1, .ref (gA g 0)), (2, .ref (gA g 17)), (3, .ref (gA g 27)), (4, .int (nI (7 * j)))] → W p l e room_1 s m #[Value.ref b] below meth c H locs (1000 + j + 1) (5000 + 6 * j + 6) (lw_Z below #[Value.ref b] s) (F0 m 1183 ls []) := by
        intro n S H locs ls hR hP hS hl
        refine lv_iinc (v := nI (7 * (j + 1))) (lv' := [(4, .int (nI (7 * (j + 1)))), (0, .ref b), (1, .ref (gA g 0)), (2, .ref (gA g 17)), (3, .ref (gA g 27))]) C.1 hb dL_law_1183 hl (k := 4) rfl (nI_add (7 * j) 7) (by decide) rfl (fun ls hl => ?_)
        refine lv_goto (tgt := 23) C.1 hb dL_law_1186 (by decide) ?_
        have h1 := ih (j + 1) (by omega) (by omega) n S H locs ls hR hP hS (lv_sub hl [1, 2, 3, 4, 0] rfl)
        rw [show 5000 + 6 * (j + 1) = 5000 + 6 * j + 6 by omega] at h1
        exact h1
      rcases (show k = 0 ∨ k = 1 ∨ k = 2 ∨ k = 3 ∨ k = 4 ∨ k = 5 ∨ k = 6 ∨ k = 7 ∨ k = 8 ∨ k = 9 ∨ k = 10 ∨ k = 11 ∨ k = 12 ∨ k = 13 ∨ k = 14 ∨ k = 15 ∨ k = 16 ∨ k = 17 ∨ k = 18 ∨ k = 19 ∨ 20 ≤ k by omega) with rfl | rfl | rfl | rfl | rfl | rfl | rfl | rfl | rfl | rfl | rfl | rfl | rfl | rfl | rfl | rfl | rfl | rfl | rfl | rfl | hk20
      · refine lv_tableIn (x := nI 0) (off := 96) (tgt := 136) C.1 hb dL_law_40 (by decide) (by decide) (by decide) (by decide) ?_
        exact law_c0 l hl0 C hN hb hml hX hbl hbA hL hj7 hc hs hR hP hS hl K
      · refine lv_tableIn (x := nI 1) (off := 214) (tgt := 254) C.1 hb dL_law_40 (by decide) (by decide) (by decide) (by decide) ?_
        exact law_c1 l hl0 C hN hb hml hX hbl hbA hL hj7 hc hs hR hP hS hl K
      · refine lv_tableIn (x := nI 2) (off := 270) (tgt := 310) C.1 hb dL_law_40 (by decide) (by decide) (by decide) (by decide) ?_
        exact law_c2 l hl0 C hN hb hml hX hbl hbA hL hj7 hc hs hR hP hS hl K
      · refine lv_tableIn (x := nI 3) (off := 338) (tgt := 378) C.1 hb dL_law_40 (by decide) (by decide) (by decide) (by decide) ?_
        exact law_c3 l hl0 C hN hb hml hX hbl hbA hL hj7 hc hs hR hP hS hl K
      · refine lv_tableIn (x := nI 4) (off := 406) (tgt := 446) C.1 hb dL_law_40 (by decide) (by decide) (by decide) (by decide) ?_
        exact law_c4 l hl0 C hN hb hml hX hbl hbA hL hj7 hc hs hR hP hS hl K
      · refine lv_tableIn (x := nI 5) (off := 486) (tgt := 526) C.1 hb dL_law_40 (by decide) (by decide) (by decide) (by decide) ?_
        exact law_c5 l hl0 C hN hb hml hX hbl hbA hL hj7 hc hs hR hP hS hl K
      · refine lv_tableIn (x := nI 6) (off := 542) (tgt := 582) C.1 hb dL_law_40 (by decide) (by decide) (by decide) (by decide) ?_
        exact law_c6 l hl0 C hN hb hml hX hbl hbA hL hj7 hc hs hR hP hS hl K
      · refine lv_tableIn (x := nI 7) (off := 555) (tgt := 595) C.1 hb dL_law_40 (by decide) (by decide) (by decide) (by decide) ?_
        exact law_c7 l hl0 C hN hb hml hX hbl hbA hL hj7 hc hs hR hP hS hl K
      · refine lv_tableIn (x := nI 8) (off := 611) (tgt := 651) C.1 hb dL_law_40 (by decide) (by decide) (by decide) (by decide) ?_
        exact law_c8 l hl0 C hN hb hml hX hbl hbA hL hj7 hc hs hR hP hS hl K
      · refine lv_tableIn (x := nI 9) (off := 624) (tgt := 664) C.1 hb dL_law_40 (by decide) (by decide) (by decide) (by decide) ?_
        exact law_c9 l hl0 C hN hb hml hX hbl hbA hL hj7 hc hs hR hP hS hl K
      · refine lv_tableIn (x := nI 10) (off := 637) (tgt := 677) C.1 hb dL_law_40 (by decide) (by decide) (by decide) (by decide) ?_
        exact law_c10 l hl0 C hN hb hml hX hbl hbA hL hj7 hc hs hR hP hS hl K
      · refine lv_tableIn (x := nI 11) (off := 651) (tgt := 691) C.1 hb dL_law_40 (by decide) (by decide) (by decide) (by decide) ?_
        exact law_c11 l hl0 C hN hb hml hX hbl hbA hL hj7 hc hs hR hP hS hl K
      · refine lv_tableIn (x := nI 12) (off := 719) (tgt := 759) C.1 hb dL_law_40 (by decide) (by decide) (by decide) (by decide) ?_
        exact law_c12 l hl0 C hN hb hml hX hbl hbA hL hj7 hc hs hR hP hS hl K
      · refine lv_tableIn (x := nI 13) (off := 774) (tgt := 814) C.1 hb dL_law_40 (by decide) (by decide) (by decide) (by decide) ?_
        exact law_c13 l hl0 C hN hb hml hX hbl hbA hL hj7 hc hs hR hP hS hl K
      · refine lv_tableIn (x := nI 14) (off := 841) (tgt := 881) C.1 hb dL_law_40 (by decide) (by decide) (by decide) (by decide) ?_
        exact law_c14 l hl0 C hN hb hml hX hbl hbA hL hj7 hc hs hR hP hS hl K
      · refine lv_tableIn (x := nI 15) (off := 908) (tgt := 948) C.1 hb dL_law_40 (by decide) (by decide) (by decide) (by decide) ?_
        exact law_c15 l hl0 C hN hb hml hX hbl hbA hL hj7 hc hs hR hP hS hl K
      · refine lv_tableIn (x := nI 16) (off := 963) (tgt := 1003) C.1 hb dL_law_40 (by decide) (by decide) (by decide) (by decide) ?_
        exact law_c16 l hl0 C hN hb hml hX hbl hbA hL hj7 hc hs hR hP hS hl K
      · refine lv_tableIn (x := nI 17) (off := 1018) (tgt := 1058) C.1 hb dL_law_40 (by decide) (by decide) (by decide) (by decide) ?_
        exact law_c17 l hl0 C hN hb hml hX hbl hbA hL hj7 hc hs hR hP hS hl K
      · refine lv_tableIn (x := nI 18) (off := 1073) (tgt := 1113) C.1 hb dL_law_40 (by decide) (by decide) (by decide) (by decide) ?_
        exact law_c18 l hl0 C hN hb hml hX hbl hbA hL hj7 hc hs hR hP hS hl K
      · refine lv_tableIn (x := nI 19) (off := 1087) (tgt := 1127) C.1 hb dL_law_40 (by decide) (by decide) (by decide) (by decide) ?_
        exact law_c19 l hl0 C hN hb hml hX hbl hbA hL hj7 hc hs hR hP hS hl K
      · refine lv_tableOut (tgt := 1183) C.1 hb dL_law_40 (Or.inr (by rw [nI_toInt (by omega)]; omega)) (by decide) ?_
        refine W.widen (k := 1000 + j + 1) (n := 5000 + 6 * j + 6) (by omega) (by omega) ?_
        exact K n S H locs ls hR hP hS hl
