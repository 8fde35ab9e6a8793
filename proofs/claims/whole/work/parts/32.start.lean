theorem vp3 {c : ClassId} {f f' : Nat → Option Nat} (h : ∀ i, i < 3 → f i = f' i) : vp_cell c (3, .inr (.inr (.inr (.inr f)))) = vp_cell c (3, .inr (.inr (.inr (.inr f')))) := by
  have e : (fun j : Fin 3 => va_rf (f j.val)) = (fun j : Fin 3 => va_rf (f' j.val)) := funext fun j => by rw [h j.val j.isLt]
  show ({ cls := c, slots := Array.ofFn (n := 3) fun j => va_rf (f j.val), vm := .none } : Cell) = { cls := c, slots := Array.ofFn (n := 3) fun j => va_rf (f' j.val), vm := .none }
  rw [e]
/-- the three makings side by side are the one world -/
def gOf (z : Nat) (D : va_G) (T : Nat → ClassId) (a a2 : Nat → Nat) (q tL : Nat) : gG := (z, D, T, fun i => if i < 17 then a i else if i < 27 then a2 (i - 17) else q, tL)
def w3 (T : Nat → ClassId) (a a2 : Nat → Nat) (q : Nat) : va_W := (xCells T a WS0 ++ mCells T a2 WS0) ++ [(q, .inl (T 1, 1, .inr (.inl (fun _ => 0))))]
theorem gOf_lo (z : Nat) (D : va_G) (T : Nat → ClassId) (a a2 : Nat → Nat) (q tL : Nat) {i : Nat} (h : i < 17) : gA (gOf z D T a a2 q tL) i = a i := if_pos h
theorem w3_HW {z : Nat} {D : va_G} {T : Nat → ClassId} {a a2 : Nat → Nat} {q tL : Nat} {H : Heap} (h : va_P D vwCl (w3 T a a2 q) H) : HW (gOf z D T a a2 q tL) WS0 H := by
  intro k x hk
  match k, hk with
  | 0, hk => exact h 0 x hk
  | 1, hk =>
    cases hk
    have h1 : H[a 1]? = some (vp_cell (T 3) (3, .inr (.inr (.inr (.inr (fun i => some (a (3 + i)))))))) := h 1 _ rfl
    show H[a 1]? = some (vp_cell (T 3) (3, .inr (.inr (.inr (.inr (fun i => some (gA (gOf z D T a a2 q tL) (3 + i))))))))
    rw [h1, vp3 (fun i hi => by show some (a (3 + i)) = some (gA (gOf z D T a a2 q tL) (3 + i)); rw [gOf_lo _ _ _ _ _ _ _ (show 3 + i < 17 by omega)])]
  | 2, hk =>
    cases hk
    have h1 : H[a 2]? = some (vp_cell (T 3) (3, .inr (.inr (.inr (.inr (fun i => some (a (6 + i)))))))) := h 2 _ rfl
    show H[a 2]? = some (vp_cell (T 3) (3, .inr (.inr (.inr (.inr (fun i => some (gA (gOf z D T a a2 q tL) (6 + i))))))))
    rw [h1, vp3 (fun i hi => by show some (a (6 + i)) = some (gA (gOf z D T a a2 q tL) (6 + i)); rw [gOf_lo _ _ _ _ _ _ _ (show 6 + i < 17 by omega)])]
  | k + 3, hk => exact h (k + 3) x hk
theorem w3_GD {z : Nat} {D : va_G} {T : Nat → ClassId} {a a2 : Nat → Nat} {q tL : Nat} (h : va_D (fun x => z ≤ x) (w3 T a a2 q)) : GD (gOf z D T a a2 q tL) := by
  have hm : (w3 T a a2 q).map (fun x => x.1) = (List.range 28).map (gA (gOf z D T a a2 q tL)) := rfl
  have at' : ∀ i, i < 28 → ∃ x, (w3 T a a2 q)[i]? = some x ∧ x.1 = gA (gOf z D T a a2 q tL) i := fun i hi => by
    have h1 : ((w3 T a a2 q).map (fun x => x.1))[i]? = some (gA (gOf z D T a a2 q tL) i) := by rw [hm, List.getElem?_map, List.getElem?_range hi]; rfl
    rw [List.getElem?_map] at h1
    exact Option.map_eq_some_iff.mp h1
  refine ⟨fun i j hi hj e => ?_, fun i hi => ?_⟩
  · obtain ⟨x, h1, h2⟩ := at' i hi
    obtain ⟨y, h3, h4⟩ := at' j hj
    exact h.1 i j x y h1 h3 (by rw [h2, h4, e])
  · obtain ⟨x, h1, h2⟩ := at' i hi
    rw [← h2]
    exact h.2 i x h1
set_option maxRecDepth 100000 in
set_option maxHeartbeats 4000000 in
theorem whole_start {p : Program} {e : Env} {s : State} {m : MethodId} {below : List Frame} {meth : Method} {c : Code} (l : Launch) (hflags : l.flags = flags0) {b L : Nat} {xs : Nat → Int32} (hL : L ≤ 3584) (C0 : lw_At p s m meth c b L xs) : W p l e room_1 s m #[Value.ref b] below meth c s.heap [] 0 0 (lw_Z below #[Value.ref b] s) (entryFrame m ([Value.ref b] : List Value).toArray 8) := by
  obtain ⟨hx, hb, hr, hml, hown, hts, hX, hbl, hlocks, hgv⟩ := id C0
  have hl0 : l.stackTraces = false := by
    unfold Launch.stackTraces
    rw [hflags]
    decide +kernel
  have hW : ∀ w ∈ WA, w.before #[Value.ref b] s = true := fun w h => hts w (WA_tbl w h)
  have hA : ∀ q : Nat, s.heap.size ≤ q → (fun q : Nat => s.heap.size ≤ q) q := fun _ h => h
  have hnA : ∀ a : Nat, a < s.heap.size → ¬ (fun q : Nat => s.heap.size ≤ q) a := fun a h => Nat.not_le.mpr h
  have hbA : ¬ (fun q : Nat => s.heap.size ≤ q) b := hnA b hbl
  obtain ⟨D, T, tL, hK, hZ, hTb⟩ := known hts hgv (fun A e a h => by subst e; exact Nat.not_le.mpr h)
  obtain ⟨hN, hstr, hcst, hdec⟩ := known2 hts hgv
  obtain ⟨hz1, hz2⟩ := known3 hts hgv hnA
  have hAO : va_AOA .int s := va_AOA.of (hts _ tb_8)
  have hS : va_S (fun q : Nat => s.heap.size ≤ q) s.heap s.heap [] := va_S.rf
  have hP : va_P D vwCl [] s.heap := fun k q h => by simp at h
  have hD : va_D (fun q : Nat => s.heap.size ≤ q) [] := ⟨fun i j p q h => by simp at h, fun k q h => by simp at h⟩
  have hl := lv_entry ([.ref b]) (n := 8) (Nat.le_of_ble_eq_true rfl)
  rw [lg_entry_eq]
  generalize (lg_sl ([.ref b]) ++ List.replicate (8 - (lg_sl ([.ref b])).length) Slot.unset).toArray = ls at hl ⊢
  have hl : lv_has ls 8 [(0, .ref b)] := hl
  refine va_new (own := RL) (ci := 0) (fs := [.null, .null, .null, .null, .null, .null, .null, .int 0, .int 0, .int 0, .int 0, .int 0, .long 0, .null, .null, .null]) (C := RX0) (T := TX0) (N := 16) hx hb hW inlX0 tyX0 tyX0_ok hown (hW _ wm_0) (hW _ wm_1) (hW _ wm_2) hK hP hD hS hA rfl (fun j hj => by rcases (show j = 0 ∨ j = 1 ∨ j = 2 ∨ j = 3 ∨ j = 4 ∨ j = 5 ∨ j = 6 ∨ j = 7 ∨ j = 8 ∨ j = 9 ∨ j = 10 ∨ j = 11 ∨ j = 12 ∨ j = 13 ∨ j = 14 ∨ j = 15 by omega) with rfl | rfl | rfl | rfl | rfl | rfl | rfl | rfl | rfl | rfl | rfl | rfl | rfl | rfl | rfl | rfl <;> rfl) (Nat.le_of_ble_eq_true rfl) (Nat.le_of_ble_eq_true rfl) dL_law_0 (fun q0 H hP hD hS => ?_)
  have hP : va_P D vwCl [(q0, .inr (0, [.null, .null, .null, .null, .null, .null, .null, .int 0, .int 0, .int 0, .int 0, .int 0, .long 0, .null, .null, .null]))] H := hP
  have hD : va_D (fun q : Nat => s.heap.size ≤ q) [(q0, .inr (0, [.null, .null, .null, .null, .null, .null, .null, .int 0, .int 0, .int 0, .int 0, .int 0, .long 0, .null, .null, .null]))] := hD
  refine lv_dup hx hb dL_law_3 rfl ?_
  have hFc := va_free (wc := [(q0, .inr (0, [.null, .null, .null, .null, .null, .null, .null, .int 0, .int 0, .int 0, .int 0, .int 0, .long 0, .null, .null, .null]))]) hD hS hA [0] rfl
  refine va_callv (va_runI (Ts := WA) (own := RL) (As := []) (rest := [.ref q0]) ⟨hx, hb, hml, hown, hW⟩ (k_X0_init l D T q0 H.size) ⟨callB_of 0 hW (wA_in wm_9) rfl rfl rfl (hW _ wm_2) (hW _ wm_7) (by decide +kernel) ⟨Nat.le_of_ble_eq_true rfl, Nat.le_of_ble_eq_true rfl⟩, rfl, hW _ wm_8⟩ ⟨fun a U g mk q => by obtain ⟨q0, q1, qP, qK, qA, qD⟩ := q; exact ⟨q0, q1, qP, va_K.moved (u := U) (U := U.calling g mk a) (Vm.Alike.refl U.vm) qK, va_AOA.moved (u := U) (U := U.calling g mk a) (Vm.Alike.refl U.vm) qA, qD⟩, fun U hU hW2 => ⟨rfl, by rw [hU], by rw [hU]; exact hP, va_K.moved hW2.alike hK, va_AOA.moved hW2.alike hAO, hD.weaken (fun _ _ _ _ => trivial)⟩⟩ rfl rfl hl.1 rfl (lv_room (Nat.le_of_ble_eq_true rfl)) dL_law_4 ⟨Nat.le_of_ble_eq_true rfl, Nat.le_of_ble_eq_true rfl⟩) hS (fun q _ h => hFc q h) hFc (fun a t H1 locs ht hvm hw hB hz hk1 hS => ?_)
  obtain ⟨hP1, -, hD1⟩ := hB
  rw [ht] at hP1
  obtain ⟨hP, hD⟩ := va_join (wr := []) (w1 := xCells T a WS0) hP hD [0] [] rfl rfl (by decide) (by decide) hk1 hFc hP1 hD1
  clear hFc hk1 hP1 hD1
  have ha0 : a 0 = q0 := hw
  generalize H1 = H at hP hS ⊢
  have hP : va_P D vwCl (xCells T a WS0) H := hP
  have hD : va_D (fun q : Nat => s.heap.size ≤ q) (xCells T a WS0) := hD
  refine lv_astore_n (lv' := [(1, .ref (a 0)), (0, .ref b)]) hx hb dL_law_7 rfl hl (by decide) (by rw [ha0]; rfl) (fun ls hl => ?_)
  refine va_new (own := RL) (ci := 1) (fs := [.null, .null, .null, .null, .null, .null, .int 0, .int 0, .int 0, .long 0, .null, .null, .null, .int 0]) (C := RX1) (T := TX1) (N := 14) hx hb hW inlX1 tyX1 tyX1_ok hown (hW _ wm_3) (hW _ wm_4) (hW _ wm_5) hK hP hD hS hA rfl (fun j hj => by rcases (show j = 0 ∨ j = 1 ∨ j = 2 ∨ j = 3 ∨ j = 4 ∨ j = 5 ∨ j = 6 ∨ j = 7 ∨ j = 8 ∨ j = 9 ∨ j = 10 ∨ j = 11 ∨ j = 12 ∨ j = 13 by omega) with rfl | rfl | rfl | rfl | rfl | rfl | rfl | rfl | rfl | rfl | rfl | rfl | rfl | rfl <;> rfl) (Nat.le_of_ble_eq_true rfl) (Nat.le_of_ble_eq_true rfl) dL_law_8 (fun q17 H hP hD hS => ?_)
  refine lv_dup hx hb dL_law_11 rfl ?_
  have hPc := hP.sub (ws' := [(q17, .inr (1, [.null, .null, .null, .null, .null, .null, .int 0, .int 0, .int 0, .long 0, .null, .null, .null, .int 0]))]) [17] rfl
  have hDc := hD.sub (ws' := [(q17, .inr (1, [.null, .null, .null, .null, .null, .null, .int 0, .int 0, .int 0, .long 0, .null, .null, .null, .int 0]))]) [17] (by decide) rfl
  have hFc := va_free (wc := [(q17, .inr (1, [.null, .null, .null, .null, .null, .null, .int 0, .int 0, .int 0, .long 0, .null, .null, .null, .int 0]))]) hD hS hA [17] rfl
  refine va_callv (va_runI (Ts := WA) (own := RL) (As := []) (rest := [.ref q17]) ⟨hx, hb, hml, hown, hW⟩ (k_X1_init l D T q17 H.size) ⟨callB_of 0 hW (wA_in wm_38) rfl rfl rfl (hW _ wm_5) (hW _ wm_36) (by decide +kernel) ⟨Nat.le_of_ble_eq_true rfl, Nat.le_of_ble_eq_true rfl⟩, rfl, hW _ wm_37⟩ ⟨fun a U g mk q => by obtain ⟨q0, q1, qP, qK, qD⟩ := q; exact ⟨q0, q1, qP, va_K.moved (u := U) (U := U.calling g mk a) (Vm.Alike.refl U.vm) qK, qD⟩, fun U hU hW2 => ⟨rfl, by rw [hU], by rw [hU]; exact hPc, va_K.moved hW2.alike hK, hDc.weaken (fun _ _ _ _ => trivial)⟩⟩ rfl rfl hl.1 rfl (lv_room (Nat.le_of_ble_eq_true rfl)) dL_law_12 ⟨Nat.le_of_ble_eq_true rfl, Nat.le_of_ble_eq_true rfl⟩) hS (fun q _ h => hFc q h) hFc (fun a2 t H1 locs ht hvm hw2 hB hz hk1 hS => ?_)
  obtain ⟨hP1, -, hD1⟩ := hB
  rw [ht] at hP1
  obtain ⟨hP, hD⟩ := va_join (wr := xCells T a WS0) (w1 := mCells T a2 WS0) hP hD [17] [0, 1, 2, 3, 4, 5, 6, 7, 8, 9, 10, 11, 12, 13, 14, 15, 16] rfl rfl (by decide) (by decide) hk1 hFc hP1 hD1
  clear hFc hk1 hP1 hD1 hPc hDc
  have ha2 : a2 0 = q17 := hw2
  generalize H1 = H at hP hS ⊢
  refine lv_astore_n (lv' := [(2, .ref (a2 0)), (1, .ref (a 0)), (0, .ref b)]) hx hb dL_law_15 rfl hl (by decide) (by rw [ha2]; rfl) (fun ls hl => ?_)
  refine lv_iconst (v := 1) hx hb dL_law_16 (by decide) ?_
  refine va_newa (atype := .long) (ty := .long) (N' := 1) (a0 := (1, .inr (.inl (fun _ => 0)))) hx hb (hW _ wm_6) rfl hK hP hD hS hA (fun _ => rfl) (by decide) (by decide) (Nat.le_of_ble_eq_true rfl) (Nat.le_of_ble_eq_true rfl) (Nat.le_of_ble_eq_true rfl) dL_law_17 (fun q cA H hK2 hP hD hS => ?_)
  have ec : cA = T 1 := ra_same hK2 4 1 rfl rfl (fun _ _ => rfl)
  subst ec
  refine lv_astore_n (lv' := [(3, .ref q), (2, .ref (a2 0)), (1, .ref (a 0)), (0, .ref b)]) hx hb dL_law_19 rfl hl (by decide) rfl (fun ls hl => ?_)
  refine lv_iconst (v := 0) hx hb dL_law_20 (by decide) ?_
  refine lv_istore (lv' := [(4, .int (nI (7 * 0))), (3, .ref q), (2, .ref (a2 0)), (1, .ref (a 0)), (0, .ref b)]) hx hb dL_law_21 hl (by decide) rfl (fun ls hl => ?_)
  have hG : GD (gOf s.heap.size D T a a2 q tL) := w3_GD hD
  have hH : HW (gOf s.heap.size D T a a2 q tL) WS0 H := w3_HW hP
  have hKS : KS (gOf s.heap.size D T a a2 q tL) s := ⟨hK, hZ, hTb, hz1, hz2, ⟨hstr, hcst, hdec⟩, hG⟩
  refine W.widen (k := 1000 + 0) (n := 5000 + 6 * 0) (Nat.le_of_ble_eq_true rfl) (Nat.le_of_ble_eq_true rfl) ?_
  exact law_loop l hl0 (g := gOf s.heap.size D T a a2 q tL) ⟨hx, hown, hW, hKS⟩ hN hb hml hr hlocks hX hbl hbA hL (fun _ h => h) 514 0 (by omega) (by omega) 0 WS0 H locs ls RR_0 hH hS (lv_sub hl [4, 3, 2, 1, 0] rfl)
