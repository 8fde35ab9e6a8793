set_option maxRecDepth 100000 in
set_option maxHeartbeats 4000000 in
theorem whole_start {p : Program} {e : Env} {s : State} {m : MethodId} {below : List Frame} {meth : Method} {c : Code} (l : Launch) (hflags : l.flags = flags0) {b L : Nat} {xs : Nat → Int32} (hL : L ≤ 260) (C0 : lw_At p s m meth c b L xs) : W p l e room_1 s m #[Value.ref b] below meth c s.heap [] 0 0 (lw_Z below #[Value.ref b] s) (entryFrame m ([Value.ref b] : List Value).toArray 1) := by
  obtain ⟨hx, hb, hr, hml, hown, hts, hX, hbl, hlocks, hgv⟩ := id C0
  have hl0 : l.stackTraces = false := by
    unfold Launch.stackTraces
    rw [hflags]
    decide +kernel
  have hW : ∀ w ∈ WA, w.before #[Value.ref b] s = true := fun w h => hts w (WA_tbl w h)
  have hnA : ∀ a : Nat, a < s.heap.size → ¬ (fun q : Nat => s.heap.size ≤ q) a := fun a h => Nat.not_le.mpr h
  have hbA : ¬ (fun q : Nat => s.heap.size ≤ q) b := hnA b hbl
  obtain ⟨D, T, tL, hK, hZ, hTb⟩ := known hts hgv (fun A e a h => by subst e; exact Nat.not_le.mpr h)
  obtain ⟨hstr, hcst, hdec⟩ := known2 hts hgv
  obtain ⟨hz1, hz2⟩ := known3 hts hgv hnA
  have hAO : va_AOA .int s := va_AOA.of (hts _ tb_8)
  obtain ⟨g, hg⟩ : ∃ g : gG, g = (s.heap.size, D, T, fun _ => 0, tL, b, L, xs) := ⟨_, rfl⟩
  have hKS : KS g s := by
    rw [hg]
    exact ⟨hK, hZ, hTb, hz1, hz2, ⟨hstr, hcst, hdec⟩, hX, hbl, hbA, hL⟩
  have hgB : gB g = b := by rw [hg]
  have hgS : gS0 g = s.heap.size := by rw [hg]
  subst hgB
  have hS : va_S (Ab g) s.heap s.heap [] := va_S.rf
  have C : CW g RL p s m #[Value.ref (gB g)] := ⟨hx, hown, hW, hKS⟩
  have hl := lv_entry ([.ref (gB g)]) (n := 1) (Nat.le_of_ble_eq_true rfl)
  rw [lg_entry_eq]
  generalize (lg_sl ([.ref (gB g)]) ++ List.replicate (1 - (lg_sl ([.ref (gB g)])).length) Slot.unset).toArray = ls at hl ⊢
  have hl : lv_has ls 1 [(0, .ref (gB g))] := hl
  refine lv_aload_n hx hb dL_law_0 rfl (lv_at hl 0 rfl) ?_
  refine run_hq (cRunHL C hAO (Nat.le_of_eq hgS) hb (hml.trans hl.1.symm) hS (k_L_isHeld l hl0 g) wm_0 wm_1 wm_3 wm_2 (by decide +kernel) ⟨rfl, rfl, Nat.le_of_ble_eq_true rfl, Nat.le_of_ble_eq_true rfl⟩ ⟨Nat.le_of_ble_eq_true rfl, Nat.le_of_ble_eq_true rfl⟩ dL_law_1) hS (fun H locs hS => ?_)
  refine va_forget (fun q hq => by have := hS.2.2 q hq; rw [← hgS]; exact this) ?_
  refine W.widen (k := 600074) (n := 7301549) (Nat.le_of_ble_eq_true rfl) (Nat.le_of_ble_eq_true rfl) ?_
  exact lw_ret hx hb hr hlocks dL_law_4
