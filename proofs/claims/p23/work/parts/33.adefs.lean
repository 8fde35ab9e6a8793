/-! the end of an act -/
def AQ (g : gG) : Array Value → State → Outcome → State → Prop := fun _ st o t => o = .returned (some (.int (bI true))) ∧ (∃ (n : Nat) (S' : WS), LR n S' S' ∧ S'.2.2 = [] ∧ HW g S' t.heap) ∧ va_F (Ab g) st t
theorem sm_2 (S : WS) (n t : Nat) : (xSmS S n t).2 = S.2 := (smF_keep n t (levN t) (xSm0 S t (levN t))).2.2.2.2.2.2
theorem spr_2 (S : WS) (n : Nat) : (xSpread S n).2 = S.2 := by
  unfold xSpread
  by_cases c : xTot (xIa S 1) (xCapP S) n ≤ 0
  · rw [if_pos c]
  · rw [if_neg c]
theorem ws_eta (S : WS) (h : S.2.2 = []) : S = (S.1, S.2.1, []) := by
  obtain ⟨X, L, E⟩ := S
  cases h
  rfl
section WACT
variable {p : Program} {l : Launch} {e : Env} {R : Room} {s : State} {m : MethodId} {args : Array Value} {below : List Frame} {meth : Method} {c : Code} {H : Heap} {locs : List Loc} {cells slots : Nat} {Q : State → Prop}
variable {cc : ByteArray} {pc : Nat} {ls : Array Slot} {rest st0 : List Value} {g : gG} {S S' : WS} {own : String} {mc ms n : Nat}
theorem acZ (hcm : cells ≤ mc) (hsm : slots ≤ ms) (C : CW g own p s m args) (hb : c.code = cc) (hr : meth.sig.returnType = some .boolean) (hlk : meth.locks = false) (hP : HW g S' H) (hS : va_S (Ab g) s.heap H locs) {v' : Int32} (hdg : decode cc pc = .ok (.ireturn, 1)) (hv : v' = bI true) (hL : LR n S' S') (hE : S'.2.2 = []) : W p l e R s m args below meth c H locs cells slots (MQ below (AQ g) args s mc ms (Ab g)) (F0 m pc ls [.int v']) := by
  subst hv
  exact W.widen (k := mc) (n := ms) hcm hsm (W.zret C.1 hb hr (bI_nar true) (fun t ht _ => ⟨rfl, ⟨n, S', hL, hE, by rw [ht]; exact hP⟩, hS.F ht⟩) hS.2.2 hdg hlk)
theorem run_wa {a : Array Value} (hr : va_Run p l e R s m args below meth c H locs cells slots mc ms (F0 m pc ls st0) rest (AQ g a) (Ab g)) (hS : va_S (Ab g) s.heap H locs) (kk : ∀ (n' : Nat) (X' : XS) (L' : LAr) (H1 : Heap) (locs1 : List Loc), LR n' (X', L', []) (X', L', []) → HW g (X', L', []) H1 → va_S (Ab g) s.heap H1 locs1 → W p l e R s m args below meth c H1 locs1 (cells + mc) (slots + ms) Q (F0 m (pc + 3) ls (.int (bI true) :: rest))) : W p l e R s m args below meth c H locs cells slots Q (F0 m pc ls st0) := by
  intro T hT X
  obtain ⟨v', st₀, t, T', L, h0, X', hL, e1, e2, ⟨hv, ⟨n', ⟨Y, L', E⟩, hR, hE, hp⟩, hz, hk⟩, st⟩ := hr T hT X
  cases hv
  cases hE
  rw [h0] at hz hk
  obtain ⟨t2, a1, b1⟩ := kk n' Y L' T'.heap (locs ++ L) hR (by rw [e1]; exact hp) ⟨Nat.le_trans hS.1 (by rw [e1]; exact hz), fun q h1 h2 => by rw [e1, hk q (Nat.lt_of_lt_of_le h1 hS.1) h2]; exact hS.2.1 q h1 h2, fun q hq => (List.mem_append.mp hq).elim (hS.2.2 q) (fun h => hL q h)⟩ T' rfl X'
  exact ⟨t2, st t2 a1, b1⟩
end WACT
