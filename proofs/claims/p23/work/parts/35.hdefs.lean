/-! the law's start: a script, no world yet -/
def HPc (g : gG) : Array Value → State → Prop := fun v U => v = ([.ref (gB g)] : List Value).toArray ∧ KS g U ∧ va_AOA .int U ∧ gS0 g ≤ U.heap.size
theorem HPc.blind (g : gG) : FrameBlind (HPc g) := fun a U gg mk h => ⟨h.1, KS.moved (u := U) (U := U.calling gg mk a) (State.WarmedH.refl U) (fun _ _ _ => rfl) h.2.1, va_AOA.moved (u := U) (U := U.calling gg mk a) (Vm.Alike.refl U.vm) h.2.2.1, h.2.2.2⟩
def HQ (g : gG) : Array Value → State → Outcome → State → Prop := fun _ st o t => o = .returned (some (.int (bI true))) ∧ va_F (Ab g) st t
def gOf (g : gG) (a : Nat → Nat) (q1 q2 q3 q4 q5 q6 q7 q8 : Nat) : gG := (gS0 g, gD g, gT g, (fun i => if i < 17 then a i else ([q1, q2, q3, q4, q5, q6, q7, q8] : List Nat).getD (i - 17) 0), gL g, gB g, gN g, gX g)
theorem KS_of (g : gG) (a : Nat → Nat) (q1 q2 q3 q4 q5 q6 q7 q8 : Nat) {U : State} (h : KS g U) : KS (gOf g a q1 q2 q3 q4 q5 q6 q7 q8) U := h
def aCell (T : Nat → ClassId) (q k : Nat) : Nat × va_E := (q, .inl (T 0, k, .inl (fun _ => 0)))
def w8 (T : Nat → ClassId) (a : Nat → Nat) (q1 q2 q3 q4 q5 q6 q7 q8 : Nat) : va_W := xCells T a WS0 ++ [aCell T q1 36, aCell T q2 12, aCell T q3 12, aCell T q4 12, aCell T q5 12, aCell T q6 12, aCell T q7 12, aCell T q8 4]
theorem vp3 {c : ClassId} {f f' : Nat → Option Nat} (h : ∀ i, i < 3 → f i = f' i) : vp_cell c (3, .inr (.inr (.inr (.inr f)))) = vp_cell c (3, .inr (.inr (.inr (.inr f')))) := by
  have e : (fun j : Fin 3 => va_rf (f j.val)) = (fun j : Fin 3 => va_rf (f' j.val)) := funext fun j => by rw [h j.val j.isLt]
  show ({ cls := c, slots := Array.ofFn (n := 3) fun j => va_rf (f j.val), vm := .none } : Cell) = { cls := c, slots := Array.ofFn (n := 3) fun j => va_rf (f' j.val), vm := .none }
  rw [e]
theorem va_D_fst {A : Nat → Prop} {w w' : va_W} (h : w.map (fun q => q.1) = w'.map (fun q => q.1)) (hD : va_D A w) : va_D A w' := by
  have at' : ∀ (i : Nat) (p : Nat × va_E), w'[i]? = some p → ∃ p', w[i]? = some p' ∧ p'.1 = p.1 := fun i p hi => by
    have h1 : (w'.map (fun q => q.1))[i]? = some p.1 := by rw [List.getElem?_map, hi]; rfl
    rw [← h, List.getElem?_map] at h1
    exact Option.map_eq_some_iff.mp h1
  refine ⟨fun i j p q hi hj e => ?_, fun k q hk => ?_⟩
  · obtain ⟨p', h1, h2⟩ := at' i p hi
    obtain ⟨q', h3, h4⟩ := at' j q hj
    exact hD.1 i j p' q' h1 h3 (by rw [h2, h4, e])
  · obtain ⟨q', h1, h2⟩ := at' k q hk
    rw [← h2]
    exact hD.2 k q' h1
theorem w8_HW {g : gG} {a : Nat → Nat} {q1 q2 q3 q4 q5 q6 q7 q8 : Nat} {H : Heap} (h : va_P (gD g) vwCl (w8 (gT g) a q1 q2 q3 q4 q5 q6 q7 q8) H) (hD : va_D (Ab g) (w8 (gT g) a q1 q2 q3 q4 q5 q6 q7 q8)) : HW (gOf g a q1 q2 q3 q4 q5 q6 q7 q8) (XS0, fun _ _ => 0, []) H := by
  have lo : ∀ i, i < 17 → gA (gOf g a q1 q2 q3 q4 q5 q6 q7 q8) i = a i := fun i hi => if_pos hi
  have hD2 : va_D (Ab (gOf g a q1 q2 q3 q4 q5 q6 q7 q8)) (w8 (gT g) a q1 q2 q3 q4 q5 q6 q7 q8) := hD
  refine ⟨fun k x hk => ?_, va_D_fst (w := w8 (gT g) a q1 q2 q3 q4 q5 q6 q7 q8) rfl hD2⟩
  match k, hk with
  | 0, hk => exact h 0 x hk
  | 1, hk =>
    cases hk
    have h1 : H[a 1]? = some (vp_cell (gT g 3) (3, .inr (.inr (.inr (.inr (fun i => some (a (3 + i)))))))) := h 1 _ rfl
    show H[a 1]? = some (vp_cell (gT g 3) (3, .inr (.inr (.inr (.inr (fun i => some (gA (gOf g a q1 q2 q3 q4 q5 q6 q7 q8) (3 + i))))))))
    rw [h1, vp3 (fun i hi => by show some (a (3 + i)) = some (gA (gOf g a q1 q2 q3 q4 q5 q6 q7 q8) (3 + i)); rw [lo _ (show 3 + i < 17 by omega)])]
  | 2, hk =>
    cases hk
    have h1 : H[a 2]? = some (vp_cell (gT g 3) (3, .inr (.inr (.inr (.inr (fun i => some (a (6 + i)))))))) := h 2 _ rfl
    show H[a 2]? = some (vp_cell (gT g 3) (3, .inr (.inr (.inr (.inr (fun i => some (gA (gOf g a q1 q2 q3 q4 q5 q6 q7 q8) (6 + i))))))))
    rw [h1, vp3 (fun i hi => by show some (a (6 + i)) = some (gA (gOf g a q1 q2 q3 q4 q5 q6 q7 q8) (6 + i)); rw [lo _ (show 6 + i < 17 by omega)])]
  | k + 3, hk => exact h (k + 3) x hk
def lf0 (i : Nat) : LAr := va_up (fun _ _ => 0) 6 (fil (fun _ => 10000) (fun _ => 0) i)
def LS0 : LAr := lM (lM (lf0 12) 2 (-1)) 3 10000
theorem lf0_0 : lf0 0 = fun _ _ => 0 := by
  unfold lf0
  rw [fil_0]
  funext j
  unfold va_up
  by_cases h : j = 6
  · rw [if_pos h]
  · rw [if_neg h]
theorem lf0_s (i : Nat) : va_up (lf0 i) 6 (upd (lf0 i 6) i 10000) = lf0 (i + 1) := by
  have e : lf0 i 6 = fil (fun _ => 10000) (fun _ => 0) i := va_up_self _ _ _
  rw [e]
  unfold lf0
  rw [bx_uu, fil_sI (fun _ => 10000) (fun _ => 0) i]
theorem pass_0 {S : WS} {t : Nat} (h : xBase S = 0) : xPass S 0 t = S ∧ xPassC S 0 t = 0 := by
  have hf : ∀ k, xFound S 0 t k = xFac S t k := fun k => if_pos (show (0 : Int64) ≤ 0 by decide)
  have e1 : xPassF S 0 t = S := by
    unfold xPassF
    have e2 : fil (xFound S 0 t) (xFac S t) (levN t) = xFac S t := by
      funext k
      unfold fil
      by_cases c : k < levN t
      · rw [if_pos c, hf k]
      · rw [if_neg c]
    rw [e2]
    exact fac_self S t
  have e3 : xBase1 S 0 = 0 := if_pos (show (0 : Int64) ≤ 0 by decide)
  have e4 : xsBase S 0 = S := by
    rw [← h]
  constructor
  · unfold xPass
    rw [e1]
    unfold xRefit
    rw [e3, fil_0, e4]
    exact lng_self S 3
  · exact xCnt_z (fun i _ => by unfold xPasP; rw [hf i, decide_eq_true rfl]; rfl)
theorem settle_0 {S : WS} (h : xBase S = 0) : xSettle 0 60 1 S = (1, S) := by
  have p0 := pass_0 (t := 0) h
  have p1 := pass_0 (t := 1) h
  have p2 := pass_0 (t := 2) h
  have e1 : xRound S 0 1 = S := p0.1
  have e2 : xRound S 0 2 = S := by show xPass (xRound S 0 1) 0 1 = S; rw [e1]; exact p1.1
  have e3 : xRound S 0 3 = S := by show xPass (xRound S 0 2) 0 2 = S; rw [e2]; exact p2.1
  have c : xRoundC S 0 3 = 0 := by
    show 0 + xPassC S 0 0 + xPassC (xRound S 0 1) 0 1 + xPassC (xRound S 0 2) 0 2 = 0
    rw [e1, e2, p0.2, p1.2, p2.2]
  have e : xSettle 0 60 1 S = (1, xRound S 0 3) := if_pos c
  rw [e, e3]
theorem lr_0 : LR 0 (XS0, LS0, []) (XS0, LS0, []) := by
  refine ⟨⟨⟨by decide, rfl, fun t k _ h => absurd h (Nat.not_lt_zero k), fun k h => absurd h (Nat.not_lt_zero k), 0, by decide, rfl⟩, by decide, fun t k _ h => absurd h (Nat.not_lt_zero k), fun k h => absurd h (Nat.not_lt_zero k), fun t k ht hk => ⟨10000, by decide, by decide, ?_⟩, Or.inl rfl, ⟨10000, by decide, by decide, rfl⟩, rfl, rfl, fun k h => absurd h (Nat.not_lt_zero k)⟩,
    rfl, fun k h => absurd h (Nat.not_lt_zero k), fun t k _ h => absurd h (Nat.not_lt_zero k), fun k h => absurd h (Nat.not_lt_zero k), fun t k ht hk => ?_, rfl, rfl, rfl⟩
  · have h4 := levN_4 t
    show fil (fun _ => 10000) (fun _ => 0) 4 k = nI 10000
    rw [fil_lo (by omega)]; rfl
  · have h4 := levN_4 t
    show fil (fun _ => 10000) (fun _ => 0) 12 (4 * t + k) = fil (fun _ => 10000) (fun _ => 0) 4 k
    rw [fil_lo (by omega), fil_lo (by omega)]
section WHOLD
variable {p : Program} {l : Launch} {e : Env} {R : Room} {s : State} {m : MethodId} {args : Array Value} {below : List Frame} {meth : Method} {c : Code} {H : Heap} {locs : List Loc} {cells slots : Nat} {Q : State → Prop}
variable {cc : ByteArray} {pc : Nat} {ls : Array Slot} {rest st0 : List Value} {g : gG} {S S' : WS} {own : String} {mc ms : Nat}
theorem metH {y : MethodName} {maxL : Nat} {ret : Option FieldType} {rm : Room} {Qc : Array Value → State → Outcome → State → Prop} {free : Addr → Prop} (hy : plainName y.cls = true) (hlen : (lg_sl [Value.ref (gB g)]).length ≤ maxL)
    (body : ∀ p e s m below meth c, CW g y.cls p s m ([.ref (gB g)] : List Value).toArray → va_AOA .int s → gS0 g ≤ s.heap.size → c.code = cc → c.maxLocals = maxL → meth.sig.returnType = ret → meth.locks = false → ∀ ls, lv_has ls maxL (lv_args 0 [.ref (gB g)]) → W p l e rm s m ([.ref (gB g)] : List Value).toArray below meth c s.heap [] 0 0 (MQ below Qc ([.ref (gB g)] : List Value).toArray s mc ms free) (F0 m 0 ls [])) : Met l y (wA y cc maxL ret) rm (HPc g) Qc mc ms free := by
  refine Met.ofW (cc := cc) (maxL := maxL) (ret := ret) hy rfl ?_
  intro p e s m args below meth c s₁ B hml hv
  obtain ⟨rfl, hK, hA, hz⟩ := hv
  have hts := atoms_spec (ws := wA y cc maxL ret) B.pre
  rw [lg_entry_eq]
  exact body p e s m below meth c ⟨B.exec, findClass_of_methodNamed B.named, fun w h => hts w (List.mem_cons_of_mem _ h), hK⟩ hA hz B.bytes hml B.returns B.notSynchronized _ (lv_entry [.ref (gB g)] hlen)
theorem metHL {y : MethodName} {maxL : Nat} {ret : Option FieldType} {hh : List (Nat × Nat × Nat × Nat)} {rm : Room} {Qc : Array Value → State → Outcome → State → Prop} {free : Addr → Prop} (hy : plainName y.cls = true) (hlen : (lg_sl [Value.ref (gB g)]).length ≤ maxL)
    (body : ∀ p e s m below meth c, CW g y.cls p s m ([.ref (gB g)] : List Value).toArray → va_AOA .int s → gS0 g ≤ s.heap.size → c.code = cc → c.maxLocals = maxL → meth.sig.returnType = ret → meth.locks = false → ∀ ls, lv_has ls maxL (lv_args 0 [.ref (gB g)]) → W p l e rm s m ([.ref (gB g)] : List Value).toArray below meth c s.heap [] 0 0 (MQ below Qc ([.ref (gB g)] : List Value).toArray s mc ms free) (F0 m 0 ls [])) : Met l y (wL y cc maxL ret hh) rm (HPc g) Qc mc ms free := by
  refine MetFree.of_bodyS (code := cc) (maxLocals := maxL) (ret := ret) hy ?_ ?_
  · intro args s m h hn
    obtain ⟨m9, meth, c, hn9, h1, h2, h3, h4, -, h5, h6, -⟩ := Cond.codeWith_spec (atoms_spec (ws := wL y cc maxL ret hh) h _ List.mem_cons_self)
    cases hn.symm.trans hn9
    exact ⟨meth, c, h1, h2, h3, h4, h5, h6⟩
  · intro p e s m args below meth c s₁ B hml hP _
    obtain ⟨rfl, hK, hA, hz⟩ := hP
    have hh0 : s₁.heap = s.heap := by rw [B.state]; rfl
    have hts := atoms_spec (ws := wL y cc maxL ret hh) B.pre
    have k2 : W p l e rm s m ([.ref (gB g)] : List Value).toArray below meth c s.heap [] 0 0 (MQ below Qc ([.ref (gB g)] : List Value).toArray s mc ms free) (entryFrame m ([.ref (gB g)] : List Value).toArray maxL) := by
      rw [lg_entry_eq]
      exact body p e s m below meth c ⟨B.exec, findClass_of_methodNamed B.named, fun w h => hts w (List.mem_cons_of_mem _ h), hK⟩ hA hz B.bytes hml B.returns B.notSynchronized _ (lv_entry [.ref (gB g)] hlen)
    obtain ⟨t, a1, o, b1, b2, b3⟩ := k2 s₁ hh0 (Stand.of_body B)
    exact ⟨t, o, a1, b1, b2, b3⟩
theorem hqZ (hcm : cells ≤ mc) (hsm : slots ≤ ms) (C : CW g own p s m args) (hb : c.code = cc) (hr : meth.sig.returnType = some .boolean) (hlk : meth.locks = false) (hS : va_S (Ab g) s.heap H locs) {v' : Int32} (hdg : decode cc pc = .ok (.ireturn, 1)) (hv : v' = bI true) : W p l e R s m args below meth c H locs cells slots (MQ below (HQ g) args s mc ms (Ab g)) (F0 m pc ls [.int v']) := by
  subst hv
  exact W.widen (k := mc) (n := ms) hcm hsm (W.zret C.1 hb hr (bI_nar true) (fun t ht _ => ⟨rfl, hS.F ht⟩) hS.2.2 hdg hlk)
/-- a call over the script alone -/
theorem cRunH (C : CW g own p s m args) (hA : va_AOA .int s) (hz : gS0 g ≤ H.size) (hb : c.code = cc) (hml : c.maxLocals = ls.size) (hS : va_S (Ab g) s.heap H locs) {y : MethodName} {bytes : ByteArray} {maxL index : Nat} {ret : Option FieldType} {rm : Room} {Qc : Array Value → State → Outcome → State → Prop} {free : Addr → Prop}
    (hM : Met l y (wA y bytes maxL ret) rm (HPc g) Qc mc ms free) (k1 : Cond.methodLink own index y ∈ WA) (k2 : Cond.static y ∈ WA) (k3 : Cond.code y bytes maxL ret ∈ WA) (k4 : Cond.initialized y.cls ∈ WA)
    (hd : y.cls ≠ "java/lang/invoke/MethodHandle" ∧ y.cls ≠ "java/lang/invoke/VarHandle" ∧ (parseMethodDescriptor y.desc).map (fun d => d.parameters.length) = some 1) (hR : rm.cells = mc ∧ rm.slots = ms ∧ rm.frames + 1 ≤ R.frames ∧ 8 + (maxL + 11) + rm.locals ≤ R.locals)
    (hf : cells + mc ≤ R.cells ∧ slots + ms ≤ R.slots) (hdg : decode cc pc = .ok (.invokestatic index, 3)) : va_Run p l e R s m args below meth c H locs cells slots mc ms (F0 m pc ls [.ref (gB g)]) [] (Qc ([.ref (gB g)] : List Value).toArray) free :=
  va_runS (Ts := WA) (own := own) (As := [.ref (gB g)]) ⟨C.1, hb, hml, C.2.1, C.2.2.1⟩ hM ⟨callB_of 1 C.2.2.1 (wA_in k3) rfl hR.1 hR.2.1 (C.2.2.1 _ k4) (C.2.2.1 _ k1) hd hR.2.2, C.2.2.1 _ k2⟩ ⟨HPc.blind g, fun U hU hW => ⟨rfl, KS.at C hS hU hW, va_AOA.moved hW.alike hA, by rw [hU]; exact hz⟩⟩ rfl rfl rfl rfl (lv_room (Nat.zero_le _)) hdg hf
theorem cRunHL (C : CW g own p s m args) (hA : va_AOA .int s) (hz : gS0 g ≤ H.size) (hb : c.code = cc) (hml : c.maxLocals = ls.size) (hS : va_S (Ab g) s.heap H locs) {y : MethodName} {bytes : ByteArray} {maxL index : Nat} {ret : Option FieldType} {hh : List (Nat × Nat × Nat × Nat)} {rm : Room} {Qc : Array Value → State → Outcome → State → Prop} {free : Addr → Prop}
    (hM : Met l y (wL y bytes maxL ret hh) rm (HPc g) Qc mc ms free) (k1 : Cond.methodLink own index y ∈ WA) (k2 : Cond.static y ∈ WA) (k3 : Cond.codeWith y bytes maxL ret hh ∈ WA) (k4 : Cond.initialized y.cls ∈ WA)
    (hd : y.cls ≠ "java/lang/invoke/MethodHandle" ∧ y.cls ≠ "java/lang/invoke/VarHandle" ∧ (parseMethodDescriptor y.desc).map (fun d => d.parameters.length) = some 1) (hR : rm.cells = mc ∧ rm.slots = ms ∧ rm.frames + 1 ≤ R.frames ∧ 8 + (maxL + 11) + rm.locals ≤ R.locals)
    (hf : cells + mc ≤ R.cells ∧ slots + ms ≤ R.slots) (hdg : decode cc pc = .ok (.invokestatic index, 3)) : va_Run p l e R s m args below meth c H locs cells slots mc ms (F0 m pc ls [.ref (gB g)]) [] (Qc ([.ref (gB g)] : List Value).toArray) free :=
  vx_runSW (Ts := WA) (own := own) (hh := hh) (bytes := bytes) (maxL := maxL) (ret := ret) (n := 1) (index := index) (As := [.ref (gB g)]) ⟨C.1, hb, hml, C.2.1, C.2.2.1⟩ hM ⟨⟨hR.1, hR.2.1, hR.2.2.1, hR.2.2.2, pay_in C.2.2.1 (wL_in k3), List.mem_cons_self⟩, C.2.2.1 _ k3, C.2.2.1 _ k4, ⟨hd.1, hd.2.1⟩, fun sig h => by
      have h2 := hd.2.2
      rw [h] at h2
      exact (Option.some.inj h2).symm, C.2.2.1 _ k1, C.2.2.1 _ k2⟩ ⟨HPc.blind g, fun U hU hW => ⟨rfl, KS.at C hS hU hW, va_AOA.moved hW.alike hA, by rw [hU]; exact hz⟩⟩ rfl rfl rfl rfl (lv_room (Nat.zero_le _)) hdg hf
theorem run_hq {a : Array Value} (hr : va_Run p l e R s m args below meth c H locs cells slots mc ms (F0 m pc ls st0) rest (HQ g a) (Ab g)) (hS : va_S (Ab g) s.heap H locs) (kk : ∀ (H1 : Heap) (locs1 : List Loc), va_S (Ab g) s.heap H1 locs1 → W p l e R s m args below meth c H1 locs1 (cells + mc) (slots + ms) Q (F0 m (pc + 3) ls (.int (bI true) :: rest))) : W p l e R s m args below meth c H locs cells slots Q (F0 m pc ls st0) := by
  intro T hT X
  obtain ⟨v', st₀, t, T', L, h0, X', hL, e1, e2, ⟨hv, hz, hk⟩, st⟩ := hr T hT X
  cases hv
  rw [h0] at hz hk
  obtain ⟨t2, a1, b1⟩ := kk T'.heap (locs ++ L) ⟨Nat.le_trans hS.1 (by rw [e1]; exact hz), fun q h1 h2 => by rw [e1, hk q (Nat.lt_of_lt_of_le h1 hS.1) h2]; exact hS.2.1 q h1 h2, fun q hq => (List.mem_append.mp hq).elim (hS.2.2 q) (fun h => hL q h)⟩ T' rfl X'
  exact ⟨t2, st t2 a1, b1⟩
/-- a static call over a stack of up to 16 words -/
theorem cRunS16 (C : CW g own p s m args) (hb : c.code = cc) (hml : c.maxLocals = ls.size) (hP : HW g S H) (hS : va_S (Ab g) s.heap H locs) {y : MethodName} {bytes : ByteArray} {maxL index n : Nat} {ret : Option FieldType} {rm : Room} {As : List Value} {Qc : Array Value → State → Outcome → State → Prop} {free : Addr → Prop}
    (hM : Met l y (wA y bytes maxL ret) rm (PW g S As) Qc 0 0 free) (k1 : Cond.methodLink own index y ∈ WA) (k2 : Cond.static y ∈ WA) (k3 : Cond.code y bytes maxL ret ∈ WA) (k4 : Cond.initialized y.cls ∈ WA)
    (hd : y.cls ≠ "java/lang/invoke/MethodHandle" ∧ y.cls ≠ "java/lang/invoke/VarHandle" ∧ (parseMethodDescriptor y.desc).map (fun d => d.parameters.length) = some n) (hn : As.length = n) (hR : rm.cells = 0 ∧ rm.slots = 0 ∧ rm.frames + 1 ≤ R.frames ∧ 16 + (maxL + 11) + rm.locals ≤ R.locals)
    (hroom : (rest.map fun v => v.category).sum ≤ 16) (hst : st0 = As.reverse ++ rest) (hf : cells ≤ R.cells ∧ slots ≤ R.slots) (hdg : decode cc pc = .ok (.invokestatic index, 3)) : va_Run p l e R s m args below meth c H locs cells slots 0 0 (F0 m pc ls st0) rest (Qc As.toArray) free := by
  have hini := C.2.2.1 _ k4
  have hK : Back l R p e below s args y 3 16 (PreOf R 0 0 (PW g S As)) (PostOf Qc 0 0 free) := back_of (bytes := bytes) (maxL := maxL) (ret := ret) hM (PW.blind g S As) hR.1 hR.2.1 hR.2.2.1 hR.2.2.2 (pay_in C.2.2.1 (wA_in k3)) List.mem_cons_self (fun a' U hW => word_at hW (Or.inl (by first | rfl | simp [Cond.onTables, Cond.keeps, Cond.steady])) hini)
  intro T hT X
  obtain ⟨v, vm₁, ⟨U', l2, c2, s2⟩, hW₁, X', ⟨g', mk, t, L, e1, e2, hq, h1, hL, h2, h3⟩, st⟩ := callS X C.1 (bytes := bytes) (maxL := maxL) (ret := ret) C.2.1 (C.2.2.1 _ k1) (C.2.2.1 _ k2) hini (C.2.2.1 _ k3) ⟨hd.1, hd.2.1⟩ hK (g := F0 m pc ls st0) rfl hml.symm (argsL := As) (rest := rest) (fun sig h => hn.trans (by
      have h2 := hd.2.2
      rw [h] at h2
      exact (Option.some.inj h2).symm)) hst (by show 2 * 0 + _ ≤ 16; omega) (by rw [hb]; exact hdg)
    (fun vm₁ hW₁ => ⟨hf.1, hf.2, rfl, KS.at C hS (U := T.setVm vm₁) hT hW₁, by show HW g S T.heap; rw [hT]; exact hP⟩)
  dsimp only [Pt.U, Pt.locs, Pt.cells, Pt.slots] at X' e1 e2 h1 h2 h3 st
  subst h1; subst h2; subst h3
  exact ⟨v, (T.setVm vm₁).calling g' mk As.toArray, t, U', L, hT, X', hL, e1, e2, hq, st⟩
end WHOLD
