/-! calls of methods that may throw; rowTold catches -/
abbrev wL (y : MethodName) (cc : ByteArray) (n : Nat) (ret : Option FieldType) (hh : List (Nat × Nat × Nat × Nat)) : List Cond := Cond.codeWith y cc n ret hh :: WA
theorem wL_in {y : MethodName} {bytes : ByteArray} {maxL : Nat} {ret : Option FieldType} {hh : List (Nat × Nat × Nat × Nat)} (k : Cond.codeWith y bytes maxL ret hh ∈ WA) : GoodIn WA (wL y bytes maxL ret hh) := by
  intro w hw
  have h : w ∈ WA := (List.mem_cons.mp hw).elim (fun q => by rw [q]; exact k) id
  exact ⟨h, good_of_word (List.all_eq_true.mp WA_good w h)⟩

section WLAW
variable {p : Program} {l : Launch} {e : Env} {R : Room} {s : State} {m : MethodId} {args : Array Value} {below : List Frame} {meth : Method} {c : Code} {H : Heap} {locs : List Loc} {cells slots : Nat} {Q : State → Prop}
variable {cc : ByteArray} {pc : Nat} {ls : Array Slot} {rest st0 : List Value} {g : gG} {S S' : WS} {own : String} {ex : Option String} {mc ms : Nat}

theorem metL {y : MethodName} {maxL : Nat} {ret : Option FieldType} {hh : List (Nat × Nat × Nat × Nat)} {rm : Room} {As : List Value} {Qc : Array Value → State → Outcome → State → Prop} {free : Addr → Prop} (hy : plainName y.cls = true) (hlen : (lg_sl As).length ≤ maxL)
    (body : ∀ p e s m below meth c, CW g y.cls p s m As.toArray → c.code = cc → c.maxLocals = maxL → meth.sig.returnType = ret → meth.locks = false → HW g S s.heap → c.exceptionTable.toList = tableOf hh → ∀ ls, lv_has ls maxL (lv_args 0 As) → W p l e rm s m As.toArray below meth c s.heap [] 0 0 (MQ below Qc As.toArray s mc ms free) (F0 m 0 ls [])) : Met l y (wL y cc maxL ret hh) rm (PW g S As) Qc mc ms free := by
  refine MetFree.of_bodyS (code := cc) (maxLocals := maxL) (ret := ret) hy ?_ ?_
  · intro args s m h hn
    obtain ⟨m9, meth, c, hn9, h1, h2, h3, h4, -, h5, h6, -⟩ := Cond.codeWith_spec (atoms_spec (ws := wL y cc maxL ret hh) h _ List.mem_cons_self)
    cases hn.symm.trans hn9
    exact ⟨meth, c, h1, h2, h3, h4, h5, h6⟩
  · intro p e s m args below meth c s₁ B hml hP _
    obtain ⟨rfl, hK, hP⟩ := hP
    have hh0 : s₁.heap = s.heap := by rw [B.state]; rfl
    have hts := atoms_spec (ws := wL y cc maxL ret hh) B.pre
    have het := vx_table (x := y) B (hts _ List.mem_cons_self)
    have k2 : W p l e rm s m As.toArray below meth c s.heap [] 0 0 (MQ below Qc As.toArray s mc ms free) (entryFrame m As.toArray maxL) := by
      rw [lg_entry_eq]
      exact body p e s m below meth c ⟨B.exec, findClass_of_methodNamed B.named, fun w h => hts w (List.mem_cons_of_mem _ h), hK⟩ B.bytes hml B.returns B.notSynchronized hP het _ (lv_entry As hlen)
    obtain ⟨t, a1, o, b1, b2, b3⟩ := k2 s₁ hh0 (Stand.of_body B)
    exact ⟨t, o, a1, b1, b2, b3⟩

/-- a call of one of the class's methods that may throw -/
theorem cRunTX (C : CW g own p s m args) (hb : c.code = cc) (hml : c.maxLocals = ls.size) (hP : HW g S H) (hS : va_S (Ab g) s.heap H locs) {y : MethodName} {bytes : ByteArray} {maxL index n : Nat} {ret : Option FieldType} {rm : Room} {As : List Value} {Qc : Array Value → State → Outcome → State → Prop} {XC : String → State → State → Prop} {free : Addr → Prop} (hy : y.cls = RX0)
    (hM : vx_Met l y (wA y bytes maxL ret) rm (PW g S (.ref (gA g 0) :: As)) Qc XC 1 6 free) (k1 : Cond.methodLink own index y ∈ WA) (k2 : Cond.instanceMethod y ∈ WA) (k5 : Cond.selects y.cls y y ∈ WA) (k3 : Cond.code y bytes maxL ret ∈ WA) (k4 : Cond.initialized y.cls ∈ WA)
    (hd : y.cls ≠ "java/lang/invoke/MethodHandle" ∧ y.cls ≠ "java/lang/invoke/VarHandle" ∧ (parseMethodDescriptor y.desc).map (fun d => d.parameters.length) = some n) (hn : As.length = n) (hR : rm.cells = 1 ∧ rm.slots = 6 ∧ rm.frames + 1 ≤ R.frames ∧ 8 + (maxL + 11) + rm.locals ≤ R.locals)
    (hroom : (rest.map fun v => v.category).sum ≤ 8) (hst : st0 = As.reverse ++ .ref (gA g 0) :: rest) (hf : cells + 1 ≤ R.cells ∧ slots + 6 ≤ R.slots) (hdg : decode cc pc = .ok (.invokevirtual index, 3)) : vx_Run p l e R s m args below meth c H locs cells slots 1 6 (F0 m pc ls st0) rest (Qc (Value.ref (gA g 0) :: As).toArray) XC free :=
  vx_runV (Ts := WA) (own := own) (C := y.cls) ⟨C.1, hb, hml, C.2.1, C.2.2.1⟩ hM ⟨callB_of n C.2.2.1 (wA_in k3) rfl hR.1 hR.2.1 (C.2.2.1 _ k4) (C.2.2.1 _ k1) hd hR.2.2, C.2.2.1 _ k2, C.2.2.1 _ k5⟩ ⟨PW.blind g S _, by rw [hy]; exact va_recv (ci := 0) (q0 := 0) C.2.2.2.1 hP.1 rfl rfl, fun U hU hW => ⟨rfl, KS.at C hS hU hW, by rw [hU]; exact hP⟩⟩ rfl hn rfl hst (lv_room hroom) hdg hf
theorem run_tx {a : Array Value} {v : Value} (hr : vx_Run p l e R s m args below meth c H locs cells slots 1 6 (F0 m pc ls st0) rest (TQ g S' ex (some v) a) (TX g S' ex) (Ab g)) (hS : va_S (Ab g) s.heap H locs)
    (kx : ∀ (E : String) (q9 : Addr) (ce : Cell) (H1 : Heap) (locs1 : List Loc), ex = some E → HW g S' H1 → va_S (Ab g) s.heap H1 locs1 → H1[q9]? = some ce → ce.vm = .none → s.vm.findClass E = some ce.cls → vx_W p l e R s m args below meth c H1 locs1 (cells + 1) (slots + 6) Q (F0 m pc ls rest) q9)
    (kk : ∀ (H1 : Heap) (locs1 : List Loc), ex = none → HW g S' H1 → va_S (Ab g) s.heap H1 locs1 → W p l e R s m args below meth c H1 locs1 (cells + 1) (slots + 6) Q (F0 m (pc + 3) ls (v :: rest))) : W p l e R s m args below meth c H locs cells slots Q (F0 m pc ls st0) := by
  intro T hT X
  rcases hr T hT X with ⟨v', st₀, t, T', L, h0, X', hL, e1, e2, ⟨he, hv, hp, hF⟩, st⟩ | ⟨q, st₀, t, T', L, E, ce, h0, X', hL, e1, e2, ⟨he, hp, hF⟩, hce, hcv, hcl, st⟩
  · cases hv
    obtain ⟨-, -, k3⟩ := vx_keep h0 e1 hS (fun _ _ h => h) (fun _ h => h) hL hF
    obtain ⟨t2, a1, b1⟩ := kk T'.heap (locs ++ L) he (by rw [e1]; exact hp) k3 T' rfl X'
    exact ⟨t2, st t2 a1, b1⟩
  · obtain ⟨-, -, k3⟩ := vx_keep h0 e1 hS (fun _ _ h => h) (fun _ h => h) hL hF
    obtain ⟨t2, a1, b1⟩ := kx E q ce T'.heap (locs ++ L) he (by rw [e1]; exact hp) k3 (by rw [e1]; exact hce) hcv hcl T' rfl X'
    exact ⟨t2, st.trans a1, b1⟩

theorem run_txn {a : Array Value} {v : Value} (hr : vx_Run p l e R s m args below meth c H locs cells slots 1 6 (F0 m pc ls st0) rest (TQ g S' ex (some v) a) (TX g S' ex) (Ab g)) (hx : ex = none) (hS : va_S (Ab g) s.heap H locs)
    (kk : ∀ (H1 : Heap) (locs1 : List Loc), HW g S' H1 → va_S (Ab g) s.heap H1 locs1 → W p l e R s m args below meth c H1 locs1 (cells + 1) (slots + 6) Q (F0 m (pc + 3) ls (v :: rest))) : W p l e R s m args below meth c H locs cells slots Q (F0 m pc ls st0) :=
  run_tx hr hS (fun E q9 ce H1 locs1 he => by rw [hx] at he; cases he) (fun H1 locs1 _ hP hS => kk H1 locs1 hP hS)

/-- caught by the table's first row -/
theorem lcatch0 (C : CW g RL p s m args) {E : String} {ce : Cell} {q : Addr} (x : ExceptionTableEntry) (suf : List ExceptionTableEntry) (hsplit : c.exceptionTable.toList = x :: suf) (hx : covers x pc = true) (h0 : x.catchType ≠ 0)
    (hlink : Cond.classLink RL x.catchType E ∈ WA) (hE : E ∈ exsX) (hcell : H[q]? = some ce) (hv : ce.vm = .none) (hcl : s.vm.findClass E = some ce.cls) (kk : W p l e R s m args below meth c H locs cells slots Q (F0 m x.handlerPc ls [.ref q])) : vx_W p l e R s m args below meth c H locs cells slots Q (F0 m pc ls rest) q :=
  vx_catch C.2.1 [] x suf hsplit (fun z hz => nomatch hz) hx h0 (C.2.2.1 _ hlink) (va_Nw.use rfl (C.2.2.2.2.2.2.2.2.1.2.1 _ hE)) hcell hv hcl kk

/-- a call of a helper -/
theorem cRunL (C : CW g own p s m args) (hb : c.code = cc) (hml : c.maxLocals = ls.size) (hP : HW g S H) (hS : va_S (Ab g) s.heap H locs) {y : MethodName} {bytes : ByteArray} {maxL index n : Nat} {ret : Option FieldType} {hh : List (Nat × Nat × Nat × Nat)} {rm : Room} {As : List Value} {Qc : Array Value → State → Outcome → State → Prop} {free : Addr → Prop}
    (hM : Met l y (wL y bytes maxL ret hh) rm (PW g S As) Qc mc ms free) (k1 : Cond.methodLink own index y ∈ WA) (k2 : Cond.static y ∈ WA) (k3 : Cond.codeWith y bytes maxL ret hh ∈ WA) (k4 : Cond.initialized y.cls ∈ WA)
    (hd : y.cls ≠ "java/lang/invoke/MethodHandle" ∧ y.cls ≠ "java/lang/invoke/VarHandle" ∧ (parseMethodDescriptor y.desc).map (fun d => d.parameters.length) = some n) (hn : As.length = n) (hR : rm.cells = mc ∧ rm.slots = ms ∧ rm.frames + 1 ≤ R.frames ∧ 8 + (maxL + 11) + rm.locals ≤ R.locals)
    (hroom : (rest.map fun v => v.category).sum ≤ 8) (hst : st0 = As.reverse ++ rest) (hf : cells + mc ≤ R.cells ∧ slots + ms ≤ R.slots) (hdg : decode cc pc = .ok (.invokestatic index, 3)) : va_Run p l e R s m args below meth c H locs cells slots mc ms (F0 m pc ls st0) rest (Qc As.toArray) free :=
  vx_runSW (Ts := WA) (own := own) (hh := hh) (bytes := bytes) (maxL := maxL) (ret := ret) (n := n) (index := index) ⟨C.1, hb, hml, C.2.1, C.2.2.1⟩ hM ⟨⟨hR.1, hR.2.1, hR.2.2.1, hR.2.2.2, pay_in C.2.2.1 (wL_in k3), List.mem_cons_self⟩, C.2.2.1 _ k3, C.2.2.1 _ k4, ⟨hd.1, hd.2.1⟩, fun sig h => by
      have h2 := hd.2.2
      rw [h] at h2
      exact (Option.some.inj h2).symm, C.2.2.1 _ k1, C.2.2.1 _ k2⟩ ⟨PW.blind g S As, fun U hU hW => ⟨rfl, KS.at C hS hU hW, by rw [hU]; exact hP⟩⟩ rfl hn rfl hst (lv_room hroom) hdg hf

end WLAW

theorem e_row {S : WS} {r : Int32} {E : String} (h : xE_row S r = some E) : E = eIOB := by
  unfold xE_row at h
  cases q : xHasRow S r <;> rw [q] at h
  · exact (Option.some.inj h).symm
  · cases h

/-- what a row that isn't withdrawn tells, and what one that is -/
def rtV (S : WS) (v : Int64) (r : Nat) : Int64 := if xHasRow S (nI r) = true then v else -5
theorem rt_ok {S : WS} {v : Int64} {r : Nat} (h : xE_row S (nI r) = none) : v = rtV S v r := by
  unfold rtV
  unfold xE_row at h
  cases q : xHasRow S (nI r) <;> rw [q] at h
  · cases h
  · exact (if_pos rfl).symm
theorem rt_no {S : WS} {v : Int64} {r : Nat} {E : String} (h : xE_row S (nI r) = some E) : -5 = rtV S v r := by
  unfold rtV
  unfold xE_row at h
  cases q : xHasRow S (nI r) <;> rw [q] at h
  · exact (if_neg (by decide)).symm
  · cases h
