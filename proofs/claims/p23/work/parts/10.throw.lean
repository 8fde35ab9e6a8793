/-! methods that throw: the contract tells which, by the numbers -/
def xNames : List String := ["java/lang/RuntimeException", "java/lang/Exception"]
def eIAE : String := "java/lang/IllegalArgumentException"
def eISE : String := "java/lang/IllegalStateException"
def eIOB : String := "java/lang/IndexOutOfBoundsException"
def nwX (E : String) : List Cond := [.castable E E, .declares (Bundle.initS "java/lang/RuntimeException"), .declares (Bundle.initS "java/lang/Exception"), .declares (Bundle.initS Bundle.tN)]
def TQ (g : gG) (S' : WS) (ex : Option String) (v : Option Value) : Array Value → State → Outcome → State → Prop := fun _ st o t => ex = none ∧ o = .returned v ∧ HW g S' t.heap ∧ va_F (Ab g) st t
def TX (g : gG) (S' : WS) (ex : Option String) : String → State → State → Prop := fun E st t => ex = some E ∧ HW g S' t.heap ∧ va_F (Ab g) st t
theorem atI : ∀ w ∈ (vx_atS RX0 78 eIAE xNames).filter goodWord, w ∈ WA := fun w hw => List.mem_append_left _ (List.mem_append_left _ (List.mem_append_right _ hw))
theorem anI : ∀ w ∈ (vx_atS RX0 78 eIAE xNames).filter (fun w => !goodWord w), w ∈ nwX eIAE := by decide +kernel
theorem atS : ∀ w ∈ (vx_atS RX0 92 eISE xNames).filter goodWord, w ∈ WA := fun w hw => List.mem_append_left _ (List.mem_append_right _ hw)
theorem anS : ∀ w ∈ (vx_atS RX0 92 eISE xNames).filter (fun w => !goodWord w), w ∈ nwX eISE := by decide +kernel
theorem atB : ∀ w ∈ (vx_atS RX0 104 eIOB xNames).filter goodWord, w ∈ WA := fun w hw => List.mem_append_right _ hw
theorem anB : ∀ w ∈ (vx_atS RX0 104 eIOB xNames).filter (fun w => !goodWord w), w ∈ nwX eIOB := by decide +kernel
theorem goI : ∀ w ∈ Cond.classLink RX0 74 eIAE :: Cond.initialized eIAE :: vx_atS RX0 78 eIAE xNames, vx_ot w = true := List.all_eq_true.mp (by decide +kernel)
theorem goS : ∀ w ∈ Cond.classLink RX0 88 eISE :: Cond.initialized eISE :: vx_atS RX0 92 eISE xNames, vx_ot w = true := List.all_eq_true.mp (by decide +kernel)
theorem goB : ∀ w ∈ Cond.classLink RX0 100 eIOB :: Cond.initialized eIOB :: vx_atS RX0 104 eIOB xNames, vx_ot w = true := List.all_eq_true.mp (by decide +kernel)
section WTHROW
variable {p : Program} {l : Launch} {e : Env} {R : Room} {s : State} {m : MethodId} {args : Array Value} {below : List Frame} {meth : Method} {c : Code} {H : Heap} {locs : List Loc} {cells slots : Nat} {Q : State → Prop}
variable {cc : ByteArray} {pc : Nat} {ls : Array Slot} {rest st0 : List Value} {g : gG} {S S' : WS} {own : String} {ex : Option String}
theorem metX {y : MethodName} {maxL mc ms : Nat} {ret : Option FieldType} {rm : Room} {As : List Value} {Qc : Array Value → State → Outcome → State → Prop} {XC : String → State → State → Prop} {free : Addr → Prop} (hy : plainName y.cls = true) (hlen : (lg_sl As).length ≤ maxL)
    (body : ∀ p e s m below meth c, CW g y.cls p s m As.toArray → c.code = cc → c.maxLocals = maxL → meth.sig.returnType = ret → meth.locks = false → HW g S s.heap → (∀ x ∈ c.exceptionTable.toList, False) → ∀ ls, lv_has ls maxL (lv_args 0 As) → W p l e rm s m As.toArray below meth c s.heap [] 0 0 (vx_MQ below Qc XC As.toArray s mc ms free) (F0 m 0 ls [])) : vx_Met l y (wA y cc maxL ret) rm (PW g S As) Qc XC mc ms free := by
  refine vx_ofW (cc := cc) (maxL := maxL) (ret := ret) hy rfl ?_
  intro p e s m args below meth c s₁ B hml het hv
  obtain ⟨rfl, hK, hP⟩ := hv
  have hts := atoms_spec (ws := wA y cc maxL ret) B.pre
  rw [lg_entry_eq]
  exact body p e s m below meth c ⟨B.exec, findClass_of_methodNamed B.named, fun w h => hts w (List.mem_cons_of_mem _ h), hK⟩ B.bytes hml B.returns B.notSynchronized hP het _ (lv_entry As hlen)
theorem txI (C : CW g own p s m args) (hb : c.code = cc) (hr : meth.sig.returnType = some .int) (hlk : meth.locks = false) (hP : HW g S H) (hS : va_S (Ab g) s.heap H locs) {v v' : Int32} (hdg : decode cc pc = .ok (.ireturn, 1)) (hv : v' = v) (hE : S = S') (hx : ex = none) : W p l e R s m args below meth c H locs 0 0 (vx_MQ below (TQ g S' ex (some (.int v))) (TX g S' ex) args s 1 6 (Ab g)) (F0 m pc ls [.int v']) := by
  subst hv
  subst hE
  exact W.widen (k := 1) (n := 6) (by omega) (by omega) (vx_ret (W.iret C.1 hb hr (fun t ht _ => ⟨hx, rfl, by rw [ht]; exact hP, hS.F ht⟩) hS.2.2 hdg hlk))
theorem txL (C : CW g own p s m args) (hb : c.code = cc) (hr : meth.sig.returnType = some .long) (hlk : meth.locks = false) (hP : HW g S H) (hS : va_S (Ab g) s.heap H locs) {v v' : Int64} (hdg : decode cc pc = .ok (.lreturn, 1)) (hv : v' = v) (hE : S = S') (hx : ex = none) : W p l e R s m args below meth c H locs 0 0 (vx_MQ below (TQ g S' ex (some (.long v))) (TX g S' ex) args s 1 6 (Ab g)) (F0 m pc ls [.long v']) := by
  subst hv
  subst hE
  exact W.widen (k := 1) (n := 6) (by omega) (by omega) (vx_ret (W.lret C.1 hb hr (fun t ht _ => ⟨hx, rfl, by rw [ht]; exact hP, hS.F ht⟩) hS.2.2 hdg hlk))
theorem HW.grown {H1 : Heap} (hP : HW g S H) (hq : ∀ q : Nat, q < H.size → H1[q]? = H[q]?) : HW g S H1 := ⟨va_P.kept hP.1 (fun k x hx => hq x.1 ((hP.1 k x hx).lt)), hP.2⟩
theorem va_S.grown {A : Nat → Prop} {H1 : Heap} (hS : va_S A s.heap H locs) (hz : H.size ≤ H1.size) (hq : ∀ q : Nat, q < H.size → H1[q]? = H[q]?) : s.heap.size ≤ H1.size ∧ ∀ q : Nat, q < s.heap.size → ¬ A q → H1[q]? = s.heap[q]? :=
  ⟨Nat.le_trans hS.1 hz, fun q h1 h2 => (hq q (Nat.lt_of_lt_of_le h1 hS.1)).trans (hS.2.1 q h1 h2)⟩
theorem xthrow (C : CW g RX0 p s m args) (hb : c.code = cc) (hl0 : l.stackTraces = false) (hlk : meth.locks = false) (hP : HW g S H) (hS : va_S (Ab g) s.heap H locs) (hml : ls.size = c.maxLocals) (het : ∀ x ∈ c.exceptionTable.toList, False) {cls text : String} {ik is ic : Nat} {Qc : Array Value → State → Outcome → State → Prop}
    (hfit : Bundle.fit cls = true) (hk : Cond.classLink RX0 ik cls ∈ WA) (hini : Cond.initialized cls ∈ WA) (hat : ∀ w ∈ (vx_atS RX0 ic cls xNames).filter goodWord, w ∈ WA) (han : ∀ w ∈ (vx_atS RX0 ic cls xNames).filter (fun w => !goodWord w), w ∈ nwX cls) (hex : cls ∈ exsX) (hgood : ∀ w ∈ Cond.classLink RX0 ik cls :: Cond.initialized cls :: vx_atS RX0 ic cls xNames, vx_ot w = true) (hstr : (is, text) ∈ strsX)
    (d0 : decode cc pc = .ok (.new ik, 3)) (d3 : decode cc (pc + 3) = .ok (.dup, 1)) (d4 : decode cc (pc + 4) = .ok (.ldc is, 2)) (d6 : decode cc (pc + 6) = .ok (.invokespecial ic, 3)) (d9 : decode cc (pc + 9) = .ok (.athrow, 1))
    (hR : 5 < R.frames ∧ 82 ≤ R.locals ∧ 1 ≤ R.cells ∧ 6 ≤ R.slots) (hx : ex = some cls) (hE : S = S') : W p l e R s m args below meth c H locs 0 0 (vx_MQ below Qc (TX g S' ex) args s 1 6 (Ab g)) (F0 m pc ls []) := by
  subst hE
  obtain ⟨sa, hsa⟩ := C.2.2.2.2.2.2.2.2.1.1 _ hstr
  exact vx_throwS (names := xNames) (text := text) (sa := sa) C.1 hb hl0 C.2.1 hfit (by decide +kernel) (C.2.2.1 _ hk) (C.2.2.1 _ hini) hsa (vx_hat (B := nwX cls) (fun w hw => C.2.2.1 _ (hat w hw)) han (vx_c (va_Nw.use rfl (C.2.2.2.2.2.2.2.2.1.2.1 _ hex)) (vx_c (va_Nw.use rfl (C.2.2.2.2.2.2.2.2.1.2.2 _ (by decide))) (vx_c (va_Nw.use rfl (C.2.2.2.2.2.2.2.2.1.2.2 _ (by decide))) (vx_c (va_Nw.use rfl (C.2.2.2.2.2.2.2.2.1.2.2 _ (by decide))) vx_n))))) hgood C.2.2.2.2.2.2.1 C.2.2.2.2.2.2.2.1 hS hml d0 d3 d4 d6 d9 (fun x hx => (het x hx).elim) hR.1 (by show 0 + 82 ≤ R.locals; omega) (by omega) (by omega) hlk
    (fun t _ hz hq => ⟨hx, HW.grown hP hq, va_S.grown hS hz hq⟩) hS.2.2 (by omega) (by omega)
theorem xthrowI (C : CW g RX0 p s m args) (hb : c.code = cc) (hl0 : l.stackTraces = false) (hlk : meth.locks = false) (hP : HW g S H) (hS : va_S (Ab g) s.heap H locs) (hml : ls.size = c.maxLocals) (het : ∀ x ∈ c.exceptionTable.toList, False) {text : String} {is : Nat} {Qc : Array Value → State → Outcome → State → Prop} (hstr : (is, text) ∈ strsX)
    (d0 : decode cc pc = .ok (.new 74, 3)) (d3 : decode cc (pc + 3) = .ok (.dup, 1)) (d4 : decode cc (pc + 4) = .ok (.ldc is, 2)) (d6 : decode cc (pc + 6) = .ok (.invokespecial 78, 3)) (d9 : decode cc (pc + 9) = .ok (.athrow, 1))
    (hR : 5 < R.frames ∧ 82 ≤ R.locals ∧ 1 ≤ R.cells ∧ 6 ≤ R.slots) (hx : ex = some eIAE) (hE : S = S') : W p l e R s m args below meth c H locs 0 0 (vx_MQ below Qc (TX g S' ex) args s 1 6 (Ab g)) (F0 m pc ls []) :=
  xthrow C hb hl0 hlk hP hS hml het (by decide +kernel) wm_116 wm_117 atI anI (by decide) goI hstr d0 d3 d4 d6 d9 hR hx hE
theorem xthrowS (C : CW g RX0 p s m args) (hb : c.code = cc) (hl0 : l.stackTraces = false) (hlk : meth.locks = false) (hP : HW g S H) (hS : va_S (Ab g) s.heap H locs) (hml : ls.size = c.maxLocals) (het : ∀ x ∈ c.exceptionTable.toList, False) {text : String} {is : Nat} {Qc : Array Value → State → Outcome → State → Prop} (hstr : (is, text) ∈ strsX)
    (d0 : decode cc pc = .ok (.new 88, 3)) (d3 : decode cc (pc + 3) = .ok (.dup, 1)) (d4 : decode cc (pc + 4) = .ok (.ldc is, 2)) (d6 : decode cc (pc + 6) = .ok (.invokespecial 92, 3)) (d9 : decode cc (pc + 9) = .ok (.athrow, 1))
    (hR : 5 < R.frames ∧ 82 ≤ R.locals ∧ 1 ≤ R.cells ∧ 6 ≤ R.slots) (hx : ex = some eISE) (hE : S = S') : W p l e R s m args below meth c H locs 0 0 (vx_MQ below Qc (TX g S' ex) args s 1 6 (Ab g)) (F0 m pc ls []) :=
  xthrow C hb hl0 hlk hP hS hml het (by decide +kernel) wm_118 wm_119 atS anS (by decide) goS hstr d0 d3 d4 d6 d9 hR hx hE
theorem xthrowB (C : CW g RX0 p s m args) (hb : c.code = cc) (hl0 : l.stackTraces = false) (hlk : meth.locks = false) (hP : HW g S H) (hS : va_S (Ab g) s.heap H locs) (hml : ls.size = c.maxLocals) (het : ∀ x ∈ c.exceptionTable.toList, False) {text : String} {is : Nat} {Qc : Array Value → State → Outcome → State → Prop} (hstr : (is, text) ∈ strsX)
    (d0 : decode cc pc = .ok (.new 100, 3)) (d3 : decode cc (pc + 3) = .ok (.dup, 1)) (d4 : decode cc (pc + 4) = .ok (.ldc is, 2)) (d6 : decode cc (pc + 6) = .ok (.invokespecial 104, 3)) (d9 : decode cc (pc + 9) = .ok (.athrow, 1))
    (hR : 5 < R.frames ∧ 82 ≤ R.locals ∧ 1 ≤ R.cells ∧ 6 ≤ R.slots) (hx : ex = some eIOB) (hE : S = S') : W p l e R s m args below meth c H locs 0 0 (vx_MQ below Qc (TX g S' ex) args s 1 6 (Ab g)) (F0 m pc ls []) :=
  xthrow C hb hl0 hlk hP hS hml het (by decide +kernel) wm_137 wm_138 atB anB (by decide) goB hstr d0 d3 d4 d6 d9 hR hx hE
end WTHROW
