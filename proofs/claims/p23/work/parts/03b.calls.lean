/-! entries, ends and calls of methods over the one world -/
theorem ra_same {s : State} {D : va_G} {cl : List vw_C} {tys : List (ClassId × FieldType)} {cA cB : ClassId} {ty : FieldType} (hK : va_K D cl tys s) (i j : Nat) (hi : tys[i]? = some (cA, ty)) (hj : tys[j]? = some (cB, ty)) (hty : ∀ U c, va_RA U c ty = (U.vm.findClass ("[" ++ ty.toString) = some c)) : cA = cB := by
  have h1 := (hK.2 i _ hi).2
  have h2 := (hK.2 j _ hj).2
  rw [hty] at h1 h2
  exact Option.some.inj (h1.symm.trans h2)
section WCALLS
variable {p : Program} {l : Launch} {e : Env} {R : Room} {s : State} {m : MethodId} {args : Array Value} {below : List Frame} {meth : Method} {c : Code} {H : Heap} {locs : List Loc} {cells slots : Nat} {Q : State → Prop}
variable {cc : ByteArray} {pc : Nat} {ls : Array Slot} {rest st0 : List Value} {g : gG} {S S' : WS} {own : String}
theorem metI {mc ms : Nat} {y : MethodName} {maxL : Nat} {ret : Option FieldType} {rm : Room} {As : List Value} {Qc : Array Value → State → Outcome → State → Prop} {free : Addr → Prop} (hy : plainName y.cls = true) (hlen : (lg_sl As).length ≤ maxL)
    (body : ∀ p e s m below meth c, CW g y.cls p s m As.toArray → c.code = cc → c.maxLocals = maxL → meth.sig.returnType = ret → meth.locks = false → HW g S s.heap → ∀ ls, lv_has ls maxL (lv_args 0 As) → W p l e rm s m As.toArray below meth c s.heap [] 0 0 (MQ below Qc As.toArray s mc ms free) (F0 m 0 ls [])) : Met l y (wA y cc maxL ret) rm (PW g S As) Qc mc ms free := by
  refine Met.ofW (cc := cc) (maxL := maxL) (ret := ret) hy rfl ?_
  intro p e s m args below meth c s₁ B hml hv
  obtain ⟨rfl, hK, hP⟩ := hv
  have hts := atoms_spec (ws := wA y cc maxL ret) B.pre
  rw [lg_entry_eq]
  exact body p e s m below meth c ⟨B.exec, findClass_of_methodNamed B.named, fun w h => hts w (List.mem_cons_of_mem _ h), hK⟩ B.bytes hml B.returns B.notSynchronized hP _ (lv_entry As hlen)
theorem rdI (C : CW g own p s m args) (hb : c.code = cc) (hr : meth.sig.returnType = some .int) (hlk : meth.locks = false) {v v' : Int32} (hdg : decode cc pc = .ok (.ireturn, 1)) (hv : v' = v) : W p l e R s m args below meth c s.heap [] 0 0 (MQ below (RQ (some (.int v))) args s 0 0 (fun _ => False)) (F0 m pc ls [.int v']) := by
  subst hv
  exact W.iret C.1 hb hr (fun t ht _ => ⟨rfl, ht⟩) (fun _ h => by cases h) hdg hlk
theorem rdZ (C : CW g own p s m args) (hb : c.code = cc) (hr : meth.sig.returnType = some .boolean) (hlk : meth.locks = false) {v' : Int32} {b : Bool} (hdg : decode cc pc = .ok (.ireturn, 1)) (hv : v' = bI b) : W p l e R s m args below meth c s.heap [] 0 0 (MQ below (RQ (some (.int (bI b)))) args s 0 0 (fun _ => False)) (F0 m pc ls [.int v']) := by
  subst hv
  exact W.zret C.1 hb hr (bI_nar b) (fun t ht _ => ⟨rfl, ht⟩) (fun _ h => by cases h) hdg hlk
theorem rdL (C : CW g own p s m args) (hb : c.code = cc) (hr : meth.sig.returnType = some .long) (hlk : meth.locks = false) {v v' : Int64} (hdg : decode cc pc = .ok (.lreturn, 1)) (hv : v' = v) : W p l e R s m args below meth c s.heap [] 0 0 (MQ below (RQ (some (.long v))) args s 0 0 (fun _ => False)) (F0 m pc ls [.long v']) := by
  subst hv
  exact W.lret C.1 hb hr (fun t ht _ => ⟨rfl, ht⟩) (fun _ h => by cases h) hdg hlk
theorem wrI (C : CW g own p s m args) (hb : c.code = cc) (hr : meth.sig.returnType = some .int) (hlk : meth.locks = false) (hP : HW g S H) (hS : va_S (Ab g) s.heap H locs) {v v' : Int32} (hdg : decode cc pc = .ok (.ireturn, 1)) (hv : v' = v) (hE : S = S') : W p l e R s m args below meth c H locs 0 0 (MQ below (WQ g S' (some (.int v))) args s 0 0 (Ab g)) (F0 m pc ls [.int v']) := by
  subst hv
  subst hE
  exact W.iret C.1 hb hr (fun t ht _ => ⟨rfl, by rw [ht]; exact hP, hS.F ht⟩) hS.2.2 hdg hlk
theorem wrZ (C : CW g own p s m args) (hb : c.code = cc) (hr : meth.sig.returnType = some .boolean) (hlk : meth.locks = false) (hP : HW g S H) (hS : va_S (Ab g) s.heap H locs) {v' : Int32} {b : Bool} (hdg : decode cc pc = .ok (.ireturn, 1)) (hv : v' = bI b) (hE : S = S') : W p l e R s m args below meth c H locs 0 0 (MQ below (WQ g S' (some (.int (bI b)))) args s 0 0 (Ab g)) (F0 m pc ls [.int v']) := by
  subst hv
  subst hE
  exact W.zret C.1 hb hr (bI_nar b) (fun t ht _ => ⟨rfl, by rw [ht]; exact hP, hS.F ht⟩) hS.2.2 hdg hlk
theorem wrL (C : CW g own p s m args) (hb : c.code = cc) (hr : meth.sig.returnType = some .long) (hlk : meth.locks = false) (hP : HW g S H) (hS : va_S (Ab g) s.heap H locs) {v v' : Int64} (hdg : decode cc pc = .ok (.lreturn, 1)) (hv : v' = v) (hE : S = S') : W p l e R s m args below meth c H locs 0 0 (MQ below (WQ g S' (some (.long v))) args s 0 0 (Ab g)) (F0 m pc ls [.long v']) := by
  subst hv
  subst hE
  exact W.lret C.1 hb hr (fun t ht _ => ⟨rfl, by rw [ht]; exact hP, hS.F ht⟩) hS.2.2 hdg hlk
theorem wrV (C : CW g own p s m args) (hb : c.code = cc) (hr : meth.sig.returnType = none) (hlk : meth.locks = false) (hP : HW g S H) (hS : va_S (Ab g) s.heap H locs) (hdg : decode cc pc = .ok (.return_, 1)) (hE : S = S') : W p l e R s m args below meth c H locs 0 0 (MQ below (WQ g S' none) args s 0 0 (Ab g)) (F0 m pc ls []) := by
  subst hE
  exact W.vret C.1 hb hr (fun t ht _ => ⟨rfl, by rw [ht]; exact hP, hS.F ht⟩) hS.2.2 hdg hlk
theorem run_rd {a : Array Value} {v : Value} (hr : va_Run p l e R s m args below meth c H locs cells slots 0 0 (F0 m pc ls st0) rest (RQ (some v) a) (fun _ => False)) (kk : W p l e R s m args below meth c H locs cells slots Q (F0 m (pc + 3) ls (v :: rest))) : W p l e R s m args below meth c H locs cells slots Q (F0 m pc ls st0) := by
  intro T hT X
  obtain ⟨v', st₀, t, T', L, h0, X', hL, e1, e2, ⟨hv, hh⟩, st⟩ := hr T hT X
  cases hv
  obtain ⟨t2, a1, b1⟩ := kk T' (by rw [e1, hh, h0]) (Stand.forget X' (fun q h => (hL q h).elim))
  exact ⟨t2, st t2 a1, b1⟩
theorem run_wr {a : Array Value} {v : Option Value} (hr : va_Run p l e R s m args below meth c H locs cells slots 0 0 (F0 m pc ls st0) rest (WQ g S' v a) (Ab g)) (hS : va_S (Ab g) s.heap H locs) (kk : ∀ (H1 : Heap) (locs1 : List Loc), HW g S' H1 → va_S (Ab g) s.heap H1 locs1 → W p l e R s m args below meth c H1 locs1 cells slots Q (F0 m (pc + 3) ls (v.toList ++ rest))) : W p l e R s m args below meth c H locs cells slots Q (F0 m pc ls st0) := by
  intro T hT X
  obtain ⟨v', st₀, t, T', L, h0, X', hL, e1, e2, ⟨hv, hp, hz, hk⟩, st⟩ := hr T hT X
  cases hv
  rw [h0] at hz hk
  obtain ⟨t2, a1, b1⟩ := kk T'.heap (locs ++ L) (by rw [e1]; exact hp) ⟨Nat.le_trans hS.1 (by rw [e1]; exact hz), fun q h1 h2 => by rw [e1, hk q (Nat.lt_of_lt_of_le h1 hS.1) h2]; exact hS.2.1 q h1 h2, fun q hq => (List.mem_append.mp hq).elim (hS.2.2 q) (fun h => hL q h)⟩ T' rfl X'
  exact ⟨t2, st t2 a1, b1⟩
theorem wA_in {y : MethodName} {bytes : ByteArray} {maxL : Nat} {ret : Option FieldType} (k : Cond.code y bytes maxL ret ∈ WA) : GoodIn WA (wA y bytes maxL ret) := by
  intro w hw
  have h : w ∈ WA := (List.mem_cons.mp hw).elim (fun q => by rw [q]; exact k) id
  exact ⟨h, good_of_word (List.all_eq_true.mp WA_good w h)⟩
theorem cB (C : CW g own p s m args) {y : MethodName} {bytes : ByteArray} {maxL n index : Nat} {ret : Option FieldType} {rm : Room} (k1 : Cond.methodLink own index y ∈ WA) (k3 : Cond.code y bytes maxL ret ∈ WA) (k4 : Cond.initialized y.cls ∈ WA)
    (hd : y.cls ≠ "java/lang/invoke/MethodHandle" ∧ y.cls ≠ "java/lang/invoke/VarHandle" ∧ (parseMethodDescriptor y.desc).map (fun d => d.parameters.length) = some n) (hR : rm.cells = 0 ∧ rm.slots = 0 ∧ rm.frames + 1 ≤ R.frames ∧ 8 + (maxL + 11) + rm.locals ≤ R.locals) : CallB R s args own index y bytes maxL ret (wA y bytes maxL ret) rm 0 0 n :=
  callB_of n C.2.2.1 (wA_in k3) rfl hR.1 hR.2.1 (C.2.2.1 _ k4) (C.2.2.1 _ k1) hd hR.2.2
/-- a static call -/
theorem cRunS (C : CW g own p s m args) (hb : c.code = cc) (hml : c.maxLocals = ls.size) (hP : HW g S H) (hS : va_S (Ab g) s.heap H locs) {y : MethodName} {bytes : ByteArray} {maxL index n : Nat} {ret : Option FieldType} {rm : Room} {As : List Value} {Qc : Array Value → State → Outcome → State → Prop} {free : Addr → Prop}
    (hM : Met l y (wA y bytes maxL ret) rm (PW g S As) Qc 0 0 free) (k1 : Cond.methodLink own index y ∈ WA) (k2 : Cond.static y ∈ WA) (k3 : Cond.code y bytes maxL ret ∈ WA) (k4 : Cond.initialized y.cls ∈ WA)
    (hd : y.cls ≠ "java/lang/invoke/MethodHandle" ∧ y.cls ≠ "java/lang/invoke/VarHandle" ∧ (parseMethodDescriptor y.desc).map (fun d => d.parameters.length) = some n) (hn : As.length = n) (hR : rm.cells = 0 ∧ rm.slots = 0 ∧ rm.frames + 1 ≤ R.frames ∧ 8 + (maxL + 11) + rm.locals ≤ R.locals)
    (hroom : (rest.map fun v => v.category).sum ≤ 8) (hst : st0 = As.reverse ++ rest) (hf : cells ≤ R.cells ∧ slots ≤ R.slots) (hdg : decode cc pc = .ok (.invokestatic index, 3)) : va_Run p l e R s m args below meth c H locs cells slots 0 0 (F0 m pc ls st0) rest (Qc As.toArray) free :=
  va_runS (Ts := WA) (own := own) ⟨C.1, hb, hml, C.2.1, C.2.2.1⟩ hM ⟨cB C k1 k3 k4 hd hR, C.2.2.1 _ k2⟩ ⟨PW.blind g S As, fun U hU hW => ⟨rfl, KS.at C hS hU hW, by rw [hU]; exact hP⟩⟩ rfl hn rfl hst (lv_room hroom) hdg ⟨by simpa using hf.1, by simpa using hf.2⟩
/-- a call of the class's object, or of the reference's -/
theorem cRunV (C : CW g own p s m args) (hb : c.code = cc) (hml : c.maxLocals = ls.size) (hP : HW g S H) (hS : va_S (Ab g) s.heap H locs) {y : MethodName} {bytes : ByteArray} {maxL index b q0 ci n : Nat} {ret : Option FieldType} {rm : Room} {As fs : List Value} {r : vw_C} {Qc : Array Value → State → Outcome → State → Prop} {free : Addr → Prop} (he : (wW g S)[q0]? = some (b, .inr (ci, fs))) (hc : vwCl[ci]? = some r) (hy : y.cls = r.1)
    (hM : Met l y (wA y bytes maxL ret) rm (PW g S (.ref b :: As)) Qc 0 0 free) (k1 : Cond.methodLink own index y ∈ WA) (k2 : Cond.instanceMethod y ∈ WA) (k5 : Cond.selects y.cls y y ∈ WA) (k3 : Cond.code y bytes maxL ret ∈ WA) (k4 : Cond.initialized y.cls ∈ WA)
    (hd : y.cls ≠ "java/lang/invoke/MethodHandle" ∧ y.cls ≠ "java/lang/invoke/VarHandle" ∧ (parseMethodDescriptor y.desc).map (fun d => d.parameters.length) = some n) (hn : As.length = n) (hR : rm.cells = 0 ∧ rm.slots = 0 ∧ rm.frames + 1 ≤ R.frames ∧ 8 + (maxL + 11) + rm.locals ≤ R.locals)
    (hroom : (rest.map fun v => v.category).sum ≤ 8) (hst : st0 = As.reverse ++ .ref b :: rest) (hf : cells ≤ R.cells ∧ slots ≤ R.slots) (hdg : decode cc pc = .ok (.invokevirtual index, 3)) : va_Run p l e R s m args below meth c H locs cells slots 0 0 (F0 m pc ls st0) rest (Qc (Value.ref b :: As).toArray) free :=
  va_runV (Ts := WA) (own := own) (C := y.cls) ⟨C.1, hb, hml, C.2.1, C.2.2.1⟩ hM ⟨cB C k1 k3 k4 hd hR, C.2.2.1 _ k2, C.2.2.1 _ k5⟩ ⟨PW.blind g S _, by rw [hy]; exact va_recv C.2.2.2.1 hP.1 hc he, fun U hU hW => ⟨rfl, KS.at C hS hU hW, by rw [hU]; exact hP⟩⟩ rfl hn rfl hst (lv_room hroom) hdg ⟨by simpa using hf.1, by simpa using hf.2⟩
theorem cRunX (C : CW g own p s m args) (hb : c.code = cc) (hml : c.maxLocals = ls.size) (hP : HW g S H) (hS : va_S (Ab g) s.heap H locs) {y : MethodName} {bytes : ByteArray} {maxL index n : Nat} {ret : Option FieldType} {rm : Room} {As : List Value} {Qc : Array Value → State → Outcome → State → Prop} {free : Addr → Prop} (hy : y.cls = RX0)
    (hM : Met l y (wA y bytes maxL ret) rm (PW g S (.ref (gA g 0) :: As)) Qc 0 0 free) (k1 : Cond.methodLink own index y ∈ WA) (k2 : Cond.instanceMethod y ∈ WA) (k5 : Cond.selects y.cls y y ∈ WA) (k3 : Cond.code y bytes maxL ret ∈ WA) (k4 : Cond.initialized y.cls ∈ WA)
    (hd : y.cls ≠ "java/lang/invoke/MethodHandle" ∧ y.cls ≠ "java/lang/invoke/VarHandle" ∧ (parseMethodDescriptor y.desc).map (fun d => d.parameters.length) = some n) (hn : As.length = n) (hR : rm.cells = 0 ∧ rm.slots = 0 ∧ rm.frames + 1 ≤ R.frames ∧ 8 + (maxL + 11) + rm.locals ≤ R.locals)
    (hroom : (rest.map fun v => v.category).sum ≤ 8) (hst : st0 = As.reverse ++ .ref (gA g 0) :: rest) (hf : cells ≤ R.cells ∧ slots ≤ R.slots) (hdg : decode cc pc = .ok (.invokevirtual index, 3)) : va_Run p l e R s m args below meth c H locs cells slots 0 0 (F0 m pc ls st0) rest (Qc (Value.ref (gA g 0) :: As).toArray) free :=
  cRunV C hb hml hP hS (q0 := 0) (ci := 0) rfl rfl hy hM k1 k2 k5 k3 k4 hd hn hR hroom hst hf hdg
theorem toI {x y : Int32} (h : x = y) (kk : W p l e R s m args below meth c H locs cells slots Q (F0 m pc ls (.int y :: rest))) : W p l e R s m args below meth c H locs cells slots Q (F0 m pc ls (.int x :: rest)) := by
  subst h; exact kk
theorem toL {x y : Int64} (h : x = y) (kk : W p l e R s m args below meth c H locs cells slots Q (F0 m pc ls (.long y :: rest))) : W p l e R s m args below meth c H locs cells slots Q (F0 m pc ls (.long x :: rest)) := by
  subst h; exact kk
theorem bz_eq (C : CW g own p s m args) (hb : c.code = cc) {b : Bool} {off : Int} {tgt : Nat} (hdg : decode cc pc = .ok (.ifCond .eq off, 3)) (ht : (pc : Int) + off = (tgt : Int)) (kt : b = false → W p l e R s m args below meth c H locs cells slots Q (F0 m tgt ls rest)) (kf : b = true → W p l e R s m args below meth c H locs cells slots Q (F0 m (pc + 3) ls rest)) : W p l e R s m args below meth c H locs cells slots Q (F0 m pc ls (.int (bI b) :: rest)) :=
  lv_if_eq C.1 hb hdg ht (fun h => kt ((bI_0 b).mp h)) (fun h => kf (by cases b; exact absurd rfl h; rfl))
theorem bz_ne (C : CW g own p s m args) (hb : c.code = cc) {b : Bool} {off : Int} {tgt : Nat} (hdg : decode cc pc = .ok (.ifCond .ne off, 3)) (ht : (pc : Int) + off = (tgt : Int)) (kt : b = true → W p l e R s m args below meth c H locs cells slots Q (F0 m tgt ls rest)) (kf : b = false → W p l e R s m args below meth c H locs cells slots Q (F0 m (pc + 3) ls rest)) : W p l e R s m args below meth c H locs cells slots Q (F0 m pc ls (.int (bI b) :: rest)) :=
  lv_if_ne C.1 hb hdg ht (fun h => kt (by cases b; exact absurd rfl h; rfl)) (fun h => kf ((bI_0 b).mp h))
/-- ends of a method that made cells -/
theorem weI {mc ms : Nat} (hcm : cells ≤ mc) (hsm : slots ≤ ms) (C : CW g own p s m args) (hb : c.code = cc) (hr : meth.sig.returnType = some .int) (hlk : meth.locks = false) (hP : HW g S H) (hS : va_S (Ab g) s.heap H locs) {v v' : Int32} (hdg : decode cc pc = .ok (.ireturn, 1)) (hv : v' = v) (hE : S = S') : W p l e R s m args below meth c H locs cells slots (MQ below (WQ g S' (some (.int v))) args s mc ms (Ab g)) (F0 m pc ls [.int v']) := by
  subst hv
  subst hE
  exact W.widen (k := mc) (n := ms) hcm hsm (W.iret C.1 hb hr (fun t ht _ => ⟨rfl, by rw [ht]; exact hP, hS.F ht⟩) hS.2.2 hdg hlk)
theorem weZ {mc ms : Nat} (hcm : cells ≤ mc) (hsm : slots ≤ ms) (C : CW g own p s m args) (hb : c.code = cc) (hr : meth.sig.returnType = some .boolean) (hlk : meth.locks = false) (hP : HW g S H) (hS : va_S (Ab g) s.heap H locs) {v' : Int32} {b : Bool} (hdg : decode cc pc = .ok (.ireturn, 1)) (hv : v' = bI b) (hE : S = S') : W p l e R s m args below meth c H locs cells slots (MQ below (WQ g S' (some (.int (bI b)))) args s mc ms (Ab g)) (F0 m pc ls [.int v']) := by
  subst hv
  subst hE
  exact W.widen (k := mc) (n := ms) hcm hsm (W.zret C.1 hb hr (bI_nar b) (fun t ht _ => ⟨rfl, by rw [ht]; exact hP, hS.F ht⟩) hS.2.2 hdg hlk)
theorem weL {mc ms : Nat} (hcm : cells ≤ mc) (hsm : slots ≤ ms) (C : CW g own p s m args) (hb : c.code = cc) (hr : meth.sig.returnType = some .long) (hlk : meth.locks = false) (hP : HW g S H) (hS : va_S (Ab g) s.heap H locs) {v v' : Int64} (hdg : decode cc pc = .ok (.lreturn, 1)) (hv : v' = v) (hE : S = S') : W p l e R s m args below meth c H locs cells slots (MQ below (WQ g S' (some (.long v))) args s mc ms (Ab g)) (F0 m pc ls [.long v']) := by
  subst hv
  subst hE
  exact W.widen (k := mc) (n := ms) hcm hsm (W.lret C.1 hb hr (fun t ht _ => ⟨rfl, by rw [ht]; exact hP, hS.F ht⟩) hS.2.2 hdg hlk)
/-- a call of a method that makes cells -/
theorem run_wc {mc ms : Nat} {a : Array Value} {v : Option Value} (hr : va_Run p l e R s m args below meth c H locs cells slots mc ms (F0 m pc ls st0) rest (WQ g S' v a) (Ab g)) (hS : va_S (Ab g) s.heap H locs) (kk : ∀ (H1 : Heap) (locs1 : List Loc), HW g S' H1 → va_S (Ab g) s.heap H1 locs1 → W p l e R s m args below meth c H1 locs1 (cells + mc) (slots + ms) Q (F0 m (pc + 3) ls (v.toList ++ rest))) : W p l e R s m args below meth c H locs cells slots Q (F0 m pc ls st0) := by
  intro T hT X
  obtain ⟨v', st₀, t, T', L, h0, X', hL, e1, e2, ⟨hv, hp, hz, hk⟩, st⟩ := hr T hT X
  cases hv
  rw [h0] at hz hk
  obtain ⟨t2, a1, b1⟩ := kk T'.heap (locs ++ L) (by rw [e1]; exact hp) ⟨Nat.le_trans hS.1 (by rw [e1]; exact hz), fun q h1 h2 => by rw [e1, hk q (Nat.lt_of_lt_of_le h1 hS.1) h2]; exact hS.2.1 q h1 h2, fun q hq => (List.mem_append.mp hq).elim (hS.2.2 q) (fun h => hL q h)⟩ T' rfl X'
  exact ⟨t2, st t2 a1, b1⟩
theorem cRunC (C : CW g own p s m args) (hb : c.code = cc) (hml : c.maxLocals = ls.size) (hP : HW g S H) (hS : va_S (Ab g) s.heap H locs) {y : MethodName} {bytes : ByteArray} {maxL index n mc ms : Nat} {ret : Option FieldType} {rm : Room} {As : List Value} {Qc : Array Value → State → Outcome → State → Prop} {free : Addr → Prop}
    (hM : Met l y (wA y bytes maxL ret) rm (PW g S As) Qc mc ms free) (k1 : Cond.methodLink own index y ∈ WA) (k2 : Cond.static y ∈ WA) (k3 : Cond.code y bytes maxL ret ∈ WA) (k4 : Cond.initialized y.cls ∈ WA)
    (hd : y.cls ≠ "java/lang/invoke/MethodHandle" ∧ y.cls ≠ "java/lang/invoke/VarHandle" ∧ (parseMethodDescriptor y.desc).map (fun d => d.parameters.length) = some n) (hn : As.length = n) (hR : rm.cells = mc ∧ rm.slots = ms ∧ rm.frames + 1 ≤ R.frames ∧ 8 + (maxL + 11) + rm.locals ≤ R.locals)
    (hroom : (rest.map fun v => v.category).sum ≤ 8) (hst : st0 = As.reverse ++ rest) (hf : cells + mc ≤ R.cells ∧ slots + ms ≤ R.slots) (hdg : decode cc pc = .ok (.invokestatic index, 3)) : va_Run p l e R s m args below meth c H locs cells slots mc ms (F0 m pc ls st0) rest (Qc As.toArray) free :=
  va_runS (Ts := WA) (own := own) ⟨C.1, hb, hml, C.2.1, C.2.2.1⟩ hM ⟨callB_of n C.2.2.1 (wA_in k3) rfl hR.1 hR.2.1 (C.2.2.1 _ k4) (C.2.2.1 _ k1) hd hR.2.2, C.2.2.1 _ k2⟩ ⟨PW.blind g S As, fun U hU hW => ⟨rfl, KS.at C hS hU hW, by rw [hU]; exact hP⟩⟩ rfl hn rfl hst (lv_room hroom) hdg hf
/-- the making of arrays -/
theorem nwL (C : CW g own p s m args) (hb : c.code = cc) (hAb : gS0 g ≤ s.heap.size) {X : XS} {L : LAr} {E : va_W} (hP : HW g (X, L, E) H) (hS : va_S (Ab g) s.heap H locs) (hc : cells + 1 ≤ R.cells) (hs : slots + 4 ≤ R.slots) (hdg : decode cc pc = .ok (.newarray .long, 2)) (kk : ∀ (q : Nat) (H1 : Heap), HW g (X, L, E ++ [eL g q (fun _ => 0)]) H1 → va_S (Ab g) s.heap H1 locs → W p l e R s m args below meth c H1 locs (cells + 1) (slots + 4) Q (F0 m (pc + 2) ls (.ref q :: rest))) : W p l e R s m args below meth c H locs cells slots Q (F0 m pc ls (.int 4 :: rest)) := by
  refine va_newa (atype := .long) (ty := .long) (N' := 4) (a0 := (4, .inr (.inl (fun _ => 0)))) C.1 hb (C.2.2.1 _ wm_24) rfl C.2.2.2.1 hP.1 hP.2 hS (fun q h => Nat.le_trans hAb h) (fun _ => rfl) (by decide) (by decide) (Nat.le_of_ble_eq_true rfl) hc hs hdg (fun q cA H1 hK2 hP1 hD1 hS1 => ?_)
  have ec : cA = gT g 1 := ra_same hK2 4 1 rfl rfl (fun _ _ => rfl)
  subst ec
  exact kk q H1 ⟨hP1, hD1⟩ hS1
theorem nwI (C : CW g own p s m args) (hb : c.code = cc) (hAb : gS0 g ≤ s.heap.size) {X : XS} {L : LAr} {E : va_W} (hP : HW g (X, L, E) H) (hS : va_S (Ab g) s.heap H locs) (hc : cells + 1 ≤ R.cells) (hs : slots + 4 ≤ R.slots) (hdg : decode cc pc = .ok (.newarray .int, 2)) (kk : ∀ (q : Nat) (H1 : Heap), HW g (X, L, E ++ [eI g q (fun _ => 0)]) H1 → va_S (Ab g) s.heap H1 locs → W p l e R s m args below meth c H1 locs (cells + 1) (slots + 4) Q (F0 m (pc + 2) ls (.ref q :: rest))) : W p l e R s m args below meth c H locs cells slots Q (F0 m pc ls (.int 4 :: rest)) := by
  refine va_newa (atype := .int) (ty := .int) (N' := 4) (a0 := (4, .inl (fun _ => 0))) C.1 hb (C.2.2.1 _ wm_13) rfl C.2.2.2.1 hP.1 hP.2 hS (fun q h => Nat.le_trans hAb h) (fun _ => rfl) (by decide) (by decide) (Nat.le_of_ble_eq_true rfl) hc hs hdg (fun q cA H1 hK2 hP1 hD1 hS1 => ?_)
  have ec : cA = gT g 0 := ra_same hK2 4 0 rfl rfl (fun _ _ => rfl)
  subst ec
  exact kk q H1 ⟨hP1, hD1⟩ hS1
end WCALLS
