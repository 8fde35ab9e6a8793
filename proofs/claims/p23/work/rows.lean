section
-- ===== PART A: goes FIRST, ahead of the names: the tables' words, and 'selects' of the private methods out of them =====
/-- a private method of a class that the tables say can be made, by its rows of tables_1 -/
def lw_okq (q : MethodName × Nat) : Prop := (q.1.cls ≠ "java/lang/invoke/MethodHandle" ∧ q.1.cls ≠ "java/lang/invoke/VarHandle") ∧ Cond.instantiable q.1.cls q.2 ∈ tables_1 ∧ Cond.privateMethod q.1 ∈ tables_1 ∧ Cond.instanceMethod q.1 ∈ tables_1
theorem lw_p0 : lw_okq (⟨"RateFitter", "changedByRound", "()I"⟩, 16) := ⟨⟨by decide +kernel, by decide +kernel⟩, List.mem_of_getElem? (i := 20) (by decide +kernel), List.mem_of_getElem? (i := 97) (by decide +kernel), List.mem_of_getElem? (i := 98) (by decide +kernel)⟩
theorem lw_p1 : lw_okq (⟨"RateFitter", "passOver", "(I)I"⟩, 16) := ⟨⟨by decide +kernel, by decide +kernel⟩, List.mem_of_getElem? (i := 20) (by decide +kernel), List.mem_of_getElem? (i := 101) (by decide +kernel), List.mem_of_getElem? (i := 102) (by decide +kernel)⟩
theorem lw_p2 : lw_okq (⟨"RateFitter", "foundFactor", "(II)I"⟩, 16) := ⟨⟨by decide +kernel, by decide +kernel⟩, List.mem_of_getElem? (i := 20) (by decide +kernel), List.mem_of_getElem? (i := 107) (by decide +kernel), List.mem_of_getElem? (i := 108) (by decide +kernel)⟩
theorem lw_p3 : lw_okq (⟨"RateFitter", "levelTotal", "([JII)J"⟩, 16) := ⟨⟨by decide +kernel, by decide +kernel⟩, List.mem_of_getElem? (i := 20) (by decide +kernel), List.mem_of_getElem? (i := 111) (by decide +kernel), List.mem_of_getElem? (i := 112) (by decide +kernel)⟩
theorem lw_p4 : lw_okq (⟨"RateFitter", "refit", "()V"⟩, 16) := ⟨⟨by decide +kernel, by decide +kernel⟩, List.mem_of_getElem? (i := 20) (by decide +kernel), List.mem_of_getElem? (i := 126) (by decide +kernel), List.mem_of_getElem? (i := 127) (by decide +kernel)⟩
theorem lw_p5 : lw_okq (⟨"RateFitter", "total", "([J)J"⟩, 16) := ⟨⟨by decide +kernel, by decide +kernel⟩, List.mem_of_getElem? (i := 20) (by decide +kernel), List.mem_of_getElem? (i := 130) (by decide +kernel), List.mem_of_getElem? (i := 131) (by decide +kernel)⟩
theorem lw_p6 : lw_okq (⟨"RateFitter", "fittedLoss", "(I)J"⟩, 16) := ⟨⟨by decide +kernel, by decide +kernel⟩, List.mem_of_getElem? (i := 20) (by decide +kernel), List.mem_of_getElem? (i := 135) (by decide +kernel), List.mem_of_getElem? (i := 136) (by decide +kernel)⟩
theorem lw_p7 : lw_okq (⟨"java/lang/Throwable", "fillInStackTrace", "(I)Ljava/lang/Throwable;"⟩, 6) := ⟨⟨by decide +kernel, by decide +kernel⟩, List.mem_of_getElem? (i := 197) (by decide +kernel), List.mem_of_getElem? (i := 195) (by decide +kernel), List.mem_of_getElem? (i := 196) (by decide +kernel)⟩
theorem lw_p8 : lw_okq (⟨"RateFitter", "hasRow", "(I)Z"⟩, 16) := ⟨⟨by decide +kernel, by decide +kernel⟩, List.mem_of_getElem? (i := 20) (by decide +kernel), List.mem_of_getElem? (i := 255) (by decide +kernel), List.mem_of_getElem? (i := 256) (by decide +kernel)⟩
theorem lw_p9 : lw_okq (⟨"RateFitter", "newPremium", "(I)J"⟩, 16) := ⟨⟨by decide +kernel, by decide +kernel⟩, List.mem_of_getElem? (i := 20) (by decide +kernel), List.mem_of_getElem? (i := 279) (by decide +kernel), List.mem_of_getElem? (i := 280) (by decide +kernel)⟩
theorem lw_p10 : lw_okq (⟨"RateFitter", "cappedPremium", "(I)J"⟩, 16) := ⟨⟨by decide +kernel, by decide +kernel⟩, List.mem_of_getElem? (i := 20) (by decide +kernel), List.mem_of_getElem? (i := 287) (by decide +kernel), List.mem_of_getElem? (i := 288) (by decide +kernel)⟩
theorem lw_p11 : lw_okq (⟨"RateFitter", "lowestFallingLevel", "(I)I"⟩, 16) := ⟨⟨by decide +kernel, by decide +kernel⟩, List.mem_of_getElem? (i := 20) (by decide +kernel), List.mem_of_getElem? (i := 347) (by decide +kernel), List.mem_of_getElem? (i := 348) (by decide +kernel)⟩
theorem lw_p12 : lw_okq (⟨"RateFitter", "joinToLevelAhead", "(II)V"⟩, 16) := ⟨⟨by decide +kernel, by decide +kernel⟩, List.mem_of_getElem? (i := 20) (by decide +kernel), List.mem_of_getElem? (i := 351) (by decide +kernel), List.mem_of_getElem? (i := 352) (by decide +kernel)⟩
theorem lw_p13 : lw_okq (⟨"RateFitter", "groupMean", "(II)I"⟩, 16) := ⟨⟨by decide +kernel, by decide +kernel⟩, List.mem_of_getElem? (i := 20) (by decide +kernel), List.mem_of_getElem? (i := 355) (by decide +kernel), List.mem_of_getElem? (i := 356) (by decide +kernel)⟩
theorem lw_p14 : lw_okq (⟨"RateFitter", "changedSinceBefore", "(I)I"⟩, 16) := ⟨⟨by decide +kernel, by decide +kernel⟩, List.mem_of_getElem? (i := 20) (by decide +kernel), List.mem_of_getElem? (i := 359) (by decide +kernel), List.mem_of_getElem? (i := 360) (by decide +kernel)⟩
theorem lw_p15 : lw_okq (⟨"RateFitter", "cappedTotal", "()J"⟩, 16) := ⟨⟨by decide +kernel, by decide +kernel⟩, List.mem_of_getElem? (i := 20) (by decide +kernel), List.mem_of_getElem? (i := 377) (by decide +kernel), List.mem_of_getElem? (i := 378) (by decide +kernel)⟩
def lw_privs_1 : List (MethodName × Nat) := [(⟨"RateFitter", "changedByRound", "()I"⟩, 16), (⟨"RateFitter", "passOver", "(I)I"⟩, 16), (⟨"RateFitter", "foundFactor", "(II)I"⟩, 16), (⟨"RateFitter", "levelTotal", "([JII)J"⟩, 16), (⟨"RateFitter", "refit", "()V"⟩, 16), (⟨"RateFitter", "total", "([J)J"⟩, 16), (⟨"RateFitter", "fittedLoss", "(I)J"⟩, 16), (⟨"java/lang/Throwable", "fillInStackTrace", "(I)Ljava/lang/Throwable;"⟩, 6), (⟨"RateFitter", "hasRow", "(I)Z"⟩, 16), (⟨"RateFitter", "newPremium", "(I)J"⟩, 16), (⟨"RateFitter", "cappedPremium", "(I)J"⟩, 16), (⟨"RateFitter", "lowestFallingLevel", "(I)I"⟩, 16), (⟨"RateFitter", "joinToLevelAhead", "(II)V"⟩, 16), (⟨"RateFitter", "groupMean", "(II)I"⟩, 16), (⟨"RateFitter", "changedSinceBefore", "(I)I"⟩, 16), (⟨"RateFitter", "cappedTotal", "()J"⟩, 16)]
theorem lw_r1 : ∀ q ∈ lw_privs_1, lw_okq q := List.forall_mem_cons.mpr ⟨lw_p0, List.forall_mem_cons.mpr ⟨lw_p1, List.forall_mem_cons.mpr ⟨lw_p2, List.forall_mem_cons.mpr ⟨lw_p3, List.forall_mem_cons.mpr ⟨lw_p4, List.forall_mem_cons.mpr ⟨lw_p5, List.forall_mem_cons.mpr ⟨lw_p6, List.forall_mem_cons.mpr ⟨lw_p7, List.forall_mem_cons.mpr ⟨lw_p8, List.forall_mem_cons.mpr ⟨lw_p9, List.forall_mem_cons.mpr ⟨lw_p10, List.forall_mem_cons.mpr ⟨lw_p11, List.forall_mem_cons.mpr ⟨lw_p12, List.forall_mem_cons.mpr ⟨lw_p13, List.forall_mem_cons.mpr ⟨lw_p14, List.forall_mem_cons.mpr ⟨lw_p15, fun _ h => absurd h List.not_mem_nil⟩⟩⟩⟩⟩⟩⟩⟩⟩⟩⟩⟩⟩⟩⟩⟩
theorem lw_p16 : lw_okq (⟨"RateFitter", "placeOf", "(I)I"⟩, 16) := ⟨⟨by decide +kernel, by decide +kernel⟩, List.mem_of_getElem? (i := 20) (by decide +kernel), List.mem_of_getElem? (i := 415) (by decide +kernel), List.mem_of_getElem? (i := 416) (by decide +kernel)⟩
theorem lw_p17 : lw_okq (⟨"RateFitter", "isAhead", "(II)Z"⟩, 16) := ⟨⟨by decide +kernel, by decide +kernel⟩, List.mem_of_getElem? (i := 20) (by decide +kernel), List.mem_of_getElem? (i := 419) (by decide +kernel), List.mem_of_getElem? (i := 420) (by decide +kernel)⟩
def lw_privs_2 : List (MethodName × Nat) := [(⟨"RateFitter", "placeOf", "(I)I"⟩, 16), (⟨"RateFitter", "isAhead", "(II)Z"⟩, 16)]
theorem lw_r2 : ∀ q ∈ lw_privs_2, lw_okq q := List.forall_mem_cons.mpr ⟨lw_p16, List.forall_mem_cons.mpr ⟨lw_p17, fun _ h => absurd h List.not_mem_nil⟩⟩
def lw_privs : List (MethodName × Nat) := lw_privs_1 ++ (lw_privs_2)
def lw_tbl : List Cond := k2_sels lw_privs ++ tables_1
theorem lw_privs_ok : ∀ q ∈ lw_privs, lw_okq q := by
  show ∀ q ∈ lw_privs_1 ++ (lw_privs_2), lw_okq q
  exact List.forall_mem_append.mpr ⟨lw_r1, lw_r2⟩
-- ===== end of PART A; then your names; then what follows =====
end
section
/-! ===== BEGIN words of one list among another's, by their places ===== -/
theorem goodIn_r {big : List Cond} (ws : List Cond) (ps : List Nat) (hp : ws = ps.filterMap (fun i => big[i]?)) (h : ws.all goodWord = true) : GoodIn big ws := by
  intro w hw
  have h1 := List.all_eq_true.mp h w hw
  rw [hp] at hw
  obtain ⟨i, -, hi⟩ := List.mem_filterMap.mp hw
  have hm : w ∈ big := by first | exact List.mem_of_getElem? hi | exact List.getElem?_mem hi
  exact ⟨hm, good_of_word h1⟩
theorem goodIn_app {big a b : List Cond} (ha : GoodIn big a) (hb : GoodIn big b) : GoodIn big (a ++ b) := fun w h => (List.mem_append.mp h).elim (ha w) (hb w)
theorem goodIn_ca {big a b : List Cond} {c : Cond} (ha : GoodIn big (c :: a)) (hb : GoodIn big b) : GoodIn big (c :: (a ++ b)) := fun w h => (List.mem_cons.mp h).elim (fun e => ha w (List.mem_cons.mpr (Or.inl e))) (fun h => (List.mem_append.mp h).elim (fun h => ha w (List.mem_cons.mpr (Or.inr h))) (hb w))
theorem goodIn_sub {big ws : List Cond} (hm : ∀ w ∈ ws, w ∈ big) (h : ws.all goodWord = true) : GoodIn big ws := fun w hw => ⟨hm w hw, good_of_word (List.all_eq_true.mp h w hw)⟩
/-! ===== END ===== -/

/-- what the tables say of an array of arrays (the printed names use this word and do not define it) -/
def va_AOA (ty : FieldType) (U : State) : Prop := (Cond.arrayOver (.array ty)).before #[] U = true
theorem va_AOA.of {ty : FieldType} {A : Array Value} {U : State} (h : (Cond.arrayOver (.array ty)).before A U = true) : va_AOA ty U := h
theorem va_AOA.use {ty : FieldType} {A : Array Value} {U : State} (h : va_AOA ty U) : (Cond.arrayOver (.array ty)).before A U = true := h
/-! ===== BEGIN new T[n][m]: the outer array a place, the inner ones among the pooled ===== -/
/-- f, but v at every address of l -/
def vr_up {α : Type} (f : Nat → α) (l : List Nat) (v : α) : Nat → α := fun a => if a ∈ l then v else f a
theorem vr_up_in {α : Type} {f : Nat → α} {l : List Nat} {v : α} {a : Nat} (h : a ∈ l) : vr_up f l v a = v := if_pos h
theorem vr_up_ne {α : Type} {f : Nat → α} {l : List Nat} {v : α} {a : Nat} (h : a ∉ l) : vr_up f l v a = f a := if_neg h
theorem vr_rows {L l : List Nat} {f : Nat → va_E} {e : va_E} (h : ∀ a, a ∈ l → a ∉ L) : va_pl L f ++ l.map (fun a => (a, e)) = va_pl (L ++ l) (vr_up f l e) := by
  unfold va_pl
  rw [List.map_append]
  congr 1
  · apply List.map_congr_left
    intro a ha
    rw [vr_up_ne (fun q => h a q ha)]
  · apply List.map_congr_left
    intro a ha
    rw [vr_up_in ha]
theorem vr_lay {X rows : va_W} {x : Nat × va_E} {pl : va_W} {D : va_G} {cl : List vw_C} {H : Heap} (hP : va_P D cl (((X ++ pl) ++ [x]) ++ rows) H) : va_P D cl ((X ++ [x]) ++ (pl ++ rows)) H := by
  rw [List.append_assoc (X ++ pl)] at hP
  have h := va_P.swap hP
  rw [← List.append_assoc X] at h
  have h2 := va_P.swap h
  rw [List.append_assoc (X ++ [x])] at h2
  exact h2
theorem vr_layD {X rows : va_W} {x : Nat × va_E} {pl : va_W} {A : Nat → Prop} (hD : va_D A (((X ++ pl) ++ [x]) ++ rows)) : va_D A ((X ++ [x]) ++ (pl ++ rows)) := by
  rw [List.append_assoc (X ++ pl)] at hD
  have h := va_D.swap hD
  rw [← List.append_assoc X] at h
  have h2 := va_D.swap h
  rw [List.append_assoc (X ++ [x])] at h2
  exact h2
theorem vr_outer (c : ClassId) (N h0 : Nat) : ∀ i : Nat, Jvm.Free.Multi.outerC c N h0 i = arrV c N (fun j => va_rf (if j < i then some (h0 + 1 + j) else none))
  | 0 => by
    show ({ cls := c, slots := Array.replicate N .null, vm := .none } : Cell) = _
    rw [arrV_new]
    refine congrArg (arrV c N) (funext fun j => ?_)
    simp [va_rf]
  | i + 1 => by
    show (Jvm.Free.Multi.outerC c N h0 i).setSlot i (.ref (h0 + 1 + i)) = _
    rw [vr_outer c N h0 i, arrV_store]
    refine congrArg (arrV c N) (funext fun j => ?_)
    by_cases e : j = i
    · subst e
      simp [updV, va_rf]
    · by_cases h : j < i
      · simp [updV, e, h, Nat.lt_succ_of_lt h]
      · simp [updV, e, h, show ¬ j < i + 1 by omega]
section VGM
variable {p : Program} {l : Launch} {e : Env} {R : Room} {s : State} {m : MethodId} {args : Array Value} {below : List Frame} {meth : Method} {c : Code} {H : Heap} {locs : List Loc} {cells slots : Nat} {Q : State → Prop}
variable {cc : ByteArray} {pc : Nat} {ls : Array Slot} {rest : List Value} {D : va_G} {cl : List vw_C} {A : Nat → Prop} {a : Nat} {tys : List (ClassId × FieldType)} {ws : va_W} {H0 : Heap}
theorem va_mna {X : va_W} {L : List Nat} {f : Nat → va_E} {cc : ByteArray} (hexec : p.tables.exec = Jvm.exec) (hb : c.code = cc) {own : String} {index : Nat} {ty : FieldType} {cy : ClassId} (hown : s.vm.findClass own = some m.cls) (hclink : (Cond.classLink own index ("[" ++ (FieldType.array ty).toString)).before args s = true) (hover : va_AOA ty s) (harr : (Cond.arrayClass ty).before args s = true) (hcy : s.vm.findClass (FieldType.array ty).toString = some cy)
    (hK : va_K D cl tys s) (hP : va_P D cl (X ++ va_pl L f) H) (hD : va_D A (X ++ va_pl L f)) (hS : va_S A H0 H locs) (hA : ∀ q, H0.size ≤ q → A q) {n k : Int32} {N' K' : Nat} {z : vp_A} (hn : ¬ n < 0) (hk : ¬ k < 0) (hN : n.toNatClampNeg = N') (hM : k.toNatClampNeg = K')
    (hb1 : N' * 4 ≤ 536870912) (hb2 : K' * componentBytes ty ≤ 536870912) (hb3 : K' ≤ 536870912) (hdf : fits ty (defaultValue ty) = true) (hdd : (defaultValue ty).isDefault = true) (hcells : cells + (1 + N') ≤ R.cells) (hslots : slots + (N' + N' * K') ≤ R.slots) (hz : ∀ c : ClassId, Jvm.Free.Multi.innerC c K' (defaultValue ty) = vp_cell c z) (hdg : decode cc pc = .ok (.multianewarray index 2, 4))
    (kk : ∀ (q : Nat) (r : Nat → Nat) (cA : ClassId) (H1 : Heap), (∀ i j : Nat, i < N' → j < N' → r i = r j → i = j) → (∀ i : Nat, i < N' → r i ∉ L) → va_K D cl (tys ++ [(cA, .array ty)]) s →
      va_P D cl ((X ++ [(q, .inl (cA, N', .inr (.inr (.inr (.inr (fun i => if i < N' then some (r i) else none))))))]) ++ va_pl (L ++ (List.range N').map r) (vr_up f ((List.range N').map r) (.inl (cy, z)))) H1 → va_D A ((X ++ [(q, .inl (cA, N', .inr (.inr (.inr (.inr (fun i => if i < N' then some (r i) else none))))))]) ++ va_pl (L ++ (List.range N').map r) (vr_up f ((List.range N').map r) (.inl (cy, z)))) → va_S A H0 H1 locs →
      W p l e R s m args below meth c H1 locs (cells + 1 + N') (slots + N' + N' * K') Q (F0 m (pc + 4) ls (.ref q :: rest))) : W p l e R s m args below meth c H locs cells slots Q (F0 m pc ls (.int k :: .int n :: rest)) := by
  subst hN
  subst hM
  intro T hT Xs
  obtain ⟨vm₁, cA, comp, -, fA, fC, hO, -, X', step⟩ := Xs.multianewarray2F hexec hown hclink (va_AOA.use hover) harr (g := F0 m pc ls (.int k :: .int n :: rest)) rfl (by rw [hb]; exact hdg) rfl hn hk hb1 hb2 hb3 hdf hdd hcells hslots
  have ec : some cy = some comp := hcy.symm.trans fC
  cases ec
  generalize hF : Jvm.Free.Multi.fill (T.setVm vm₁) cA cy n.toNatClampNeg k.toNatClampNeg (defaultValue ty) n.toNatClampNeg = F at X' step
  have hTh : (T.setVm vm₁).heap = H := hT
  obtain ⟨f1, f2, -, -⟩ := Jvm.Free.Multi.fill_facts (T.setVm vm₁) cA cy n.toNatClampNeg k.toNatClampNeg (defaultValue ty) n.toNatClampNeg
  rw [hF, hTh] at f1 f2
  have hold : ∀ x : Nat, x < H.size → F.heap[x]? = H[x]? := fun x hx => by
    have := Jvm.Free.Multi.fill_old (T.setVm vm₁) cA cy n.toNatClampNeg k.toNatClampNeg (defaultValue ty) (a := x) (by rw [hTh]; exact hx) n.toNatClampNeg
    rw [hF, hTh] at this
    exact this
  have hrow : ∀ j : Nat, j < n.toNatClampNeg → F.heap[H.size + 1 + j]? = some (vp_cell cy z) := fun j hj => by
    have := Jvm.Free.Multi.fill_inner (T.setVm vm₁) cA cy n.toNatClampNeg k.toNatClampNeg (defaultValue ty) n.toNatClampNeg j hj
    rw [hF, hTh, hz] at this
    exact this
  have hout : Jvm.Free.Multi.outerC cA n.toNatClampNeg H.size n.toNatClampNeg = vp_cell cA (n.toNatClampNeg, .inr (.inr (.inr (.inr (fun i => if i < n.toNatClampNeg then some (H.size + 1 + i) else none))))) := by
    rw [vp_cell_q]
    exact vr_outer cA n.toNatClampNeg H.size n.toNatClampNeg
  rw [hout] at f2
  have hlt : ∀ a, a ∈ L → a < H.size := fun a ha => by
    obtain ⟨k9, hk9⟩ := va_pl_get (X := X) (f := f) ha
    exact (hP k9 _ hk9).lt
  have hnl : ∀ i : Nat, i < n.toNatClampNeg → H.size + 1 + i ∉ L := fun i _ h => by
    have := hlt _ h
    omega
  have hnm : ∀ a, a ∈ (List.range n.toNatClampNeg).map (fun i => H.size + 1 + i) → a ∉ L := fun a ha h => by
    obtain ⟨i, -, rfl⟩ := List.mem_map.mp ha
    have := hlt _ h
    omega
  have hP0 : va_P D cl (X ++ va_pl L f) F.heap := hP.kept (fun k9 x hx => hold x.1 ((hP k9 x hx).lt))
  have hP1 : va_P D cl ((X ++ va_pl L f) ++ [(H.size, .inl (cA, n.toNatClampNeg, .inr (.inr (.inr (.inr (fun i => if i < n.toNatClampNeg then some (H.size + 1 + i) else none))))))]) F.heap := hP0.app (fun k9 x hx => by
    have h0 : k9 < 1 := (List.getElem?_eq_some_iff.mp hx).1
    rw [show k9 = 0 by omega] at hx
    cases hx
    exact f2)
  have hP2 : va_P D cl (((X ++ va_pl L f) ++ [(H.size, .inl (cA, n.toNatClampNeg, .inr (.inr (.inr (.inr (fun i => if i < n.toNatClampNeg then some (H.size + 1 + i) else none))))))]) ++ ((List.range n.toNatClampNeg).map (fun i => H.size + 1 + i)).map (fun a => (a, .inl (cy, z)))) F.heap := hP1.app (fun k9 x hx => by
    obtain ⟨a, ha, rfl⟩ := List.mem_map.mp (List.mem_of_getElem? hx)
    obtain ⟨i, hi, rfl⟩ := List.mem_map.mp ha
    exact hrow i (List.mem_range.mp hi))
  have hD2 : va_D A (((X ++ va_pl L f) ++ [(H.size, .inl (cA, n.toNatClampNeg, .inr (.inr (.inr (.inr (fun i => if i < n.toNatClampNeg then some (H.size + 1 + i) else none))))))]) ++ ((List.range n.toNatClampNeg).map (fun i => H.size + 1 + i)).map (fun a => (a, .inl (cy, z)))) := by
    have hD1 := hD.push (e := .inl (cA, n.toNatClampNeg, .inr (.inr (.inr (.inr (fun i => if i < n.toNatClampNeg then some (H.size + 1 + i) else none)))))) hP rfl (hA _ hS.1)
    generalize hW1 : (X ++ va_pl L f) ++ [(H.size, .inl (cA, n.toNatClampNeg, .inr (.inr (.inr (.inr (fun i => if i < n.toNatClampNeg then some (H.size + 1 + i) else none))))))] = W1 at hD1 hP1 ⊢
    have hle : ∀ (k9 : Nat) (x : Nat × va_E), W1[k9]? = some x → x.1 ≤ H.size := fun k9 x hx => by
      rw [← hW1] at hx
      by_cases hl : k9 < (X ++ va_pl L f).length
      · rw [List.getElem?_append_left hl] at hx
        exact Nat.le_of_lt ((hP k9 x hx).lt)
      · rw [List.getElem?_append_right (by omega)] at hx
        have h0 : k9 - (X ++ va_pl L f).length < 1 := (List.getElem?_eq_some_iff.mp hx).1
        rw [show k9 - (X ++ va_pl L f).length = 0 by omega] at hx
        cases hx
        exact Nat.le_refl _
    have hr : ∀ (k9 : Nat) (x : Nat × va_E), (((List.range n.toNatClampNeg).map (fun i => H.size + 1 + i)).map (fun a => ((a, .inl (cy, z)) : Nat × va_E)))[k9]? = some x → x.1 = H.size + 1 + k9 := fun k9 x hx => by
      rw [List.getElem?_map, List.getElem?_map] at hx
      by_cases h9 : k9 < n.toNatClampNeg
      · rw [List.getElem?_range h9] at hx
        cases hx
        rfl
      · have hn0 : (List.range n.toNatClampNeg)[k9]? = none := List.getElem?_eq_none (by rw [List.length_range]; omega)
        rw [hn0] at hx
        cases hx
    refine ⟨fun i j x y hi hj hxy => ?_, fun k9 x hx => ?_⟩
    · by_cases h1 : i < W1.length <;> by_cases h2 : j < W1.length
      · rw [List.getElem?_append_left h1] at hi
        rw [List.getElem?_append_left h2] at hj
        exact hD1.1 i j x y hi hj hxy
      · rw [List.getElem?_append_left h1] at hi
        rw [List.getElem?_append_right (by omega)] at hj
        have := hle _ _ hi
        have := hr _ _ hj
        omega
      · rw [List.getElem?_append_right (by omega)] at hi
        rw [List.getElem?_append_left h2] at hj
        have := hle _ _ hj
        have := hr _ _ hi
        omega
      · rw [List.getElem?_append_right (by omega)] at hi hj
        have := hr _ _ hi
        have := hr _ _ hj
        omega
    · by_cases h1 : k9 < W1.length
      · rw [List.getElem?_append_left h1] at hx
        exact hD1.2 k9 x hx
      · rw [List.getElem?_append_right (by omega)] at hx
        have := hr _ _ hx
        exact hA _ (by have := hS.1; omega)
  have hAr : ArrOfT s cA (.array ty) := fun N9 z9 => by
    obtain ⟨-, k9, hk9, cm9, hkk9⟩ := (hO 0 0 0).1
    exact ⟨(fun q hq => by cases hq), k9, hk9, cm9, hkk9⟩
  have hK2 : va_K D cl (tys ++ [(cA, .array ty)]) s := ⟨hK.1, fun k9 x hx => by
    by_cases hl : k9 < tys.length
    · rw [List.getElem?_append_left hl] at hx
      exact hK.2 k9 x hx
    · rw [List.getElem?_append_right (by omega)] at hx
      have h0 : k9 - tys.length < 1 := (List.getElem?_eq_some_iff.mp hx).1
      rw [show k9 - tys.length = 0 by omega] at hx
      cases hx
      exact ⟨hAr, fA⟩⟩
  obtain ⟨t, a1, b1⟩ := kk H.size (fun i => H.size + 1 + i) cA F.heap (fun i j _ _ h => by have h9 : H.size + 1 + i = H.size + 1 + j := h; omega) hnl hK2 (by rw [← vr_rows hnm]; exact vr_lay hP2) (by rw [← vr_rows hnm]; exact vr_layD hD2) ⟨by rw [f1]; have := hS.1; omega, fun x h1 h2 => (hold x (Nat.lt_of_lt_of_le h1 hS.1)).trans (hS.2.1 x h1 h2), hS.2.2⟩ F rfl X'
  refine ⟨t, step t ?_, b1⟩
  have e : T.heap.size = H.size := by rw [hT]
  rw [e]
  exact a1
end VGM
/-! ===== END ===== -/

/-! ===== BEGIN exceptions that leave a method, and their catching by the caller (launches without stack traces) ===== -/
section VXA
/-! The laws vx_back, vx_callV, vx_callS, vx_callSW, vx_throw0, vx_throwS follow proofs of the library, with one case more: JvmDerived/Free/Laws.lean (Back.of_free), Shelf42/LK1.lean (callV, callS), Shelf/KitTraced.lean (throwNew0V, throwNewS). -/
/-- where a method has thrown q: the class by its name, the cell, what was written, the world -/
def vx_T (XC : String → State → State → Prop) (st : State) (q : Addr) (t : State) (mc ms : Nat) (free : Addr → Prop) : Prop :=
  ∃ (E : String) (ce : Cell) (L : List Loc), XC E st t ∧ t.heap[q]? = some ce ∧ ce.vm = .none ∧ st.vm.findClass E = some ce.cls ∧ st.WarmedH t.vm ∧ st.sameButNew ({ t with vm := st.vm } : State) L mc ms ∧ ∀ z ∈ L, free z.base
def vx_Q (Qc : Array Value → State → Outcome → State → Prop) (XC : String → State → State → Prop) (mc ms : Nat) (free : Addr → Prop) : Array Value → State → Outcome → State → Prop := fun a st o t =>
  (Qc a st o t ∧ ∃ L, FrameEnd st o t L mc ms ∧ ∀ q ∈ L, free q.base) ∨ ∃ q, o = .threw q ∧ vx_T XC st q t mc ms free
/-- a callee that returns or throws -/
def vx_Met (l : Launch) (y : MethodName) (ws : List Cond) (rm : Room) (Pc : Array Value → State → Prop) (Qc : Array Value → State → Outcome → State → Prop) (XC : String → State → State → Prop) (mc ms : Nat) (free : Addr → Prop) : Prop :=
  MetFree l y (headSpec ws rm) Pc (fun _ _ _ _ _ => True) (vx_Q Qc XC mc ms free)
def vx_Post (XC : String → State → State → Prop) (mc ms : Nat) (free : Addr → Prop) : Pt → Array Value → Addr → Pt → Prop := fun A a q B =>
  ∃ (g : JFrame) (mk : MethodId) (t : State) (L : List Loc) (E : String) (ce : Cell), B.U.heap = t.heap ∧ B.U.vm = t.vm ∧ XC E (A.U.calling g mk a) t ∧ t.heap[q]? = some ce ∧ ce.vm = .none ∧ A.U.vm.findClass E = some ce.cls ∧ B.locs = A.locs ++ L ∧ (∀ z ∈ L, free z.base) ∧ B.cells = A.cells + mc ∧ B.slots = A.slots + ms
def vx_Back (l : Launch) (R : Room) (p : Program) (e : Env) (below : List Frame) (s : State) (sargs : Array Value) (y : MethodName) (len W9 : Nat)
    (Pre : Pt → Array Value → Prop) (Post : Pt → Array Value → Option Value → Pt → Prop) (PostX : Pt → Array Value → Addr → Pt → Prop) : Prop :=
  ∀ (m : MethodId) (meth : Method) (c : Code) (A : Pt) (g : JFrame) (ig : Instr) (mk : MethodId) (a : Array Value),
    Stand p l e R s m sargs below meth c A.U A.locs A.cells A.slots → g.method = m → g.locals.size = c.maxLocals → decode c.code g.pc = .ok (ig, len) →
    2 * g.monitorRoom + (g.stack.map fun v => v.category).sum ≤ W9 → A.U.methodNamed? y = some mk → Pre A a →
    (∃ (v : Option Value) (B : Pt), Stand p l e R s m sargs below meth c B.U B.locs B.cells B.slots ∧ Post A a v B ∧
      Steps p.tables e below (doInvoke e (A.U.setTop g) [] mk a).1 (B.U.setTop { g with pc := g.pc + len, stack := v.toList ++ g.stack })) ∨
    (∃ (q : Addr) (B : Pt), Stand p l e R s m sargs below meth c B.U B.locs B.cells B.slots ∧ PostX A a q B ∧
      Steps p.tables e below (doInvoke e (A.U.setTop g) [] mk a).1 ((B.U.setTop g).pushFrame (.throwing q)))
section Payer
variable {l : Launch} {R : Room} {p : Program} {e : Env} {below : List Frame} {s : State} {sargs : Array Value} {y : MethodName} {len W9 : Nat}
theorem vx_back {ws : List Cond} {rm : Room} {Pc : Array Value → State → Prop} {Qc : Array Value → State → Outcome → State → Prop} {XC : String → State → State → Prop} {mc ms : Nat} {free : Addr → Prop} {bytes : ByteArray} {maxL : Nat} {ret : Option FieldType}
    (hM : vx_Met l y ws rm Pc Qc XC mc ms free) (hblind : FrameBlind Pc) (hrc : rm.cells = mc) (hrs : rm.slots = ms)
    (hframes : rm.frames + 1 ≤ R.frames) (hlocals : W9 + (maxL + 11) + rm.locals ≤ R.locals)
    (hws : ∀ w ∈ ws, ∀ a' U, s.WarmedH U.vm → w.before a' U = true) (hcode : Cond.code y bytes maxL ret ∈ ws) (hinit : ∀ a' U, s.WarmedH U.vm → (Cond.initialized y.cls).before a' U = true) :
    vx_Back l R p e below s sargs y len W9 (PreOf R mc ms Pc) (PostOf Qc mc ms free) (vx_Post XC mc ms free) := by
  intro m meth c A g ig mk a X hg hsize hdg hW hn hp
  have h1 : (headSpec ws rm).pre.before a A.U = true := atoms_intro fun w hw => hws w hw _ _ X.warmed
  have h2 : (Cond.code y bytes maxL ret).before a A.U = true := hws _ hcode _ _ X.warmed
  have h3 : (Cond.initialized y.cls).before a A.U = true := hinit _ _ X.warmed
  have h4 : A.cells + (headSpec ws rm).room.cells ≤ R.cells := by rw [show (headSpec ws rm).room.cells = mc from hrc]; exact hp.1
  have h5 : A.slots + (headSpec ws rm).room.slots ≤ R.slots := by rw [show (headSpec ws rm).room.slots = ms from hrs]; exact hp.2.1
  have hPc : Pc a (A.U.calling g mk a) := hblind _ _ _ _ hp.2.2
  obtain ⟨U, Ls, c0, s0⟩ := A
  dsimp only [Pt.U, Pt.locs, Pt.cells, Pt.slots] at h1 h2 h3 h4 h5 X hn hPc ⊢
  obtain ⟨methY, cY, hmY, hcY, -, hlY, -, -, -, -⟩ := Cond.code_spec hn h2
  obtain ⟨kY, hkY, -⟩ := className_of_methodNamed hn
  have hinitY : kY.init = .initialized := Cond.initialized_spec (findClass_of_methodNamed hn) hkY h3
  have h : At U g.method c below := by rw [hg]; exact X.here
  have hlocals9 : W9 + (maxL + 11) + (headSpec ws rm).room.locals ≤ R.locals := hlocals
  have happ : (headSpec ws rm).appliesLoose y e.platform (U.calling g mk a) = true :=
    Spec.appliesLoose_calling (g := g) h hdg hn hkY hinitY
      (X.room_calling (g := g) (R' := (headSpec ws rm).room) hsize hmY hcY hframes (by rw [hlY]; omega) h4 h5) h1
  obtain ⟨mid, hmid⟩ := h.above
  have hfr : (U.setTop g).frames = (.java g :: mid) ++ below := by rw [State.frames_setTop' g h.top, hmid]; rfl
  obtain ⟨o, s₂, hsteps, -, hend, hq⟩ := Steps.callFree hM p X.admits X.cas X.clock (acts := []) hfr happ hPc trivial
  have hq' : vx_Q Qc XC mc ms free a (U.calling g mk a) o s₂ := hq
  rw [State.frames_setTop' g h.top] at hend
  obtain ⟨g₀, hg0⟩ := Option.isSome_iff_exists.mp h.top
  obtain ⟨r, hr⟩ := State.topJava?_eq_some.mp hg0
  have hr' : (({ U with heap := s₂.heap, slotsUsed := s₂.slotsUsed } : State).setVm s₂.vm).frames = .java g₀ :: r := hr
  rcases hq' with ⟨hqc, L, hfe, hL⟩ | ⟨q, rfl, E, ce, L, hx, hce, hcv, hcl, hW₂, hsm, hL⟩
  · obtain ⟨⟨v, rfl⟩, hW₂, e2, q2, q3, q4, q5, q6⟩ := id hfe
    have e3 : s₂ = ({ (U.calling g mk a).setFrames s₂.frames with heap := s₂.heap, slotsUsed := s₂.slotsUsed } : State).setVm s₂.vm := by
      have : s₂ = ({ s₂ with vm := (U.calling g mk a).vm } : State).setVm s₂.vm := rfl
      rw [e2] at this
      exact this
    obtain ⟨c₂, i₂, len₂, hc₂, hd₂, hf₂⟩ := hend
    have hW' : U.WarmedH s₂.vm := hW₂
    have hcc : c₂ = c := by
      have h1 : s₂.code? g.method = U.code? g.method := by
        rw [State.code?_eq, State.code?_eq, hW'.alike.method?]
      exact Option.some.inj (hc₂.symm.trans (h1.trans h.code))
    subst hcc
    have hlen : len₂ = len := by rw [hdg] at hd₂; cases hd₂; rfl
    subst hlen
    have hs₂ : s₂ = (({ U with heap := s₂.heap, slotsUsed := s₂.slotsUsed } : State).setVm s₂.vm).setTop { g with pc := g.pc + len₂, stack := v.toList ++ g.stack } := by
      refine e3.trans ?_
      rw [hf₂, State.calling_eq h.top, State.setFrames_setFrames, State.setTop_of_frames _ hr', hr]
      rfl
    have hsame : U.sameButNew ({ U with heap := s₂.heap, slotsUsed := s₂.slotsUsed } : State) L mc ms := by
      refine ⟨?_, q2, q3, q4, q5, q6⟩
      obtain ⟨t, ht, -⟩ := State.frames_cons hr
      show ({ U with heap := s₂.heap, slotsUsed := s₂.slotsUsed } : State) = { U.setFrames U.frames with heap := s₂.heap, slotsUsed := s₂.slotsUsed }
      rw [State.setFrames_self ht]
    subst hg
    refine Or.inl ⟨v, ⟨(({ U with heap := s₂.heap, slotsUsed := s₂.slotsUsed } : State).setVm s₂.vm), Ls ++ L, c0 + mc, s0 + ms⟩,
      ⟨X.admits, X.cas, X.clock, X.frames, X.room, X.hears, X.method, X.code, (X.here.setHeapUsed s₂.heap s₂.slotsUsed).setVm hW'.alike, X.tail, State.WarmedH.trans X.warmed hW', X.limits, X.bytes, X.same.trans (hsame.setVm s.vm)⟩,
      ⟨g, mk, s₂, L, rfl, rfl, hqc, rfl, hL, rfl, rfl⟩, ?_⟩
    show Steps p.tables e below _ ((({ U with heap := s₂.heap, slotsUsed := s₂.slotsUsed } : State).setVm s₂.vm).setTop { g with pc := g.pc + len₂, stack := v.toList ++ g.stack })
    rw [← hs₂]
    exact hsteps
  · obtain ⟨e2, q2, q3, q4, q5, q6⟩ := id hsm
    have e3 : s₂ = ({ (U.calling g mk a).setFrames s₂.frames with heap := s₂.heap, slotsUsed := s₂.slotsUsed } : State).setVm s₂.vm := by
      have : s₂ = ({ s₂ with vm := (U.calling g mk a).vm } : State).setVm s₂.vm := rfl
      rw [e2] at this
      exact this
    have hf₂ : s₂.frames = .throwing q :: .java g :: U.frames.tail := hend
    have hW' : U.WarmedH s₂.vm := hW₂
    have hs₂ : s₂ = ((({ U with heap := s₂.heap, slotsUsed := s₂.slotsUsed } : State).setVm s₂.vm).setTop g).pushFrame (.throwing q) := by
      refine e3.trans ?_
      rw [hf₂, State.calling_eq h.top, State.setFrames_setFrames, State.pushFrame, State.frames_setTop _ hr', State.setTop_of_frames _ hr', State.setFrames_setFrames, hr]
      rfl
    have hsame : U.sameButNew ({ U with heap := s₂.heap, slotsUsed := s₂.slotsUsed } : State) L mc ms := by
      refine ⟨?_, q2, q3, q4, q5, q6⟩
      obtain ⟨t, ht, -⟩ := State.frames_cons hr
      show ({ U with heap := s₂.heap, slotsUsed := s₂.slotsUsed } : State) = { U.setFrames U.frames with heap := s₂.heap, slotsUsed := s₂.slotsUsed }
      rw [State.setFrames_self ht]
    subst hg
    refine Or.inr ⟨q, ⟨(({ U with heap := s₂.heap, slotsUsed := s₂.slotsUsed } : State).setVm s₂.vm), Ls ++ L, c0 + mc, s0 + ms⟩,
      ⟨X.admits, X.cas, X.clock, X.frames, X.room, X.hears, X.method, X.code, (X.here.setHeapUsed s₂.heap s₂.slotsUsed).setVm hW'.alike, X.tail, State.WarmedH.trans X.warmed hW', X.limits, X.bytes, X.same.trans (hsame.setVm s.vm)⟩,
      ⟨g, mk, s₂, L, E, ce, rfl, rfl, hx, hce, hcv, hcl, rfl, hL, rfl, rfl⟩, ?_⟩
    show Steps p.tables e below _ (((({ U with heap := s₂.heap, slotsUsed := s₂.slotsUsed } : State).setVm s₂.vm).setTop g).pushFrame (.throwing q))
    rw [← hs₂]
    exact hsteps
end Payer
section Calls
variable {p : Program} {l : Launch} {e : Env} {R : Room} {s : State} {m : MethodId} {args : Array Value} {below : List Frame} {meth : Method} {c : Code} {T : State} {locs : List Loc} {cells slots : Nat}
theorem vx_callV (X : Stand p l e R s m args below meth c T locs cells slots) (hexec : p.tables.exec = Jvm.exec) {own C : String} {index : Nat} {y : MethodName} {bytes : ByteArray} {maxL : Nat} {ret : Option FieldType}
    (hown : s.vm.findClass own = some m.cls) (hlink : (Cond.methodLink own index y).before args s = true) (hinst : (Cond.instanceMethod y).before args s = true) (hsel : (Cond.selects C y y).before args s = true)
    (hcode : (Cond.code y bytes maxL ret).before args s = true) (hy : y.cls ≠ "java/lang/invoke/MethodHandle" ∧ y.cls ≠ "java/lang/invoke/VarHandle")
    {W9 : Nat} {Pre : Pt → Array Value → Prop} {Post : Pt → Array Value → Option Value → Pt → Prop} {PostX : Pt → Array Value → Addr → Pt → Prop} (hK : vx_Back l R p e below s args y 3 W9 Pre Post PostX)
    {b : Addr} {cellB : Cell} (hcell : T.heap[b]? = some cellB) (hobj : cellB.vm.isStatics = false) (hcls : s.vm.findClass C = some cellB.cls)
    {g : JFrame} (hg : g.method = m) (hsize : g.locals.size = c.maxLocals) {argsL rest : List Value} (hlen : ∀ sig, parseMethodDescriptor y.desc = some sig → argsL.length = sig.parameters.length)
    (hstack : g.stack = argsL.reverse ++ .ref b :: rest) (hW : 2 * g.monitorRoom + (rest.map fun v => v.category).sum ≤ W9) (hdg : decode c.code g.pc = .ok (.invokevirtual index, 3))
    (hpre : ∀ vm₁, s.WarmedH vm₁ → Pre ⟨T.setVm vm₁, locs, cells, slots⟩ (Value.ref b :: argsL).toArray) :
    (∃ (v : Option Value) (vm₁ : Vm) (B : Pt), s.WarmedH vm₁ ∧ Stand p l e R s m args below meth c B.U B.locs B.cells B.slots ∧ Post ⟨T.setVm vm₁, locs, cells, slots⟩ (Value.ref b :: argsL).toArray v B ∧
      ∀ target, Steps p.tables e below (B.U.setTop { g with pc := g.pc + 3, stack := v.toList ++ rest }) target → Steps p.tables e below (T.setTop g) target) ∨
    (∃ (q : Addr) (vm₁ : Vm) (B : Pt), s.WarmedH vm₁ ∧ Stand p l e R s m args below meth c B.U B.locs B.cells B.slots ∧ PostX ⟨T.setVm vm₁, locs, cells, slots⟩ (Value.ref b :: argsL).toArray q B ∧
      Steps p.tables e below (T.setTop g) ((B.U.setTop { g with stack := rest }).pushFrame (.throwing q))) := by
  obtain ⟨mk, methM, hnamed, hmethM, hstM, habM⟩ := Cond.instanceMethod_spec hinst
  obtain ⟨methM', cM, hmethM', -, -, -, -, -, -, hsigM⟩ := Cond.code_spec hnamed hcode
  cases hmethM.symm.trans hmethM'
  obtain ⟨c2, r2, m2, q1, q2, q3, q4, kP, hkP, hkPi⟩ := Cond.selects_spec hsel
  cases hcls.symm.trans q1
  cases (State.methodFound?_of_named hnamed hy).symm.trans q2
  cases hnamed.symm.trans q3
  have hselP : selectMethod e.platform s.vm cellB.cls mk = .method mk := by rw [Launch.admits_selectMethod X.admits]; exact q4
  obtain ⟨vm₁, X₁, hstep₁⟩ := X.invokevirtual hexec hown hlink hnamed hmethM hstM hkP hkPi hy (a := b) (cell := cellB) hcell
    (fun z h => by rw [h] at hobj; cases hobj) hselP hmethM habM hkP hkPi (g := g) hg (argsL := argsL) (rest := rest) (hlen _ hsigM) hstack hdg
  rcases hK m meth c ⟨T.setVm vm₁, locs, cells, slots⟩ { g with stack := rest } (.invokevirtual index) mk (Value.ref b :: argsL).toArray X₁ hg hsize hdg hW (X₁.named hnamed) (hpre vm₁ X₁.warmed) with ⟨v, B, X', hpost, hsteps⟩ | ⟨q, B, X', hpost, hsteps⟩
  · exact Or.inl ⟨v, vm₁, B, X₁.warmed, X', hpost, fun target h => hstep₁ _ fun acts => by rw [doInvoke_state]; exact hsteps.trans h⟩
  · exact Or.inr ⟨q, vm₁, B, X₁.warmed, X', hpost, hstep₁ _ fun acts => by rw [doInvoke_state]; exact hsteps⟩
theorem vx_callS (X : Stand p l e R s m args below meth c T locs cells slots) (hexec : p.tables.exec = Jvm.exec) {own : String} {index : Nat} {y : MethodName} {bytes : ByteArray} {maxL : Nat} {ret : Option FieldType}
    (hown : s.vm.findClass own = some m.cls) (hlink : (Cond.methodLink own index y).before args s = true) (hstat : (Cond.static y).before args s = true) (hinit : (Cond.initialized y.cls).before args s = true)
    (hcode : (Cond.code y bytes maxL ret).before args s = true) (hy : y.cls ≠ "java/lang/invoke/MethodHandle" ∧ y.cls ≠ "java/lang/invoke/VarHandle")
    {W9 : Nat} {Pre : Pt → Array Value → Prop} {Post : Pt → Array Value → Option Value → Pt → Prop} {PostX : Pt → Array Value → Addr → Pt → Prop} (hK : vx_Back l R p e below s args y 3 W9 Pre Post PostX)
    {g : JFrame} (hg : g.method = m) (hsize : g.locals.size = c.maxLocals) {argsL rest : List Value} (hlen : ∀ sig, parseMethodDescriptor y.desc = some sig → argsL.length = sig.parameters.length)
    (hstack : g.stack = argsL.reverse ++ rest) (hW : 2 * g.monitorRoom + (rest.map fun v => v.category).sum ≤ W9) (hdg : decode c.code g.pc = .ok (.invokestatic index, 3))
    (hpre : ∀ vm₁, s.WarmedH vm₁ → Pre ⟨T.setVm vm₁, locs, cells, slots⟩ argsL.toArray) :
    (∃ (v : Option Value) (vm₁ : Vm) (B : Pt), s.WarmedH vm₁ ∧ Stand p l e R s m args below meth c B.U B.locs B.cells B.slots ∧ Post ⟨T.setVm vm₁, locs, cells, slots⟩ argsL.toArray v B ∧
      ∀ target, Steps p.tables e below (B.U.setTop { g with pc := g.pc + 3, stack := v.toList ++ rest }) target → Steps p.tables e below (T.setTop g) target) ∨
    (∃ (q : Addr) (vm₁ : Vm) (B : Pt), s.WarmedH vm₁ ∧ Stand p l e R s m args below meth c B.U B.locs B.cells B.slots ∧ PostX ⟨T.setVm vm₁, locs, cells, slots⟩ argsL.toArray q B ∧
      Steps p.tables e below (T.setTop g) ((B.U.setTop { g with stack := rest }).pushFrame (.throwing q))) := by
  obtain ⟨mk, hnamed⟩ := Cond.code_named hcode
  obtain ⟨methM, cM, hmethM, -, -, -, -, -, -, hsigM⟩ := Cond.code_spec hnamed hcode
  have hstatic : methM.isStatic = true := Cond.static_spec hnamed hmethM hstat
  obtain ⟨kP, hkP, -⟩ := className_of_methodNamed hnamed
  have hinitP : kP.init = .initialized := Cond.initialized_spec (findClass_of_methodNamed hnamed) hkP hinit
  obtain ⟨vm₁, X₁, hstep₁⟩ := X.invokestatic hexec hown hlink hnamed hmethM hstatic hkP hinitP hy (g := g) hg (argsL := argsL) (rest := rest) (hlen _ hsigM) hstack hdg
  rcases hK m meth c ⟨T.setVm vm₁, locs, cells, slots⟩ { g with stack := rest } (.invokestatic index) mk argsL.toArray X₁ hg hsize hdg hW (X₁.named hnamed) (hpre vm₁ X₁.warmed) with ⟨v, B, X', hpost, hsteps⟩ | ⟨q, B, X', hpost, hsteps⟩
  · exact Or.inl ⟨v, vm₁, B, X₁.warmed, X', hpost, fun target h => hstep₁ _ fun acts => by rw [doInvoke_state]; exact hsteps.trans h⟩
  · exact Or.inr ⟨q, vm₁, B, X₁.warmed, X', hpost, hstep₁ _ fun acts => by rw [doInvoke_state]; exact hsteps⟩
end Calls
theorem vx_cls {s : State} {T : State} {vm₁ : Vm} {E : String} {k : ClassId} (hW : s.WarmedH vm₁) (h : (T.setVm vm₁).vm.findClass E = some k) : s.vm.findClass E = some k := by
  have h1 : vm₁.findClass E = some k := h
  rw [hW.alike.findClass] at h1
  exact h1
/-- the method's frame g, with q thrown over it -/
def vx_W (p : Program) (l : Launch) (e : Env) (R : Room) (s : State) (m : MethodId) (args : Array Value) (below : List Frame) (meth : Method) (c : Code) (H : Heap) (locs : List Loc) (cells slots : Nat) (Q : State → Prop) (g : JFrame) (q : Addr) : Prop :=
  ∀ T : State, T.heap = H → Stand p l e R s m args below meth c T locs cells slots → ∃ t, Steps p.tables e below ((T.setTop g).pushFrame (.throwing q)) t ∧ Q t
def vx_Run (p : Program) (l : Launch) (e : Env) (R : Room) (s : State) (m : MethodId) (args : Array Value) (below : List Frame) (meth : Method) (c : Code) (H : Heap) (locs : List Loc) (cells slots mc ms : Nat) (g : JFrame) (rest : List Value) (Qa : State → Outcome → State → Prop) (XC : String → State → State → Prop) (free : Addr → Prop) : Prop :=
  ∀ T : State, T.heap = H → Stand p l e R s m args below meth c T locs cells slots →
    (∃ (v : Option Value) (st₀ t T' : State) (L : List Loc), st₀.heap = H ∧ Stand p l e R s m args below meth c T' (locs ++ L) (cells + mc) (slots + ms) ∧ (∀ q ∈ L, free q.base) ∧ T'.heap = t.heap ∧ T'.vm = t.vm ∧ Qa st₀ (.returned v) t ∧
      Goes p e below T g T' { g with pc := g.pc + 3, stack := v.toList ++ rest }) ∨
    (∃ (q : Addr) (st₀ t T' : State) (L : List Loc) (E : String) (ce : Cell), st₀.heap = H ∧ Stand p l e R s m args below meth c T' (locs ++ L) (cells + mc) (slots + ms) ∧ (∀ z ∈ L, free z.base) ∧ T'.heap = t.heap ∧ T'.vm = t.vm ∧ XC E st₀ t ∧ t.heap[q]? = some ce ∧ ce.vm = .none ∧ s.vm.findClass E = some ce.cls ∧
      Steps p.tables e below (T.setTop g) ((T'.setTop { g with stack := rest }).pushFrame (.throwing q)))
def vx_X {S : Type} (px : S → Prop) (B : String → S → State → Prop) (A : Nat → Prop) : String → State → State → Prop := fun E st t => ∃ u : S, px u ∧ B E u t ∧ va_F A st t
section Runs
variable {p : Program} {l : Launch} {e : Env} {R : Room} {s : State} {m : MethodId} {args : Array Value} {below : List Frame} {meth : Method} {c : Code} {H : Heap} {locs : List Loc} {cells slots : Nat}
variable {y : MethodName} {bytes cc : ByteArray} {maxL nL mc ms n index : Nat} {ret : Option FieldType} {ws : List Cond} {rm : Room} {Pc : Array Value → State → Prop} {Qc : Array Value → State → Outcome → State → Prop} {XC : String → State → State → Prop} {free : Addr → Prop} {Ts : List Cond} {own C : String} {b : Addr} {As rest : List Value} {g : JFrame}
theorem vx_callBack (cb : CallB R s args own index y bytes maxL ret ws rm mc ms n) (hM : vx_Met l y ws rm Pc Qc XC mc ms free) (hbl : FrameBlind Pc) : vx_Back l R p e below s args y 3 8 (PreOf R mc ms Pc) (PostOf Qc mc ms free) (vx_Post XC mc ms free) := by
  obtain ⟨hrc, hrs, hfr, hlo, hws, hcw, -, hini, -⟩ := cb
  exact vx_back (bytes := bytes) (maxL := maxL) (ret := ret) hM hbl hrc hrs hfr hlo hws hcw (fun a' U hW => word_at hW (Or.inl (by first | rfl | simp [Cond.onTables, Cond.keeps, Cond.steady])) hini)
theorem vx_runV (S : CallFix p m c cc nL s args Ts own) (hM : vx_Met l y ws rm Pc Qc XC mc ms free) (cw : CallW R s args own C index y bytes maxL ret ws rm mc ms n) (hp : PreV s H C b Pc As)
    (hg : g.method = m) (hn : As.length = n) (hsize : g.locals.size = nL) (hstack : g.stack = As.reverse ++ .ref b :: rest) (hW : 2 * g.monitorRoom + (rest.map fun v => v.category).sum ≤ 8) (hdg : decode cc g.pc = .ok (.invokevirtual index, 3)) (hf : cells + mc ≤ R.cells ∧ slots + ms ≤ R.slots) :
    vx_Run p l e R s m args below meth c H locs cells slots mc ms g rest (Qc (Value.ref b :: As).toArray) XC free := by
  have hK : vx_Back l R p e below s args y 3 8 (PreOf R mc ms Pc) (PostOf Qc mc ms free) (vx_Post XC mc ms free) := vx_callBack cw.1 hM hp.1
  obtain ⟨⟨-, -, -, -, -, -, hcode, -, hy, hlen, hl⟩, hin, hse⟩ := cw
  obtain ⟨hx, hb, hml, ho, -⟩ := S
  obtain ⟨-, ⟨cellB, hcB, hoB, hclB⟩, hPc⟩ := hp
  intro T hT X
  rcases vx_callV X hx (C := C) (bytes := bytes) (maxL := maxL) (ret := ret) ho hl hin hse hcode hy hK (by rw [hT]; exact hcB) hoB hclB hg (hsize.trans hml.symm) (argsL := As) (rest := rest) (fun sig h => hn.trans (hlen sig h)) hstack hW (by rw [hb]; exact hdg)
    (fun vm₁ hW₁ => ⟨hf.1, hf.2, hPc (T.setVm vm₁) hT hW₁⟩) with ⟨v, vm₁, ⟨U', l2, c2, s2⟩, hW₁, X', ⟨g', mk, t, L, e1, e2, hq, h1, hL, h2, h3⟩, st⟩ | ⟨q, vm₁, ⟨U', l2, c2, s2⟩, hW₁, X', ⟨g', mk, t, L, E, ce, e1, e2, hq, hce, hcv, hcl, h1, hL, h2, h3⟩, st⟩
  · dsimp only [Pt.U, Pt.locs, Pt.cells, Pt.slots] at X' e1 e2 h1 h2 h3 st
    subst h1; subst h2; subst h3
    exact Or.inl ⟨v, (T.setVm vm₁).calling g' mk (Value.ref b :: As).toArray, t, U', L, hT, X', hL, e1, e2, hq, st⟩
  · dsimp only [Pt.U, Pt.locs, Pt.cells, Pt.slots] at X' e1 e2 h1 h2 h3 st hcl
    subst h1; subst h2; subst h3
    exact Or.inr ⟨q, (T.setVm vm₁).calling g' mk (Value.ref b :: As).toArray, t, U', L, E, ce, hT, X', hL, e1, e2, hq, hce, hcv, vx_cls hW₁ hcl, st⟩
theorem vx_runS (S : CallFix p m c cc nL s args Ts own) (hM : vx_Met l y ws rm Pc Qc XC mc ms free) (cw : CallB R s args own index y bytes maxL ret ws rm mc ms n ∧ (Cond.static y).before args s = true) (hp : PreS s H Pc As)
    (hg : g.method = m) (hn : As.length = n) (hsize : g.locals.size = nL) (hstack : g.stack = As.reverse ++ rest) (hW : 2 * g.monitorRoom + (rest.map fun v => v.category).sum ≤ 8) (hdg : decode cc g.pc = .ok (.invokestatic index, 3)) (hf : cells + mc ≤ R.cells ∧ slots + ms ≤ R.slots) :
    vx_Run p l e R s m args below meth c H locs cells slots mc ms g rest (Qc As.toArray) XC free := by
  have hK : vx_Back l R p e below s args y 3 8 (PreOf R mc ms Pc) (PostOf Qc mc ms free) (vx_Post XC mc ms free) := vx_callBack cw.1 hM hp.1
  obtain ⟨⟨-, -, -, -, -, -, hcode, hini, hy, hlen, hl⟩, hstt⟩ := cw
  obtain ⟨hx, hb, hml, ho, -⟩ := S
  intro T hT X
  rcases vx_callS X hx (bytes := bytes) (maxL := maxL) (ret := ret) ho hl hstt hini hcode hy hK hg (hsize.trans hml.symm) (argsL := As) (rest := rest) (fun sig h => hn.trans (hlen sig h)) hstack hW (by rw [hb]; exact hdg)
    (fun vm₁ hW₁ => ⟨hf.1, hf.2, hp.2 (T.setVm vm₁) hT hW₁⟩) with ⟨v, vm₁, ⟨U', l2, c2, s2⟩, hW₁, X', ⟨g', mk, t, L, e1, e2, hq, h1, hL, h2, h3⟩, st⟩ | ⟨q, vm₁, ⟨U', l2, c2, s2⟩, hW₁, X', ⟨g', mk, t, L, E, ce, e1, e2, hq, hce, hcv, hcl, h1, hL, h2, h3⟩, st⟩
  · dsimp only [Pt.U, Pt.locs, Pt.cells, Pt.slots] at X' e1 e2 h1 h2 h3 st
    subst h1; subst h2; subst h3
    exact Or.inl ⟨v, (T.setVm vm₁).calling g' mk As.toArray, t, U', L, hT, X', hL, e1, e2, hq, st⟩
  · dsimp only [Pt.U, Pt.locs, Pt.cells, Pt.slots] at X' e1 e2 h1 h2 h3 st hcl
    subst h1; subst h2; subst h3
    exact Or.inr ⟨q, (T.setVm vm₁).calling g' mk As.toArray, t, U', L, E, ce, hT, X', hL, e1, e2, hq, hce, hcv, vx_cls hW₁ hcl, st⟩
end Runs
section Rows
variable {p : Program} {l : Launch} {e : Env} {R : Room} {s : State} {m : MethodId} {args : Array Value} {below : List Frame} {meth : Method} {c : Code} {H : Heap} {locs : List Loc} {cells slots : Nat} {Q : State → Prop}
variable {mc ms : Nat} {free : Addr → Prop} {A0 A1 : Nat → Prop} {H0 : Heap} {a : Array Value} {pc : Nat} {ls : Array Slot} {st0 rest : List Value}
theorem vx_keep {st₀ t T' : State} {L : List Loc} (h0 : st₀.heap = H) (e1 : T'.heap = t.heap) (hS : va_S A0 H0 H locs) (hA : ∀ q, q < H.size → A1 q → A0 q) (hf : ∀ q, free q → A0 q) (hL : ∀ q ∈ L, free q.base) (hF : va_F A1 st₀ t) :
    H.size ≤ T'.heap.size ∧ (∀ q : Nat, q < H.size → ¬ A1 q → T'.heap[q]? = H[q]?) ∧ va_S A0 H0 T'.heap (locs ++ L) := by
  obtain ⟨hz, hk⟩ := hF
  rw [h0] at hz hk
  exact ⟨by rw [e1]; exact hz, fun q h1 h2 => by rw [e1]; exact hk q h1 h2,
    ⟨Nat.le_trans hS.1 (by rw [e1]; exact hz), fun q h1 h2 => by rw [e1, hk q (Nat.lt_of_lt_of_le h1 hS.1) (fun z => h2 (hA q (Nat.lt_of_lt_of_le h1 hS.1) z))]; exact hS.2.1 q h1 h2, fun q hq => by
      rcases List.mem_append.mp hq with h | h
      · exact hS.2.2 q h
      · exact hf _ (hL q h)⟩⟩
theorem vx_calli {S SX : Type} {post : Int32 → S → Prop} {px : SX → Prop} {B : S → State → Prop} {BX : String → SX → State → Prop} {AX : Nat → Prop} (hr : vx_Run p l e R s m args below meth c H locs cells slots mc ms (F0 m pc ls st0) rest (va_Qi post B A1 a) (vx_X px BX AX) free) (hS : va_S A0 H0 H locs) (hA : ∀ q, q < H.size → A1 q → A0 q) (hf : ∀ q, free q → A0 q) (hAX : ∀ q, q < H.size → AX q → A0 q)
    (kx : ∀ (E : String) (ce : Cell) (q9 : Addr) (u : SX) (t : State) (H1 : Heap) (locs1 : List Loc), t.heap = H1 → s.vm.Alike t.vm → px u → BX E u t → H.size ≤ H1.size → (∀ q : Nat, q < H.size → ¬ AX q → H1[q]? = H[q]?) → va_S A0 H0 H1 locs1 → H1[q9]? = some ce → ce.vm = .none → s.vm.findClass E = some ce.cls → vx_W p l e R s m args below meth c H1 locs1 (cells + mc) (slots + ms) Q (F0 m pc ls rest) q9)
    (kk : ∀ (r : Int32) (u : S) (t : State) (H1 : Heap) (locs1 : List Loc), t.heap = H1 → s.vm.Alike t.vm → post r u → B u t → H.size ≤ H1.size → (∀ q : Nat, q < H.size → ¬ A1 q → H1[q]? = H[q]?) → va_S A0 H0 H1 locs1 → W p l e R s m args below meth c H1 locs1 (cells + mc) (slots + ms) Q (F0 m (pc + 3) ls (.int r :: rest))) : W p l e R s m args below meth c H locs cells slots Q (F0 m pc ls st0) := by
  intro T hT X
  rcases hr T hT X with ⟨v, st₀, t, T', L, h0, X', hL, e1, e2, ⟨⟨r, u, hv, hp, hb⟩, hF⟩, st⟩ | ⟨q, st₀, t, T', L, E, ce, h0, X', hL, e1, e2, ⟨u, hp, hb, hF⟩, hce, hcv, hcl, st⟩
  · cases hv
    obtain ⟨k1, k2, k3⟩ := vx_keep h0 e1 hS hA hf hL hF
    obtain ⟨t2, a1, b1⟩ := kk r u t T'.heap (locs ++ L) e1.symm (by rw [← e2]; exact X'.warmed.alike) hp hb k1 k2 k3 T' rfl X'
    exact ⟨t2, st t2 a1, b1⟩
  · obtain ⟨k1, k2, k3⟩ := vx_keep h0 e1 hS hAX hf hL hF
    obtain ⟨t2, a1, b1⟩ := kx E ce q u t T'.heap (locs ++ L) e1.symm (by rw [← e2]; exact X'.warmed.alike) hp hb k1 k2 k3 (by rw [e1]; exact hce) hcv hcl T' rfl X'
    exact ⟨t2, st.trans a1, b1⟩
theorem vx_calll {S SX : Type} {post : Int64 → S → Prop} {px : SX → Prop} {B : S → State → Prop} {BX : String → SX → State → Prop} {AX : Nat → Prop} (hr : vx_Run p l e R s m args below meth c H locs cells slots mc ms (F0 m pc ls st0) rest (va_Ql post B A1 a) (vx_X px BX AX) free) (hS : va_S A0 H0 H locs) (hA : ∀ q, q < H.size → A1 q → A0 q) (hf : ∀ q, free q → A0 q) (hAX : ∀ q, q < H.size → AX q → A0 q)
    (kx : ∀ (E : String) (ce : Cell) (q9 : Addr) (u : SX) (t : State) (H1 : Heap) (locs1 : List Loc), t.heap = H1 → s.vm.Alike t.vm → px u → BX E u t → H.size ≤ H1.size → (∀ q : Nat, q < H.size → ¬ AX q → H1[q]? = H[q]?) → va_S A0 H0 H1 locs1 → H1[q9]? = some ce → ce.vm = .none → s.vm.findClass E = some ce.cls → vx_W p l e R s m args below meth c H1 locs1 (cells + mc) (slots + ms) Q (F0 m pc ls rest) q9)
    (kk : ∀ (r : Int64) (u : S) (t : State) (H1 : Heap) (locs1 : List Loc), t.heap = H1 → s.vm.Alike t.vm → post r u → B u t → H.size ≤ H1.size → (∀ q : Nat, q < H.size → ¬ A1 q → H1[q]? = H[q]?) → va_S A0 H0 H1 locs1 → W p l e R s m args below meth c H1 locs1 (cells + mc) (slots + ms) Q (F0 m (pc + 3) ls (.long r :: rest))) : W p l e R s m args below meth c H locs cells slots Q (F0 m pc ls st0) := by
  intro T hT X
  rcases hr T hT X with ⟨v, st₀, t, T', L, h0, X', hL, e1, e2, ⟨⟨r, u, hv, hp, hb⟩, hF⟩, st⟩ | ⟨q, st₀, t, T', L, E, ce, h0, X', hL, e1, e2, ⟨u, hp, hb, hF⟩, hce, hcv, hcl, st⟩
  · cases hv
    obtain ⟨k1, k2, k3⟩ := vx_keep h0 e1 hS hA hf hL hF
    obtain ⟨t2, a1, b1⟩ := kk r u t T'.heap (locs ++ L) e1.symm (by rw [← e2]; exact X'.warmed.alike) hp hb k1 k2 k3 T' rfl X'
    exact ⟨t2, st t2 a1, b1⟩
  · obtain ⟨k1, k2, k3⟩ := vx_keep h0 e1 hS hAX hf hL hF
    obtain ⟨t2, a1, b1⟩ := kx E ce q u t T'.heap (locs ++ L) e1.symm (by rw [← e2]; exact X'.warmed.alike) hp hb k1 k2 k3 (by rw [e1]; exact hce) hcv hcl T' rfl X'
    exact ⟨t2, st.trans a1, b1⟩
theorem vx_callf {S SX : Type} {post : UInt32 → S → Prop} {px : SX → Prop} {B : S → State → Prop} {BX : String → SX → State → Prop} {AX : Nat → Prop} (hr : vx_Run p l e R s m args below meth c H locs cells slots mc ms (F0 m pc ls st0) rest (va_Qf post B A1 a) (vx_X px BX AX) free) (hS : va_S A0 H0 H locs) (hA : ∀ q, q < H.size → A1 q → A0 q) (hf : ∀ q, free q → A0 q) (hAX : ∀ q, q < H.size → AX q → A0 q)
    (kx : ∀ (E : String) (ce : Cell) (q9 : Addr) (u : SX) (t : State) (H1 : Heap) (locs1 : List Loc), t.heap = H1 → s.vm.Alike t.vm → px u → BX E u t → H.size ≤ H1.size → (∀ q : Nat, q < H.size → ¬ AX q → H1[q]? = H[q]?) → va_S A0 H0 H1 locs1 → H1[q9]? = some ce → ce.vm = .none → s.vm.findClass E = some ce.cls → vx_W p l e R s m args below meth c H1 locs1 (cells + mc) (slots + ms) Q (F0 m pc ls rest) q9)
    (kk : ∀ (r : UInt32) (u : S) (t : State) (H1 : Heap) (locs1 : List Loc), t.heap = H1 → s.vm.Alike t.vm → post r u → B u t → H.size ≤ H1.size → (∀ q : Nat, q < H.size → ¬ A1 q → H1[q]? = H[q]?) → va_S A0 H0 H1 locs1 → W p l e R s m args below meth c H1 locs1 (cells + mc) (slots + ms) Q (F0 m (pc + 3) ls (.float r :: rest))) : W p l e R s m args below meth c H locs cells slots Q (F0 m pc ls st0) := by
  intro T hT X
  rcases hr T hT X with ⟨v, st₀, t, T', L, h0, X', hL, e1, e2, ⟨⟨r, u, hv, hp, hb⟩, hF⟩, st⟩ | ⟨q, st₀, t, T', L, E, ce, h0, X', hL, e1, e2, ⟨u, hp, hb, hF⟩, hce, hcv, hcl, st⟩
  · cases hv
    obtain ⟨k1, k2, k3⟩ := vx_keep h0 e1 hS hA hf hL hF
    obtain ⟨t2, a1, b1⟩ := kk r u t T'.heap (locs ++ L) e1.symm (by rw [← e2]; exact X'.warmed.alike) hp hb k1 k2 k3 T' rfl X'
    exact ⟨t2, st t2 a1, b1⟩
  · obtain ⟨k1, k2, k3⟩ := vx_keep h0 e1 hS hAX hf hL hF
    obtain ⟨t2, a1, b1⟩ := kx E ce q u t T'.heap (locs ++ L) e1.symm (by rw [← e2]; exact X'.warmed.alike) hp hb k1 k2 k3 (by rw [e1]; exact hce) hcv hcl T' rfl X'
    exact ⟨t2, st.trans a1, b1⟩
theorem vx_calld {S SX : Type} {post : UInt64 → S → Prop} {px : SX → Prop} {B : S → State → Prop} {BX : String → SX → State → Prop} {AX : Nat → Prop} (hr : vx_Run p l e R s m args below meth c H locs cells slots mc ms (F0 m pc ls st0) rest (va_Qd post B A1 a) (vx_X px BX AX) free) (hS : va_S A0 H0 H locs) (hA : ∀ q, q < H.size → A1 q → A0 q) (hf : ∀ q, free q → A0 q) (hAX : ∀ q, q < H.size → AX q → A0 q)
    (kx : ∀ (E : String) (ce : Cell) (q9 : Addr) (u : SX) (t : State) (H1 : Heap) (locs1 : List Loc), t.heap = H1 → s.vm.Alike t.vm → px u → BX E u t → H.size ≤ H1.size → (∀ q : Nat, q < H.size → ¬ AX q → H1[q]? = H[q]?) → va_S A0 H0 H1 locs1 → H1[q9]? = some ce → ce.vm = .none → s.vm.findClass E = some ce.cls → vx_W p l e R s m args below meth c H1 locs1 (cells + mc) (slots + ms) Q (F0 m pc ls rest) q9)
    (kk : ∀ (r : UInt64) (u : S) (t : State) (H1 : Heap) (locs1 : List Loc), t.heap = H1 → s.vm.Alike t.vm → post r u → B u t → H.size ≤ H1.size → (∀ q : Nat, q < H.size → ¬ A1 q → H1[q]? = H[q]?) → va_S A0 H0 H1 locs1 → W p l e R s m args below meth c H1 locs1 (cells + mc) (slots + ms) Q (F0 m (pc + 3) ls (.double r :: rest))) : W p l e R s m args below meth c H locs cells slots Q (F0 m pc ls st0) := by
  intro T hT X
  rcases hr T hT X with ⟨v, st₀, t, T', L, h0, X', hL, e1, e2, ⟨⟨r, u, hv, hp, hb⟩, hF⟩, st⟩ | ⟨q, st₀, t, T', L, E, ce, h0, X', hL, e1, e2, ⟨u, hp, hb, hF⟩, hce, hcv, hcl, st⟩
  · cases hv
    obtain ⟨k1, k2, k3⟩ := vx_keep h0 e1 hS hA hf hL hF
    obtain ⟨t2, a1, b1⟩ := kk r u t T'.heap (locs ++ L) e1.symm (by rw [← e2]; exact X'.warmed.alike) hp hb k1 k2 k3 T' rfl X'
    exact ⟨t2, st t2 a1, b1⟩
  · obtain ⟨k1, k2, k3⟩ := vx_keep h0 e1 hS hAX hf hL hF
    obtain ⟨t2, a1, b1⟩ := kx E ce q u t T'.heap (locs ++ L) e1.symm (by rw [← e2]; exact X'.warmed.alike) hp hb k1 k2 k3 (by rw [e1]; exact hce) hcv hcl T' rfl X'
    exact ⟨t2, st.trans a1, b1⟩
theorem vx_callv {S SX : Type} {post : S → Prop} {px : SX → Prop} {B : S → State → Prop} {BX : String → SX → State → Prop} {AX : Nat → Prop} (hr : vx_Run p l e R s m args below meth c H locs cells slots mc ms (F0 m pc ls st0) rest (va_Qv post B A1 a) (vx_X px BX AX) free) (hS : va_S A0 H0 H locs) (hA : ∀ q, q < H.size → A1 q → A0 q) (hf : ∀ q, free q → A0 q) (hAX : ∀ q, q < H.size → AX q → A0 q)
    (kx : ∀ (E : String) (ce : Cell) (q9 : Addr) (u : SX) (t : State) (H1 : Heap) (locs1 : List Loc), t.heap = H1 → s.vm.Alike t.vm → px u → BX E u t → H.size ≤ H1.size → (∀ q : Nat, q < H.size → ¬ AX q → H1[q]? = H[q]?) → va_S A0 H0 H1 locs1 → H1[q9]? = some ce → ce.vm = .none → s.vm.findClass E = some ce.cls → vx_W p l e R s m args below meth c H1 locs1 (cells + mc) (slots + ms) Q (F0 m pc ls rest) q9)
    (kk : ∀ (u : S) (t : State) (H1 : Heap) (locs1 : List Loc), t.heap = H1 → s.vm.Alike t.vm → post u → B u t → H.size ≤ H1.size → (∀ q : Nat, q < H.size → ¬ A1 q → H1[q]? = H[q]?) → va_S A0 H0 H1 locs1 → W p l e R s m args below meth c H1 locs1 (cells + mc) (slots + ms) Q (F0 m (pc + 3) ls (rest))) : W p l e R s m args below meth c H locs cells slots Q (F0 m pc ls st0) := by
  intro T hT X
  rcases hr T hT X with ⟨v, st₀, t, T', L, h0, X', hL, e1, e2, ⟨⟨u, hv, hp, hb⟩, hF⟩, st⟩ | ⟨q, st₀, t, T', L, E, ce, h0, X', hL, e1, e2, ⟨u, hp, hb, hF⟩, hce, hcv, hcl, st⟩
  · cases hv
    obtain ⟨k1, k2, k3⟩ := vx_keep h0 e1 hS hA hf hL hF
    obtain ⟨t2, a1, b1⟩ := kk u t T'.heap (locs ++ L) e1.symm (by rw [← e2]; exact X'.warmed.alike) hp hb k1 k2 k3 T' rfl X'
    exact ⟨t2, st t2 a1, b1⟩
  · obtain ⟨k1, k2, k3⟩ := vx_keep h0 e1 hS hAX hf hL hF
    obtain ⟨t2, a1, b1⟩ := kx E ce q u t T'.heap (locs ++ L) e1.symm (by rw [← e2]; exact X'.warmed.alike) hp hb k1 k2 k3 (by rw [e1]; exact hce) hcv hcl T' rfl X'
    exact ⟨t2, st.trans a1, b1⟩
/-- caught by the row x of this method's table; the rows ahead don't take it -/
theorem vx_catch {own name : String} {E : String} {ce : Cell} {q : Addr} (hown : s.vm.findClass own = some m.cls) (pre : List ExceptionTableEntry) (x : ExceptionTableEntry) (suf : List ExceptionTableEntry) (hsplit : c.exceptionTable.toList = pre ++ x :: suf)
    (hpass : ∀ z ∈ pre, covers z pc = false ∨ (z.catchType ≠ 0 ∧ ∃ nm : String, (Cond.classLink own z.catchType nm).before args s = true ∧ va_Nc E nm s)) (hx : covers x pc = true) (h0 : x.catchType ≠ 0)
    (hlink : (Cond.classLink own x.catchType name).before args s = true) (hcast : (Cond.castable E name).before args s = true) (hcell : H[q]? = some ce) (hv : ce.vm = .none) (hcl : s.vm.findClass E = some ce.cls)
    (kk : W p l e R s m args below meth c H locs cells slots Q (F0 m x.handlerPc ls [.ref q])) : vx_W p l e R s m args below meth c H locs cells slots Q (F0 m pc ls rest) q := by
  intro T hT X
  have hpl : e.platform.magicAccessors = ({} : Platform).magicAccessors := by rw [X.admits.platform]
  obtain ⟨c3, c4, hc3, hc4, hasg⟩ := Cond.castable_spec hcast
  cases Option.some.inj (hc3.symm.trans hcl)
  obtain ⟨c5, hc5, hcl5⟩ := Cond.classLink_spec hown hlink e.platform hpl
  cases Option.some.inj (hc4.symm.trans hc5)
  obtain ⟨vm', X', st⟩ := X.thenCaughtThrough q (g := F0 m pc ls rest) rfl (Steps.refl _) (by rw [hT]; exact hcell) (by rw [hv]; rfl) (by obtain ⟨k9, h9, -⟩ := Vm.findClass_spec hcl; exact ⟨k9, h9⟩) pre x suf hsplit
    (fun z hz => by
      rcases hpass z hz with h | ⟨hz0, nm, hl1, hn1⟩
      · exact Or.inl h
      · obtain ⟨c6, hc6, hcl6⟩ := Cond.classLink_spec hown hl1 e.platform hpl
        obtain ⟨a8, b8, h1, h2, h3⟩ := hn1
        cases Option.some.inj (h1.symm.trans hcl)
        cases Option.some.inj (h2.symm.trans hc6)
        exact Or.inr ⟨hz0, _, hcl6, h3⟩) hx (Or.inr ⟨h0, c4, hcl5, hasg⟩)
  obtain ⟨t, a1, b1⟩ := kk (T.setVm vm') hT X'
  exact ⟨t, st.trans a1, b1⟩
end Rows
section Ends
variable {p : Program} {l : Launch} {e : Env} {R : Room} {s : State} {m : MethodId} {args : Array Value} {below : List Frame} {meth : Method} {c : Code} {H : Heap} {locs : List Loc} {cells slots : Nat} {Q : State → Prop}
variable {mc ms : Nat} {free : Addr → Prop} {A0 A1 : Nat → Prop} {H0 : Heap} {a : Array Value} {ls : Array Slot} {st0 rest : List Value}
variable {Qc : Array Value → State → Outcome → State → Prop} {XC : String → State → State → Prop}
/-- what a body that may throw owes at its end -/
def vx_MQ (below : List Frame) (Qc : Array Value → State → Outcome → State → Prop) (XC : String → State → State → Prop) (a : Array Value) (s : State) (mc ms : Nat) (free : Addr → Prop) : State → Prop := fun t =>
  ∃ o, t.status = .running ∧ Ended t below o ∧ vx_Q Qc XC mc ms free a s o t
theorem vx_ret {g : JFrame} {mc ms : Nat} (k : W p l e R s m args below meth c H locs cells slots (MQ below Qc args s mc ms free) g) : W p l e R s m args below meth c H locs cells slots (vx_MQ below Qc XC args s mc ms free) g := by
  intro T hT X
  obtain ⟨t, a1, o, b1, b2, b3, b4⟩ := k T hT X
  exact ⟨t, a1, o, b1, b2, Or.inl ⟨b3, b4⟩⟩
/-- not caught here: it goes on to the caller -/
theorem vx_widen {g : JFrame} {q : Addr} {k n : Nat} (h1 : cells ≤ k) (h2 : slots ≤ n) (kk : vx_W p l e R s m args below meth c H locs k n Q g q) : vx_W p l e R s m args below meth c H locs cells slots Q g q := fun T hT X => kk T hT (stand_widen X h1 h2)
theorem vx_out {pc : Nat} {E : String} {ce : Cell} {q : Addr} {mc ms : Nat} (hout : ∀ x ∈ c.exceptionTable.toList, covers x pc = false) (hlocks : meth.locks = false) (hcell : H[q]? = some ce) (hv : ce.vm = .none) (hcl : s.vm.findClass E = some ce.cls)
    (hx : ∀ t : State, t.heap = H → s.vm.Alike t.vm → XC E s t) (hf : ∀ z ∈ locs, free z.base) (hc : cells ≤ mc) (hs : slots ≤ ms) :
    vx_W p l e R s m args below meth c H locs cells slots (vx_MQ below Qc XC args s mc ms free) (F0 m pc ls rest) q := by
  intro T hT X
  obtain ⟨st1, hrun, hend, hW, hsm⟩ := X.leaveThrown q (g := F0 m pc ls rest) rfl rfl rfl hout hlocks
  have hcell9 : (T.setFrames (.throwing q :: below)).heap[q]? = some ce := by
    show T.heap[q]? = some ce
    rw [hT]; exact hcell
  exact ⟨_, st1, .threw q, hrun, hend, Or.inr ⟨q, rfl, E, ce, locs, hx _ hT hW.alike, hcell9, hv, hcl, hW, hsm.mono hc hs, hf⟩⟩
theorem vx_frame {U : State} {k n : Nat} (h : s.sameButNew ({ U with vm := s.vm } : State) locs k n) : s.heap.size ≤ U.heap.size ∧ ∀ q : Nat, q < s.heap.size → (∀ z ∈ locs, z.base ≠ q) → U.heap[q]? = s.heap[q]? := by
  obtain ⟨-, h2, -, -, -, h6⟩ := h
  refine ⟨h2, fun q hq hz => ?_⟩
  obtain ⟨c9, e1, e2, e3, e4⟩ := h6 q _ (Array.getElem?_eq_getElem hq)
  have hs : c9.slots = (s.heap[q]).slots := Array.ext_getElem? fun i => e4 i fun hm => hz _ hm rfl
  have h9 : c9 = s.heap[q] := by
    rw [hs] at e2
    exact e2
  have e5 : U.heap[q]? = some c9 := e1
  rw [e5, h9, Array.getElem?_eq_getElem hq]
/-- the words of a throw but the four that speak of the heap -/
def vx_no (w : Cond) : Bool := decide (w ≠ .isRef (.static Bundle.tN "UNASSIGNED_STACK" Bundle.steD)) && decide (w ≠ .isRef (.static Bundle.tN "SUPPRESSED_SENTINEL" Bundle.listD)) && decide (w ≠ .laysStatic Bundle.tN "UNASSIGNED_STACK" Bundle.steD) && decide (w ≠ .laysStatic Bundle.tN "SUPPRESSED_SENTINEL" Bundle.listD)
def vx_at0 (own : String) (ic : Nat) (X : String) (names : List String) : List Cond := (Bundle.ownAtoms0 own ic X names).filter vx_no
def vx_atS (own : String) (ic : Nat) (X : String) (names : List String) : List Cond := (Bundle.ownAtoms own ic X names).filter vx_no
/-- a word that the tables alone decide, or a good one -/
def vx_ot (w : Cond) : Bool := w.onTables || goodWord w
theorem vx_ot_at {args a' : Array Value} {s U : State} {w : Cond} (hW : s.WarmedH U.vm) (hvm : s.vm = U.vm) (hg : vx_ot w = true) (h : w.before args s = true) : w.before a' U = true := by
  simp only [vx_ot, Bool.or_eq_true] at hg
  rcases hg with hg | hg
  · exact va_tabs hg hvm h
  · exact word_at hW (good_of_word hg) h
/-- a list's words: the good ones out of the method's own list, the others by premises of their own -/
theorem vx_hat {args : Array Value} {s : State} {L B : List Cond} (h1 : ∀ w ∈ L.filter goodWord, w.before args s = true) (h2 : ∀ w ∈ L.filter (fun w => !goodWord w), w ∈ B) (h3 : ∀ w ∈ B, w.before args s = true) : ∀ w ∈ L, w.before args s = true := by
  intro w hw
  by_cases g : goodWord w = true
  · exact h1 w (List.mem_filter.mpr ⟨hw, g⟩)
  · refine h3 w (h2 w (List.mem_filter.mpr ⟨hw, ?_⟩))
    show (!goodWord w) = true
    cases hgw : goodWord w
    · rfl
    · exact absurd hgw g
theorem vx_c {args : Array Value} {s : State} {w : Cond} {B : List Cond} (h : w.before args s = true) (t : ∀ w ∈ B, w.before args s = true) : ∀ w' ∈ w :: B, w'.before args s = true := fun w' h' => (List.mem_cons.mp h').elim (fun e => by rw [e]; exact h) (t w')
theorem vx_n {args : Array Value} {s : State} : ∀ w ∈ ([] : List Cond), w.before args s = true := fun _ h => nomatch h
theorem vx_own {args : Array Value} {s : State} {L : List Cond} (h1 : ∀ w ∈ L.filter vx_no, w.before args s = true)
    (hU : (Cond.isRef (.static Bundle.tN "UNASSIGNED_STACK" Bundle.steD)).before args s = true) (hN : (Cond.isRef (.static Bundle.tN "SUPPRESSED_SENTINEL" Bundle.listD)).before args s = true)
    (lU : (Cond.laysStatic Bundle.tN "UNASSIGNED_STACK" Bundle.steD).before args s = true) (lN : (Cond.laysStatic Bundle.tN "SUPPRESSED_SENTINEL" Bundle.listD).before args s = true) : ∀ w ∈ L, w.before args s = true := by
  intro w hw
  by_cases e1 : w = .isRef (.static Bundle.tN "UNASSIGNED_STACK" Bundle.steD)
  · rw [e1]; exact hU
  · by_cases e2 : w = .isRef (.static Bundle.tN "SUPPRESSED_SENTINEL" Bundle.listD)
    · rw [e2]; exact hN
    · by_cases e3 : w = .laysStatic Bundle.tN "UNASSIGNED_STACK" Bundle.steD
      · rw [e3]; exact lU
      · by_cases e4 : w = .laysStatic Bundle.tN "SUPPRESSED_SENTINEL" Bundle.listD
        · rw [e4]; exact lN
        · exact h1 w (List.mem_filter.mpr ⟨hw, by unfold vx_no; rw [decide_eq_true e1, decide_eq_true e2, decide_eq_true e3, decide_eq_true e4]; rfl⟩)
/-- where a static field lies, its class's statics cell in H -/
def vx_L (C n d : String) (A : Nat → Prop) (U : State) (H : Heap) : Prop := ∃ (c : ClassId) (k : Class) (i : Nat) (f : Field) (a : Nat) (cell : Cell), U.vm.findClass C = some c ∧ U.fieldFound? C n d = some (c, k, i, f) ∧ f.isStatic = true ∧ k.statics = some a ∧ H[a]? = some cell ∧ cell.vm.isStatics = true ∧ cell.cls = c ∧ f.slot < cell.slots.size ∧ k.staticTypes[f.slot]? = some f.type ∧ ¬ A a
theorem vx_L.moved {C n d : String} {A : Nat → Prop} {u U : State} {H : Heap} (hvm : u.vm.Alike U.vm) (h : vx_L C n d A u H) : vx_L C n d A U H := by
  obtain ⟨c, k, i, f, a, cell, h1, h2, h3, h4, h5, h6, h7, h8, h9, h10⟩ := h
  obtain ⟨k', hi', he⟩ := State.fieldFound?_setVm hvm h2
  exact ⟨c, k', i, f, a, cell, by rw [hvm.findClass]; exact h1, hi', h3, by rw [he]; exact h4, h5, h6, h7, h8, by rw [he]; exact h9, h10⟩
theorem vx_L.kept {C n d : String} {A : Nat → Prop} {U : State} {H H1 : Heap} (h : vx_L C n d A U H) (hq : ∀ a : Nat, a < H.size → ¬ A a → H1[a]? = H[a]?) : vx_L C n d A U H1 := by
  obtain ⟨c, k, i, f, a, cell, h1, h2, h3, h4, h5, h6, h7, h8, h9, h10⟩ := h
  exact ⟨c, k, i, f, a, cell, h1, h2, h3, h4, by rw [hq a (Array.getElem?_eq_some_iff.mp h5).1 h10]; exact h5, h6, h7, h8, h9, h10⟩
theorem vx_L.narrow {C n d : String} {A B : Nat → Prop} {U : State} {H : Heap} (h : vx_L C n d A U H) (hAB : ∀ q, B q → A q) : vx_L C n d B U H := by
  obtain ⟨c, k, i, f, a, cell, h1, h2, h3, h4, h5, h6, h7, h8, h9, h10⟩ := h
  exact ⟨c, k, i, f, a, cell, h1, h2, h3, h4, h5, h6, h7, h8, h9, fun z => h10 (hAB _ z)⟩
theorem vx_L.word {C n d : String} {A : Nat → Prop} {s : State} {args : Array Value} (h : vx_L C n d A s s.heap) : (Cond.laysStatic C n d).before args s = true := by
  obtain ⟨c, k, i, f, a, cell, h1, h2, h3, h4, h5, h6, h7, h8, h9, -⟩ := h
  show (Cond.laysStatic C n d).holds args s none s [] = true
  exact Cond.laysStatic_of h1 h2 h3 h4 h5 h6 h7 h8 h9
/-- .. and what it holds: null or some reference -/
def vx_Zq (C n d : String) (A : Nat → Prop) (U : State) (H : Heap) : Prop := va_Zq C n d A U H ∧ vx_L C n d A U H
theorem vx_Zq.moved {C n d : String} {A : Nat → Prop} {u U : State} {H : Heap} (hvm : u.vm.Alike U.vm) (h : vx_Zq C n d A u H) : vx_Zq C n d A U H := ⟨va_Zq.moved hvm h.1, vx_L.moved hvm h.2⟩
theorem vx_Zq.kept {C n d : String} {A : Nat → Prop} {U : State} {H H1 : Heap} (h : vx_Zq C n d A U H) (hq : ∀ a : Nat, a < H.size → ¬ A a → H1[a]? = H[a]?) : vx_Zq C n d A U H1 := ⟨va_Zq.kept h.1 hq, vx_L.kept h.2 hq⟩
theorem vx_Zq.narrow {C n d : String} {A B : Nat → Prop} {U : State} {H : Heap} (h : vx_Zq C n d A U H) (hAB : ∀ q, B q → A q) : vx_Zq C n d B U H := ⟨va_Zq.narrow h.1 hAB, vx_L.narrow h.2 hAB⟩
theorem vx_Zqof {args : Array Value} {s : State} {C n d : String} {A : Nat → Prop} (hl : (Cond.laysStatic C n d).before args s = true) (hini : (Cond.initialized C).before args s = true) (h : (Cond.isRef (.static C n d)).before args s = true) (hA : ∀ a : Nat, a < s.heap.size → ¬ A a) : vx_Zq C n d A s s.heap := by
  refine ⟨va_Zqof hl hini h hA, ?_⟩
  obtain ⟨c, k, i, f, a, cell, h1, h2, h3, h4, h5, h6, h7, h8, h9⟩ := Cond.laysStatic_spec hl
  exact ⟨c, k, i, f, a, cell, h1, h2, h3, h4, h5, h6, h7, h8, h9, hA a (Array.getElem?_eq_some_iff.mp h5).1⟩
theorem vx_isRef {C n d : String} {v : Value} {A : Nat → Prop} {s : State} {args : Array Value} (h : va_Z C n d v A s s.heap) (hv : v.isRef = true) : (Cond.isRef (.static C n d)).before args s = true := by
  obtain ⟨cf, kf, fi, f, a, cell, h1, h2, h3, h4, h5, h6, h7, -⟩ := h
  have he : (Term.static C n d).eval args s none [] s = some v := by
    simp [Term.eval, State.fieldNamed?, h1, h2, h4, h5, h6, h7]
  simp only [Cond.before, Cond.holds, Cond.value, he]
  cases v <;> simp_all [Value.isRef]
theorem vx_isRefq {C n d : String} {A : Nat → Prop} {s : State} {args : Array Value} (h : va_Zq C n d A s s.heap) : (Cond.isRef (.static C n d)).before args s = true := by
  rcases h with h | ⟨t, h⟩
  · exact vx_isRef h rfl
  · exact vx_isRef h rfl
/-- the same frame, seen from here: as if the method were called anew in this heap -/
theorem vx_rebase {T : State} (X : Stand p l e R s m args below meth c T locs cells slots) {R' : Room} (hf : R'.frames ≤ R.frames) (hl : R'.locals ≤ R.locals) (hc : cells + R'.cells ≤ R.cells) (hs : slots + R'.slots ≤ R.slots) :
    Stand p l e R' ((T.setVm s.vm).setFrames (.invoking m args :: below)) m args below meth c T [] 0 0 := by
  have htop : (T.setVm s.vm).topJava?.isSome := X.here.top
  have hF : ((T.setVm s.vm).setFrames (.invoking m args :: below)).frames = .invoking m args :: below := State.frames_setFrames _ (State.cur_lt_of_top htop)
  obtain ⟨g₀, hg0⟩ := Option.isSome_iff_exists.mp htop
  obtain ⟨r, hr⟩ := State.topJava?_eq_some.mp hg0
  have hl9 : e.platform.stackLimits (T.setVm s.vm).me = e.platform.stackLimits s.me := X.limits
  have hb9 : (T.setVm s.vm).me.stackBytes = s.me.stackBytes := X.bytes
  refine ⟨X.admits, X.cas, X.clock, hF, ?_, X.hears, X.method, X.code, X.here, X.tail, X.warmed, ?_, ?_, ?_⟩
  · have h := X.room
    have hU : ((T.setVm s.vm).setFrames (.invoking m args :: below)).localsInUse = s.localsInUse := by
      rw [State.localsInUse_invoking hF (meth := meth) (c := c) X.method X.code, State.localsInUse_invoking X.frames X.method X.code]
    simp only [State.hasRoom, Bool.and_eq_true, decide_eq_true_eq] at h ⊢
    obtain ⟨⟨⟨⟨h1, h2, h3, h4, h5, h6⟩, h7⟩, h8⟩, h9⟩ := h
    rw [X.frames, List.length_cons] at h2 h3
    have q1 := X.heapSize
    have q2 := X.used
    simp only [hF, hU, List.length_cons, State.stackLimits_setFrames, State.stackBytes_setFrames, hl9, hb9]
    refine ⟨⟨⟨⟨by omega, by omega, by omega, by omega, by omega, h6⟩, ?_⟩, ?_⟩, X.book⟩
    · show T.heap.size + R'.cells ≤ e.platform.maxCells
      omega
    · show T.slotsUsed + R'.slots ≤ e.platform.maxSlots
      omega
  · rw [State.stackLimits_setFrames]; rfl
  · rw [State.stackBytes_setFrames]; rfl
  · refine ⟨?_, Nat.le_refl _, Nat.le_refl _, ?_, ?_, fun a c9 h9 => ⟨c9, h9, rfl, rfl, fun _ _ => rfl⟩⟩
    · obtain ⟨t, ht, -⟩ := State.frames_cons hr
      show T.setVm s.vm = { ((T.setVm s.vm).setFrames (.invoking m args :: below)).setFrames (T.setVm s.vm).frames with heap := T.heap, slotsUsed := T.slotsUsed }
      rw [State.setFrames_setFrames, State.setFrames_self ht]
      rfl
    · show T.slotsUsed = T.slotsUsed + ((T.heap.toList.drop T.heap.size).map (·.slots.size)).sum
      rw [List.drop_eq_nil_of_le (Nat.le_of_eq Array.length_toList)]
      rfl
    · show ((T.heap.toList.drop T.heap.size).map (·.slots.size)).sum ≤ 0
      rw [List.drop_eq_nil_of_le (Nat.le_of_eq Array.length_toList)]
      exact Nat.le_refl _
/-- 'throw new E()': new; dup; invokespecial; athrow -/
theorem vx_throw0 {cc : ByteArray} {pc : Nat} (hexec : p.tables.exec = Jvm.exec) (hb : c.code = cc) (hl : l.stackTraces = false) {own cls : String} {names : List String} {ik ic mc ms : Nat} {A : Nat → Prop}
    (hown : s.vm.findClass own = some m.cls) (hcls : Bundle.fit cls = true) (hnames : ∀ n ∈ names, Bundle.fit n = true)
    (hk : (Cond.classLink own ik cls).before args s = true) (hini : (Cond.initialized cls).before args s = true) (hat : ∀ w ∈ vx_at0 own ic cls names, w.before args s = true)
    (hgood : ∀ w ∈ Cond.classLink own ik cls :: Cond.initialized cls :: vx_at0 own ic cls names, vx_ot w = true)
    (hU : vx_Zq Bundle.tN "UNASSIGNED_STACK" Bundle.steD A s s.heap) (hN : vx_Zq Bundle.tN "SUPPRESSED_SENTINEL" Bundle.listD A s s.heap) (hS : va_S A s.heap H locs) (hsize : ls.size = c.maxLocals)
    (d0 : decode cc pc = .ok (.new ik, 3)) (d3 : decode cc (pc + 3) = .ok (.dup, 1)) (d4 : decode cc (pc + 4) = .ok (.invokespecial ic, 3)) (d7 : decode cc (pc + 7) = .ok (.athrow, 1))
    (hout : ∀ x ∈ c.exceptionTable.toList, covers x (pc + 7) = false)
    (hRframes : names.length + 3 < R.frames) (hRlocals : (rest.map fun v => v.category).sum + (13 * (names.length + 1) + 42) ≤ R.locals) (hRcells : cells + 1 ≤ R.cells) (hRslots : slots + 6 ≤ R.slots) (hlocks : meth.locks = false)
    (hx : ∀ t : State, s.vm.Alike t.vm → H.size ≤ t.heap.size → (∀ q : Nat, q < H.size → t.heap[q]? = H[q]?) → XC cls s t)
    (hf : ∀ z ∈ locs, free z.base) (hc : cells + 1 ≤ mc) (hs : slots + 6 ≤ ms) :
    W p l e R s m args below meth c H locs cells slots (vx_MQ below Qc XC args s mc ms free) (F0 m pc ls rest) := by
  intro T hT X
  have htr : e.platform.stackTraces = false := (show e.platform.stackTraces = l.stackTraces by rw [X.admits.platform]).trans hl
  have Y := vx_rebase X (R' := { frames := R.frames, locals := R.locals, cells := 1, slots := 6 }) (Nat.le_refl _) (Nat.le_refl _) hRcells hRslots
  obtain ⟨s', hA⟩ : ∃ z, z = (T.setVm s.vm).setFrames (.invoking m args :: below) := ⟨_, rfl⟩
  rw [← hA] at Y
  have hvm : s'.vm = s.vm := by rw [hA]; rfl
  have hhp : s'.heap = H := by rw [hA]; exact hT
  have hW0 : s.WarmedH s'.vm := by rw [hvm]; exact State.WarmedH.refl s
  have hat' : ∀ w ∈ vx_at0 own ic cls names, w.before args s' = true := fun w hw => vx_ot_at hW0 hvm.symm (hgood w (List.mem_cons_of_mem _ (List.mem_cons_of_mem _ hw))) (hat w hw)
  have hk' : (Cond.classLink own ik cls).before args s' = true := vx_ot_at hW0 hvm.symm (hgood _ List.mem_cons_self) hk
  have hini' : (Cond.initialized cls).before args s' = true := vx_ot_at hW0 hvm.symm (hgood _ (List.mem_cons_of_mem _ List.mem_cons_self)) hini
  have hU' : vx_Zq Bundle.tN "UNASSIGNED_STACK" Bundle.steD A s' s'.heap := by rw [hhp]; exact vx_Zq.moved hW0.alike (hU.kept hS.2.1)
  have hN' : vx_Zq Bundle.tN "SUPPRESSED_SENTINEL" Bundle.listD A s' s'.heap := by rw [hhp]; exact vx_Zq.moved hW0.alike (hN.kept hS.2.1)
  have h : ∀ w ∈ Bundle.ownAtoms0 own ic cls names, w.before args s' = true := vx_own hat' (vx_isRefq hU'.1) (vx_isRefq hN'.1) hU'.2.word hN'.2.word
  have hown' : s'.vm.findClass own = some m.cls := by rw [hvm]; exact hown
  have hins : (Cond.instantiable cls 6).before args s' = true := h _ (by simp [Bundle.ownAtoms0])
  obtain ⟨vm₁, cX, kX, hfX, hkX, -, -, X₁, st1⟩ := Y.newCold hexec (own := own) (C := cls) (index := ik) (n := 6) hown' hk' hins hini'
    (g := F0 m pc ls rest) rfl (by rw [hb]; exact d0) (Nat.le_refl _) (Nat.le_refl _)
  generalize hT1 : (T.setVm vm₁).pushCell { cls := cX, slots := kX.instanceTypes.map defaultValue, vm := .none } = T1 at X₁ st1
  have hcat : (Value.ref T.heap.size).category = 1 := rfl
  have hcellA : T1.heap[T.heap.size]? = some (freshCell cX kX) := by rw [← hT1]; exact State.heap_pushCell_size _ _
  have d3' : decode c.code (pc + 3) = .ok (.dup, 1) := by rw [hb]; exact d3
  obtain ⟨U, hsteps, hrun, hend, hW, hsame, ce, hce, hO⟩ := X₁.ctorThrow0 hexec htr (own := own) (cls := cls) (names := names) (ic := ic) hown' hcls hnames h (fun x hx => nomatch hx) hfX hkX hcellA (by rw [hhp, hT]; exact Nat.le_refl _)
    (g := { method := m, pc := pc + 4, locals := ls, stack := .ref T.heap.size :: .ref T.heap.size :: rest, locked := none }) rfl hsize rfl rfl (rest := rest) rfl
    (by rw [hb]; exact d4) (by rw [hb]; exact d7) hout hRframes (by simp only [List.map_cons, List.sum_cons, hcat]; omega) hlocks
  obtain ⟨f1, f2⟩ := vx_frame hsame
  rw [hhp] at f1 f2
  have hWs : s.WarmedH U.vm := State.WarmedH.trans hW0 hW
  have hcl : s.vm.findClass cls = some ce.cls := by
    have h9 := hO.cls
    rw [hvm] at h9
    exact h9
  have hall : s.sameButNew ({ U with vm := s.vm } : State) locs mc ms := by
    subst hA
    obtain ⟨e1, e2⟩ := hsame
    rw [State.setFrames_setFrames] at e1
    have h2 : (T.setVm s.vm).sameButNew ({ U with vm := s.vm } : State) [] (0 + 1) (0 + 6) := ⟨e1, e2⟩
    have h3 := X.same.trans h2
    rw [List.append_nil] at h3
    exact h3.mono hc hs
  refine ⟨U, ?_, .threw T.heap.size, hrun, hend, Or.inr ⟨T.heap.size, rfl, cls, ce, locs, hx U hWs.alike f1 (fun q hq => f2 q hq (fun z hz => nomatch hz)), hce, hO.vm, hcl, hWs, hall, hf⟩⟩
  refine st1 _ ?_
  show Steps p.tables e below (T1.setTop { method := m, pc := pc + 3, locals := ls, stack := .ref T.heap.size :: rest, locked := none }) _
  jvm_step X₁.here [X₁.here.top, hexec, d3', Value.category]
  exact hsteps
/-- 'throw new E("text")': new; dup; ldc; invokespecial; athrow -/
theorem vx_throwS {cc : ByteArray} {pc : Nat} (hexec : p.tables.exec = Jvm.exec) (hb : c.code = cc) (hl : l.stackTraces = false) {own cls text : String} {names : List String} {ik is ic mc ms sa : Nat} {A : Nat → Prop}
    (hown : s.vm.findClass own = some m.cls) (hcls : Bundle.fit cls = true) (hnames : ∀ n ∈ names, Bundle.fit n = true)
    (hk : (Cond.classLink own ik cls).before args s = true) (hini : (Cond.initialized cls).before args s = true) (hstr : vk_R own is text sa s) (hat : ∀ w ∈ vx_atS own ic cls names, w.before args s = true)
    (hgood : ∀ w ∈ Cond.classLink own ik cls :: Cond.initialized cls :: vx_atS own ic cls names, vx_ot w = true)
    (hU : vx_Zq Bundle.tN "UNASSIGNED_STACK" Bundle.steD A s s.heap) (hN : vx_Zq Bundle.tN "SUPPRESSED_SENTINEL" Bundle.listD A s s.heap) (hS : va_S A s.heap H locs) (hsize : ls.size = c.maxLocals)
    (d0 : decode cc pc = .ok (.new ik, 3)) (d3 : decode cc (pc + 3) = .ok (.dup, 1)) (d4 : decode cc (pc + 4) = .ok (.ldc is, 2)) (d6 : decode cc (pc + 6) = .ok (.invokespecial ic, 3)) (d9 : decode cc (pc + 9) = .ok (.athrow, 1))
    (hout : ∀ x ∈ c.exceptionTable.toList, covers x (pc + 9) = false)
    (hRframes : names.length + 3 < R.frames) (hRlocals : (rest.map fun v => v.category).sum + (13 * (names.length + 1) + 43) ≤ R.locals) (hRcells : cells + 1 ≤ R.cells) (hRslots : slots + 6 ≤ R.slots) (hlocks : meth.locks = false)
    (hx : ∀ t : State, s.vm.Alike t.vm → H.size ≤ t.heap.size → (∀ q : Nat, q < H.size → t.heap[q]? = H[q]?) → XC cls s t)
    (hf : ∀ z ∈ locs, free z.base) (hc : cells + 1 ≤ mc) (hs : slots + 6 ≤ ms) :
    W p l e R s m args below meth c H locs cells slots (vx_MQ below Qc XC args s mc ms free) (F0 m pc ls rest) := by
  intro T hT X
  have htr : e.platform.stackTraces = false := (show e.platform.stackTraces = l.stackTraces by rw [X.admits.platform]).trans hl
  have Y := vx_rebase X (R' := { frames := R.frames, locals := R.locals, cells := 1, slots := 6 }) (Nat.le_refl _) (Nat.le_refl _) hRcells hRslots
  obtain ⟨s', hA⟩ : ∃ z, z = (T.setVm s.vm).setFrames (.invoking m args :: below) := ⟨_, rfl⟩
  rw [← hA] at Y
  have hvm : s'.vm = s.vm := by rw [hA]; rfl
  have hhp : s'.heap = H := by rw [hA]; exact hT
  have hW0 : s.WarmedH s'.vm := by rw [hvm]; exact State.WarmedH.refl s
  have hat' : ∀ w ∈ vx_atS own ic cls names, w.before args s' = true := fun w hw => vx_ot_at hW0 hvm.symm (hgood w (List.mem_cons_of_mem _ (List.mem_cons_of_mem _ hw))) (hat w hw)
  have hk' : (Cond.classLink own ik cls).before args s' = true := vx_ot_at hW0 hvm.symm (hgood _ List.mem_cons_self) hk
  have hini' : (Cond.initialized cls).before args s' = true := vx_ot_at hW0 hvm.symm (hgood _ (List.mem_cons_of_mem _ List.mem_cons_self)) hini
  have hU' : vx_Zq Bundle.tN "UNASSIGNED_STACK" Bundle.steD A s' s'.heap := by rw [hhp]; exact vx_Zq.moved hW0.alike (hU.kept hS.2.1)
  have hN' : vx_Zq Bundle.tN "SUPPRESSED_SENTINEL" Bundle.listD A s' s'.heap := by rw [hhp]; exact vx_Zq.moved hW0.alike (hN.kept hS.2.1)
  have h : ∀ w ∈ Bundle.ownAtoms own ic cls names, w.before args s' = true := vx_own hat' (vx_isRefq hU'.1) (vx_isRefq hN'.1) hU'.2.word hN'.2.word
  have hown' : s'.vm.findClass own = some m.cls := by rw [hvm]; exact hown
  have hins : (Cond.instantiable cls 6).before args s' = true := h _ (by simp [Bundle.ownAtoms])
  obtain ⟨vm₁, cX, kX, hfX, hkX, -, -, X₁, st1⟩ := Y.newCold hexec (own := own) (C := cls) (index := ik) (n := 6) hown' hk' hins hini'
    (g := F0 m pc ls rest) rfl (by rw [hb]; exact d0) (Nat.le_refl _) (Nat.le_refl _)
  generalize hT1 : (T.setVm vm₁).pushCell { cls := cX, slots := kX.instanceTypes.map defaultValue, vm := .none } = T1 at X₁ st1
  have hcat : (Value.ref T.heap.size).category = 1 := rfl
  have hcellA : T1.heap[T.heap.size]? = some (freshCell cX kX) := by rw [← hT1]; exact State.heap_pushCell_size _ _
  have d3' : decode c.code (pc + 3) = .ok (.dup, 1) := by rw [hb]; exact d3
  have d4' : decode c.code (pc + 4) = .ok (.ldc is, 2) := by rw [hb]; exact d4
  have hstr' : vk_R own is text sa s' := vk_R.warm hW0 hstr
  obtain ⟨U, hsteps, hrun, hend, hW, hsame, ce, hce, hO⟩ := X₁.ctorThrowS hexec htr (own := own) (cls := cls) (names := names) (ic := ic) hown' hcls hnames h (fun x hx => nomatch hx) hfX hkX hcellA (by rw [hhp, hT]; exact Nat.le_refl _) (msg := .ref sa) rfl
    (g := { method := m, pc := pc + 6, locals := ls, stack := .ref sa :: .ref T.heap.size :: .ref T.heap.size :: rest, locked := none }) rfl hsize rfl rfl (rest := rest) rfl
    (by rw [hb]; exact d6) (by rw [hb]; exact d9) hout hRframes (by simp only [List.map_cons, List.sum_cons, hcat]; omega) hlocks
  obtain ⟨f1, f2⟩ := vx_frame hsame
  rw [hhp] at f1 f2
  have hWs : s.WarmedH U.vm := State.WarmedH.trans hW0 hW
  have hcl : s.vm.findClass cls = some ce.cls := by
    have h9 := hO.cls
    rw [hvm] at h9
    exact h9
  have hall : s.sameButNew ({ U with vm := s.vm } : State) locs mc ms := by
    subst hA
    obtain ⟨e1, e2⟩ := hsame
    rw [State.setFrames_setFrames] at e1
    have h2 : (T.setVm s.vm).sameButNew ({ U with vm := s.vm } : State) [] (0 + 1) (0 + 6) := ⟨e1, e2⟩
    have h3 := X.same.trans h2
    rw [List.append_nil] at h3
    exact h3.mono hc hs
  refine ⟨U, ?_, .threw T.heap.size, hrun, hend, Or.inr ⟨T.heap.size, rfl, cls, ce, locs, hx U hWs.alike f1 (fun q hq => f2 q hq (fun z hz => nomatch hz)), hce, hO.vm, hcl, hWs, hall, hf⟩⟩
  refine st1 _ ?_
  show Steps p.tables e below (T1.setTop { method := m, pc := pc + 3, locals := ls, stack := .ref T.heap.size :: rest, locked := none }) _
  jvm_step X₁.here [X₁.here.top, hexec, d3', Value.category]
  exact X₁.ldcString hexec (own := own) (text := text) (index := is) (a := sa) hown' hstr'.1 hstr'.2
    (g := { method := m, pc := pc + 4, locals := ls, stack := .ref T.heap.size :: .ref T.heap.size :: rest, locked := none }) rfl d4' _ hsteps
/-- 'throw new E("text")', the text by a wide index -/
theorem vx_throwSW {cc : ByteArray} {pc : Nat} (hexec : p.tables.exec = Jvm.exec) (hb : c.code = cc) (hl : l.stackTraces = false) {own cls text : String} {names : List String} {ik is ic mc ms sa : Nat} {A : Nat → Prop}
    (hown : s.vm.findClass own = some m.cls) (hcls : Bundle.fit cls = true) (hnames : ∀ n ∈ names, Bundle.fit n = true)
    (hk : (Cond.classLink own ik cls).before args s = true) (hini : (Cond.initialized cls).before args s = true) (hstr : vk_R own is text sa s) (hat : ∀ w ∈ vx_atS own ic cls names, w.before args s = true)
    (hgood : ∀ w ∈ Cond.classLink own ik cls :: Cond.initialized cls :: vx_atS own ic cls names, vx_ot w = true)
    (hU : vx_Zq Bundle.tN "UNASSIGNED_STACK" Bundle.steD A s s.heap) (hN : vx_Zq Bundle.tN "SUPPRESSED_SENTINEL" Bundle.listD A s s.heap) (hS : va_S A s.heap H locs) (hsize : ls.size = c.maxLocals)
    (d0 : decode cc pc = .ok (.new ik, 3)) (d3 : decode cc (pc + 3) = .ok (.dup, 1)) (d4 : decode cc (pc + 4) = .ok (.ldc_w is, 3)) (d7 : decode cc (pc + 7) = .ok (.invokespecial ic, 3)) (d10 : decode cc (pc + 10) = .ok (.athrow, 1))
    (hout : ∀ x ∈ c.exceptionTable.toList, covers x (pc + 10) = false)
    (hRframes : names.length + 3 < R.frames) (hRlocals : (rest.map fun v => v.category).sum + (13 * (names.length + 1) + 43) ≤ R.locals) (hRcells : cells + 1 ≤ R.cells) (hRslots : slots + 6 ≤ R.slots) (hlocks : meth.locks = false)
    (hx : ∀ t : State, s.vm.Alike t.vm → H.size ≤ t.heap.size → (∀ q : Nat, q < H.size → t.heap[q]? = H[q]?) → XC cls s t)
    (hf : ∀ z ∈ locs, free z.base) (hc : cells + 1 ≤ mc) (hs : slots + 6 ≤ ms) :
    W p l e R s m args below meth c H locs cells slots (vx_MQ below Qc XC args s mc ms free) (F0 m pc ls rest) := by
  intro T hT X
  have htr : e.platform.stackTraces = false := (show e.platform.stackTraces = l.stackTraces by rw [X.admits.platform]).trans hl
  have Y := vx_rebase X (R' := { frames := R.frames, locals := R.locals, cells := 1, slots := 6 }) (Nat.le_refl _) (Nat.le_refl _) hRcells hRslots
  obtain ⟨s', hA⟩ : ∃ z, z = (T.setVm s.vm).setFrames (.invoking m args :: below) := ⟨_, rfl⟩
  rw [← hA] at Y
  have hvm : s'.vm = s.vm := by rw [hA]; rfl
  have hhp : s'.heap = H := by rw [hA]; exact hT
  have hW0 : s.WarmedH s'.vm := by rw [hvm]; exact State.WarmedH.refl s
  have hat' : ∀ w ∈ vx_atS own ic cls names, w.before args s' = true := fun w hw => vx_ot_at hW0 hvm.symm (hgood w (List.mem_cons_of_mem _ (List.mem_cons_of_mem _ hw))) (hat w hw)
  have hk' : (Cond.classLink own ik cls).before args s' = true := vx_ot_at hW0 hvm.symm (hgood _ List.mem_cons_self) hk
  have hini' : (Cond.initialized cls).before args s' = true := vx_ot_at hW0 hvm.symm (hgood _ (List.mem_cons_of_mem _ List.mem_cons_self)) hini
  have hU' : vx_Zq Bundle.tN "UNASSIGNED_STACK" Bundle.steD A s' s'.heap := by rw [hhp]; exact vx_Zq.moved hW0.alike (hU.kept hS.2.1)
  have hN' : vx_Zq Bundle.tN "SUPPRESSED_SENTINEL" Bundle.listD A s' s'.heap := by rw [hhp]; exact vx_Zq.moved hW0.alike (hN.kept hS.2.1)
  have h : ∀ w ∈ Bundle.ownAtoms own ic cls names, w.before args s' = true := vx_own hat' (vx_isRefq hU'.1) (vx_isRefq hN'.1) hU'.2.word hN'.2.word
  have hown' : s'.vm.findClass own = some m.cls := by rw [hvm]; exact hown
  have hins : (Cond.instantiable cls 6).before args s' = true := h _ (by simp [Bundle.ownAtoms])
  obtain ⟨vm₁, cX, kX, hfX, hkX, -, -, X₁, st1⟩ := Y.newCold hexec (own := own) (C := cls) (index := ik) (n := 6) hown' hk' hins hini'
    (g := F0 m pc ls rest) rfl (by rw [hb]; exact d0) (Nat.le_refl _) (Nat.le_refl _)
  generalize hT1 : (T.setVm vm₁).pushCell { cls := cX, slots := kX.instanceTypes.map defaultValue, vm := .none } = T1 at X₁ st1
  have hcat : (Value.ref T.heap.size).category = 1 := rfl
  have hcellA : T1.heap[T.heap.size]? = some (freshCell cX kX) := by rw [← hT1]; exact State.heap_pushCell_size _ _
  have d3' : decode c.code (pc + 3) = .ok (.dup, 1) := by rw [hb]; exact d3
  have d4' : decode c.code (pc + 4) = .ok (.ldc_w is, 3) := by rw [hb]; exact d4
  have hstr' : vk_R own is text sa s' := vk_R.warm hW0 hstr
  obtain ⟨U, hsteps, hrun, hend, hW, hsame, ce, hce, hO⟩ := X₁.ctorThrowS hexec htr (own := own) (cls := cls) (names := names) (ic := ic) hown' hcls hnames h (fun x hx => nomatch hx) hfX hkX hcellA (by rw [hhp, hT]; exact Nat.le_refl _) (msg := .ref sa) rfl
    (g := { method := m, pc := pc + 7, locals := ls, stack := .ref sa :: .ref T.heap.size :: .ref T.heap.size :: rest, locked := none }) rfl hsize rfl rfl (rest := rest) rfl
    (by rw [hb]; exact d7) (by rw [hb]; exact d10) hout hRframes (by simp only [List.map_cons, List.sum_cons, hcat]; omega) hlocks
  obtain ⟨f1, f2⟩ := vx_frame hsame
  rw [hhp] at f1 f2
  have hWs : s.WarmedH U.vm := State.WarmedH.trans hW0 hW
  have hcl : s.vm.findClass cls = some ce.cls := by
    have h9 := hO.cls
    rw [hvm] at h9
    exact h9
  have hall : s.sameButNew ({ U with vm := s.vm } : State) locs mc ms := by
    subst hA
    obtain ⟨e1, e2⟩ := hsame
    rw [State.setFrames_setFrames] at e1
    have h2 : (T.setVm s.vm).sameButNew ({ U with vm := s.vm } : State) [] (0 + 1) (0 + 6) := ⟨e1, e2⟩
    have h3 := X.same.trans h2
    rw [List.append_nil] at h3
    exact h3.mono hc hs
  refine ⟨U, ?_, .threw T.heap.size, hrun, hend, Or.inr ⟨T.heap.size, rfl, cls, ce, locs, hx U hWs.alike f1 (fun q hq => f2 q hq (fun z hz => nomatch hz)), hce, hO.vm, hcl, hWs, hall, hf⟩⟩
  refine st1 _ ?_
  show Steps p.tables e below (T1.setTop { method := m, pc := pc + 3, locals := ls, stack := .ref T.heap.size :: rest, locked := none }) _
  jvm_step X₁.here [X₁.here.top, hexec, d3', Value.category]
  exact X₁.ldcStringW hexec (own := own) (text := text) (index := is) (a := sa) hown' hstr'.1 hstr'.2
    (g := { method := m, pc := pc + 4, locals := ls, stack := .ref T.heap.size :: .ref T.heap.size :: rest, locked := none }) rfl d4' _ hsteps
end Ends
section Bodies
variable {l : Launch}
theorem vx_ofW {y : MethodName} {ws ws' : List Cond} {rm : Room} {Pc : Array Value → State → Prop} {Qc : Array Value → State → Outcome → State → Prop} {XC : String → State → State → Prop} {mc ms : Nat} {free : Addr → Prop} {cc : ByteArray} {maxL : Nat} {ret : Option FieldType}
    (hy : plainName y.cls = true) (hw : ws = Cond.code y cc maxL ret :: ws')
    (body : ∀ p e s m args below meth c s₁, BodyLoose p l y (headSpec ws rm) cc maxL ret e s m args below meth c s₁ → c.maxLocals = maxL → (∀ x ∈ c.exceptionTable.toList, False) → Pc args s →
      W p l e (headSpec ws rm).room s m args below meth c s.heap [] 0 0 (vx_MQ below Qc XC args s mc ms free) (entryFrame m args maxL)) : vx_Met l y ws rm Pc Qc XC mc ms free := by
  refine MetFree.of_bodyS (code := cc) (maxLocals := maxL) (ret := ret) hy ?_ ?_
  · intro args s m h hn
    obtain ⟨meth, c, h1, h2, h3, h4, h5, h6, -, -⟩ := Cond.code_spec hn (atoms_spec (ws := ws) h _ (by rw [hw]; exact List.mem_cons_self))
    exact ⟨meth, c, h1, h2, h3, h4, h5, h6⟩
  · intro p e s m args below meth c s₁ B hml hP _
    have hh0 : s₁.heap = s.heap := by rw [B.state]; rfl
    have ht : ∀ x ∈ c.exceptionTable.toList, False := by
      obtain ⟨meth9, c9, h1, h2, -, -, -, -, h7, -⟩ := Cond.code_spec B.named (atoms_spec (ws := ws) B.pre _ (by rw [hw]; exact List.mem_cons_self))
      cases Option.some.inj (h1.symm.trans B.method)
      cases Option.some.inj (h2.symm.trans (Stand.of_body B).code)
      intro x hx
      rw [Array.isEmpty_iff.mp h7] at hx
      cases hx
    obtain ⟨t, a1, o, b1, b2, b3⟩ := body p e s m args below meth c s₁ B hml ht hP s₁ hh0 (Stand.of_body B)
    exact ⟨t, o, a1, b1, b2, b3⟩
/-- the table of a body with handlers -/
theorem vx_table {p : Program} {x y : MethodName} {S : Spec} {cc bytes : ByteArray} {maxL maxL' : Nat} {ret ret' : Option FieldType} {e : Env} {s s₁ : State} {m : MethodId} {args : Array Value} {below : List Frame} {meth : Method} {c : Code} {hh : List (Nat × Nat × Nat × Nat)}
    (B : BodyLoose p l y S cc maxL ret e s m args below meth c s₁) (h : (Cond.codeWith y bytes maxL' ret' hh).before args s = true) : c.exceptionTable.toList = tableOf hh := by
  obtain ⟨m9, meth9, c9, hn9, h1, h2, -, -, h6, -⟩ := Cond.codeWith_spec h
  cases Option.some.inj (hn9.symm.trans B.named)
  cases Option.some.inj (h1.symm.trans B.method)
  cases Option.some.inj (h2.symm.trans (Stand.of_body B).code)
  rw [← h6, table_eq]
end Bodies
end VXA
/-! ===== END ===== -/
/-! ===== BEGIN a static call of a method with an exception table ===== -/
section VXS
variable {p : Program} {l : Launch} {e : Env} {R : Room} {s : State} {m : MethodId} {args : Array Value} {below : List Frame} {meth : Method} {c : Code} {T : State} {H : Heap} {locs : List Loc} {cells slots : Nat}
abbrev vx_CSW (R : Room) (s : State) (args : Array Value) (own : String) (index : Nat) (y : MethodName) (bytes : ByteArray) (maxL : Nat) (ret : Option FieldType) (hh : List (Nat × Nat × Nat × Nat)) (ws : List Cond) (rm : Room) (mc ms n : Nat) : Prop :=
  (rm.cells = mc ∧ rm.slots = ms ∧ rm.frames + 1 ≤ R.frames ∧ 8 + (maxL + 11) + rm.locals ≤ R.locals ∧ (∀ w ∈ ws, ∀ (a' : Array Value) (U : State), s.WarmedH U.vm → w.before a' U = true) ∧ Cond.codeWith y bytes maxL ret hh ∈ ws) ∧
  (Cond.codeWith y bytes maxL ret hh).before args s = true ∧ (Cond.initialized y.cls).before args s = true ∧ (y.cls ≠ "java/lang/invoke/MethodHandle" ∧ y.cls ≠ "java/lang/invoke/VarHandle") ∧
  (∀ sig, parseMethodDescriptor y.desc = some sig → n = sig.parameters.length) ∧ (Cond.methodLink own index y).before args s = true ∧ (Cond.static y).before args s = true
theorem vx_cwSW {own : String} {index maxL mc ms : Nat} {y : MethodName} {bytes : ByteArray} {ret : Option FieldType} {hh : List (Nat × Nat × Nat × Nat)} {Ts ws ws' : List Cond} {rm : Room} (n : Nat) (ht : ∀ w ∈ Ts, w.before args s = true) (hT : GoodIn Ts (va_wsS own index y ws)) (hw : ws = Cond.codeWith y bytes maxL ret hh :: ws') (hrc : rm.cells = mc) (hrs : rm.slots = ms)
    (hd : y.cls ≠ "java/lang/invoke/MethodHandle" ∧ y.cls ≠ "java/lang/invoke/VarHandle" ∧ (parseMethodDescriptor y.desc).map (fun d => d.parameters.length) = some n) (hR : rm.frames + 1 ≤ R.frames ∧ 8 + (maxL + 11) + rm.locals ≤ R.locals) :
    vx_CSW R s args own index y bytes maxL ret hh ws rm mc ms n := by
  have ok : ∀ w ∈ va_wsS own index y ws, w.before args s = true := fun w h => ht w (hT w h).1
  have hG : GoodIn Ts ws := fun w h => hT w (by unfold va_wsS; exact List.mem_append_right _ h)
  have hc : Cond.codeWith y bytes maxL ret hh ∈ ws := by rw [hw]; exact List.mem_cons_self
  refine ⟨⟨hrc, hrs, hR.1, hR.2, pay_in ht hG, hc⟩, ht _ (hG _ hc).1, ok _ (by simp [va_wsS]), ⟨hd.1, hd.2.1⟩, fun sig h => ?_, ok _ (by simp [va_wsS]), ok _ (by simp [va_wsS])⟩
  have h2 := hd.2.2
  rw [h] at h2
  exact (Option.some.inj h2).symm
theorem vx_callSW (X : Stand p l e R s m args below meth c T locs cells slots) (hexec : p.tables.exec = Jvm.exec) {own : String} {index : Nat} {y : MethodName} {bytes : ByteArray} {maxL : Nat} {ret : Option FieldType} {hh : List (Nat × Nat × Nat × Nat)}
    (hown : s.vm.findClass own = some m.cls) (hlink : (Cond.methodLink own index y).before args s = true) (hstat : (Cond.static y).before args s = true) (hinit : (Cond.initialized y.cls).before args s = true)
    (hcode : (Cond.codeWith y bytes maxL ret hh).before args s = true) (hy : y.cls ≠ "java/lang/invoke/MethodHandle" ∧ y.cls ≠ "java/lang/invoke/VarHandle")
    {W9 : Nat} {Pre : Pt → Array Value → Prop} {Post : Pt → Array Value → Option Value → Pt → Prop} (hK : Back l R p e below s args y 3 W9 Pre Post)
    {g : JFrame} (hg : g.method = m) (hsize : g.locals.size = c.maxLocals) {argsL rest : List Value} (hlen : ∀ sig, parseMethodDescriptor y.desc = some sig → argsL.length = sig.parameters.length)
    (hstack : g.stack = argsL.reverse ++ rest) (hW : 2 * g.monitorRoom + (rest.map fun v => v.category).sum ≤ W9) (hdg : decode c.code g.pc = .ok (.invokestatic index, 3))
    (hpre : ∀ vm₁, s.WarmedH vm₁ → Pre ⟨T.setVm vm₁, locs, cells, slots⟩ argsL.toArray) :
    ∃ (v : Option Value) (vm₁ : Vm) (B : Pt), s.WarmedH vm₁ ∧ Stand p l e R s m args below meth c B.U B.locs B.cells B.slots ∧ Post ⟨T.setVm vm₁, locs, cells, slots⟩ argsL.toArray v B ∧
      ∀ target, Steps p.tables e below (B.U.setTop { g with pc := g.pc + 3, stack := v.toList ++ rest }) target → Steps p.tables e below (T.setTop g) target := by
  obtain ⟨mk, methM, cM, hnamed, hmethM, -, -, -, -, -, -, hsigM⟩ := Cond.codeWith_spec hcode
  have hstatic : methM.isStatic = true := Cond.static_spec hnamed hmethM hstat
  obtain ⟨kP, hkP, -⟩ := className_of_methodNamed hnamed
  have hinitP : kP.init = .initialized := Cond.initialized_spec (findClass_of_methodNamed hnamed) hkP hinit
  obtain ⟨vm₁, X₁, hstep₁⟩ := X.invokestatic hexec hown hlink hnamed hmethM hstatic hkP hinitP hy (g := g) hg (argsL := argsL) (rest := rest) (hlen _ hsigM) hstack hdg
  obtain ⟨v, B, X', hpost, hsteps⟩ := hK m meth c ⟨T.setVm vm₁, locs, cells, slots⟩ { g with stack := rest } (.invokestatic index) mk argsL.toArray X₁ hg hsize hdg hW (X₁.named hnamed) (hpre vm₁ X₁.warmed)
  exact ⟨v, vm₁, B, X₁.warmed, X', hpost, fun target h => hstep₁ _ fun acts => by rw [doInvoke_state]; exact hsteps.trans h⟩
theorem vx_runSW {y : MethodName} {bytes cc : ByteArray} {maxL nL mc ms n index : Nat} {ret : Option FieldType} {hh : List (Nat × Nat × Nat × Nat)} {ws : List Cond} {rm : Room} {Pc : Array Value → State → Prop} {Qc : Array Value → State → Outcome → State → Prop} {free : Addr → Prop} {Ts : List Cond} {own : String} {As rest : List Value} {g : JFrame}
    (S : CallFix p m c cc nL s args Ts own) (hM : Met l y ws rm Pc Qc mc ms free) (cw : vx_CSW R s args own index y bytes maxL ret hh ws rm mc ms n) (hp : PreS s H Pc As)
    (hg : g.method = m) (hn : As.length = n) (hsize : g.locals.size = nL) (hstack : g.stack = As.reverse ++ rest) (hW : 2 * g.monitorRoom + (rest.map fun v => v.category).sum ≤ 8) (hdg : decode cc g.pc = .ok (.invokestatic index, 3)) (hf : cells + mc ≤ R.cells ∧ slots + ms ≤ R.slots) :
    va_Run p l e R s m args below meth c H locs cells slots mc ms g rest (Qc As.toArray) (free) := by
  obtain ⟨⟨hrc, hrs, hfr, hlo, hws, hcw⟩, hcode, hini, hy, hlen, hl, hstt⟩ := cw
  have hK : Back l R p e below s args y 3 8 (PreOf R mc ms Pc) (PostOf Qc mc ms free) := va_backW (hh := hh) (bytes := bytes) (maxL := maxL) (ret := ret) hM hp.1 hrc hrs hfr hlo hws hcw (fun a' U hW => word_at hW (Or.inl (by first | rfl | simp [Cond.onTables, Cond.keeps, Cond.steady])) hini)
  obtain ⟨hx, hb, hml, ho, -⟩ := S
  intro T hT X
  obtain ⟨v, vm₁, ⟨U', l2, c2, s2⟩, hW₁, X', ⟨g', mk, t, L, e1, e2, hq, h1, hL, h2, h3⟩, st⟩ := vx_callSW X hx (hh := hh) (bytes := bytes) (maxL := maxL) (ret := ret) ho hl hstt hini hcode hy hK hg (hsize.trans hml.symm) (argsL := As) (rest := rest) (fun sig h => hn.trans (hlen sig h)) hstack hW (by rw [hb]; exact hdg)
    (fun vm₁ hW₁ => ⟨hf.1, hf.2, hp.2 (T.setVm vm₁) hT hW₁⟩)
  dsimp only [Pt.U, Pt.locs, Pt.cells, Pt.slots] at X' e1 e2 h1 h2 h3 st
  subst h1; subst h2; subst h3
  exact ⟨v, (T.setVm vm₁).calling g' mk As.toArray, t, U', L, hT, X', hL, e1, e2, hq, st⟩
/-- not caught here, past rows that name other classes: it goes on to the caller -/
theorem vx_outP {p : Program} {l : Launch} {e : Env} {R : Room} {s : State} {m : MethodId} {args : Array Value} {below : List Frame} {meth : Method} {c : Code} {H : Heap} {locs : List Loc} {cells slots : Nat} {free : Addr → Prop} {ls : Array Slot} {rest : List Value} {Qc : Array Value → State → Outcome → State → Prop} {XC : String → State → State → Prop}
    {pc : Nat} {own E : String} {ce : Cell} {q : Addr} {mc ms : Nat} (hown : s.vm.findClass own = some m.cls) (hlocks : meth.locks = false)
    (hpass : ∀ z ∈ c.exceptionTable.toList, covers z pc = false ∨ (z.catchType ≠ 0 ∧ ∃ nm : String, (Cond.classLink own z.catchType nm).before args s = true ∧ va_Nc E nm s)) (hcell : H[q]? = some ce) (hv : ce.vm = .none) (hcl : s.vm.findClass E = some ce.cls)
    (hx : ∀ t : State, t.heap = H → s.vm.Alike t.vm → XC E s t) (hf : ∀ z ∈ locs, free z.base) (hc : cells ≤ mc) (hs : slots ≤ ms) :
    vx_W p l e R s m args below meth c H locs cells slots (vx_MQ below Qc XC args s mc ms free) (F0 m pc ls rest) q := by
  intro T hT X
  have hpl : e.platform.magicAccessors = ({} : Platform).magicAccessors := by rw [X.admits.platform]
  obtain ⟨vm', hW', X', st⟩ := X.outThrough hlocks q (g := F0 m pc ls rest) rfl rfl rfl (cell := ce) (by rw [hT]; exact hcell) (by rw [hv]; rfl)
    (by obtain ⟨k9, h9, -⟩ := Vm.findClass_spec hcl; exact ⟨k9, h9⟩) (fun z hz => by
      rcases hpass z hz with h | ⟨hz0, nm, hl1, hn1⟩
      · exact Or.inl h
      · obtain ⟨c6, hc6, hcl6⟩ := Cond.classLink_spec hown hl1 e.platform hpl
        obtain ⟨a8, b8, h1, h2, h3⟩ := hn1
        cases Option.some.inj (h1.symm.trans hcl)
        cases Option.some.inj (h2.symm.trans hc6)
        exact Or.inr ⟨hz0, _, hcl6, h3⟩)
  obtain ⟨g₀, hfr⟩ := X'.frames_eq
  have hcell9 : ((T.setVm vm').setFrames (.throwing q :: below)).heap[q]? = some ce := by
    show T.heap[q]? = some ce
    rw [hT]; exact hcell
  have hend : Ended ((T.setVm vm').setFrames (.throwing q :: below)) below (.threw q) := State.frames_setFrames _ (State.cur_lt_of_frames hfr)
  refine ⟨(T.setVm vm').setFrames (.throwing q :: below), ?_, .threw q, X'.here.running, hend, Or.inr ⟨q, rfl, E, ce, locs, hx _ hT (X'.ends _).1.alike, hcell9, hv, hcl, (X'.ends _).1, (X'.ends _).2.mono hc hs, hf⟩⟩
  rw [X.pushThrowing_eq]
  exact st
/-- a thing of a world lies in the heap -/
theorem vx_lt {D : va_G} {cl : List vw_C} {ws : va_W} {H1 : Heap} (h : va_P D cl ws H1) {k : Nat} {q : Nat × va_E} (hk : ws[k]? = some q) : q.1 < H1.size := (h k q hk).lt
end VXS
/-! ===== END ===== -/
/-! ===== BEGIN methods with a table of their own: called by a name, returning or throwing ===== -/
section VXH
/-! vx_backW, vx_callVX, vx_callSX, vx_callVW, vx_runVW, vx_runVX, vx_runSX, vx_ofWH follow the same proofs as their sisters above (Free/Laws.lean, Shelf42/LK1.lean); vx_outP calls Shelf42/NT130.lean (outThrough). -/
section
variable {l : Launch} {R : Room} {p : Program} {e : Env} {below : List Frame} {s : State} {sargs : Array Value} {y : MethodName} {len W9 : Nat}
theorem vx_backW {ws : List Cond} {rm : Room} {Pc : Array Value → State → Prop} {Qc : Array Value → State → Outcome → State → Prop} {XC : String → State → State → Prop} {mc ms : Nat} {free : Addr → Prop} {bytes : ByteArray} {maxL : Nat} {ret : Option FieldType} {hh : List (Nat × Nat × Nat × Nat)}
    (hM : vx_Met l y ws rm Pc Qc XC mc ms free) (hblind : FrameBlind Pc) (hrc : rm.cells = mc) (hrs : rm.slots = ms)
    (hframes : rm.frames + 1 ≤ R.frames) (hlocals : W9 + (maxL + 11) + rm.locals ≤ R.locals)
    (hws : ∀ w ∈ ws, ∀ a' U, s.WarmedH U.vm → w.before a' U = true) (hcode : Cond.codeWith y bytes maxL ret hh ∈ ws) (hinit : ∀ a' U, s.WarmedH U.vm → (Cond.initialized y.cls).before a' U = true) :
    vx_Back l R p e below s sargs y len W9 (PreOf R mc ms Pc) (PostOf Qc mc ms free) (vx_Post XC mc ms free) := by
  intro m meth c A g ig mk a X hg hsize hdg hW hn hp
  have h1 : (headSpec ws rm).pre.before a A.U = true := atoms_intro fun w hw => hws w hw _ _ X.warmed
  have h2 : (Cond.codeWith y bytes maxL ret hh).before a A.U = true := hws _ hcode _ _ X.warmed
  have h3 : (Cond.initialized y.cls).before a A.U = true := hinit _ _ X.warmed
  have h4 : A.cells + (headSpec ws rm).room.cells ≤ R.cells := by rw [show (headSpec ws rm).room.cells = mc from hrc]; exact hp.1
  have h5 : A.slots + (headSpec ws rm).room.slots ≤ R.slots := by rw [show (headSpec ws rm).room.slots = ms from hrs]; exact hp.2.1
  have hPc : Pc a (A.U.calling g mk a) := hblind _ _ _ _ hp.2.2
  obtain ⟨U, Ls, c0, s0⟩ := A
  dsimp only [Pt.U, Pt.locs, Pt.cells, Pt.slots] at h1 h2 h3 h4 h5 X hn hPc ⊢
  obtain ⟨m9, methY, cY, hn9, hmY, hcY, -, hlY, -⟩ := Cond.codeWith_spec h2
  cases Option.some.inj (hn9.symm.trans hn)
  obtain ⟨kY, hkY, -⟩ := className_of_methodNamed hn
  have hinitY : kY.init = .initialized := Cond.initialized_spec (findClass_of_methodNamed hn) hkY h3
  have h : At U g.method c below := by rw [hg]; exact X.here
  have hlocals9 : W9 + (maxL + 11) + (headSpec ws rm).room.locals ≤ R.locals := hlocals
  have happ : (headSpec ws rm).appliesLoose y e.platform (U.calling g mk a) = true :=
    Spec.appliesLoose_calling (g := g) h hdg hn hkY hinitY
      (X.room_calling (g := g) (R' := (headSpec ws rm).room) hsize hmY hcY hframes (by rw [hlY]; omega) h4 h5) h1
  obtain ⟨mid, hmid⟩ := h.above
  have hfr : (U.setTop g).frames = (.java g :: mid) ++ below := by rw [State.frames_setTop' g h.top, hmid]; rfl
  obtain ⟨o, s₂, hsteps, -, hend, hq⟩ := Steps.callFree hM p X.admits X.cas X.clock (acts := []) hfr happ hPc trivial
  have hq' : vx_Q Qc XC mc ms free a (U.calling g mk a) o s₂ := hq
  rw [State.frames_setTop' g h.top] at hend
  obtain ⟨g₀, hg0⟩ := Option.isSome_iff_exists.mp h.top
  obtain ⟨r, hr⟩ := State.topJava?_eq_some.mp hg0
  have hr' : (({ U with heap := s₂.heap, slotsUsed := s₂.slotsUsed } : State).setVm s₂.vm).frames = .java g₀ :: r := hr
  rcases hq' with ⟨hqc, L, hfe, hL⟩ | ⟨q, rfl, E, ce, L, hx, hce, hcv, hcl, hW₂, hsm, hL⟩
  · obtain ⟨⟨v, rfl⟩, hW₂, e2, q2, q3, q4, q5, q6⟩ := id hfe
    have e3 : s₂ = ({ (U.calling g mk a).setFrames s₂.frames with heap := s₂.heap, slotsUsed := s₂.slotsUsed } : State).setVm s₂.vm := by
      have : s₂ = ({ s₂ with vm := (U.calling g mk a).vm } : State).setVm s₂.vm := rfl
      rw [e2] at this
      exact this
    obtain ⟨c₂, i₂, len₂, hc₂, hd₂, hf₂⟩ := hend
    have hW' : U.WarmedH s₂.vm := hW₂
    have hcc : c₂ = c := by
      have h1 : s₂.code? g.method = U.code? g.method := by
        rw [State.code?_eq, State.code?_eq, hW'.alike.method?]
      exact Option.some.inj (hc₂.symm.trans (h1.trans h.code))
    subst hcc
    have hlen : len₂ = len := by rw [hdg] at hd₂; cases hd₂; rfl
    subst hlen
    have hs₂ : s₂ = (({ U with heap := s₂.heap, slotsUsed := s₂.slotsUsed } : State).setVm s₂.vm).setTop { g with pc := g.pc + len₂, stack := v.toList ++ g.stack } := by
      refine e3.trans ?_
      rw [hf₂, State.calling_eq h.top, State.setFrames_setFrames, State.setTop_of_frames _ hr', hr]
      rfl
    have hsame : U.sameButNew ({ U with heap := s₂.heap, slotsUsed := s₂.slotsUsed } : State) L mc ms := by
      refine ⟨?_, q2, q3, q4, q5, q6⟩
      obtain ⟨t, ht, -⟩ := State.frames_cons hr
      show ({ U with heap := s₂.heap, slotsUsed := s₂.slotsUsed } : State) = { U.setFrames U.frames with heap := s₂.heap, slotsUsed := s₂.slotsUsed }
      rw [State.setFrames_self ht]
    subst hg
    refine Or.inl ⟨v, ⟨(({ U with heap := s₂.heap, slotsUsed := s₂.slotsUsed } : State).setVm s₂.vm), Ls ++ L, c0 + mc, s0 + ms⟩,
      ⟨X.admits, X.cas, X.clock, X.frames, X.room, X.hears, X.method, X.code, (X.here.setHeapUsed s₂.heap s₂.slotsUsed).setVm hW'.alike, X.tail, State.WarmedH.trans X.warmed hW', X.limits, X.bytes, X.same.trans (hsame.setVm s.vm)⟩,
      ⟨g, mk, s₂, L, rfl, rfl, hqc, rfl, hL, rfl, rfl⟩, ?_⟩
    show Steps p.tables e below _ ((({ U with heap := s₂.heap, slotsUsed := s₂.slotsUsed } : State).setVm s₂.vm).setTop { g with pc := g.pc + len₂, stack := v.toList ++ g.stack })
    rw [← hs₂]
    exact hsteps
  · obtain ⟨e2, q2, q3, q4, q5, q6⟩ := id hsm
    have e3 : s₂ = ({ (U.calling g mk a).setFrames s₂.frames with heap := s₂.heap, slotsUsed := s₂.slotsUsed } : State).setVm s₂.vm := by
      have : s₂ = ({ s₂ with vm := (U.calling g mk a).vm } : State).setVm s₂.vm := rfl
      rw [e2] at this
      exact this
    have hf₂ : s₂.frames = .throwing q :: .java g :: U.frames.tail := hend
    have hW' : U.WarmedH s₂.vm := hW₂
    have hs₂ : s₂ = ((({ U with heap := s₂.heap, slotsUsed := s₂.slotsUsed } : State).setVm s₂.vm).setTop g).pushFrame (.throwing q) := by
      refine e3.trans ?_
      rw [hf₂, State.calling_eq h.top, State.setFrames_setFrames, State.pushFrame, State.frames_setTop _ hr', State.setTop_of_frames _ hr', State.setFrames_setFrames, hr]
      rfl
    have hsame : U.sameButNew ({ U with heap := s₂.heap, slotsUsed := s₂.slotsUsed } : State) L mc ms := by
      refine ⟨?_, q2, q3, q4, q5, q6⟩
      obtain ⟨t, ht, -⟩ := State.frames_cons hr
      show ({ U with heap := s₂.heap, slotsUsed := s₂.slotsUsed } : State) = { U.setFrames U.frames with heap := s₂.heap, slotsUsed := s₂.slotsUsed }
      rw [State.setFrames_self ht]
    subst hg
    refine Or.inr ⟨q, ⟨(({ U with heap := s₂.heap, slotsUsed := s₂.slotsUsed } : State).setVm s₂.vm), Ls ++ L, c0 + mc, s0 + ms⟩,
      ⟨X.admits, X.cas, X.clock, X.frames, X.room, X.hears, X.method, X.code, (X.here.setHeapUsed s₂.heap s₂.slotsUsed).setVm hW'.alike, X.tail, State.WarmedH.trans X.warmed hW', X.limits, X.bytes, X.same.trans (hsame.setVm s.vm)⟩,
      ⟨g, mk, s₂, L, E, ce, rfl, rfl, hx, hce, hcv, hcl, rfl, hL, rfl, rfl⟩, ?_⟩
    show Steps p.tables e below _ (((({ U with heap := s₂.heap, slotsUsed := s₂.slotsUsed } : State).setVm s₂.vm).setTop g).pushFrame (.throwing q))
    rw [← hs₂]
    exact hsteps
end
variable {p : Program} {l : Launch} {e : Env} {R : Room} {s : State} {m : MethodId} {args : Array Value} {below : List Frame} {meth : Method} {c : Code} {T : State} {H : Heap} {locs : List Loc} {cells slots : Nat}
theorem vx_callVX (X : Stand p l e R s m args below meth c T locs cells slots) (hexec : p.tables.exec = Jvm.exec) {own C : String} {index : Nat} {y : MethodName} {bytes : ByteArray} {maxL : Nat} {ret : Option FieldType} {hh : List (Nat × Nat × Nat × Nat)}
    (hown : s.vm.findClass own = some m.cls) (hlink : (Cond.methodLink own index y).before args s = true) (hinst : (Cond.instanceMethod y).before args s = true) (hsel : (Cond.selects C y y).before args s = true)
    (hcode : (Cond.codeWith y bytes maxL ret hh).before args s = true) (hy : y.cls ≠ "java/lang/invoke/MethodHandle" ∧ y.cls ≠ "java/lang/invoke/VarHandle")
    {W9 : Nat} {Pre : Pt → Array Value → Prop} {Post : Pt → Array Value → Option Value → Pt → Prop} {PostX : Pt → Array Value → Addr → Pt → Prop} (hK : vx_Back l R p e below s args y 3 W9 Pre Post PostX)
    {b : Addr} {cellB : Cell} (hcell : T.heap[b]? = some cellB) (hobj : cellB.vm.isStatics = false) (hcls : s.vm.findClass C = some cellB.cls)
    {g : JFrame} (hg : g.method = m) (hsize : g.locals.size = c.maxLocals) {argsL rest : List Value} (hlen : ∀ sig, parseMethodDescriptor y.desc = some sig → argsL.length = sig.parameters.length)
    (hstack : g.stack = argsL.reverse ++ .ref b :: rest) (hW : 2 * g.monitorRoom + (rest.map fun v => v.category).sum ≤ W9) (hdg : decode c.code g.pc = .ok (.invokevirtual index, 3))
    (hpre : ∀ vm₁, s.WarmedH vm₁ → Pre ⟨T.setVm vm₁, locs, cells, slots⟩ (Value.ref b :: argsL).toArray) :
    (∃ (v : Option Value) (vm₁ : Vm) (B : Pt), s.WarmedH vm₁ ∧ Stand p l e R s m args below meth c B.U B.locs B.cells B.slots ∧ Post ⟨T.setVm vm₁, locs, cells, slots⟩ (Value.ref b :: argsL).toArray v B ∧
      ∀ target, Steps p.tables e below (B.U.setTop { g with pc := g.pc + 3, stack := v.toList ++ rest }) target → Steps p.tables e below (T.setTop g) target) ∨
    (∃ (q : Addr) (vm₁ : Vm) (B : Pt), s.WarmedH vm₁ ∧ Stand p l e R s m args below meth c B.U B.locs B.cells B.slots ∧ PostX ⟨T.setVm vm₁, locs, cells, slots⟩ (Value.ref b :: argsL).toArray q B ∧
      Steps p.tables e below (T.setTop g) ((B.U.setTop { g with stack := rest }).pushFrame (.throwing q))) := by
  obtain ⟨mk, methM, hnamed, hmethM, hstM, habM⟩ := Cond.instanceMethod_spec hinst
  obtain ⟨m8, methM', cM, hn8, hmethM', -, -, -, -, -, -, hsigM⟩ := Cond.codeWith_spec hcode
  cases Option.some.inj (hn8.symm.trans hnamed)
  cases hmethM.symm.trans hmethM'
  obtain ⟨c2, r2, m2, q1, q2, q3, q4, kP, hkP, hkPi⟩ := Cond.selects_spec hsel
  cases hcls.symm.trans q1
  cases (State.methodFound?_of_named hnamed hy).symm.trans q2
  cases hnamed.symm.trans q3
  have hselP : selectMethod e.platform s.vm cellB.cls mk = .method mk := by rw [Launch.admits_selectMethod X.admits]; exact q4
  obtain ⟨vm₁, X₁, hstep₁⟩ := X.invokevirtual hexec hown hlink hnamed hmethM hstM hkP hkPi hy (a := b) (cell := cellB) hcell
    (fun z h => by rw [h] at hobj; cases hobj) hselP hmethM habM hkP hkPi (g := g) hg (argsL := argsL) (rest := rest) (hlen _ hsigM) hstack hdg
  rcases hK m meth c ⟨T.setVm vm₁, locs, cells, slots⟩ { g with stack := rest } (.invokevirtual index) mk (Value.ref b :: argsL).toArray X₁ hg hsize hdg hW (X₁.named hnamed) (hpre vm₁ X₁.warmed) with ⟨v, B, X', hpost, hsteps⟩ | ⟨q, B, X', hpost, hsteps⟩
  · exact Or.inl ⟨v, vm₁, B, X₁.warmed, X', hpost, fun target h => hstep₁ _ fun acts => by rw [doInvoke_state]; exact hsteps.trans h⟩
  · exact Or.inr ⟨q, vm₁, B, X₁.warmed, X', hpost, hstep₁ _ fun acts => by rw [doInvoke_state]; exact hsteps⟩
theorem vx_callSX (X : Stand p l e R s m args below meth c T locs cells slots) (hexec : p.tables.exec = Jvm.exec) {own : String} {index : Nat} {y : MethodName} {bytes : ByteArray} {maxL : Nat} {ret : Option FieldType} {hh : List (Nat × Nat × Nat × Nat)}
    (hown : s.vm.findClass own = some m.cls) (hlink : (Cond.methodLink own index y).before args s = true) (hstat : (Cond.static y).before args s = true) (hinit : (Cond.initialized y.cls).before args s = true)
    (hcode : (Cond.codeWith y bytes maxL ret hh).before args s = true) (hy : y.cls ≠ "java/lang/invoke/MethodHandle" ∧ y.cls ≠ "java/lang/invoke/VarHandle")
    {W9 : Nat} {Pre : Pt → Array Value → Prop} {Post : Pt → Array Value → Option Value → Pt → Prop} {PostX : Pt → Array Value → Addr → Pt → Prop} (hK : vx_Back l R p e below s args y 3 W9 Pre Post PostX)
    {g : JFrame} (hg : g.method = m) (hsize : g.locals.size = c.maxLocals) {argsL rest : List Value} (hlen : ∀ sig, parseMethodDescriptor y.desc = some sig → argsL.length = sig.parameters.length)
    (hstack : g.stack = argsL.reverse ++ rest) (hW : 2 * g.monitorRoom + (rest.map fun v => v.category).sum ≤ W9) (hdg : decode c.code g.pc = .ok (.invokestatic index, 3))
    (hpre : ∀ vm₁, s.WarmedH vm₁ → Pre ⟨T.setVm vm₁, locs, cells, slots⟩ argsL.toArray) :
    (∃ (v : Option Value) (vm₁ : Vm) (B : Pt), s.WarmedH vm₁ ∧ Stand p l e R s m args below meth c B.U B.locs B.cells B.slots ∧ Post ⟨T.setVm vm₁, locs, cells, slots⟩ argsL.toArray v B ∧
      ∀ target, Steps p.tables e below (B.U.setTop { g with pc := g.pc + 3, stack := v.toList ++ rest }) target → Steps p.tables e below (T.setTop g) target) ∨
    (∃ (q : Addr) (vm₁ : Vm) (B : Pt), s.WarmedH vm₁ ∧ Stand p l e R s m args below meth c B.U B.locs B.cells B.slots ∧ PostX ⟨T.setVm vm₁, locs, cells, slots⟩ argsL.toArray q B ∧
      Steps p.tables e below (T.setTop g) ((B.U.setTop { g with stack := rest }).pushFrame (.throwing q))) := by
  obtain ⟨mk, methM, cM, hnamed, hmethM, -, -, -, -, -, -, hsigM⟩ := Cond.codeWith_spec hcode
  have hstatic : methM.isStatic = true := Cond.static_spec hnamed hmethM hstat
  obtain ⟨kP, hkP, -⟩ := className_of_methodNamed hnamed
  have hinitP : kP.init = .initialized := Cond.initialized_spec (findClass_of_methodNamed hnamed) hkP hinit
  obtain ⟨vm₁, X₁, hstep₁⟩ := X.invokestatic hexec hown hlink hnamed hmethM hstatic hkP hinitP hy (g := g) hg (argsL := argsL) (rest := rest) (hlen _ hsigM) hstack hdg
  rcases hK m meth c ⟨T.setVm vm₁, locs, cells, slots⟩ { g with stack := rest } (.invokestatic index) mk argsL.toArray X₁ hg hsize hdg hW (X₁.named hnamed) (hpre vm₁ X₁.warmed) with ⟨v, B, X', hpost, hsteps⟩ | ⟨q, B, X', hpost, hsteps⟩
  · exact Or.inl ⟨v, vm₁, B, X₁.warmed, X', hpost, fun target h => hstep₁ _ fun acts => by rw [doInvoke_state]; exact hsteps.trans h⟩
  · exact Or.inr ⟨q, vm₁, B, X₁.warmed, X', hpost, hstep₁ _ fun acts => by rw [doInvoke_state]; exact hsteps⟩
theorem vx_callVW (X : Stand p l e R s m args below meth c T locs cells slots) (hexec : p.tables.exec = Jvm.exec) {own C : String} {index : Nat} {y : MethodName} {bytes : ByteArray} {maxL : Nat} {ret : Option FieldType} {hh : List (Nat × Nat × Nat × Nat)}
    (hown : s.vm.findClass own = some m.cls) (hlink : (Cond.methodLink own index y).before args s = true) (hinst : (Cond.instanceMethod y).before args s = true) (hsel : (Cond.selects C y y).before args s = true)
    (hcode : (Cond.codeWith y bytes maxL ret hh).before args s = true) (hy : y.cls ≠ "java/lang/invoke/MethodHandle" ∧ y.cls ≠ "java/lang/invoke/VarHandle")
    {W9 : Nat} {Pre : Pt → Array Value → Prop} {Post : Pt → Array Value → Option Value → Pt → Prop} (hK : Back l R p e below s args y 3 W9 Pre Post)
    {b : Addr} {cellB : Cell} (hcell : T.heap[b]? = some cellB) (hobj : cellB.vm.isStatics = false) (hcls : s.vm.findClass C = some cellB.cls)
    {g : JFrame} (hg : g.method = m) (hsize : g.locals.size = c.maxLocals) {argsL rest : List Value} (hlen : ∀ sig, parseMethodDescriptor y.desc = some sig → argsL.length = sig.parameters.length)
    (hstack : g.stack = argsL.reverse ++ .ref b :: rest) (hW : 2 * g.monitorRoom + (rest.map fun v => v.category).sum ≤ W9) (hdg : decode c.code g.pc = .ok (.invokevirtual index, 3))
    (hpre : ∀ vm₁, s.WarmedH vm₁ → Pre ⟨T.setVm vm₁, locs, cells, slots⟩ (Value.ref b :: argsL).toArray) :
    ∃ (v : Option Value) (vm₁ : Vm) (B : Pt), s.WarmedH vm₁ ∧ Stand p l e R s m args below meth c B.U B.locs B.cells B.slots ∧ Post ⟨T.setVm vm₁, locs, cells, slots⟩ (Value.ref b :: argsL).toArray v B ∧
      ∀ target, Steps p.tables e below (B.U.setTop { g with pc := g.pc + 3, stack := v.toList ++ rest }) target → Steps p.tables e below (T.setTop g) target := by
  obtain ⟨mk, methM, hnamed, hmethM, hstM, habM⟩ := Cond.instanceMethod_spec hinst
  obtain ⟨m8, methM', cM, hn8, hmethM', -, -, -, -, -, -, hsigM⟩ := Cond.codeWith_spec hcode
  cases Option.some.inj (hn8.symm.trans hnamed)
  cases hmethM.symm.trans hmethM'
  obtain ⟨c2, r2, m2, q1, q2, q3, q4, kP, hkP, hkPi⟩ := Cond.selects_spec hsel
  cases hcls.symm.trans q1
  cases (State.methodFound?_of_named hnamed hy).symm.trans q2
  cases hnamed.symm.trans q3
  have hselP : selectMethod e.platform s.vm cellB.cls mk = .method mk := by rw [Launch.admits_selectMethod X.admits]; exact q4
  obtain ⟨vm₁, X₁, hstep₁⟩ := X.invokevirtual hexec hown hlink hnamed hmethM hstM hkP hkPi hy (a := b) (cell := cellB) hcell
    (fun z h => by rw [h] at hobj; cases hobj) hselP hmethM habM hkP hkPi (g := g) hg (argsL := argsL) (rest := rest) (hlen _ hsigM) hstack hdg
  obtain ⟨v, B, X', hpost, hsteps⟩ := hK m meth c ⟨T.setVm vm₁, locs, cells, slots⟩ { g with stack := rest } (.invokevirtual index) mk (Value.ref b :: argsL).toArray X₁ hg hsize hdg hW (X₁.named hnamed) (hpre vm₁ X₁.warmed)
  exact ⟨v, vm₁, B, X₁.warmed, X', hpost, fun target h => hstep₁ _ fun acts => by rw [doInvoke_state]; exact hsteps.trans h⟩
abbrev vx_CVW (R : Room) (s : State) (args : Array Value) (own C : String) (index : Nat) (y : MethodName) (bytes : ByteArray) (maxL : Nat) (ret : Option FieldType) (hh : List (Nat × Nat × Nat × Nat)) (ws : List Cond) (rm : Room) (mc ms n : Nat) : Prop :=
  (rm.cells = mc ∧ rm.slots = ms ∧ rm.frames + 1 ≤ R.frames ∧ 8 + (maxL + 11) + rm.locals ≤ R.locals ∧ (∀ w ∈ ws, ∀ (a' : Array Value) (U : State), s.WarmedH U.vm → w.before a' U = true) ∧ Cond.codeWith y bytes maxL ret hh ∈ ws) ∧
  (Cond.codeWith y bytes maxL ret hh).before args s = true ∧ (Cond.initialized y.cls).before args s = true ∧ (y.cls ≠ "java/lang/invoke/MethodHandle" ∧ y.cls ≠ "java/lang/invoke/VarHandle") ∧
  (∀ sig, parseMethodDescriptor y.desc = some sig → n = sig.parameters.length) ∧ (Cond.methodLink own index y).before args s = true ∧ (Cond.instanceMethod y).before args s = true ∧ (Cond.selects C y y).before args s = true
theorem vx_cwVW {own C : String} {index maxL mc ms : Nat} {y : MethodName} {bytes : ByteArray} {ret : Option FieldType} {hh : List (Nat × Nat × Nat × Nat)} {Ts ws ws' : List Cond} {rm : Room} (n : Nat) (ht : ∀ w ∈ Ts, w.before args s = true) (hT : GoodIn Ts (wsV own index C y ws)) (hw : ws = Cond.codeWith y bytes maxL ret hh :: ws') (hrc : rm.cells = mc) (hrs : rm.slots = ms)
    (hd : y.cls = C ∧ y.cls ≠ "java/lang/invoke/MethodHandle" ∧ y.cls ≠ "java/lang/invoke/VarHandle" ∧ (parseMethodDescriptor y.desc).map (fun d => d.parameters.length) = some n) (hR : rm.frames + 1 ≤ R.frames ∧ 8 + (maxL + 11) + rm.locals ≤ R.locals) :
    vx_CVW R s args own C index y bytes maxL ret hh ws rm mc ms n := by
  obtain ⟨hC, hd⟩ := hd
  subst hC
  have ok : ∀ w ∈ wsV own index y.cls y ws, w.before args s = true := fun w h => ht w (hT w h).1
  have hG : GoodIn Ts ws := fun w h => hT w (by unfold wsV; exact List.mem_append_right _ h)
  have hc : Cond.codeWith y bytes maxL ret hh ∈ ws := by rw [hw]; exact List.mem_cons_self
  refine ⟨⟨hrc, hrs, hR.1, hR.2, pay_in ht hG, hc⟩, ht _ (hG _ hc).1, ok _ (by simp [wsV]), ⟨hd.1, hd.2.1⟩, fun sig h => ?_, ok _ (by simp [wsV]), ok _ (by simp [wsV]), ok _ (by simp [wsV])⟩
  have h2 := hd.2.2
  rw [h] at h2
  exact (Option.some.inj h2).symm
theorem vx_runVW {y : MethodName} {bytes cc : ByteArray} {maxL nL mc ms n index : Nat} {ret : Option FieldType} {hh : List (Nat × Nat × Nat × Nat)} {ws : List Cond} {rm : Room} {Pc : Array Value → State → Prop} {Qc : Array Value → State → Outcome → State → Prop} {free : Addr → Prop} {Ts : List Cond} {own C : String} {b : Addr} {As rest : List Value} {g : JFrame}
    (S : CallFix p m c cc nL s args Ts own) (hM : Met l y ws rm Pc Qc mc ms free) (cw : vx_CVW R s args own C index y bytes maxL ret hh ws rm mc ms n) (hp : PreV s H C b Pc As)
    (hg : g.method = m) (hn : As.length = n) (hsize : g.locals.size = nL) (hstack : g.stack = As.reverse ++ .ref b :: rest) (hW : 2 * g.monitorRoom + (rest.map fun v => v.category).sum ≤ 8) (hdg : decode cc g.pc = .ok (.invokevirtual index, 3)) (hf : cells + mc ≤ R.cells ∧ slots + ms ≤ R.slots) :
    va_Run p l e R s m args below meth c H locs cells slots mc ms g rest (Qc (Value.ref b :: As).toArray) free := by
  obtain ⟨⟨hrc, hrs, hfr, hlo, hws, hcw⟩, hcode, hini, hy, hlen, hl, hin, hse⟩ := cw
  have hK : Back l R p e below s args y 3 8 (PreOf R mc ms Pc) (PostOf Qc mc ms free) := va_backW (hh := hh) (bytes := bytes) (maxL := maxL) (ret := ret) hM hp.1 hrc hrs hfr hlo hws hcw (fun a' U hW => word_at hW (Or.inl (by first | rfl | simp [Cond.onTables, Cond.keeps, Cond.steady])) hini)
  obtain ⟨hx, hb, hml, ho, -⟩ := S
  obtain ⟨-, ⟨cellB, hcB, hoB, hclB⟩, hPc⟩ := hp
  intro T hT X
  obtain ⟨v, vm₁, ⟨U', l2, c2, s2⟩, hW₁, X', ⟨g', mk, t, L, e1, e2, hq, h1, hL, h2, h3⟩, st⟩ := vx_callVW X hx (C := C) (hh := hh) (bytes := bytes) (maxL := maxL) (ret := ret) ho hl hin hse hcode hy hK (by rw [hT]; exact hcB) hoB hclB hg (hsize.trans hml.symm) (argsL := As) (rest := rest) (fun sig h => hn.trans (hlen sig h)) hstack hW (by rw [hb]; exact hdg)
    (fun vm₁ hW₁ => ⟨hf.1, hf.2, hPc (T.setVm vm₁) hT hW₁⟩)
  dsimp only [Pt.U, Pt.locs, Pt.cells, Pt.slots] at X' e1 e2 h1 h2 h3 st
  subst h1; subst h2; subst h3
  exact ⟨v, (T.setVm vm₁).calling g' mk (Value.ref b :: As).toArray, t, U', L, hT, X', hL, e1, e2, hq, st⟩
section
variable {y : MethodName} {bytes cc : ByteArray} {maxL nL mc ms n index : Nat} {ret : Option FieldType} {ws : List Cond} {rm : Room} {Pc : Array Value → State → Prop} {Qc : Array Value → State → Outcome → State → Prop} {XC : String → State → State → Prop} {free : Addr → Prop} {Ts : List Cond} {own C : String} {b : Addr} {As rest : List Value} {g : JFrame}
theorem vx_runVX {hh : List (Nat × Nat × Nat × Nat)} (S : CallFix p m c cc nL s args Ts own) (hM : vx_Met l y ws rm Pc Qc XC mc ms free) (cw : vx_CVW R s args own C index y bytes maxL ret hh ws rm mc ms n) (hp : PreV s H C b Pc As)
    (hg : g.method = m) (hn : As.length = n) (hsize : g.locals.size = nL) (hstack : g.stack = As.reverse ++ .ref b :: rest) (hW : 2 * g.monitorRoom + (rest.map fun v => v.category).sum ≤ 8) (hdg : decode cc g.pc = .ok (.invokevirtual index, 3)) (hf : cells + mc ≤ R.cells ∧ slots + ms ≤ R.slots) :
    vx_Run p l e R s m args below meth c H locs cells slots mc ms g rest (Qc (Value.ref b :: As).toArray) XC free := by
  obtain ⟨⟨hrc, hrs, hfr, hlo, hws, hcw⟩, hcode, hini, hy, hlen, hl, hin, hse⟩ := cw
  have hK : vx_Back l R p e below s args y 3 8 (PreOf R mc ms Pc) (PostOf Qc mc ms free) (vx_Post XC mc ms free) := vx_backW (hh := hh) (bytes := bytes) (maxL := maxL) (ret := ret) hM hp.1 hrc hrs hfr hlo hws hcw (fun a' U hW => word_at hW (Or.inl (by first | rfl | simp [Cond.onTables, Cond.keeps, Cond.steady])) hini)
  obtain ⟨hx, hb, hml, ho, -⟩ := S
  obtain ⟨-, ⟨cellB, hcB, hoB, hclB⟩, hPc⟩ := hp
  intro T hT X
  rcases vx_callVX X hx (C := C) (hh := hh) (bytes := bytes) (maxL := maxL) (ret := ret) ho hl hin hse hcode hy hK (by rw [hT]; exact hcB) hoB hclB hg (hsize.trans hml.symm) (argsL := As) (rest := rest) (fun sig h => hn.trans (hlen sig h)) hstack hW (by rw [hb]; exact hdg)
    (fun vm₁ hW₁ => ⟨hf.1, hf.2, hPc (T.setVm vm₁) hT hW₁⟩) with ⟨v, vm₁, ⟨U', l2, c2, s2⟩, hW₁, X', ⟨g', mk, t, L, e1, e2, hq, h1, hL, h2, h3⟩, st⟩ | ⟨q, vm₁, ⟨U', l2, c2, s2⟩, hW₁, X', ⟨g', mk, t, L, E, ce, e1, e2, hq, hce, hcv, hcl, h1, hL, h2, h3⟩, st⟩
  · dsimp only [Pt.U, Pt.locs, Pt.cells, Pt.slots] at X' e1 e2 h1 h2 h3 st
    subst h1; subst h2; subst h3
    exact Or.inl ⟨v, (T.setVm vm₁).calling g' mk (Value.ref b :: As).toArray, t, U', L, hT, X', hL, e1, e2, hq, st⟩
  · dsimp only [Pt.U, Pt.locs, Pt.cells, Pt.slots] at X' e1 e2 h1 h2 h3 st hcl
    subst h1; subst h2; subst h3
    exact Or.inr ⟨q, (T.setVm vm₁).calling g' mk (Value.ref b :: As).toArray, t, U', L, E, ce, hT, X', hL, e1, e2, hq, hce, hcv, vx_cls hW₁ hcl, st⟩
theorem vx_runSX {hh : List (Nat × Nat × Nat × Nat)} (S : CallFix p m c cc nL s args Ts own) (hM : vx_Met l y ws rm Pc Qc XC mc ms free) (cw : vx_CSW R s args own index y bytes maxL ret hh ws rm mc ms n) (hp : PreS s H Pc As)
    (hg : g.method = m) (hn : As.length = n) (hsize : g.locals.size = nL) (hstack : g.stack = As.reverse ++ rest) (hW : 2 * g.monitorRoom + (rest.map fun v => v.category).sum ≤ 8) (hdg : decode cc g.pc = .ok (.invokestatic index, 3)) (hf : cells + mc ≤ R.cells ∧ slots + ms ≤ R.slots) :
    vx_Run p l e R s m args below meth c H locs cells slots mc ms g rest (Qc As.toArray) XC free := by
  obtain ⟨⟨hrc, hrs, hfr, hlo, hws, hcw⟩, hcode, hini, hy, hlen, hl, hstt⟩ := cw
  have hK : vx_Back l R p e below s args y 3 8 (PreOf R mc ms Pc) (PostOf Qc mc ms free) (vx_Post XC mc ms free) := vx_backW (hh := hh) (bytes := bytes) (maxL := maxL) (ret := ret) hM hp.1 hrc hrs hfr hlo hws hcw (fun a' U hW => word_at hW (Or.inl (by first | rfl | simp [Cond.onTables, Cond.keeps, Cond.steady])) hini)
  obtain ⟨hx, hb, hml, ho, -⟩ := S
  intro T hT X
  rcases vx_callSX X hx (hh := hh) (bytes := bytes) (maxL := maxL) (ret := ret) ho hl hstt hini hcode hy hK hg (hsize.trans hml.symm) (argsL := As) (rest := rest) (fun sig h => hn.trans (hlen sig h)) hstack hW (by rw [hb]; exact hdg)
    (fun vm₁ hW₁ => ⟨hf.1, hf.2, hp.2 (T.setVm vm₁) hT hW₁⟩) with ⟨v, vm₁, ⟨U', l2, c2, s2⟩, hW₁, X', ⟨g', mk, t, L, e1, e2, hq, h1, hL, h2, h3⟩, st⟩ | ⟨q, vm₁, ⟨U', l2, c2, s2⟩, hW₁, X', ⟨g', mk, t, L, E, ce, e1, e2, hq, hce, hcv, hcl, h1, hL, h2, h3⟩, st⟩
  · dsimp only [Pt.U, Pt.locs, Pt.cells, Pt.slots] at X' e1 e2 h1 h2 h3 st
    subst h1; subst h2; subst h3
    exact Or.inl ⟨v, (T.setVm vm₁).calling g' mk As.toArray, t, U', L, hT, X', hL, e1, e2, hq, st⟩
  · dsimp only [Pt.U, Pt.locs, Pt.cells, Pt.slots] at X' e1 e2 h1 h2 h3 st hcl
    subst h1; subst h2; subst h3
    exact Or.inr ⟨q, (T.setVm vm₁).calling g' mk As.toArray, t, U', L, E, ce, hT, X', hL, e1, e2, hq, hce, hcv, vx_cls hW₁ hcl, st⟩
end
end VXH
theorem vx_ofWH {l : Launch} {y : MethodName} {ws ws' : List Cond} {rm : Room} {Pc : Array Value → State → Prop} {Qc : Array Value → State → Outcome → State → Prop} {XC : String → State → State → Prop} {mc ms : Nat} {free : Addr → Prop} {cc : ByteArray} {maxL : Nat} {ret : Option FieldType} {hh : List (Nat × Nat × Nat × Nat)}
    (hy : plainName y.cls = true) (hw : ws = Cond.codeWith y cc maxL ret hh :: ws')
    (body : ∀ p e s m args below meth c s₁, BodyLoose p l y (headSpec ws rm) cc maxL ret e s m args below meth c s₁ → c.maxLocals = maxL → Pc args s →
      W p l e (headSpec ws rm).room s m args below meth c s.heap [] 0 0 (vx_MQ below Qc XC args s mc ms free) (entryFrame m args maxL)) : vx_Met l y ws rm Pc Qc XC mc ms free := by
  refine MetFree.of_bodyS (code := cc) (maxLocals := maxL) (ret := ret) hy ?_ ?_
  · intro args s m h hn
    obtain ⟨m9, meth, c, hn9, h1, h2, h3, h4, -, h5, h6, -⟩ := Cond.codeWith_spec (atoms_spec (ws := ws) h _ (by rw [hw]; exact List.mem_cons_self))
    cases hn.symm.trans hn9
    exact ⟨meth, c, h1, h2, h3, h4, h5, h6⟩
  · intro p e s m args below meth c s₁ B hml hP _
    have hh0 : s₁.heap = s.heap := by rw [B.state]; rfl
    obtain ⟨t, a1, o, b1, b2, b3⟩ := body p e s m args below meth c s₁ B hml hP s₁ hh0 (Stand.of_body B)
    exact ⟨t, o, a1, b1, b2, b3⟩
/-! ===== END ===== -/
end
section
/-! ===== BEGIN printed: names, fields, word lists, decode rows ===== -/
def RX0 : String := "RateFitter"
def TX0 : u_T := fun k => match k with
  | 0 => ("RateFitter", "factors", "[[I", true)
  | 1 => ("RateFitter", "rowLevels", "[[I", true)
  | 2 => ("RateFitter", "exposures", "[J", true)
  | 3 => ("RateFitter", "claims", "[J", true)
  | 4 => ("RateFitter", "losses", "[J", true)
  | 5 => ("RateFitter", "oldPremiums", "[I", true)
  | 6 => ("RateFitter", "live", "[Z", true)
  | 7 => ("RateFitter", "addedRows", "I", false)
  | 8 => ("RateFitter", "liveRows", "I", false)
  | 9 => ("RateFitter", "credibility", "I", false)
  | 10 => ("RateFitter", "cap", "I", false)
  | 11 => ("RateFitter", "spreadNow", "I", false)
  | 12 => ("RateFitter", "baseNow", "J", false)
  | 13 => ("RateFitter", "fittedLosses", "[J", true)
  | 14 => ("RateFitter", "groupStarts", "[I", true)
  | _ => ("RateFitter", "factorsBefore", "[I", true)
def tyX0 : Nat → FieldType := fun k => match k with
  | 0 => .array (.array .int)
  | 1 => .array (.array .int)
  | 2 => .array .long
  | 3 => .array .long
  | 4 => .array .long
  | 5 => .array .int
  | 6 => .array .boolean
  | 7 => .int
  | 8 => .int
  | 9 => .int
  | 10 => .int
  | 11 => .int
  | 12 => .long
  | 13 => .array .long
  | 14 => .array .int
  | _ => .array .int
abbrev wsX00 : List Cond := u_ws RX0 TX0 16
theorem nmX0 : ∀ a, a < 16 → ∀ b, b < 16 → a ≠ b → (TX0 a).2.1 ≠ (TX0 b).2.1 := by decide +kernel
theorem tyX0_ok : ∀ k, k < 16 → parseFieldDescriptor (TX0 k).2.2.1 = some (tyX0 k) := by decide +kernel
abbrev cX0_init : ByteArray := prog_1_method_1_code
def yX0_init : MethodName := ⟨RX0, "<init>", "()V"⟩
abbrev cX0_add : ByteArray := prog_1_method_2_code
def yX0_add : MethodName := ⟨RX0, "add", "(IIIIII)I"⟩
abbrev cX0_withdraw : ByteArray := prog_1_method_3_code
def yX0_withdraw : MethodName := ⟨RX0, "withdraw", "(I)I"⟩
abbrev cX0_setOld : ByteArray := prog_1_method_4_code
def yX0_setOld : MethodName := ⟨RX0, "setOld", "(II)I"⟩
abbrev cX0_setRules : ByteArray := prog_1_method_5_code
def yX0_setRules : MethodName := ⟨RX0, "setRules", "(II)I"⟩
abbrev cX0_setFactor : ByteArray := prog_1_method_6_code
def yX0_setFactor : MethodName := ⟨RX0, "setFactor", "(III)I"⟩
abbrev cX0_pass : ByteArray := prog_1_method_7_code
def yX0_pass : MethodName := ⟨RX0, "pass", "(I)I"⟩
abbrev cX0_settle : ByteArray := prog_1_method_8_code
def yX0_settle : MethodName := ⟨RX0, "settle", "()I"⟩
abbrev cX0_smooth : ByteArray := prog_1_method_9_code
def yX0_smooth : MethodName := ⟨RX0, "smooth", "(I)I"⟩
abbrev cX0_spread : ByteArray := prog_1_method_10_code
def yX0_spread : MethodName := ⟨RX0, "spread", "()I"⟩
abbrev cX0_rows : ByteArray := prog_1_method_11_code
def yX0_rows : MethodName := ⟨RX0, "rows", "()I"⟩
abbrev cX0_base : ByteArray := prog_1_method_12_code
def yX0_base : MethodName := ⟨RX0, "base", "()J"⟩
abbrev cX0_factor : ByteArray := prog_1_method_13_code
def yX0_factor : MethodName := ⟨RX0, "factor", "(II)I"⟩
abbrev cX0_fitted : ByteArray := prog_1_method_14_code
def yX0_fitted : MethodName := ⟨RX0, "fitted", "(I)J"⟩
abbrev cX0_toldSum : ByteArray := prog_1_method_15_code
def yX0_toldSum : MethodName := ⟨RX0, "toldSum", "(II)J"⟩
abbrev cX0_fittedSum : ByteArray := prog_1_method_16_code
def yX0_fittedSum : MethodName := ⟨RX0, "fittedSum", "(II)J"⟩
abbrev cX0_worst : ByteArray := prog_1_method_17_code
def yX0_worst : MethodName := ⟨RX0, "worst", "(I)J"⟩
abbrev cX0_premium : ByteArray := prog_1_method_18_code
def yX0_premium : MethodName := ⟨RX0, "premium", "(I)J"⟩
abbrev cX0_capped : ByteArray := prog_1_method_19_code
def yX0_capped : MethodName := ⟨RX0, "capped", "(I)J"⟩
abbrev cX0_lost : ByteArray := prog_1_method_20_code
def yX0_lost : MethodName := ⟨RX0, "lost", "()J"⟩
abbrev cX0_rankedAt : ByteArray := prog_1_method_21_code
def yX0_rankedAt : MethodName := ⟨RX0, "rankedAt", "(I)I"⟩
abbrev cX0_isWithin : ByteArray := prog_1_method_22_code
def yX0_isWithin : MethodName := ⟨RX0, "isWithin", "(III)Z"⟩
abbrev cX0_hasTrait : ByteArray := prog_1_method_23_code
def yX0_hasTrait : MethodName := ⟨RX0, "hasTrait", "(I)Z"⟩
abbrev cX0_hasLevel : ByteArray := prog_1_method_24_code
def yX0_hasLevel : MethodName := ⟨RX0, "hasLevel", "(II)Z"⟩
abbrev cX0_hasRow : ByteArray := prog_1_method_25_code
def yX0_hasRow : MethodName := ⟨RX0, "hasRow", "(I)Z"⟩
abbrev cX0_total : ByteArray := prog_1_method_26_code
def yX0_total : MethodName := ⟨RX0, "total", "([J)J"⟩
abbrev cX0_levelTotal : ByteArray := prog_1_method_27_code
def yX0_levelTotal : MethodName := ⟨RX0, "levelTotal", "([JII)J"⟩
abbrev cX0_cappedTotal : ByteArray := prog_1_method_28_code
def yX0_cappedTotal : MethodName := ⟨RX0, "cappedTotal", "()J"⟩
abbrev cX0_refit : ByteArray := prog_1_method_29_code
def yX0_refit : MethodName := ⟨RX0, "refit", "()V"⟩
abbrev cX0_fittedLoss : ByteArray := prog_1_method_30_code
def yX0_fittedLoss : MethodName := ⟨RX0, "fittedLoss", "(I)J"⟩
abbrev cX0_changedByRound : ByteArray := prog_1_method_31_code
def yX0_changedByRound : MethodName := ⟨RX0, "changedByRound", "()I"⟩
abbrev cX0_passOver : ByteArray := prog_1_method_32_code
def yX0_passOver : MethodName := ⟨RX0, "passOver", "(I)I"⟩
abbrev cX0_foundFactor : ByteArray := prog_1_method_33_code
def yX0_foundFactor : MethodName := ⟨RX0, "foundFactor", "(II)I"⟩
abbrev cX0_bounded : ByteArray := prog_1_method_34_code
def yX0_bounded : MethodName := ⟨RX0, "bounded", "(JJJ)J"⟩
abbrev cX0_lowestFallingLevel : ByteArray := prog_1_method_35_code
def yX0_lowestFallingLevel : MethodName := ⟨RX0, "lowestFallingLevel", "(I)I"⟩
abbrev cX0_joinToLevelAhead : ByteArray := prog_1_method_36_code
def yX0_joinToLevelAhead : MethodName := ⟨RX0, "joinToLevelAhead", "(II)V"⟩
abbrev cX0_groupMean : ByteArray := prog_1_method_37_code
def yX0_groupMean : MethodName := ⟨RX0, "groupMean", "(II)I"⟩
abbrev cX0_changedSinceBefore : ByteArray := prog_1_method_38_code
def yX0_changedSinceBefore : MethodName := ⟨RX0, "changedSinceBefore", "(I)I"⟩
abbrev cX0_newPremium : ByteArray := prog_1_method_39_code
def yX0_newPremium : MethodName := ⟨RX0, "newPremium", "(I)J"⟩
abbrev cX0_cappedPremium : ByteArray := prog_1_method_40_code
def yX0_cappedPremium : MethodName := ⟨RX0, "cappedPremium", "(I)J"⟩
abbrev cX0_placeOf : ByteArray := prog_1_method_41_code
def yX0_placeOf : MethodName := ⟨RX0, "placeOf", "(I)I"⟩
abbrev cX0_isAhead : ByteArray := prog_1_method_42_code
def yX0_isAhead : MethodName := ⟨RX0, "isAhead", "(II)Z"⟩
def RX1 : String := "RateFitterModel"
def TX1 : u_T := fun k => match k with
  | _ => ("", "", "", false)
def tyX1 : Nat → FieldType := fun k => match k with
  | _ => .int
abbrev wsX10 : List Cond := u_ws RX1 TX1 0
theorem nmX1 : ∀ a, a < 0 → ∀ b, b < 0 → a ≠ b → (TX1 a).2.1 ≠ (TX1 b).2.1 := by decide +kernel
theorem tyX1_ok : ∀ k, k < 0 → parseFieldDescriptor (TX1 k).2.2.1 = some (tyX1 k) := by decide +kernel
def RJx145de : String := "java/io/Serializable"
def TJx145de : u_T := fun k => match k with
  | _ => ("", "", "", false)
def tyJx145de : Nat → FieldType := fun k => match k with
  | _ => .int
abbrev wsJx145de0 : List Cond := u_ws RJx145de TJx145de 0
theorem nmJx145de : ∀ a, a < 0 → ∀ b, b < 0 → a ≠ b → (TJx145de a).2.1 ≠ (TJx145de b).2.1 := by decide +kernel
theorem tyJx145de_ok : ∀ k, k < 0 → parseFieldDescriptor (TJx145de k).2.2.1 = some (tyJx145de k) := by decide +kernel
def RJ9 : String := "java/lang/Math"
def TJ9 : u_T := fun k => match k with
  | _ => ("", "", "", false)
def tyJ9 : Nat → FieldType := fun k => match k with
  | _ => .int
abbrev wsJ90 : List Cond := u_ws RJ9 TJ9 0
theorem nmJ9 : ∀ a, a < 0 → ∀ b, b < 0 → a ≠ b → (TJ9 a).2.1 ≠ (TJ9 b).2.1 := by decide +kernel
theorem tyJ9_ok : ∀ k, k < 0 → parseFieldDescriptor (TJ9 k).2.2.1 = some (tyJ9 k) := by decide +kernel
abbrev cJ9_abs_067f4 : ByteArray := prog_8_method_61_code
def yJ9_abs_067f4 : MethodName := ⟨RJ9, "abs", "(J)J"⟩
abbrev cJ9_max_7cf53 : ByteArray := prog_8_method_65_code
def yJ9_max_7cf53 : MethodName := ⟨RJ9, "max", "(II)I"⟩
abbrev cJ9_max_f86c9 : ByteArray := prog_8_method_66_code
def yJ9_max_f86c9 : MethodName := ⟨RJ9, "max", "(JJ)J"⟩
abbrev cJ9_min_f86c9 : ByteArray := prog_8_method_70_code
def yJ9_min_f86c9 : MethodName := ⟨RJ9, "min", "(JJ)J"⟩
def RJ0 : String := "java/lang/String"
def TJ0 : u_T := fun k => match k with
  | _ => ("", "", "", false)
def tyJ0 : Nat → FieldType := fun k => match k with
  | _ => .int
abbrev wsJ00 : List Cond := u_ws RJ0 TJ0 0
theorem nmJ0 : ∀ a, a < 0 → ∀ b, b < 0 → a ≠ b → (TJ0 a).2.1 ≠ (TJ0 b).2.1 := by decide +kernel
theorem tyJ0_ok : ∀ k, k < 0 → parseFieldDescriptor (TJ0 k).2.2.1 = some (tyJ0 k) := by decide +kernel
def RJ7 : String := "java/util/Arrays"
def TJ7 : u_T := fun k => match k with
  | _ => ("", "", "", false)
def tyJ7 : Nat → FieldType := fun k => match k with
  | _ => .int
abbrev wsJ70 : List Cond := u_ws RJ7 TJ7 0
theorem nmJ7 : ∀ a, a < 0 → ∀ b, b < 0 → a ≠ b → (TJ7 a).2.1 ≠ (TJ7 b).2.1 := by decide +kernel
theorem tyJ7_ok : ∀ k, k < 0 → parseFieldDescriptor (TJ7 k).2.2.1 = some (tyJ7 k) := by decide +kernel
abbrev cJ7_fill_53178 : ByteArray := prog_12_method_103_code
def yJ7_fill_53178 : MethodName := ⟨RJ7, "fill", "([II)V"⟩
def RL : String := "RateFitterLaw"
abbrev cL_from : ByteArray := method_2_code
def yL_from : MethodName := ⟨RL, "from", "([III)I"⟩
abbrev cL_many : ByteArray := method_3_code
def yL_many : MethodName := ⟨RL, "many", "(I)I"⟩
abbrev cL_base : ByteArray := method_4_code
def yL_base : MethodName := ⟨RL, "base", "([I[I[I[I)J"⟩
abbrev cL_fitted : ByteArray := method_5_code
def yL_fitted : MethodName := ⟨RL, "fitted", "([I[I[IIJ)J"⟩
abbrev cL_sum : ByteArray := method_6_code
def yL_sum : MethodName := ⟨RL, "sum", "([I[I[I[I[I[I[IIII)J"⟩
abbrev cL_pass : ByteArray := method_7_code
def yL_pass : MethodName := ⟨RL, "pass", "([I[I[I[I[I[I[II)I"⟩
abbrev cL_smooth : ByteArray := method_8_code
def yL_smooth : MethodName := ⟨RL, "smooth", "([I[I[I[I[I[I[II)I"⟩
abbrev cL_capped : ByteArray := method_9_code
def yL_capped : MethodName := ⟨RL, "capped", "([I[I[I[I[I[I[II)J"⟩
abbrev cL_all : ByteArray := method_10_code
def yL_all : MethodName := ⟨RL, "all", "([I[I[I[I[I[I[IZ)J"⟩
abbrev cL_rowTold : ByteArray := method_11_code
def yL_rowTold : MethodName := ⟨RL, "rowTold", "(LRateFitter;II)J"⟩
abbrev cL_isRanked : ByteArray := method_12_code
def yL_isRanked : MethodName := ⟨RL, "isRanked", "(LRateFitter;[I[I[I[I[I[II)Z"⟩
abbrev cL_isTold : ByteArray := method_13_code
def yL_isTold : MethodName := ⟨RL, "isTold", "(LRateFitter;[I[I[I[I[I[I[I[I)Z"⟩
abbrev cL_acts : ByteArray := method_14_code
def yL_acts : MethodName := ⟨RL, "acts", "(LRateFitter;[I[I[I[I[I[I[I[III)Z"⟩
abbrev cL_holds : ByteArray := method_15_code
def yL_holds : MethodName := ⟨RL, "holds", "([I)Z"⟩
abbrev cL_isHeld : ByteArray := method_16_code
def yL_isHeld : MethodName := ⟨RL, "isHeld", "([I)Z"⟩
abbrev cL_law : ByteArray := code
def yL_law : MethodName := ⟨RL, "law", "([I)Z"⟩
def wsL_law0_r1 : List Cond := [Cond.methodLink RL 151 yL_isHeld, Cond.static yL_isHeld, Cond.initialized RL, Cond.codeWith yL_isHeld cL_isHeld 2 (some .boolean) [(0, 4, 5, 51), (0, 4, 8, 147), (0, 4, 11, 149)], Cond.classLink RL 51 "java/lang/IndexOutOfBoundsException", Cond.classLink RL 147 "java/lang/IllegalArgumentException", Cond.classLink RL 149 "java/lang/IllegalStateException", Cond.methodLink RL 143 yL_holds, Cond.static yL_holds, Cond.code yL_holds cL_holds 13 (some .boolean), Cond.classLink RL 38 RX0, Cond.instantiable RX0 16, Cond.initialized RX0, Cond.arrayClass .int, Cond.constant RL 134 (1000000000), Cond.methodLink RL 129 yX0_init, Cond.instanceMethod yX0_init, Cond.code yX0_init cX0_init 2 none, Cond.methodLink RX0 1 objectInit, Cond.instanceMethod objectInit, Cond.code objectInit ⟨#[0xb1]⟩ 1 none, Cond.classLink RX0 9 "[[I", Cond.fieldLink RX0 11 "RateFitter" "factors" "[[I", Cond.fieldLink RX0 14 "RateFitter" "rowLevels" "[[I"]
def wsL_law0_r2 : List Cond := [Cond.arrayClass .long, Cond.fieldLink RX0 17 "RateFitter" "exposures" "[J", Cond.fieldLink RX0 21 "RateFitter" "claims" "[J", Cond.fieldLink RX0 24 "RateFitter" "losses" "[J", Cond.fieldLink RX0 27 "RateFitter" "oldPremiums" "[I", Cond.arrayClass .boolean, Cond.fieldLink RX0 31 "RateFitter" "live" "[Z", Cond.fieldLink RX0 35 "RateFitter" "addedRows" "I", Cond.fieldLink RX0 39 "RateFitter" "liveRows" "I", Cond.fieldLink RX0 42 "RateFitter" "credibility" "I", Cond.fieldLink RX0 45 "RateFitter" "cap" "I", Cond.fieldLink RX0 48 "RateFitter" "spreadNow" "I", Cond.fieldLink RX0 51 "RateFitter" "baseNow" "J", Cond.fieldLink RX0 55 "RateFitter" "fittedLosses" "[J", Cond.fieldLink RX0 58 "RateFitter" "groupStarts" "[I", Cond.fieldLink RX0 61 "RateFitter" "factorsBefore" "[I", Cond.methodLink RX0 64 yJ7_fill_53178, Cond.static yJ7_fill_53178, Cond.initialized RJ7, Cond.code yJ7_fill_53178 cJ7_fill_53178 4 none, Cond.methodLink RL 85 yX0_rows, Cond.instanceMethod yX0_rows, Cond.selects RX0 yX0_rows yX0_rows, Cond.code yX0_rows cX0_rows 1 (some .int)]
def wsL_law0_r3 : List Cond := [Cond.methodLink RL 58 yX0_base, Cond.instanceMethod yX0_base, Cond.selects RX0 yX0_base yX0_base, Cond.code yX0_base cX0_base 1 (some .long), Cond.methodLink RL 116 yX0_settle, Cond.instanceMethod yX0_settle, Cond.selects RX0 yX0_settle yX0_settle, Cond.code yX0_settle cX0_settle 2 (some .int), Cond.methodLink RX0 126 yX0_changedByRound, Cond.instanceMethod yX0_changedByRound, Cond.selects RX0 yX0_changedByRound yX0_changedByRound, Cond.code yX0_changedByRound cX0_changedByRound 3 (some .int), Cond.methodLink RX0 122 yX0_passOver, Cond.instanceMethod yX0_passOver, Cond.selects RX0 yX0_passOver yX0_passOver, Cond.code yX0_passOver cX0_passOver 5 (some .int), Cond.fieldLink RX0 130 "RateFitter" "LEVELS" "[I", Cond.methodLink RX0 191 yX0_foundFactor, Cond.instanceMethod yX0_foundFactor, Cond.selects RX0 yX0_foundFactor yX0_foundFactor, Cond.code yX0_foundFactor cX0_foundFactor 12 (some .int), Cond.constantLong RX0 195 (100), Cond.constantLong RX0 197 (100000), Cond.methodLink RX0 165 yX0_levelTotal]
def wsL_law0_r4 : List Cond := [Cond.instanceMethod yX0_levelTotal, Cond.selects RX0 yX0_levelTotal yX0_levelTotal, Cond.code yX0_levelTotal cX0_levelTotal 7 (some .long), Cond.methodLink RX0 161 yX0_bounded, Cond.static yX0_bounded, Cond.code yX0_bounded cX0_bounded 6 (some .long), Cond.methodLink RX0 173 Lib.MathLoose.max_long.x, Cond.static Lib.MathLoose.max_long.x, Cond.initialized "java/lang/Math", Cond.code Lib.MathLoose.max_long.x Lib.MathLoose.max_long.code 4 (some .long), Cond.methodLink RX0 155 Lib.MathLoose.min_long.x, Cond.static Lib.MathLoose.min_long.x, Cond.code Lib.MathLoose.min_long.x Lib.MathLoose.min_long.code 4 (some .long), Cond.methodLink RX0 93 yX0_refit, Cond.instanceMethod yX0_refit, Cond.selects RX0 yX0_refit yX0_refit, Cond.code yX0_refit cX0_refit 4 none, Cond.constantLong RX0 147 (10000), Cond.methodLink RX0 149 yX0_total, Cond.instanceMethod yX0_total, Cond.selects RX0 yX0_total yX0_total, Cond.code yX0_total cX0_total 5 (some .long), Cond.methodLink RX0 188 yX0_fittedLoss, Cond.instanceMethod yX0_fittedLoss]
def wsL_law0_r5 : List Cond := [Cond.selects RX0 yX0_fittedLoss yX0_fittedLoss, Cond.code yX0_fittedLoss cX0_fittedLoss 5 (some .long), Cond.methodLink RL 130 yL_from, Cond.static yL_from, Cond.code yL_from cL_from 4 (some .int), Cond.constant RL 7 (156007), Cond.constant RL 8 (2147483647), Cond.methodLink RL 135 yL_acts, Cond.static yL_acts, Cond.code yL_acts cL_acts 19 (some .boolean), Cond.constant RL 93 (1000000), Cond.constantLong RL 53 (-5), Cond.constant RL 101 (3000000), Cond.constant RL 105 (99901), Cond.constantLong RL 9 (10000), Cond.constantLong RL 124 (1000000), Cond.methodLink RL 94 yX0_add, Cond.instanceMethod yX0_add, Cond.selects RX0 yX0_add yX0_add, Cond.code yX0_add cX0_add 8 (some .int), Cond.classLink RX0 74 "java/lang/IllegalArgumentException", Cond.initialized "java/lang/IllegalArgumentException", Cond.classLink RX0 88 "java/lang/IllegalStateException", Cond.initialized "java/lang/IllegalStateException"]
def wsL_law0_r6 : List Cond := [Cond.constant RX0 85 (1000000), Cond.methodLink RX0 70 yX0_hasLevel, Cond.static yX0_hasLevel, Cond.code yX0_hasLevel cX0_hasLevel 2 (some .boolean), Cond.methodLink RX0 117 yX0_hasTrait, Cond.static yX0_hasTrait, Cond.code yX0_hasTrait cX0_hasTrait 1 (some .boolean), Cond.methodLink RX0 81 yX0_isWithin, Cond.static yX0_isWithin, Cond.code yX0_isWithin cX0_isWithin 3 (some .boolean), Cond.methodLink RL 68 yL_rowTold, Cond.static yL_rowTold, Cond.codeWith yL_rowTold cL_rowTold 4 (some .long) [(0, 45, 46, 51)], Cond.methodLink RL 37 yX0_fitted, Cond.instanceMethod yX0_fitted, Cond.selects RX0 yX0_fitted yX0_fitted, Cond.code yX0_fitted cX0_fitted 2 (some .long), Cond.classLink RX0 100 "java/lang/IndexOutOfBoundsException", Cond.initialized "java/lang/IndexOutOfBoundsException", Cond.methodLink RX0 96 yX0_hasRow, Cond.instanceMethod yX0_hasRow, Cond.selects RX0 yX0_hasRow yX0_hasRow, Cond.code yX0_hasRow cX0_hasRow 2 (some .boolean), Cond.methodLink RL 42 yX0_premium]
def wsL_law0_r7 : List Cond := [Cond.instanceMethod yX0_premium, Cond.selects RX0 yX0_premium yX0_premium, Cond.code yX0_premium cX0_premium 2 (some .long), Cond.methodLink RX0 176 yX0_newPremium, Cond.instanceMethod yX0_newPremium, Cond.selects RX0 yX0_newPremium yX0_newPremium, Cond.code yX0_newPremium cX0_newPremium 2 (some .long), Cond.methodLink RL 45 yX0_capped, Cond.instanceMethod yX0_capped, Cond.selects RX0 yX0_capped yX0_capped, Cond.code yX0_capped cX0_capped 2 (some .long), Cond.methodLink RX0 180 yX0_cappedPremium, Cond.instanceMethod yX0_cappedPremium, Cond.selects RX0 yX0_cappedPremium yX0_cappedPremium, Cond.code yX0_cappedPremium cX0_cappedPremium 8 (some .long), Cond.methodLink RX0 202 Lib.Math.max.name, Cond.static Lib.Math.max.name, Cond.code Lib.Math.max.name Lib.Math.max.code 2 (some .int), Cond.methodLink RL 47 yX0_setOld, Cond.instanceMethod yX0_setOld, Cond.selects RX0 yX0_setOld yX0_setOld, Cond.code yX0_setOld cX0_setOld 4 (some .int), Cond.constant RX0 105 (10000000), Cond.methodLink RL 98 yX0_withdraw]
def wsL_law0_r8 : List Cond := [Cond.instanceMethod yX0_withdraw, Cond.selects RX0 yX0_withdraw yX0_withdraw, Cond.code yX0_withdraw cX0_withdraw 2 (some .int), Cond.methodLink RL 102 yX0_setRules, Cond.instanceMethod yX0_setRules, Cond.selects RX0 yX0_setRules yX0_setRules, Cond.code yX0_setRules cX0_setRules 4 (some .int), Cond.methodLink RL 21 yL_many, Cond.static yL_many, Cond.code yL_many cL_many 1 (some .int), Cond.methodLink RL 106 yX0_setFactor, Cond.instanceMethod yX0_setFactor, Cond.selects RX0 yX0_setFactor yX0_setFactor, Cond.code yX0_setFactor cX0_setFactor 5 (some .int), Cond.constant RX0 114 (100000), Cond.methodLink RL 110 yX0_pass, Cond.instanceMethod yX0_pass, Cond.selects RX0 yX0_pass yX0_pass, Cond.code yX0_pass cX0_pass 2 (some .int), Cond.methodLink RL 113 yL_pass, Cond.static yL_pass, Cond.code yL_pass cL_pass 21 (some .int), Cond.constantLong RL 29 (100), Cond.constantLong RL 31 (100000)]
def wsL_law0_r9 : List Cond := [Cond.methodLink RL 25 yL_sum, Cond.static yL_sum, Cond.code yL_sum cL_sum 16 (some .long), Cond.methodLink RL 11 yL_base, Cond.static yL_base, Cond.code yL_base cL_base 9 (some .long), Cond.methodLink RL 17 yL_fitted, Cond.static yL_fitted, Cond.code yL_fitted cL_fitted 12 (some .long), Cond.methodLink RL 119 yX0_smooth, Cond.instanceMethod yX0_smooth, Cond.selects RX0 yX0_smooth yX0_smooth, Cond.code yX0_smooth cX0_smooth 4 (some .int), Cond.methodLink RX0 133 yX0_lowestFallingLevel, Cond.instanceMethod yX0_lowestFallingLevel, Cond.selects RX0 yX0_lowestFallingLevel yX0_lowestFallingLevel, Cond.code yX0_lowestFallingLevel cX0_lowestFallingLevel 3 (some .int), Cond.methodLink RX0 136 yX0_joinToLevelAhead, Cond.instanceMethod yX0_joinToLevelAhead, Cond.selects RX0 yX0_joinToLevelAhead yX0_joinToLevelAhead, Cond.code yX0_joinToLevelAhead cX0_joinToLevelAhead 6 none, Cond.methodLink RX0 199 yX0_groupMean, Cond.instanceMethod yX0_groupMean, Cond.selects RX0 yX0_groupMean yX0_groupMean]
def wsL_law0_r10 : List Cond := [Cond.code yX0_groupMean cX0_groupMean 13 (some .int), Cond.methodLink RX0 140 yX0_changedSinceBefore, Cond.instanceMethod yX0_changedSinceBefore, Cond.selects RX0 yX0_changedSinceBefore yX0_changedSinceBefore, Cond.code yX0_changedSinceBefore cX0_changedSinceBefore 4 (some .int), Cond.methodLink RL 122 yL_smooth, Cond.static yL_smooth, Cond.code yL_smooth cL_smooth 16 (some .int), Cond.methodLink RL 64 yL_all, Cond.static yL_all, Cond.code yL_all cL_all 13 (some .long), Cond.methodLink RL 33 yL_capped, Cond.static yL_capped, Cond.code yL_capped cL_capped 14 (some .long), Cond.methodLink RL 126 yX0_spread, Cond.instanceMethod yX0_spread, Cond.selects RX0 yX0_spread yX0_spread, Cond.code yX0_spread cX0_spread 5 (some .int), Cond.constantLong RX0 153 (1000000), Cond.methodLink RX0 143 yX0_cappedTotal, Cond.instanceMethod yX0_cappedTotal, Cond.selects RX0 yX0_cappedTotal yX0_cappedTotal, Cond.code yX0_cappedTotal cX0_cappedTotal 4 (some .long), Cond.methodLink RL 139 yL_isTold]
def wsL_law0_r11 : List Cond := [Cond.static yL_isTold, Cond.code yL_isTold cL_isTold 23 (some .boolean), Cond.methodLink RL 61 yX0_lost, Cond.instanceMethod yX0_lost, Cond.selects RX0 yX0_lost yX0_lost, Cond.code yX0_lost cX0_lost 1 (some .long), Cond.methodLink RL 72 yX0_factor, Cond.instanceMethod yX0_factor, Cond.selects RX0 yX0_factor yX0_factor, Cond.code yX0_factor cX0_factor 3 (some .int), Cond.methodLink RL 75 yX0_toldSum, Cond.instanceMethod yX0_toldSum, Cond.selects RX0 yX0_toldSum yX0_toldSum, Cond.code yX0_toldSum cX0_toldSum 3 (some .long), Cond.methodLink RL 79 yX0_fittedSum, Cond.instanceMethod yX0_fittedSum, Cond.selects RX0 yX0_fittedSum yX0_fittedSum, Cond.code yX0_fittedSum cX0_fittedSum 3 (some .long), Cond.methodLink RL 82 yX0_worst, Cond.instanceMethod yX0_worst, Cond.selects RX0 yX0_worst yX0_worst, Cond.code yX0_worst cX0_worst 7 (some .long), Cond.methodLink RX0 169 Lib.MathLoose.abs_long.x, Cond.static Lib.MathLoose.abs_long.x]
def wsL_law0_r12 : List Cond := [Cond.code Lib.MathLoose.abs_long.x Lib.MathLoose.abs_long.code 2 (some .long), Cond.methodLink RL 89 yL_isRanked, Cond.static yL_isRanked, Cond.code yL_isRanked cL_isRanked 16 (some .boolean), Cond.methodLink RL 55 yX0_rankedAt, Cond.instanceMethod yX0_rankedAt, Cond.selects RX0 yX0_rankedAt yX0_rankedAt, Cond.code yX0_rankedAt cX0_rankedAt 3 (some .int), Cond.methodLink RX0 183 yX0_placeOf, Cond.instanceMethod yX0_placeOf, Cond.selects RX0 yX0_placeOf yX0_placeOf, Cond.code yX0_placeOf cX0_placeOf 4 (some .int), Cond.methodLink RX0 204 yX0_isAhead, Cond.instanceMethod yX0_isAhead, Cond.selects RX0 yX0_isAhead yX0_isAhead, Cond.code yX0_isAhead cX0_isAhead 7 (some .boolean)]
def wsL_law0 : List Cond := (wsL_law0_r1 ++ (wsL_law0_r2 ++ (wsL_law0_r3 ++ (wsL_law0_r4 ++ (wsL_law0_r5 ++ (wsL_law0_r6 ++ (wsL_law0_r7 ++ (wsL_law0_r8 ++ (wsL_law0_r9 ++ (wsL_law0_r10 ++ (wsL_law0_r11 ++ wsL_law0_r12))))))))))) ++ wsX00 ++ ([] : List Cond)
def wsL_law : List Cond := wsL_law0 ++ (vx_atS RX0 78 "java/lang/IllegalArgumentException" ["java/lang/RuntimeException", "java/lang/Exception"]).filter goodWord ++ (vx_atS RX0 92 "java/lang/IllegalStateException" ["java/lang/RuntimeException", "java/lang/Exception"]).filter goodWord ++ (vx_atS RX0 104 "java/lang/IndexOutOfBoundsException" ["java/lang/RuntimeException", "java/lang/Exception"]).filter goodWord
theorem inlX0 : ∀ w ∈ wsX00, w ∈ wsL_law := fun _ h => List.mem_append_left _ (List.mem_append_left _ (List.mem_append_left _ (List.mem_append_left _ (List.mem_append_right _ h))))
abbrev vwCl : List vw_C := [(RX0, TX0, 16)]
end
section
/-! The world of the class, the reference and the law's own array: one list of cells at addresses that are variables. -/
abbrev WA : List Cond := wsL_law
def wA (y : MethodName) (cc : ByteArray) (n : Nat) (ret : Option FieldType) : List Cond := Cond.code y cc n ret :: WA
theorem WA_good : WA.all goodWord = true := by decide +kernel
theorem wm_0 : Cond.methodLink RL 151 yL_isHeld ∈ WA := List.mem_of_getElem? (i := 0) (by decide +kernel)
theorem wm_1 : Cond.static yL_isHeld ∈ WA := List.mem_of_getElem? (i := 1) (by decide +kernel)
theorem wm_2 : Cond.initialized RL ∈ WA := List.mem_of_getElem? (i := 2) (by decide +kernel)
theorem wm_3 : Cond.codeWith yL_isHeld cL_isHeld 2 (some .boolean) [(0, 4, 5, 51), (0, 4, 8, 147), (0, 4, 11, 149)] ∈ WA := List.mem_of_getElem? (i := 3) rfl
theorem wm_4 : Cond.classLink RL 51 "java/lang/IndexOutOfBoundsException" ∈ WA := List.mem_of_getElem? (i := 4) (by decide +kernel)
theorem wm_5 : Cond.classLink RL 147 "java/lang/IllegalArgumentException" ∈ WA := List.mem_of_getElem? (i := 5) (by decide +kernel)
theorem wm_6 : Cond.classLink RL 149 "java/lang/IllegalStateException" ∈ WA := List.mem_of_getElem? (i := 6) (by decide +kernel)
theorem wm_7 : Cond.methodLink RL 143 yL_holds ∈ WA := List.mem_of_getElem? (i := 7) (by decide +kernel)
theorem wm_8 : Cond.static yL_holds ∈ WA := List.mem_of_getElem? (i := 8) (by decide +kernel)
theorem wm_9 : Cond.code yL_holds cL_holds 13 (some .boolean) ∈ WA := List.mem_of_getElem? (i := 9) rfl
theorem wm_10 : Cond.classLink RL 38 RX0 ∈ WA := List.mem_of_getElem? (i := 10) (by decide +kernel)
theorem wm_11 : Cond.instantiable RX0 16 ∈ WA := List.mem_of_getElem? (i := 11) (by decide +kernel)
theorem wm_12 : Cond.initialized RX0 ∈ WA := List.mem_of_getElem? (i := 12) (by decide +kernel)
theorem wm_13 : Cond.arrayClass .int ∈ WA := List.mem_of_getElem? (i := 13) (by decide +kernel)
theorem wm_14 : Cond.constant RL 134 (1000000000) ∈ WA := List.mem_of_getElem? (i := 14) (by decide +kernel)
theorem wm_15 : Cond.methodLink RL 129 yX0_init ∈ WA := List.mem_of_getElem? (i := 15) (by decide +kernel)
theorem wm_16 : Cond.instanceMethod yX0_init ∈ WA := List.mem_of_getElem? (i := 16) (by decide +kernel)
theorem wm_17 : Cond.code yX0_init cX0_init 2 none ∈ WA := List.mem_of_getElem? (i := 17) rfl
theorem wm_18 : Cond.methodLink RX0 1 objectInit ∈ WA := List.mem_of_getElem? (i := 18) (by decide +kernel)
theorem wm_19 : Cond.instanceMethod objectInit ∈ WA := List.mem_of_getElem? (i := 19) (by decide +kernel)
theorem wm_20 : Cond.code objectInit ⟨#[0xb1]⟩ 1 none ∈ WA := List.mem_of_getElem? (i := 20) rfl
theorem wm_21 : Cond.classLink RX0 9 "[[I" ∈ WA := List.mem_of_getElem? (i := 21) (by decide +kernel)
theorem wm_22 : Cond.fieldLink RX0 11 "RateFitter" "factors" "[[I" ∈ WA := List.mem_of_getElem? (i := 22) (by decide +kernel)
theorem wm_23 : Cond.fieldLink RX0 14 "RateFitter" "rowLevels" "[[I" ∈ WA := List.mem_of_getElem? (i := 23) (by decide +kernel)
theorem wm_24 : Cond.arrayClass .long ∈ WA := List.mem_of_getElem? (i := 24) (by decide +kernel)
theorem wm_25 : Cond.fieldLink RX0 17 "RateFitter" "exposures" "[J" ∈ WA := List.mem_of_getElem? (i := 25) (by decide +kernel)
theorem wm_26 : Cond.fieldLink RX0 21 "RateFitter" "claims" "[J" ∈ WA := List.mem_of_getElem? (i := 26) (by decide +kernel)
theorem wm_27 : Cond.fieldLink RX0 24 "RateFitter" "losses" "[J" ∈ WA := List.mem_of_getElem? (i := 27) (by decide +kernel)
theorem wm_28 : Cond.fieldLink RX0 27 "RateFitter" "oldPremiums" "[I" ∈ WA := List.mem_of_getElem? (i := 28) (by decide +kernel)
theorem wm_29 : Cond.arrayClass .boolean ∈ WA := List.mem_of_getElem? (i := 29) (by decide +kernel)
theorem wm_30 : Cond.fieldLink RX0 31 "RateFitter" "live" "[Z" ∈ WA := List.mem_of_getElem? (i := 30) (by decide +kernel)
theorem wm_31 : Cond.fieldLink RX0 35 "RateFitter" "addedRows" "I" ∈ WA := List.mem_of_getElem? (i := 31) (by decide +kernel)
theorem wm_32 : Cond.fieldLink RX0 39 "RateFitter" "liveRows" "I" ∈ WA := List.mem_of_getElem? (i := 32) (by decide +kernel)
theorem wm_33 : Cond.fieldLink RX0 42 "RateFitter" "credibility" "I" ∈ WA := List.mem_of_getElem? (i := 33) (by decide +kernel)
theorem wm_34 : Cond.fieldLink RX0 45 "RateFitter" "cap" "I" ∈ WA := List.mem_of_getElem? (i := 34) (by decide +kernel)
theorem wm_35 : Cond.fieldLink RX0 48 "RateFitter" "spreadNow" "I" ∈ WA := List.mem_of_getElem? (i := 35) (by decide +kernel)
theorem wm_36 : Cond.fieldLink RX0 51 "RateFitter" "baseNow" "J" ∈ WA := List.mem_of_getElem? (i := 36) (by decide +kernel)
theorem wm_37 : Cond.fieldLink RX0 55 "RateFitter" "fittedLosses" "[J" ∈ WA := List.mem_of_getElem? (i := 37) (by decide +kernel)
theorem wm_38 : Cond.fieldLink RX0 58 "RateFitter" "groupStarts" "[I" ∈ WA := List.mem_of_getElem? (i := 38) (by decide +kernel)
theorem wm_39 : Cond.fieldLink RX0 61 "RateFitter" "factorsBefore" "[I" ∈ WA := List.mem_of_getElem? (i := 39) (by decide +kernel)
theorem wm_40 : Cond.methodLink RX0 64 yJ7_fill_53178 ∈ WA := List.mem_of_getElem? (i := 40) (by decide +kernel)
theorem wm_41 : Cond.static yJ7_fill_53178 ∈ WA := List.mem_of_getElem? (i := 41) (by decide +kernel)
theorem wm_42 : Cond.initialized RJ7 ∈ WA := List.mem_of_getElem? (i := 42) (by decide +kernel)
theorem wm_43 : Cond.code yJ7_fill_53178 cJ7_fill_53178 4 none ∈ WA := List.mem_of_getElem? (i := 43) rfl
theorem wm_44 : Cond.methodLink RL 85 yX0_rows ∈ WA := List.mem_of_getElem? (i := 44) (by decide +kernel)
theorem wm_45 : Cond.instanceMethod yX0_rows ∈ WA := List.mem_of_getElem? (i := 45) (by decide +kernel)
theorem wm_46 : Cond.selects RX0 yX0_rows yX0_rows ∈ WA := List.mem_of_getElem? (i := 46) (by decide +kernel)
theorem wm_47 : Cond.code yX0_rows cX0_rows 1 (some .int) ∈ WA := List.mem_of_getElem? (i := 47) rfl
theorem wm_48 : Cond.methodLink RL 58 yX0_base ∈ WA := List.mem_of_getElem? (i := 48) (by decide +kernel)
theorem wm_49 : Cond.instanceMethod yX0_base ∈ WA := List.mem_of_getElem? (i := 49) (by decide +kernel)
theorem wm_50 : Cond.selects RX0 yX0_base yX0_base ∈ WA := List.mem_of_getElem? (i := 50) (by decide +kernel)
theorem wm_51 : Cond.code yX0_base cX0_base 1 (some .long) ∈ WA := List.mem_of_getElem? (i := 51) rfl
theorem wm_52 : Cond.methodLink RL 116 yX0_settle ∈ WA := List.mem_of_getElem? (i := 52) (by decide +kernel)
theorem wm_53 : Cond.instanceMethod yX0_settle ∈ WA := List.mem_of_getElem? (i := 53) (by decide +kernel)
theorem wm_54 : Cond.selects RX0 yX0_settle yX0_settle ∈ WA := List.mem_of_getElem? (i := 54) (by decide +kernel)
theorem wm_55 : Cond.code yX0_settle cX0_settle 2 (some .int) ∈ WA := List.mem_of_getElem? (i := 55) rfl
theorem wm_56 : Cond.methodLink RX0 126 yX0_changedByRound ∈ WA := List.mem_of_getElem? (i := 56) (by decide +kernel)
theorem wm_57 : Cond.instanceMethod yX0_changedByRound ∈ WA := List.mem_of_getElem? (i := 57) (by decide +kernel)
theorem wm_58 : Cond.selects RX0 yX0_changedByRound yX0_changedByRound ∈ WA := List.mem_of_getElem? (i := 58) (by decide +kernel)
theorem wm_59 : Cond.code yX0_changedByRound cX0_changedByRound 3 (some .int) ∈ WA := List.mem_of_getElem? (i := 59) rfl
theorem wm_60 : Cond.methodLink RX0 122 yX0_passOver ∈ WA := List.mem_of_getElem? (i := 60) (by decide +kernel)
theorem wm_61 : Cond.instanceMethod yX0_passOver ∈ WA := List.mem_of_getElem? (i := 61) (by decide +kernel)
theorem wm_62 : Cond.selects RX0 yX0_passOver yX0_passOver ∈ WA := List.mem_of_getElem? (i := 62) (by decide +kernel)
theorem wm_63 : Cond.code yX0_passOver cX0_passOver 5 (some .int) ∈ WA := List.mem_of_getElem? (i := 63) rfl
theorem wm_64 : Cond.fieldLink RX0 130 "RateFitter" "LEVELS" "[I" ∈ WA := List.mem_of_getElem? (i := 64) (by decide +kernel)
theorem wm_65 : Cond.methodLink RX0 191 yX0_foundFactor ∈ WA := List.mem_of_getElem? (i := 65) (by decide +kernel)
theorem wm_66 : Cond.instanceMethod yX0_foundFactor ∈ WA := List.mem_of_getElem? (i := 66) (by decide +kernel)
theorem wm_67 : Cond.selects RX0 yX0_foundFactor yX0_foundFactor ∈ WA := List.mem_of_getElem? (i := 67) (by decide +kernel)
theorem wm_68 : Cond.code yX0_foundFactor cX0_foundFactor 12 (some .int) ∈ WA := List.mem_of_getElem? (i := 68) rfl
theorem wm_69 : Cond.constantLong RX0 195 (100) ∈ WA := List.mem_of_getElem? (i := 69) (by decide +kernel)
theorem wm_70 : Cond.constantLong RX0 197 (100000) ∈ WA := List.mem_of_getElem? (i := 70) (by decide +kernel)
theorem wm_71 : Cond.methodLink RX0 165 yX0_levelTotal ∈ WA := List.mem_of_getElem? (i := 71) (by decide +kernel)
theorem wm_72 : Cond.instanceMethod yX0_levelTotal ∈ WA := List.mem_of_getElem? (i := 72) (by decide +kernel)
theorem wm_73 : Cond.selects RX0 yX0_levelTotal yX0_levelTotal ∈ WA := List.mem_of_getElem? (i := 73) (by decide +kernel)
theorem wm_74 : Cond.code yX0_levelTotal cX0_levelTotal 7 (some .long) ∈ WA := List.mem_of_getElem? (i := 74) rfl
theorem wm_75 : Cond.methodLink RX0 161 yX0_bounded ∈ WA := List.mem_of_getElem? (i := 75) (by decide +kernel)
theorem wm_76 : Cond.static yX0_bounded ∈ WA := List.mem_of_getElem? (i := 76) (by decide +kernel)
theorem wm_77 : Cond.code yX0_bounded cX0_bounded 6 (some .long) ∈ WA := List.mem_of_getElem? (i := 77) rfl
theorem wm_78 : Cond.methodLink RX0 173 Lib.MathLoose.max_long.x ∈ WA := List.mem_of_getElem? (i := 78) (by decide +kernel)
theorem wm_79 : Cond.static Lib.MathLoose.max_long.x ∈ WA := List.mem_of_getElem? (i := 79) (by decide +kernel)
theorem wm_80 : Cond.initialized "java/lang/Math" ∈ WA := List.mem_of_getElem? (i := 80) (by decide +kernel)
theorem wm_81 : Cond.code Lib.MathLoose.max_long.x Lib.MathLoose.max_long.code 4 (some .long) ∈ WA := List.mem_of_getElem? (i := 81) rfl
theorem wm_82 : Cond.methodLink RX0 155 Lib.MathLoose.min_long.x ∈ WA := List.mem_of_getElem? (i := 82) (by decide +kernel)
theorem wm_83 : Cond.static Lib.MathLoose.min_long.x ∈ WA := List.mem_of_getElem? (i := 83) (by decide +kernel)
theorem wm_84 : Cond.code Lib.MathLoose.min_long.x Lib.MathLoose.min_long.code 4 (some .long) ∈ WA := List.mem_of_getElem? (i := 84) rfl
theorem wm_85 : Cond.methodLink RX0 93 yX0_refit ∈ WA := List.mem_of_getElem? (i := 85) (by decide +kernel)
theorem wm_86 : Cond.instanceMethod yX0_refit ∈ WA := List.mem_of_getElem? (i := 86) (by decide +kernel)
theorem wm_87 : Cond.selects RX0 yX0_refit yX0_refit ∈ WA := List.mem_of_getElem? (i := 87) (by decide +kernel)
theorem wm_88 : Cond.code yX0_refit cX0_refit 4 none ∈ WA := List.mem_of_getElem? (i := 88) rfl
theorem wm_89 : Cond.constantLong RX0 147 (10000) ∈ WA := List.mem_of_getElem? (i := 89) (by decide +kernel)
theorem wm_90 : Cond.methodLink RX0 149 yX0_total ∈ WA := List.mem_of_getElem? (i := 90) (by decide +kernel)
theorem wm_91 : Cond.instanceMethod yX0_total ∈ WA := List.mem_of_getElem? (i := 91) (by decide +kernel)
theorem wm_92 : Cond.selects RX0 yX0_total yX0_total ∈ WA := List.mem_of_getElem? (i := 92) (by decide +kernel)
theorem wm_93 : Cond.code yX0_total cX0_total 5 (some .long) ∈ WA := List.mem_of_getElem? (i := 93) rfl
theorem wm_94 : Cond.methodLink RX0 188 yX0_fittedLoss ∈ WA := List.mem_of_getElem? (i := 94) (by decide +kernel)
theorem wm_95 : Cond.instanceMethod yX0_fittedLoss ∈ WA := List.mem_of_getElem? (i := 95) (by decide +kernel)
theorem wm_96 : Cond.selects RX0 yX0_fittedLoss yX0_fittedLoss ∈ WA := List.mem_of_getElem? (i := 96) (by decide +kernel)
theorem wm_97 : Cond.code yX0_fittedLoss cX0_fittedLoss 5 (some .long) ∈ WA := List.mem_of_getElem? (i := 97) rfl
theorem wm_98 : Cond.methodLink RL 130 yL_from ∈ WA := List.mem_of_getElem? (i := 98) (by decide +kernel)
theorem wm_99 : Cond.static yL_from ∈ WA := List.mem_of_getElem? (i := 99) (by decide +kernel)
theorem wm_100 : Cond.code yL_from cL_from 4 (some .int) ∈ WA := List.mem_of_getElem? (i := 100) rfl
theorem wm_101 : Cond.constant RL 7 (156007) ∈ WA := List.mem_of_getElem? (i := 101) (by decide +kernel)
theorem wm_102 : Cond.constant RL 8 (2147483647) ∈ WA := List.mem_of_getElem? (i := 102) (by decide +kernel)
theorem wm_103 : Cond.methodLink RL 135 yL_acts ∈ WA := List.mem_of_getElem? (i := 103) (by decide +kernel)
theorem wm_104 : Cond.static yL_acts ∈ WA := List.mem_of_getElem? (i := 104) (by decide +kernel)
theorem wm_105 : Cond.code yL_acts cL_acts 19 (some .boolean) ∈ WA := List.mem_of_getElem? (i := 105) rfl
theorem wm_106 : Cond.constant RL 93 (1000000) ∈ WA := List.mem_of_getElem? (i := 106) (by decide +kernel)
theorem wm_107 : Cond.constantLong RL 53 (-5) ∈ WA := List.mem_of_getElem? (i := 107) (by decide +kernel)
theorem wm_108 : Cond.constant RL 101 (3000000) ∈ WA := List.mem_of_getElem? (i := 108) (by decide +kernel)
theorem wm_109 : Cond.constant RL 105 (99901) ∈ WA := List.mem_of_getElem? (i := 109) (by decide +kernel)
theorem wm_110 : Cond.constantLong RL 9 (10000) ∈ WA := List.mem_of_getElem? (i := 110) (by decide +kernel)
theorem wm_111 : Cond.constantLong RL 124 (1000000) ∈ WA := List.mem_of_getElem? (i := 111) (by decide +kernel)
theorem wm_112 : Cond.methodLink RL 94 yX0_add ∈ WA := List.mem_of_getElem? (i := 112) (by decide +kernel)
theorem wm_113 : Cond.instanceMethod yX0_add ∈ WA := List.mem_of_getElem? (i := 113) (by decide +kernel)
theorem wm_114 : Cond.selects RX0 yX0_add yX0_add ∈ WA := List.mem_of_getElem? (i := 114) (by decide +kernel)
theorem wm_115 : Cond.code yX0_add cX0_add 8 (some .int) ∈ WA := List.mem_of_getElem? (i := 115) rfl
theorem wm_116 : Cond.classLink RX0 74 "java/lang/IllegalArgumentException" ∈ WA := List.mem_of_getElem? (i := 116) (by decide +kernel)
theorem wm_117 : Cond.initialized "java/lang/IllegalArgumentException" ∈ WA := List.mem_of_getElem? (i := 117) (by decide +kernel)
theorem wm_118 : Cond.classLink RX0 88 "java/lang/IllegalStateException" ∈ WA := List.mem_of_getElem? (i := 118) (by decide +kernel)
theorem wm_119 : Cond.initialized "java/lang/IllegalStateException" ∈ WA := List.mem_of_getElem? (i := 119) (by decide +kernel)
theorem wm_120 : Cond.constant RX0 85 (1000000) ∈ WA := List.mem_of_getElem? (i := 120) (by decide +kernel)
theorem wm_121 : Cond.methodLink RX0 70 yX0_hasLevel ∈ WA := List.mem_of_getElem? (i := 121) (by decide +kernel)
theorem wm_122 : Cond.static yX0_hasLevel ∈ WA := List.mem_of_getElem? (i := 122) (by decide +kernel)
theorem wm_123 : Cond.code yX0_hasLevel cX0_hasLevel 2 (some .boolean) ∈ WA := List.mem_of_getElem? (i := 123) rfl
theorem wm_124 : Cond.methodLink RX0 117 yX0_hasTrait ∈ WA := List.mem_of_getElem? (i := 124) (by decide +kernel)
theorem wm_125 : Cond.static yX0_hasTrait ∈ WA := List.mem_of_getElem? (i := 125) (by decide +kernel)
theorem wm_126 : Cond.code yX0_hasTrait cX0_hasTrait 1 (some .boolean) ∈ WA := List.mem_of_getElem? (i := 126) rfl
theorem wm_127 : Cond.methodLink RX0 81 yX0_isWithin ∈ WA := List.mem_of_getElem? (i := 127) (by decide +kernel)
theorem wm_128 : Cond.static yX0_isWithin ∈ WA := List.mem_of_getElem? (i := 128) (by decide +kernel)
theorem wm_129 : Cond.code yX0_isWithin cX0_isWithin 3 (some .boolean) ∈ WA := List.mem_of_getElem? (i := 129) rfl
theorem wm_130 : Cond.methodLink RL 68 yL_rowTold ∈ WA := List.mem_of_getElem? (i := 130) (by decide +kernel)
theorem wm_131 : Cond.static yL_rowTold ∈ WA := List.mem_of_getElem? (i := 131) (by decide +kernel)
theorem wm_132 : Cond.codeWith yL_rowTold cL_rowTold 4 (some .long) [(0, 45, 46, 51)] ∈ WA := List.mem_of_getElem? (i := 132) rfl
theorem wm_133 : Cond.methodLink RL 37 yX0_fitted ∈ WA := List.mem_of_getElem? (i := 133) (by decide +kernel)
theorem wm_134 : Cond.instanceMethod yX0_fitted ∈ WA := List.mem_of_getElem? (i := 134) (by decide +kernel)
theorem wm_135 : Cond.selects RX0 yX0_fitted yX0_fitted ∈ WA := List.mem_of_getElem? (i := 135) (by decide +kernel)
theorem wm_136 : Cond.code yX0_fitted cX0_fitted 2 (some .long) ∈ WA := List.mem_of_getElem? (i := 136) rfl
theorem wm_137 : Cond.classLink RX0 100 "java/lang/IndexOutOfBoundsException" ∈ WA := List.mem_of_getElem? (i := 137) (by decide +kernel)
theorem wm_138 : Cond.initialized "java/lang/IndexOutOfBoundsException" ∈ WA := List.mem_of_getElem? (i := 138) (by decide +kernel)
theorem wm_139 : Cond.methodLink RX0 96 yX0_hasRow ∈ WA := List.mem_of_getElem? (i := 139) (by decide +kernel)
theorem wm_140 : Cond.instanceMethod yX0_hasRow ∈ WA := List.mem_of_getElem? (i := 140) (by decide +kernel)
theorem wm_141 : Cond.selects RX0 yX0_hasRow yX0_hasRow ∈ WA := List.mem_of_getElem? (i := 141) (by decide +kernel)
theorem wm_142 : Cond.code yX0_hasRow cX0_hasRow 2 (some .boolean) ∈ WA := List.mem_of_getElem? (i := 142) rfl
theorem wm_143 : Cond.methodLink RL 42 yX0_premium ∈ WA := List.mem_of_getElem? (i := 143) (by decide +kernel)
theorem wm_144 : Cond.instanceMethod yX0_premium ∈ WA := List.mem_of_getElem? (i := 144) (by decide +kernel)
theorem wm_145 : Cond.selects RX0 yX0_premium yX0_premium ∈ WA := List.mem_of_getElem? (i := 145) (by decide +kernel)
theorem wm_146 : Cond.code yX0_premium cX0_premium 2 (some .long) ∈ WA := List.mem_of_getElem? (i := 146) rfl
theorem wm_147 : Cond.methodLink RX0 176 yX0_newPremium ∈ WA := List.mem_of_getElem? (i := 147) (by decide +kernel)
theorem wm_148 : Cond.instanceMethod yX0_newPremium ∈ WA := List.mem_of_getElem? (i := 148) (by decide +kernel)
theorem wm_149 : Cond.selects RX0 yX0_newPremium yX0_newPremium ∈ WA := List.mem_of_getElem? (i := 149) (by decide +kernel)
theorem wm_150 : Cond.code yX0_newPremium cX0_newPremium 2 (some .long) ∈ WA := List.mem_of_getElem? (i := 150) rfl
theorem wm_151 : Cond.methodLink RL 45 yX0_capped ∈ WA := List.mem_of_getElem? (i := 151) (by decide +kernel)
theorem wm_152 : Cond.instanceMethod yX0_capped ∈ WA := List.mem_of_getElem? (i := 152) (by decide +kernel)
theorem wm_153 : Cond.selects RX0 yX0_capped yX0_capped ∈ WA := List.mem_of_getElem? (i := 153) (by decide +kernel)
theorem wm_154 : Cond.code yX0_capped cX0_capped 2 (some .long) ∈ WA := List.mem_of_getElem? (i := 154) rfl
theorem wm_155 : Cond.methodLink RX0 180 yX0_cappedPremium ∈ WA := List.mem_of_getElem? (i := 155) (by decide +kernel)
theorem wm_156 : Cond.instanceMethod yX0_cappedPremium ∈ WA := List.mem_of_getElem? (i := 156) (by decide +kernel)
theorem wm_157 : Cond.selects RX0 yX0_cappedPremium yX0_cappedPremium ∈ WA := List.mem_of_getElem? (i := 157) (by decide +kernel)
theorem wm_158 : Cond.code yX0_cappedPremium cX0_cappedPremium 8 (some .long) ∈ WA := List.mem_of_getElem? (i := 158) rfl
theorem wm_159 : Cond.methodLink RX0 202 Lib.Math.max.name ∈ WA := List.mem_of_getElem? (i := 159) (by decide +kernel)
theorem wm_160 : Cond.static Lib.Math.max.name ∈ WA := List.mem_of_getElem? (i := 160) (by decide +kernel)
theorem wm_161 : Cond.code Lib.Math.max.name Lib.Math.max.code 2 (some .int) ∈ WA := List.mem_of_getElem? (i := 161) rfl
theorem wm_162 : Cond.methodLink RL 47 yX0_setOld ∈ WA := List.mem_of_getElem? (i := 162) (by decide +kernel)
theorem wm_163 : Cond.instanceMethod yX0_setOld ∈ WA := List.mem_of_getElem? (i := 163) (by decide +kernel)
theorem wm_164 : Cond.selects RX0 yX0_setOld yX0_setOld ∈ WA := List.mem_of_getElem? (i := 164) (by decide +kernel)
theorem wm_165 : Cond.code yX0_setOld cX0_setOld 4 (some .int) ∈ WA := List.mem_of_getElem? (i := 165) rfl
theorem wm_166 : Cond.constant RX0 105 (10000000) ∈ WA := List.mem_of_getElem? (i := 166) (by decide +kernel)
theorem wm_167 : Cond.methodLink RL 98 yX0_withdraw ∈ WA := List.mem_of_getElem? (i := 167) (by decide +kernel)
theorem wm_168 : Cond.instanceMethod yX0_withdraw ∈ WA := List.mem_of_getElem? (i := 168) (by decide +kernel)
theorem wm_169 : Cond.selects RX0 yX0_withdraw yX0_withdraw ∈ WA := List.mem_of_getElem? (i := 169) (by decide +kernel)
theorem wm_170 : Cond.code yX0_withdraw cX0_withdraw 2 (some .int) ∈ WA := List.mem_of_getElem? (i := 170) rfl
theorem wm_171 : Cond.methodLink RL 102 yX0_setRules ∈ WA := List.mem_of_getElem? (i := 171) (by decide +kernel)
theorem wm_172 : Cond.instanceMethod yX0_setRules ∈ WA := List.mem_of_getElem? (i := 172) (by decide +kernel)
theorem wm_173 : Cond.selects RX0 yX0_setRules yX0_setRules ∈ WA := List.mem_of_getElem? (i := 173) (by decide +kernel)
theorem wm_174 : Cond.code yX0_setRules cX0_setRules 4 (some .int) ∈ WA := List.mem_of_getElem? (i := 174) rfl
theorem wm_175 : Cond.methodLink RL 21 yL_many ∈ WA := List.mem_of_getElem? (i := 175) (by decide +kernel)
theorem wm_176 : Cond.static yL_many ∈ WA := List.mem_of_getElem? (i := 176) (by decide +kernel)
theorem wm_177 : Cond.code yL_many cL_many 1 (some .int) ∈ WA := List.mem_of_getElem? (i := 177) rfl
theorem wm_178 : Cond.methodLink RL 106 yX0_setFactor ∈ WA := List.mem_of_getElem? (i := 178) (by decide +kernel)
theorem wm_179 : Cond.instanceMethod yX0_setFactor ∈ WA := List.mem_of_getElem? (i := 179) (by decide +kernel)
theorem wm_180 : Cond.selects RX0 yX0_setFactor yX0_setFactor ∈ WA := List.mem_of_getElem? (i := 180) (by decide +kernel)
theorem wm_181 : Cond.code yX0_setFactor cX0_setFactor 5 (some .int) ∈ WA := List.mem_of_getElem? (i := 181) rfl
theorem wm_182 : Cond.constant RX0 114 (100000) ∈ WA := List.mem_of_getElem? (i := 182) (by decide +kernel)
theorem wm_183 : Cond.methodLink RL 110 yX0_pass ∈ WA := List.mem_of_getElem? (i := 183) (by decide +kernel)
theorem wm_184 : Cond.instanceMethod yX0_pass ∈ WA := List.mem_of_getElem? (i := 184) (by decide +kernel)
theorem wm_185 : Cond.selects RX0 yX0_pass yX0_pass ∈ WA := List.mem_of_getElem? (i := 185) (by decide +kernel)
theorem wm_186 : Cond.code yX0_pass cX0_pass 2 (some .int) ∈ WA := List.mem_of_getElem? (i := 186) rfl
theorem wm_187 : Cond.methodLink RL 113 yL_pass ∈ WA := List.mem_of_getElem? (i := 187) (by decide +kernel)
theorem wm_188 : Cond.static yL_pass ∈ WA := List.mem_of_getElem? (i := 188) (by decide +kernel)
theorem wm_189 : Cond.code yL_pass cL_pass 21 (some .int) ∈ WA := List.mem_of_getElem? (i := 189) rfl
theorem wm_190 : Cond.constantLong RL 29 (100) ∈ WA := List.mem_of_getElem? (i := 190) (by decide +kernel)
theorem wm_191 : Cond.constantLong RL 31 (100000) ∈ WA := List.mem_of_getElem? (i := 191) (by decide +kernel)
theorem wm_192 : Cond.methodLink RL 25 yL_sum ∈ WA := List.mem_of_getElem? (i := 192) (by decide +kernel)
theorem wm_193 : Cond.static yL_sum ∈ WA := List.mem_of_getElem? (i := 193) (by decide +kernel)
theorem wm_194 : Cond.code yL_sum cL_sum 16 (some .long) ∈ WA := List.mem_of_getElem? (i := 194) rfl
theorem wm_195 : Cond.methodLink RL 11 yL_base ∈ WA := List.mem_of_getElem? (i := 195) (by decide +kernel)
theorem wm_196 : Cond.static yL_base ∈ WA := List.mem_of_getElem? (i := 196) (by decide +kernel)
theorem wm_197 : Cond.code yL_base cL_base 9 (some .long) ∈ WA := List.mem_of_getElem? (i := 197) rfl
theorem wm_198 : Cond.methodLink RL 17 yL_fitted ∈ WA := List.mem_of_getElem? (i := 198) (by decide +kernel)
theorem wm_199 : Cond.static yL_fitted ∈ WA := List.mem_of_getElem? (i := 199) (by decide +kernel)
theorem wm_200 : Cond.code yL_fitted cL_fitted 12 (some .long) ∈ WA := List.mem_of_getElem? (i := 200) rfl
theorem wm_201 : Cond.methodLink RL 119 yX0_smooth ∈ WA := List.mem_of_getElem? (i := 201) (by decide +kernel)
theorem wm_202 : Cond.instanceMethod yX0_smooth ∈ WA := List.mem_of_getElem? (i := 202) (by decide +kernel)
theorem wm_203 : Cond.selects RX0 yX0_smooth yX0_smooth ∈ WA := List.mem_of_getElem? (i := 203) (by decide +kernel)
theorem wm_204 : Cond.code yX0_smooth cX0_smooth 4 (some .int) ∈ WA := List.mem_of_getElem? (i := 204) rfl
theorem wm_205 : Cond.methodLink RX0 133 yX0_lowestFallingLevel ∈ WA := List.mem_of_getElem? (i := 205) (by decide +kernel)
theorem wm_206 : Cond.instanceMethod yX0_lowestFallingLevel ∈ WA := List.mem_of_getElem? (i := 206) (by decide +kernel)
theorem wm_207 : Cond.selects RX0 yX0_lowestFallingLevel yX0_lowestFallingLevel ∈ WA := List.mem_of_getElem? (i := 207) (by decide +kernel)
theorem wm_208 : Cond.code yX0_lowestFallingLevel cX0_lowestFallingLevel 3 (some .int) ∈ WA := List.mem_of_getElem? (i := 208) rfl
theorem wm_209 : Cond.methodLink RX0 136 yX0_joinToLevelAhead ∈ WA := List.mem_of_getElem? (i := 209) (by decide +kernel)
theorem wm_210 : Cond.instanceMethod yX0_joinToLevelAhead ∈ WA := List.mem_of_getElem? (i := 210) (by decide +kernel)
theorem wm_211 : Cond.selects RX0 yX0_joinToLevelAhead yX0_joinToLevelAhead ∈ WA := List.mem_of_getElem? (i := 211) (by decide +kernel)
theorem wm_212 : Cond.code yX0_joinToLevelAhead cX0_joinToLevelAhead 6 none ∈ WA := List.mem_of_getElem? (i := 212) rfl
theorem wm_213 : Cond.methodLink RX0 199 yX0_groupMean ∈ WA := List.mem_of_getElem? (i := 213) (by decide +kernel)
theorem wm_214 : Cond.instanceMethod yX0_groupMean ∈ WA := List.mem_of_getElem? (i := 214) (by decide +kernel)
theorem wm_215 : Cond.selects RX0 yX0_groupMean yX0_groupMean ∈ WA := List.mem_of_getElem? (i := 215) (by decide +kernel)
theorem wm_216 : Cond.code yX0_groupMean cX0_groupMean 13 (some .int) ∈ WA := List.mem_of_getElem? (i := 216) rfl
theorem wm_217 : Cond.methodLink RX0 140 yX0_changedSinceBefore ∈ WA := List.mem_of_getElem? (i := 217) (by decide +kernel)
theorem wm_218 : Cond.instanceMethod yX0_changedSinceBefore ∈ WA := List.mem_of_getElem? (i := 218) (by decide +kernel)
theorem wm_219 : Cond.selects RX0 yX0_changedSinceBefore yX0_changedSinceBefore ∈ WA := List.mem_of_getElem? (i := 219) (by decide +kernel)
theorem wm_220 : Cond.code yX0_changedSinceBefore cX0_changedSinceBefore 4 (some .int) ∈ WA := List.mem_of_getElem? (i := 220) rfl
theorem wm_221 : Cond.methodLink RL 122 yL_smooth ∈ WA := List.mem_of_getElem? (i := 221) (by decide +kernel)
theorem wm_222 : Cond.static yL_smooth ∈ WA := List.mem_of_getElem? (i := 222) (by decide +kernel)
theorem wm_223 : Cond.code yL_smooth cL_smooth 16 (some .int) ∈ WA := List.mem_of_getElem? (i := 223) rfl
theorem wm_224 : Cond.methodLink RL 64 yL_all ∈ WA := List.mem_of_getElem? (i := 224) (by decide +kernel)
theorem wm_225 : Cond.static yL_all ∈ WA := List.mem_of_getElem? (i := 225) (by decide +kernel)
theorem wm_226 : Cond.code yL_all cL_all 13 (some .long) ∈ WA := List.mem_of_getElem? (i := 226) rfl
theorem wm_227 : Cond.methodLink RL 33 yL_capped ∈ WA := List.mem_of_getElem? (i := 227) (by decide +kernel)
theorem wm_228 : Cond.static yL_capped ∈ WA := List.mem_of_getElem? (i := 228) (by decide +kernel)
theorem wm_229 : Cond.code yL_capped cL_capped 14 (some .long) ∈ WA := List.mem_of_getElem? (i := 229) rfl
theorem wm_230 : Cond.methodLink RL 126 yX0_spread ∈ WA := List.mem_of_getElem? (i := 230) (by decide +kernel)
theorem wm_231 : Cond.instanceMethod yX0_spread ∈ WA := List.mem_of_getElem? (i := 231) (by decide +kernel)
theorem wm_232 : Cond.selects RX0 yX0_spread yX0_spread ∈ WA := List.mem_of_getElem? (i := 232) (by decide +kernel)
theorem wm_233 : Cond.code yX0_spread cX0_spread 5 (some .int) ∈ WA := List.mem_of_getElem? (i := 233) rfl
theorem wm_234 : Cond.constantLong RX0 153 (1000000) ∈ WA := List.mem_of_getElem? (i := 234) (by decide +kernel)
theorem wm_235 : Cond.methodLink RX0 143 yX0_cappedTotal ∈ WA := List.mem_of_getElem? (i := 235) (by decide +kernel)
theorem wm_236 : Cond.instanceMethod yX0_cappedTotal ∈ WA := List.mem_of_getElem? (i := 236) (by decide +kernel)
theorem wm_237 : Cond.selects RX0 yX0_cappedTotal yX0_cappedTotal ∈ WA := List.mem_of_getElem? (i := 237) (by decide +kernel)
theorem wm_238 : Cond.code yX0_cappedTotal cX0_cappedTotal 4 (some .long) ∈ WA := List.mem_of_getElem? (i := 238) rfl
theorem wm_239 : Cond.methodLink RL 139 yL_isTold ∈ WA := List.mem_of_getElem? (i := 239) (by decide +kernel)
theorem wm_240 : Cond.static yL_isTold ∈ WA := List.mem_of_getElem? (i := 240) (by decide +kernel)
theorem wm_241 : Cond.code yL_isTold cL_isTold 23 (some .boolean) ∈ WA := List.mem_of_getElem? (i := 241) rfl
theorem wm_242 : Cond.methodLink RL 61 yX0_lost ∈ WA := List.mem_of_getElem? (i := 242) (by decide +kernel)
theorem wm_243 : Cond.instanceMethod yX0_lost ∈ WA := List.mem_of_getElem? (i := 243) (by decide +kernel)
theorem wm_244 : Cond.selects RX0 yX0_lost yX0_lost ∈ WA := List.mem_of_getElem? (i := 244) (by decide +kernel)
theorem wm_245 : Cond.code yX0_lost cX0_lost 1 (some .long) ∈ WA := List.mem_of_getElem? (i := 245) rfl
theorem wm_246 : Cond.methodLink RL 72 yX0_factor ∈ WA := List.mem_of_getElem? (i := 246) (by decide +kernel)
theorem wm_247 : Cond.instanceMethod yX0_factor ∈ WA := List.mem_of_getElem? (i := 247) (by decide +kernel)
theorem wm_248 : Cond.selects RX0 yX0_factor yX0_factor ∈ WA := List.mem_of_getElem? (i := 248) (by decide +kernel)
theorem wm_249 : Cond.code yX0_factor cX0_factor 3 (some .int) ∈ WA := List.mem_of_getElem? (i := 249) rfl
theorem wm_250 : Cond.methodLink RL 75 yX0_toldSum ∈ WA := List.mem_of_getElem? (i := 250) (by decide +kernel)
theorem wm_251 : Cond.instanceMethod yX0_toldSum ∈ WA := List.mem_of_getElem? (i := 251) (by decide +kernel)
theorem wm_252 : Cond.selects RX0 yX0_toldSum yX0_toldSum ∈ WA := List.mem_of_getElem? (i := 252) (by decide +kernel)
theorem wm_253 : Cond.code yX0_toldSum cX0_toldSum 3 (some .long) ∈ WA := List.mem_of_getElem? (i := 253) rfl
theorem wm_254 : Cond.methodLink RL 79 yX0_fittedSum ∈ WA := List.mem_of_getElem? (i := 254) (by decide +kernel)
theorem wm_255 : Cond.instanceMethod yX0_fittedSum ∈ WA := List.mem_of_getElem? (i := 255) (by decide +kernel)
theorem wm_256 : Cond.selects RX0 yX0_fittedSum yX0_fittedSum ∈ WA := List.mem_of_getElem? (i := 256) (by decide +kernel)
theorem wm_257 : Cond.code yX0_fittedSum cX0_fittedSum 3 (some .long) ∈ WA := List.mem_of_getElem? (i := 257) rfl
theorem wm_258 : Cond.methodLink RL 82 yX0_worst ∈ WA := List.mem_of_getElem? (i := 258) (by decide +kernel)
theorem wm_259 : Cond.instanceMethod yX0_worst ∈ WA := List.mem_of_getElem? (i := 259) (by decide +kernel)
theorem wm_260 : Cond.selects RX0 yX0_worst yX0_worst ∈ WA := List.mem_of_getElem? (i := 260) (by decide +kernel)
theorem wm_261 : Cond.code yX0_worst cX0_worst 7 (some .long) ∈ WA := List.mem_of_getElem? (i := 261) rfl
theorem wm_262 : Cond.methodLink RX0 169 Lib.MathLoose.abs_long.x ∈ WA := List.mem_of_getElem? (i := 262) (by decide +kernel)
theorem wm_263 : Cond.static Lib.MathLoose.abs_long.x ∈ WA := List.mem_of_getElem? (i := 263) (by decide +kernel)
theorem wm_264 : Cond.code Lib.MathLoose.abs_long.x Lib.MathLoose.abs_long.code 2 (some .long) ∈ WA := List.mem_of_getElem? (i := 264) rfl
theorem wm_265 : Cond.methodLink RL 89 yL_isRanked ∈ WA := List.mem_of_getElem? (i := 265) (by decide +kernel)
theorem wm_266 : Cond.static yL_isRanked ∈ WA := List.mem_of_getElem? (i := 266) (by decide +kernel)
theorem wm_267 : Cond.code yL_isRanked cL_isRanked 16 (some .boolean) ∈ WA := List.mem_of_getElem? (i := 267) rfl
theorem wm_268 : Cond.methodLink RL 55 yX0_rankedAt ∈ WA := List.mem_of_getElem? (i := 268) (by decide +kernel)
theorem wm_269 : Cond.instanceMethod yX0_rankedAt ∈ WA := List.mem_of_getElem? (i := 269) (by decide +kernel)
theorem wm_270 : Cond.selects RX0 yX0_rankedAt yX0_rankedAt ∈ WA := List.mem_of_getElem? (i := 270) (by decide +kernel)
theorem wm_271 : Cond.code yX0_rankedAt cX0_rankedAt 3 (some .int) ∈ WA := List.mem_of_getElem? (i := 271) rfl
theorem wm_272 : Cond.methodLink RX0 183 yX0_placeOf ∈ WA := List.mem_of_getElem? (i := 272) (by decide +kernel)
theorem wm_273 : Cond.instanceMethod yX0_placeOf ∈ WA := List.mem_of_getElem? (i := 273) (by decide +kernel)
theorem wm_274 : Cond.selects RX0 yX0_placeOf yX0_placeOf ∈ WA := List.mem_of_getElem? (i := 274) (by decide +kernel)
theorem wm_275 : Cond.code yX0_placeOf cX0_placeOf 4 (some .int) ∈ WA := List.mem_of_getElem? (i := 275) rfl
theorem wm_276 : Cond.methodLink RX0 204 yX0_isAhead ∈ WA := List.mem_of_getElem? (i := 276) (by decide +kernel)
theorem wm_277 : Cond.instanceMethod yX0_isAhead ∈ WA := List.mem_of_getElem? (i := 277) (by decide +kernel)
theorem wm_278 : Cond.selects RX0 yX0_isAhead yX0_isAhead ∈ WA := List.mem_of_getElem? (i := 278) (by decide +kernel)
theorem wm_279 : Cond.code yX0_isAhead cX0_isAhead 7 (some .boolean) ∈ WA := List.mem_of_getElem? (i := 279) rfl
abbrev gG : Type := Nat × va_G × (Nat → ClassId) × (Nat → Nat) × Nat × (Nat × Nat × (Nat → Int32))
abbrev gS0 (g : gG) : Nat := g.1
abbrev gD (g : gG) : va_G := g.2.1
abbrev gT (g : gG) : Nat → ClassId := g.2.2.1
abbrev gA (g : gG) : Nat → Nat := g.2.2.2.1
abbrev gL (g : gG) : Nat := g.2.2.2.2.1
abbrev gB (g : gG) : Nat := g.2.2.2.2.2.1
abbrev gN (g : gG) : Nat := g.2.2.2.2.2.2.1
abbrev gX (g : gG) : Nat → Int32 := g.2.2.2.2.2.2.2
def Ab (g : gG) : Nat → Prop := fun q => gS0 g ≤ q
abbrev tysG (g : gG) : List (ClassId × FieldType) := [(gT g 0, .int), (gT g 1, .long), (gT g 2, .boolean), (gT g 3, .array .int)]
abbrev XS : Type := (Nat → Nat → Int32) × (Nat → Nat → Int32) × (Nat → Nat → Int64) × (Nat → Nat → Int32) × (Nat → Int32) × Int64
abbrev LAr : Type := Nat → Nat → Int32
abbrev WS : Type := XS × LAr × va_W
-- the class's: factors, levels of rows, long rows (0 exposures, 1 claims, 2 losses, 3 fitted), int rows (0 old, 1 live, 2 groupStarts, 3 factorsBefore), numbers (0 added, 1 live, 2 credibility, 3 cap, 4 spread), base
abbrev xFac (S : WS) : Nat → Nat → Int32 := S.1.1
abbrev xLev (S : WS) : Nat → Nat → Int32 := S.1.2.1
abbrev xLng (S : WS) : Nat → Nat → Int64 := S.1.2.2.1
abbrev xIa (S : WS) : Nat → Nat → Int32 := S.1.2.2.2.1
abbrev xSc (S : WS) : Nat → Int32 := S.1.2.2.2.2.1
abbrev xBase (S : WS) : Int64 := S.1.2.2.2.2.2
-- the law's arrays: 0 l, 1 x, 2 c, 3 d, 4 o, 5 g, 6 f, 7 m
abbrev lA (S : WS) : Nat → Nat → Int32 := S.2.1
abbrev xsFac (S : WS) (t : Nat) (f : Nat → Int32) : WS := ((va_up S.1.1 t f, S.1.2), S.2)
abbrev xsLev (S : WS) (t : Nat) (f : Nat → Int32) : WS := ((S.1.1, va_up S.1.2.1 t f, S.1.2.2), S.2)
abbrev xsLng (S : WS) (t : Nat) (f : Nat → Int64) : WS := ((S.1.1, S.1.2.1, va_up S.1.2.2.1 t f, S.1.2.2.2), S.2)
abbrev xsIa (S : WS) (t : Nat) (f : Nat → Int32) : WS := ((S.1.1, S.1.2.1, S.1.2.2.1, va_up S.1.2.2.2.1 t f, S.1.2.2.2.2), S.2)
abbrev xsSc (S : WS) (t : Nat) (v : Int32) : WS := ((S.1.1, S.1.2.1, S.1.2.2.1, S.1.2.2.2.1, upd S.1.2.2.2.2.1 t v, S.1.2.2.2.2.2), S.2)
abbrev xsBase (S : WS) (v : Int64) : WS := ((S.1.1, S.1.2.1, S.1.2.2.1, S.1.2.2.2.1, S.1.2.2.2.2.1, v), S.2)
abbrev lsA (S : WS) (t : Nat) (f : Nat → Int32) : WS := (S.1, va_up S.2.1 t f, S.2.2)
-- what a call of the law's makes for itself
abbrev eL (g : gG) (a : Nat) (f : Nat → Int64) : Nat × va_E := (a, .inl (gT g 1, 4, .inr (.inl f)))
abbrev eI (g : gG) (a : Nat) (f : Nat → Int32) : Nat × va_E := (a, .inl (gT g 0, 4, .inl f))
def wW (g : gG) (S : WS) : va_W := (gA g 0, .inr (0, [.ref (gA g 1), .ref (gA g 2), .ref (gA g 9), .ref (gA g 10), .ref (gA g 11), .ref (gA g 12), .ref (gA g 13), .int (xSc S 0), .int (xSc S 1), .int (xSc S 2), .int (xSc S 3), .int (xSc S 4), .long (xBase S), .ref (gA g 14), .ref (gA g 15), .ref (gA g 16)])) ::
  (gA g 1, .inl (gT g 3, 3, .inr (.inr (.inr (.inr (fun i => some (gA g (3 + i)))))))) ::
  (gA g 2, .inl (gT g 3, 3, .inr (.inr (.inr (.inr (fun i => some (gA g (6 + i)))))))) ::
  (gA g 3, .inl (gT g 0, 4, .inl (xFac S 0))) ::
  (gA g 4, .inl (gT g 0, 4, .inl (xFac S 1))) ::
  (gA g 5, .inl (gT g 0, 4, .inl (xFac S 2))) ::
  (gA g 6, .inl (gT g 0, 40, .inl (xLev S 0))) ::
  (gA g 7, .inl (gT g 0, 40, .inl (xLev S 1))) ::
  (gA g 8, .inl (gT g 0, 40, .inl (xLev S 2))) ::
  (gA g 9, .inl (gT g 1, 40, .inr (.inl (xLng S 0)))) ::
  (gA g 10, .inl (gT g 1, 40, .inr (.inl (xLng S 1)))) ::
  (gA g 11, .inl (gT g 1, 40, .inr (.inl (xLng S 2)))) ::
  (gA g 12, .inl (gT g 0, 40, .inl (xIa S 0))) ::
  (gA g 13, .inl (gT g 2, 40, .inl (xIa S 1))) ::
  (gA g 14, .inl (gT g 1, 40, .inr (.inl (xLng S 3)))) ::
  (gA g 15, .inl (gT g 0, 4, .inl (xIa S 2))) ::
  (gA g 16, .inl (gT g 0, 4, .inl (xIa S 3))) ::
  (gA g 17, .inl (gT g 0, 36, .inl (lA S 0))) ::
  (gA g 18, .inl (gT g 0, 12, .inl (lA S 1))) ::
  (gA g 19, .inl (gT g 0, 12, .inl (lA S 2))) ::
  (gA g 20, .inl (gT g 0, 12, .inl (lA S 3))) ::
  (gA g 21, .inl (gT g 0, 12, .inl (lA S 4))) ::
  (gA g 22, .inl (gT g 0, 12, .inl (lA S 5))) ::
  (gA g 23, .inl (gT g 0, 12, .inl (lA S 6))) ::
  (gA g 24, .inl (gT g 0, 4, .inl (lA S 7))) :: S.2.2
def HW (g : gG) (S : WS) (H : Heap) : Prop := va_P (gD g) vwCl (wW g S) H ∧ va_D (Ab g) (wW g S)
theorem HW.cg {g : gG} {S S' : WS} {H : Heap} (h : HW g S H) (e : S = S') : HW g S' H := e ▸ h
theorem HW.sz {g : gG} {S : WS} {H : Heap} (h : HW g S H) : gS0 g ≤ H.size := Nat.le_of_lt (Nat.lt_of_le_of_lt (h.2.2 0 _ rfl) (h.1 0 _ rfl).lt)
/-- what was made besides may be forgotten -/
theorem HW.drop {g : gG} {X : XS} {L : LAr} {E : va_W} {H : Heap} (h : HW g (X, L, E) H) : HW g (X, L, []) H := by
  have hs : ∀ (k : Nat) (q : Nat × va_E), (wW g (X, L, []))[k]? = some q → (wW g (X, L, E))[k]? = some q := by
    intro k q hk
    have e : wW g (X, L, E) = wW g (X, L, []) ++ E := rfl
    rw [e, List.getElem?_append_left (List.getElem?_eq_some_iff.mp hk).1]
    exact hk
  exact ⟨fun k q hk => h.1 k q (hs k q hk), ⟨fun i j p q hi hj => h.2.1 i j p q (hs i p hi) (hs j q hj), fun k q hk => h.2.2 k q (hs k q hk)⟩⟩
def strsX : List (Nat × String) := [(76, "no such level"), (86, "exposure, claims or loss out of range"), (90, "no room for another row"), (102, "no such row"), (106, "premium out of range"), (108, "credibility out of range"), (110, "cap out of range"), (112, "no such trait or level"), (115, "factor out of range"), (120, "no such trait"), (186, "no such place")]
def exsX : List String := ["java/lang/IllegalArgumentException", "java/lang/IllegalStateException", "java/lang/IndexOutOfBoundsException"]
def decX : List String := ["java/lang/RuntimeException", "java/lang/Exception", Bundle.tN]
def levN (j : Nat) : Nat := if j = 1 then 3 else 4
def KS (g : gG) (U : State) : Prop := va_K (gD g) vwCl (tysG g) U ∧ va_Z "RateFitter" "LEVELS" "[I" (.ref (gL g)) (Ab g) U U.heap ∧ va_T .int (gL g) 3 (fun j => .int (nI (levN j))) (Ab g) U U.heap ∧
  vx_Zq Bundle.tN "UNASSIGNED_STACK" Bundle.steD (Ab g) U U.heap ∧ vx_Zq Bundle.tN "SUPPRESSED_SENTINEL" Bundle.listD (Ab g) U U.heap ∧ ((∀ q ∈ strsX, ∃ sa : Nat, vk_R RX0 q.1 q.2 sa U) ∧ (∀ E ∈ exsX, va_Nw (.castable E E) U) ∧ ∀ y ∈ decX, va_Nw (.declares (Bundle.initS y)) U) ∧ (va_X (gB g) (gN g) (gX g) U U.heap ∧ gB g < U.heap.size ∧ ¬ Ab g (gB g) ∧ gN g ≤ 260)
theorem KS.moved {g : gG} {u U : State} (hW : u.WarmedH U.vm) (hq : ∀ a : Nat, a < u.heap.size → ¬ Ab g a → U.heap[a]? = u.heap[a]?) (h : KS g u) : KS g U := by
  obtain ⟨h1, h2, h3, h4, h5, ⟨h6, h8, h9⟩, h7, h10, h11, h12⟩ := h
  have hq1 := hq _ h10 h11
  refine ⟨va_K.moved hW.alike h1, va_Z.moved hW.alike (h2.kept hq), va_T.moved hW.alike (h3.kept hq), vx_Zq.moved hW.alike (h4.kept hq), vx_Zq.moved hW.alike (h5.kept hq), ⟨fun q hq9 => ?_, fun E hE => va_Nw.warmC hW (h8 E hE), fun y hy => va_Nw.warmD hW (h9 y hy)⟩, (va_X.moved hW.alike h7).kept hq1, ?_, h11, h12⟩
  · obtain ⟨sa, hsa⟩ := h6 q hq9
    exact ⟨sa, vk_R.warm hW hsa⟩
  · obtain ⟨scr, e1, -⟩ := h7
    exact (Array.getElem?_eq_some_iff.mp (hq1.trans e1)).1
def PW (g : gG) (S : WS) (av : List Value) : Array Value → State → Prop := fun v U => v = av.toArray ∧ KS g U ∧ HW g S U.heap
theorem PW.blind (g : gG) (S : WS) (av : List Value) : FrameBlind (PW g S av) := fun a U gg mk h => ⟨h.1, KS.moved (u := U) (U := U.calling gg mk a) (State.WarmedH.refl U) (fun _ _ _ => rfl) h.2.1, h.2.2⟩
def RQ (v : Option Value) : Array Value → State → Outcome → State → Prop := fun _ st o t => o = .returned v ∧ t.heap = st.heap
def WQ (g : gG) (S' : WS) (v : Option Value) : Array Value → State → Outcome → State → Prop := fun _ st o t => o = .returned v ∧ HW g S' t.heap ∧ va_F (Ab g) st t
def CW (g : gG) (own : String) (p : Program) (s : State) (m : MethodId) (args : Array Value) : Prop := p.tables.exec = Jvm.exec ∧ s.vm.findClass own = some m.cls ∧ (∀ w ∈ WA, w.before args s = true) ∧ KS g s
def bI (b : Bool) : Int32 := if b then 1 else 0
theorem bI_t : bI true = 1 := rfl
theorem bI_f : bI false = 0 := rfl
theorem bI_0 (b : Bool) : bI b = 0 ↔ b = false := by cases b <;> decide
theorem bI_nar (b : Bool) : narrow .boolean (.int (bI b)) = .int (bI b) := by cases b <;> decide +kernel
def tN (i : Int32) : Nat := i.toNatClampNeg
def xRef (g : gG) : Value := .ref (gA g 0)

theorem lc_ge_iff {x y : Int64} : 0 ≤ lg_cmp x y ↔ y ≤ x := lg_cmp_ge x y
theorem lc_le_iff {x y : Int64} : lg_cmp x y ≤ 0 ↔ x ≤ y := lg_cmp_le x y
theorem lc_gt_iff {x y : Int64} : 0 < lg_cmp x y ↔ y < x := lg_cmp_gt x y
theorem lc_lt_iff {x y : Int64} : lg_cmp x y < 0 ↔ x < y := lg_cmp_lt x y
theorem lc_eq_iff {x y : Int64} : lg_cmp x y = 0 ↔ x = y := by
  unfold lg_cmp
  by_cases h : x > y
  · rw [if_pos h]
    exact ⟨fun q => absurd q (by decide), fun q => absurd h (by rw [q]; exact Int64.lt_irrefl)⟩
  · rw [if_neg h]
    by_cases h2 : x = y
    · rw [if_pos h2]; exact ⟨fun _ => h2, fun _ => rfl⟩
    · rw [if_neg h2]; exact ⟨fun q => absurd q (by decide), fun q => absurd q h2⟩
theorem lc_ne_iff {x y : Int64} : ¬ lg_cmp x y = 0 ↔ ¬ x = y := not_congr lc_eq_iff
section WROWS
variable {p : Program} {l : Launch} {e : Env} {R : Room} {s : State} {m : MethodId} {args : Array Value} {below : List Frame} {meth : Method} {c : Code} {H : Heap} {locs : List Loc} {cells slots : Nat} {Q : State → Prop}
variable {cc : ByteArray} {pc : Nat} {ls : Array Slot} {rest : List Value} {g : gG} {S : WS} {own : String}
theorem KS.at (C : CW g own p s m args) (hS : va_S (Ab g) s.heap H locs) {U : State} (hU : U.heap = H) (hW : s.WarmedH U.vm) : KS g U :=
  KS.moved hW (fun a h1 h2 => by rw [hU]; exact hS.2.1 a h1 h2) C.2.2.2
theorem gX_factors (C : CW g RX0 p s m args) (hb : c.code = cc) (hP : HW g S H) (hdg : decode cc pc = .ok (.getfield 11, 3)) (kk : W p l e R s m args below meth c H locs cells slots Q (F0 m (pc + 3) ls (.ref (gA g 1) :: rest))) : W p l e R s m args below meth c H locs cells slots Q (F0 m (pc) ls (.ref (gA g 0) :: rest)) :=
  va_get (D := gD g) (ci := 0) (v := .ref (gA g 1)) (C := RX0) (T := TX0) (N := 16) C.1 hb C.2.2.1 inlX0 C.2.1 C.2.2.2.1 hP.1 0 rfl rfl 0 (by decide) (C.2.2.1 _ wm_22) (fun _ h9 => h9) rfl hdg kk
theorem gX_rowLevels (C : CW g RX0 p s m args) (hb : c.code = cc) (hP : HW g S H) (hdg : decode cc pc = .ok (.getfield 14, 3)) (kk : W p l e R s m args below meth c H locs cells slots Q (F0 m (pc + 3) ls (.ref (gA g 2) :: rest))) : W p l e R s m args below meth c H locs cells slots Q (F0 m (pc) ls (.ref (gA g 0) :: rest)) :=
  va_get (D := gD g) (ci := 0) (v := .ref (gA g 2)) (C := RX0) (T := TX0) (N := 16) C.1 hb C.2.2.1 inlX0 C.2.1 C.2.2.2.1 hP.1 0 rfl rfl 1 (by decide) (C.2.2.1 _ wm_23) (fun _ h9 => h9) rfl hdg kk
theorem gX_exposures (C : CW g RX0 p s m args) (hb : c.code = cc) (hP : HW g S H) (hdg : decode cc pc = .ok (.getfield 17, 3)) (kk : W p l e R s m args below meth c H locs cells slots Q (F0 m (pc + 3) ls (.ref (gA g 9) :: rest))) : W p l e R s m args below meth c H locs cells slots Q (F0 m (pc) ls (.ref (gA g 0) :: rest)) :=
  va_get (D := gD g) (ci := 0) (v := .ref (gA g 9)) (C := RX0) (T := TX0) (N := 16) C.1 hb C.2.2.1 inlX0 C.2.1 C.2.2.2.1 hP.1 0 rfl rfl 2 (by decide) (C.2.2.1 _ wm_25) (fun _ h9 => h9) rfl hdg kk
theorem gX_claims (C : CW g RX0 p s m args) (hb : c.code = cc) (hP : HW g S H) (hdg : decode cc pc = .ok (.getfield 21, 3)) (kk : W p l e R s m args below meth c H locs cells slots Q (F0 m (pc + 3) ls (.ref (gA g 10) :: rest))) : W p l e R s m args below meth c H locs cells slots Q (F0 m (pc) ls (.ref (gA g 0) :: rest)) :=
  va_get (D := gD g) (ci := 0) (v := .ref (gA g 10)) (C := RX0) (T := TX0) (N := 16) C.1 hb C.2.2.1 inlX0 C.2.1 C.2.2.2.1 hP.1 0 rfl rfl 3 (by decide) (C.2.2.1 _ wm_26) (fun _ h9 => h9) rfl hdg kk
theorem gX_losses (C : CW g RX0 p s m args) (hb : c.code = cc) (hP : HW g S H) (hdg : decode cc pc = .ok (.getfield 24, 3)) (kk : W p l e R s m args below meth c H locs cells slots Q (F0 m (pc + 3) ls (.ref (gA g 11) :: rest))) : W p l e R s m args below meth c H locs cells slots Q (F0 m (pc) ls (.ref (gA g 0) :: rest)) :=
  va_get (D := gD g) (ci := 0) (v := .ref (gA g 11)) (C := RX0) (T := TX0) (N := 16) C.1 hb C.2.2.1 inlX0 C.2.1 C.2.2.2.1 hP.1 0 rfl rfl 4 (by decide) (C.2.2.1 _ wm_27) (fun _ h9 => h9) rfl hdg kk
theorem gX_oldPremiums (C : CW g RX0 p s m args) (hb : c.code = cc) (hP : HW g S H) (hdg : decode cc pc = .ok (.getfield 27, 3)) (kk : W p l e R s m args below meth c H locs cells slots Q (F0 m (pc + 3) ls (.ref (gA g 12) :: rest))) : W p l e R s m args below meth c H locs cells slots Q (F0 m (pc) ls (.ref (gA g 0) :: rest)) :=
  va_get (D := gD g) (ci := 0) (v := .ref (gA g 12)) (C := RX0) (T := TX0) (N := 16) C.1 hb C.2.2.1 inlX0 C.2.1 C.2.2.2.1 hP.1 0 rfl rfl 5 (by decide) (C.2.2.1 _ wm_28) (fun _ h9 => h9) rfl hdg kk
theorem gX_live (C : CW g RX0 p s m args) (hb : c.code = cc) (hP : HW g S H) (hdg : decode cc pc = .ok (.getfield 31, 3)) (kk : W p l e R s m args below meth c H locs cells slots Q (F0 m (pc + 3) ls (.ref (gA g 13) :: rest))) : W p l e R s m args below meth c H locs cells slots Q (F0 m (pc) ls (.ref (gA g 0) :: rest)) :=
  va_get (D := gD g) (ci := 0) (v := .ref (gA g 13)) (C := RX0) (T := TX0) (N := 16) C.1 hb C.2.2.1 inlX0 C.2.1 C.2.2.2.1 hP.1 0 rfl rfl 6 (by decide) (C.2.2.1 _ wm_30) (fun _ h9 => h9) rfl hdg kk
theorem gX_addedRows (C : CW g RX0 p s m args) (hb : c.code = cc) (hP : HW g S H) (hdg : decode cc pc = .ok (.getfield 35, 3)) (kk : W p l e R s m args below meth c H locs cells slots Q (F0 m (pc + 3) ls (.int (xSc S 0) :: rest))) : W p l e R s m args below meth c H locs cells slots Q (F0 m (pc) ls (.ref (gA g 0) :: rest)) :=
  va_get (D := gD g) (ci := 0) (v := .int (xSc S 0)) (C := RX0) (T := TX0) (N := 16) C.1 hb C.2.2.1 inlX0 C.2.1 C.2.2.2.1 hP.1 0 rfl rfl 7 (by decide) (C.2.2.1 _ wm_31) (fun _ h9 => h9) rfl hdg kk
theorem pX_addedRows (C : CW g RX0 p s m args) (hb : c.code = cc) (hP : HW g S H) (hS : va_S (Ab g) s.heap H locs) {x : Int32} (hdg : decode cc pc = .ok (.putfield 35, 3)) (kk : ∀ (H1 : Heap) (locs1 : List Loc), HW g (xsSc S 0 x) H1 → va_S (Ab g) s.heap H1 locs1 → W p l e R s m args below meth c H1 locs1 cells slots Q (F0 m (pc + 3) ls rest)) : W p l e R s m args below meth c H locs cells slots Q (F0 m (pc) ls (.int x :: .ref (gA g 0) :: rest)) :=
  va_put (D := gD g) (ci := 0) (v := .int x) (ty := .int) (C := RX0) (T := TX0) (N := 16) C.1 hb C.2.2.1 inlX0 tyX0 tyX0_ok nmX0 C.2.1 C.2.2.2.1 hP.1 hP.2 hS 0 rfl rfl 7 (by decide) (C.2.2.1 _ wm_31) (fun _ h9 => h9) rfl (by decide +kernel) rfl rfl (Nat.le_of_ble_eq_true rfl) hdg (fun H1 locs1 hP1 hD1 hS1 => kk H1 locs1 ⟨hP1, hD1⟩ hS1)
theorem gX_liveRows (C : CW g RX0 p s m args) (hb : c.code = cc) (hP : HW g S H) (hdg : decode cc pc = .ok (.getfield 39, 3)) (kk : W p l e R s m args below meth c H locs cells slots Q (F0 m (pc + 3) ls (.int (xSc S 1) :: rest))) : W p l e R s m args below meth c H locs cells slots Q (F0 m (pc) ls (.ref (gA g 0) :: rest)) :=
  va_get (D := gD g) (ci := 0) (v := .int (xSc S 1)) (C := RX0) (T := TX0) (N := 16) C.1 hb C.2.2.1 inlX0 C.2.1 C.2.2.2.1 hP.1 0 rfl rfl 8 (by decide) (C.2.2.1 _ wm_32) (fun _ h9 => h9) rfl hdg kk
theorem pX_liveRows (C : CW g RX0 p s m args) (hb : c.code = cc) (hP : HW g S H) (hS : va_S (Ab g) s.heap H locs) {x : Int32} (hdg : decode cc pc = .ok (.putfield 39, 3)) (kk : ∀ (H1 : Heap) (locs1 : List Loc), HW g (xsSc S 1 x) H1 → va_S (Ab g) s.heap H1 locs1 → W p l e R s m args below meth c H1 locs1 cells slots Q (F0 m (pc + 3) ls rest)) : W p l e R s m args below meth c H locs cells slots Q (F0 m (pc) ls (.int x :: .ref (gA g 0) :: rest)) :=
  va_put (D := gD g) (ci := 0) (v := .int x) (ty := .int) (C := RX0) (T := TX0) (N := 16) C.1 hb C.2.2.1 inlX0 tyX0 tyX0_ok nmX0 C.2.1 C.2.2.2.1 hP.1 hP.2 hS 0 rfl rfl 8 (by decide) (C.2.2.1 _ wm_32) (fun _ h9 => h9) rfl (by decide +kernel) rfl rfl (Nat.le_of_ble_eq_true rfl) hdg (fun H1 locs1 hP1 hD1 hS1 => kk H1 locs1 ⟨hP1, hD1⟩ hS1)
theorem gX_credibility (C : CW g RX0 p s m args) (hb : c.code = cc) (hP : HW g S H) (hdg : decode cc pc = .ok (.getfield 42, 3)) (kk : W p l e R s m args below meth c H locs cells slots Q (F0 m (pc + 3) ls (.int (xSc S 2) :: rest))) : W p l e R s m args below meth c H locs cells slots Q (F0 m (pc) ls (.ref (gA g 0) :: rest)) :=
  va_get (D := gD g) (ci := 0) (v := .int (xSc S 2)) (C := RX0) (T := TX0) (N := 16) C.1 hb C.2.2.1 inlX0 C.2.1 C.2.2.2.1 hP.1 0 rfl rfl 9 (by decide) (C.2.2.1 _ wm_33) (fun _ h9 => h9) rfl hdg kk
theorem pX_credibility (C : CW g RX0 p s m args) (hb : c.code = cc) (hP : HW g S H) (hS : va_S (Ab g) s.heap H locs) {x : Int32} (hdg : decode cc pc = .ok (.putfield 42, 3)) (kk : ∀ (H1 : Heap) (locs1 : List Loc), HW g (xsSc S 2 x) H1 → va_S (Ab g) s.heap H1 locs1 → W p l e R s m args below meth c H1 locs1 cells slots Q (F0 m (pc + 3) ls rest)) : W p l e R s m args below meth c H locs cells slots Q (F0 m (pc) ls (.int x :: .ref (gA g 0) :: rest)) :=
  va_put (D := gD g) (ci := 0) (v := .int x) (ty := .int) (C := RX0) (T := TX0) (N := 16) C.1 hb C.2.2.1 inlX0 tyX0 tyX0_ok nmX0 C.2.1 C.2.2.2.1 hP.1 hP.2 hS 0 rfl rfl 9 (by decide) (C.2.2.1 _ wm_33) (fun _ h9 => h9) rfl (by decide +kernel) rfl rfl (Nat.le_of_ble_eq_true rfl) hdg (fun H1 locs1 hP1 hD1 hS1 => kk H1 locs1 ⟨hP1, hD1⟩ hS1)
theorem gX_cap (C : CW g RX0 p s m args) (hb : c.code = cc) (hP : HW g S H) (hdg : decode cc pc = .ok (.getfield 45, 3)) (kk : W p l e R s m args below meth c H locs cells slots Q (F0 m (pc + 3) ls (.int (xSc S 3) :: rest))) : W p l e R s m args below meth c H locs cells slots Q (F0 m (pc) ls (.ref (gA g 0) :: rest)) :=
  va_get (D := gD g) (ci := 0) (v := .int (xSc S 3)) (C := RX0) (T := TX0) (N := 16) C.1 hb C.2.2.1 inlX0 C.2.1 C.2.2.2.1 hP.1 0 rfl rfl 10 (by decide) (C.2.2.1 _ wm_34) (fun _ h9 => h9) rfl hdg kk
theorem pX_cap (C : CW g RX0 p s m args) (hb : c.code = cc) (hP : HW g S H) (hS : va_S (Ab g) s.heap H locs) {x : Int32} (hdg : decode cc pc = .ok (.putfield 45, 3)) (kk : ∀ (H1 : Heap) (locs1 : List Loc), HW g (xsSc S 3 x) H1 → va_S (Ab g) s.heap H1 locs1 → W p l e R s m args below meth c H1 locs1 cells slots Q (F0 m (pc + 3) ls rest)) : W p l e R s m args below meth c H locs cells slots Q (F0 m (pc) ls (.int x :: .ref (gA g 0) :: rest)) :=
  va_put (D := gD g) (ci := 0) (v := .int x) (ty := .int) (C := RX0) (T := TX0) (N := 16) C.1 hb C.2.2.1 inlX0 tyX0 tyX0_ok nmX0 C.2.1 C.2.2.2.1 hP.1 hP.2 hS 0 rfl rfl 10 (by decide) (C.2.2.1 _ wm_34) (fun _ h9 => h9) rfl (by decide +kernel) rfl rfl (Nat.le_of_ble_eq_true rfl) hdg (fun H1 locs1 hP1 hD1 hS1 => kk H1 locs1 ⟨hP1, hD1⟩ hS1)
theorem gX_spreadNow (C : CW g RX0 p s m args) (hb : c.code = cc) (hP : HW g S H) (hdg : decode cc pc = .ok (.getfield 48, 3)) (kk : W p l e R s m args below meth c H locs cells slots Q (F0 m (pc + 3) ls (.int (xSc S 4) :: rest))) : W p l e R s m args below meth c H locs cells slots Q (F0 m (pc) ls (.ref (gA g 0) :: rest)) :=
  va_get (D := gD g) (ci := 0) (v := .int (xSc S 4)) (C := RX0) (T := TX0) (N := 16) C.1 hb C.2.2.1 inlX0 C.2.1 C.2.2.2.1 hP.1 0 rfl rfl 11 (by decide) (C.2.2.1 _ wm_35) (fun _ h9 => h9) rfl hdg kk
theorem pX_spreadNow (C : CW g RX0 p s m args) (hb : c.code = cc) (hP : HW g S H) (hS : va_S (Ab g) s.heap H locs) {x : Int32} (hdg : decode cc pc = .ok (.putfield 48, 3)) (kk : ∀ (H1 : Heap) (locs1 : List Loc), HW g (xsSc S 4 x) H1 → va_S (Ab g) s.heap H1 locs1 → W p l e R s m args below meth c H1 locs1 cells slots Q (F0 m (pc + 3) ls rest)) : W p l e R s m args below meth c H locs cells slots Q (F0 m (pc) ls (.int x :: .ref (gA g 0) :: rest)) :=
  va_put (D := gD g) (ci := 0) (v := .int x) (ty := .int) (C := RX0) (T := TX0) (N := 16) C.1 hb C.2.2.1 inlX0 tyX0 tyX0_ok nmX0 C.2.1 C.2.2.2.1 hP.1 hP.2 hS 0 rfl rfl 11 (by decide) (C.2.2.1 _ wm_35) (fun _ h9 => h9) rfl (by decide +kernel) rfl rfl (Nat.le_of_ble_eq_true rfl) hdg (fun H1 locs1 hP1 hD1 hS1 => kk H1 locs1 ⟨hP1, hD1⟩ hS1)
theorem gX_baseNow (C : CW g RX0 p s m args) (hb : c.code = cc) (hP : HW g S H) (hdg : decode cc pc = .ok (.getfield 51, 3)) (kk : W p l e R s m args below meth c H locs cells slots Q (F0 m (pc + 3) ls (.long (xBase S) :: rest))) : W p l e R s m args below meth c H locs cells slots Q (F0 m (pc) ls (.ref (gA g 0) :: rest)) :=
  va_get (D := gD g) (ci := 0) (v := .long (xBase S)) (C := RX0) (T := TX0) (N := 16) C.1 hb C.2.2.1 inlX0 C.2.1 C.2.2.2.1 hP.1 0 rfl rfl 12 (by decide) (C.2.2.1 _ wm_36) (fun _ h9 => h9) rfl hdg kk
theorem pX_baseNow (C : CW g RX0 p s m args) (hb : c.code = cc) (hP : HW g S H) (hS : va_S (Ab g) s.heap H locs) {x : Int64} (hdg : decode cc pc = .ok (.putfield 51, 3)) (kk : ∀ (H1 : Heap) (locs1 : List Loc), HW g (xsBase S x) H1 → va_S (Ab g) s.heap H1 locs1 → W p l e R s m args below meth c H1 locs1 cells slots Q (F0 m (pc + 3) ls rest)) : W p l e R s m args below meth c H locs cells slots Q (F0 m (pc) ls (.long x :: .ref (gA g 0) :: rest)) :=
  va_put (D := gD g) (ci := 0) (v := .long x) (ty := .long) (C := RX0) (T := TX0) (N := 16) C.1 hb C.2.2.1 inlX0 tyX0 tyX0_ok nmX0 C.2.1 C.2.2.2.1 hP.1 hP.2 hS 0 rfl rfl 12 (by decide) (C.2.2.1 _ wm_36) (fun _ h9 => h9) rfl (by decide +kernel) rfl rfl (Nat.le_of_ble_eq_true rfl) hdg (fun H1 locs1 hP1 hD1 hS1 => kk H1 locs1 ⟨hP1, hD1⟩ hS1)
theorem gX_fittedLosses (C : CW g RX0 p s m args) (hb : c.code = cc) (hP : HW g S H) (hdg : decode cc pc = .ok (.getfield 55, 3)) (kk : W p l e R s m args below meth c H locs cells slots Q (F0 m (pc + 3) ls (.ref (gA g 14) :: rest))) : W p l e R s m args below meth c H locs cells slots Q (F0 m (pc) ls (.ref (gA g 0) :: rest)) :=
  va_get (D := gD g) (ci := 0) (v := .ref (gA g 14)) (C := RX0) (T := TX0) (N := 16) C.1 hb C.2.2.1 inlX0 C.2.1 C.2.2.2.1 hP.1 0 rfl rfl 13 (by decide) (C.2.2.1 _ wm_37) (fun _ h9 => h9) rfl hdg kk
theorem gX_groupStarts (C : CW g RX0 p s m args) (hb : c.code = cc) (hP : HW g S H) (hdg : decode cc pc = .ok (.getfield 58, 3)) (kk : W p l e R s m args below meth c H locs cells slots Q (F0 m (pc + 3) ls (.ref (gA g 15) :: rest))) : W p l e R s m args below meth c H locs cells slots Q (F0 m (pc) ls (.ref (gA g 0) :: rest)) :=
  va_get (D := gD g) (ci := 0) (v := .ref (gA g 15)) (C := RX0) (T := TX0) (N := 16) C.1 hb C.2.2.1 inlX0 C.2.1 C.2.2.2.1 hP.1 0 rfl rfl 14 (by decide) (C.2.2.1 _ wm_38) (fun _ h9 => h9) rfl hdg kk
theorem gX_factorsBefore (C : CW g RX0 p s m args) (hb : c.code = cc) (hP : HW g S H) (hdg : decode cc pc = .ok (.getfield 61, 3)) (kk : W p l e R s m args below meth c H locs cells slots Q (F0 m (pc + 3) ls (.ref (gA g 16) :: rest))) : W p l e R s m args below meth c H locs cells slots Q (F0 m (pc) ls (.ref (gA g 0) :: rest)) :=
  va_get (D := gD g) (ci := 0) (v := .ref (gA g 16)) (C := RX0) (T := TX0) (N := 16) C.1 hb C.2.2.1 inlX0 C.2.1 C.2.2.2.1 hP.1 0 rfl rfl 15 (by decide) (C.2.2.1 _ wm_39) (fun _ h9 => h9) rfl hdg kk
theorem ldX_exposures (C : CW g own p s m args) (hb : c.code = cc) (hP : HW g S H) {i : Int32} {j : Nat} (hi : i = nI j) (hj : j < 40) (hdg : decode cc pc = .ok (.laload, 1)) (kk : W p l e R s m args below meth c H locs cells slots Q (F0 m (pc + 1) ls (.long (xLng S 0 j) :: rest))) : W p l e R s m args below meth c H locs cells slots Q (F0 m (pc) ls (.int i :: .ref (gA g 9) :: rest)) := by
  subst hi
  refine va_lald (D := gD g) (f := xLng S 0) C.1 hb C.2.2.2.1 hP.1 9 1 rfl rfl (vp_in_nI hj (by decide)) hdg ?_
  rw [nI_clamp (by omega)]
  exact kk
theorem stX_exposures (C : CW g own p s m args) (hb : c.code = cc) (hP : HW g S H) (hS : va_S (Ab g) s.heap H locs) {i : Int32} {j : Nat} {x : Int64} (hi : i = nI j) (hj : j < 40) (hdg : decode cc pc = .ok (.lastore, 1)) (kk : ∀ (H1 : Heap) (locs1 : List Loc), HW g (xsLng S 0 (vp_updL (xLng S 0) j x)) H1 → va_S (Ab g) s.heap H1 locs1 → W p l e R s m args below meth c H1 locs1 cells slots Q (F0 m (pc + 1) ls rest)) : W p l e R s m args below meth c H locs cells slots Q (F0 m (pc) ls (.long x :: .int i :: .ref (gA g 9) :: rest)) := by
  subst hi
  refine va_last (D := gD g) (f := xLng S 0) C.1 hb C.2.2.2.1 hP.1 hP.2 hS 9 1 rfl rfl (vp_in_nI hj (by decide)) hdg (fun H1 locs1 hP1 hD1 hS1 => kk H1 locs1 ?_ hS1)
  rw [nI_clamp (by omega)] at hP1 hD1
  exact ⟨hP1, hD1⟩
theorem ldX_claims (C : CW g own p s m args) (hb : c.code = cc) (hP : HW g S H) {i : Int32} {j : Nat} (hi : i = nI j) (hj : j < 40) (hdg : decode cc pc = .ok (.laload, 1)) (kk : W p l e R s m args below meth c H locs cells slots Q (F0 m (pc + 1) ls (.long (xLng S 1 j) :: rest))) : W p l e R s m args below meth c H locs cells slots Q (F0 m (pc) ls (.int i :: .ref (gA g 10) :: rest)) := by
  subst hi
  refine va_lald (D := gD g) (f := xLng S 1) C.1 hb C.2.2.2.1 hP.1 10 1 rfl rfl (vp_in_nI hj (by decide)) hdg ?_
  rw [nI_clamp (by omega)]
  exact kk
theorem stX_claims (C : CW g own p s m args) (hb : c.code = cc) (hP : HW g S H) (hS : va_S (Ab g) s.heap H locs) {i : Int32} {j : Nat} {x : Int64} (hi : i = nI j) (hj : j < 40) (hdg : decode cc pc = .ok (.lastore, 1)) (kk : ∀ (H1 : Heap) (locs1 : List Loc), HW g (xsLng S 1 (vp_updL (xLng S 1) j x)) H1 → va_S (Ab g) s.heap H1 locs1 → W p l e R s m args below meth c H1 locs1 cells slots Q (F0 m (pc + 1) ls rest)) : W p l e R s m args below meth c H locs cells slots Q (F0 m (pc) ls (.long x :: .int i :: .ref (gA g 10) :: rest)) := by
  subst hi
  refine va_last (D := gD g) (f := xLng S 1) C.1 hb C.2.2.2.1 hP.1 hP.2 hS 10 1 rfl rfl (vp_in_nI hj (by decide)) hdg (fun H1 locs1 hP1 hD1 hS1 => kk H1 locs1 ?_ hS1)
  rw [nI_clamp (by omega)] at hP1 hD1
  exact ⟨hP1, hD1⟩
theorem ldX_losses (C : CW g own p s m args) (hb : c.code = cc) (hP : HW g S H) {i : Int32} {j : Nat} (hi : i = nI j) (hj : j < 40) (hdg : decode cc pc = .ok (.laload, 1)) (kk : W p l e R s m args below meth c H locs cells slots Q (F0 m (pc + 1) ls (.long (xLng S 2 j) :: rest))) : W p l e R s m args below meth c H locs cells slots Q (F0 m (pc) ls (.int i :: .ref (gA g 11) :: rest)) := by
  subst hi
  refine va_lald (D := gD g) (f := xLng S 2) C.1 hb C.2.2.2.1 hP.1 11 1 rfl rfl (vp_in_nI hj (by decide)) hdg ?_
  rw [nI_clamp (by omega)]
  exact kk
theorem stX_losses (C : CW g own p s m args) (hb : c.code = cc) (hP : HW g S H) (hS : va_S (Ab g) s.heap H locs) {i : Int32} {j : Nat} {x : Int64} (hi : i = nI j) (hj : j < 40) (hdg : decode cc pc = .ok (.lastore, 1)) (kk : ∀ (H1 : Heap) (locs1 : List Loc), HW g (xsLng S 2 (vp_updL (xLng S 2) j x)) H1 → va_S (Ab g) s.heap H1 locs1 → W p l e R s m args below meth c H1 locs1 cells slots Q (F0 m (pc + 1) ls rest)) : W p l e R s m args below meth c H locs cells slots Q (F0 m (pc) ls (.long x :: .int i :: .ref (gA g 11) :: rest)) := by
  subst hi
  refine va_last (D := gD g) (f := xLng S 2) C.1 hb C.2.2.2.1 hP.1 hP.2 hS 11 1 rfl rfl (vp_in_nI hj (by decide)) hdg (fun H1 locs1 hP1 hD1 hS1 => kk H1 locs1 ?_ hS1)
  rw [nI_clamp (by omega)] at hP1 hD1
  exact ⟨hP1, hD1⟩
theorem ldX_oldPremiums (C : CW g own p s m args) (hb : c.code = cc) (hP : HW g S H) {i : Int32} {j : Nat} (hi : i = nI j) (hj : j < 40) (hdg : decode cc pc = .ok (.iaload, 1)) (kk : W p l e R s m args below meth c H locs cells slots Q (F0 m (pc + 1) ls (.int (xIa S 0 j) :: rest))) : W p l e R s m args below meth c H locs cells slots Q (F0 m (pc) ls (.int i :: .ref (gA g 12) :: rest)) := by
  subst hi
  refine va_iald (D := gD g) (f := xIa S 0) C.1 hb C.2.2.2.1 hP.1 12 0 rfl rfl (vp_in_nI hj (by decide)) hdg ?_
  rw [nI_clamp (by omega)]
  exact kk
theorem stX_oldPremiums (C : CW g own p s m args) (hb : c.code = cc) (hP : HW g S H) (hS : va_S (Ab g) s.heap H locs) {i : Int32} {j : Nat} {x : Int32} (hi : i = nI j) (hj : j < 40) (hdg : decode cc pc = .ok (.iastore, 1)) (kk : ∀ (H1 : Heap) (locs1 : List Loc), HW g (xsIa S 0 (upd (xIa S 0) j x)) H1 → va_S (Ab g) s.heap H1 locs1 → W p l e R s m args below meth c H1 locs1 cells slots Q (F0 m (pc + 1) ls rest)) : W p l e R s m args below meth c H locs cells slots Q (F0 m (pc) ls (.int x :: .int i :: .ref (gA g 12) :: rest)) := by
  subst hi
  refine va_iast (D := gD g) (f := xIa S 0) C.1 hb C.2.2.2.1 hP.1 hP.2 hS 12 0 rfl rfl (vp_in_nI hj (by decide)) hdg (fun H1 locs1 hP1 hD1 hS1 => kk H1 locs1 ?_ hS1)
  rw [nI_clamp (by omega)] at hP1 hD1
  exact ⟨hP1, hD1⟩
theorem ldX_live (C : CW g own p s m args) (hb : c.code = cc) (hP : HW g S H) {i : Int32} {j : Nat} (hi : i = nI j) (hj : j < 40) (hdg : decode cc pc = .ok (.baload, 1)) (kk : W p l e R s m args below meth c H locs cells slots Q (F0 m (pc + 1) ls (.int (xIa S 1 j) :: rest))) : W p l e R s m args below meth c H locs cells slots Q (F0 m (pc) ls (.int i :: .ref (gA g 13) :: rest)) := by
  subst hi
  refine va_zald (D := gD g) (f := xIa S 1) C.1 hb C.2.2.2.1 hP.1 13 2 rfl rfl (vp_in_nI hj (by decide)) hdg ?_
  rw [nI_clamp (by omega)]
  exact kk
theorem stX_live (C : CW g own p s m args) (hb : c.code = cc) (hP : HW g S H) (hS : va_S (Ab g) s.heap H locs) {i : Int32} {j : Nat} {x : Int32} (hi : i = nI j) (hj : j < 40) (hz : vp_nar .boolean x = x) (hdg : decode cc pc = .ok (.bastore, 1)) (kk : ∀ (H1 : Heap) (locs1 : List Loc), HW g (xsIa S 1 (upd (xIa S 1) j x)) H1 → va_S (Ab g) s.heap H1 locs1 → W p l e R s m args below meth c H1 locs1 cells slots Q (F0 m (pc + 1) ls rest)) : W p l e R s m args below meth c H locs cells slots Q (F0 m (pc) ls (.int x :: .int i :: .ref (gA g 13) :: rest)) := by
  subst hi
  refine va_zast (D := gD g) (f := xIa S 1) C.1 hb C.2.2.2.1 hP.1 hP.2 hS 13 2 rfl rfl (vp_in_nI hj (by decide)) hdg (fun H1 locs1 hP1 hD1 hS1 => kk H1 locs1 ?_ hS1)
  rw [nI_clamp (by omega), hz] at hP1 hD1
  exact ⟨hP1, hD1⟩
theorem ldX_fittedLosses (C : CW g own p s m args) (hb : c.code = cc) (hP : HW g S H) {i : Int32} {j : Nat} (hi : i = nI j) (hj : j < 40) (hdg : decode cc pc = .ok (.laload, 1)) (kk : W p l e R s m args below meth c H locs cells slots Q (F0 m (pc + 1) ls (.long (xLng S 3 j) :: rest))) : W p l e R s m args below meth c H locs cells slots Q (F0 m (pc) ls (.int i :: .ref (gA g 14) :: rest)) := by
  subst hi
  refine va_lald (D := gD g) (f := xLng S 3) C.1 hb C.2.2.2.1 hP.1 14 1 rfl rfl (vp_in_nI hj (by decide)) hdg ?_
  rw [nI_clamp (by omega)]
  exact kk
theorem stX_fittedLosses (C : CW g own p s m args) (hb : c.code = cc) (hP : HW g S H) (hS : va_S (Ab g) s.heap H locs) {i : Int32} {j : Nat} {x : Int64} (hi : i = nI j) (hj : j < 40) (hdg : decode cc pc = .ok (.lastore, 1)) (kk : ∀ (H1 : Heap) (locs1 : List Loc), HW g (xsLng S 3 (vp_updL (xLng S 3) j x)) H1 → va_S (Ab g) s.heap H1 locs1 → W p l e R s m args below meth c H1 locs1 cells slots Q (F0 m (pc + 1) ls rest)) : W p l e R s m args below meth c H locs cells slots Q (F0 m (pc) ls (.long x :: .int i :: .ref (gA g 14) :: rest)) := by
  subst hi
  refine va_last (D := gD g) (f := xLng S 3) C.1 hb C.2.2.2.1 hP.1 hP.2 hS 14 1 rfl rfl (vp_in_nI hj (by decide)) hdg (fun H1 locs1 hP1 hD1 hS1 => kk H1 locs1 ?_ hS1)
  rw [nI_clamp (by omega)] at hP1 hD1
  exact ⟨hP1, hD1⟩
theorem ldX_groupStarts (C : CW g own p s m args) (hb : c.code = cc) (hP : HW g S H) {i : Int32} {j : Nat} (hi : i = nI j) (hj : j < 4) (hdg : decode cc pc = .ok (.iaload, 1)) (kk : W p l e R s m args below meth c H locs cells slots Q (F0 m (pc + 1) ls (.int (xIa S 2 j) :: rest))) : W p l e R s m args below meth c H locs cells slots Q (F0 m (pc) ls (.int i :: .ref (gA g 15) :: rest)) := by
  subst hi
  refine va_iald (D := gD g) (f := xIa S 2) C.1 hb C.2.2.2.1 hP.1 15 0 rfl rfl (vp_in_nI hj (by decide)) hdg ?_
  rw [nI_clamp (by omega)]
  exact kk
theorem stX_groupStarts (C : CW g own p s m args) (hb : c.code = cc) (hP : HW g S H) (hS : va_S (Ab g) s.heap H locs) {i : Int32} {j : Nat} {x : Int32} (hi : i = nI j) (hj : j < 4) (hdg : decode cc pc = .ok (.iastore, 1)) (kk : ∀ (H1 : Heap) (locs1 : List Loc), HW g (xsIa S 2 (upd (xIa S 2) j x)) H1 → va_S (Ab g) s.heap H1 locs1 → W p l e R s m args below meth c H1 locs1 cells slots Q (F0 m (pc + 1) ls rest)) : W p l e R s m args below meth c H locs cells slots Q (F0 m (pc) ls (.int x :: .int i :: .ref (gA g 15) :: rest)) := by
  subst hi
  refine va_iast (D := gD g) (f := xIa S 2) C.1 hb C.2.2.2.1 hP.1 hP.2 hS 15 0 rfl rfl (vp_in_nI hj (by decide)) hdg (fun H1 locs1 hP1 hD1 hS1 => kk H1 locs1 ?_ hS1)
  rw [nI_clamp (by omega)] at hP1 hD1
  exact ⟨hP1, hD1⟩
theorem ldX_factorsBefore (C : CW g own p s m args) (hb : c.code = cc) (hP : HW g S H) {i : Int32} {j : Nat} (hi : i = nI j) (hj : j < 4) (hdg : decode cc pc = .ok (.iaload, 1)) (kk : W p l e R s m args below meth c H locs cells slots Q (F0 m (pc + 1) ls (.int (xIa S 3 j) :: rest))) : W p l e R s m args below meth c H locs cells slots Q (F0 m (pc) ls (.int i :: .ref (gA g 16) :: rest)) := by
  subst hi
  refine va_iald (D := gD g) (f := xIa S 3) C.1 hb C.2.2.2.1 hP.1 16 0 rfl rfl (vp_in_nI hj (by decide)) hdg ?_
  rw [nI_clamp (by omega)]
  exact kk
theorem stX_factorsBefore (C : CW g own p s m args) (hb : c.code = cc) (hP : HW g S H) (hS : va_S (Ab g) s.heap H locs) {i : Int32} {j : Nat} {x : Int32} (hi : i = nI j) (hj : j < 4) (hdg : decode cc pc = .ok (.iastore, 1)) (kk : ∀ (H1 : Heap) (locs1 : List Loc), HW g (xsIa S 3 (upd (xIa S 3) j x)) H1 → va_S (Ab g) s.heap H1 locs1 → W p l e R s m args below meth c H1 locs1 cells slots Q (F0 m (pc + 1) ls rest)) : W p l e R s m args below meth c H locs cells slots Q (F0 m (pc) ls (.int x :: .int i :: .ref (gA g 16) :: rest)) := by
  subst hi
  refine va_iast (D := gD g) (f := xIa S 3) C.1 hb C.2.2.2.1 hP.1 hP.2 hS 16 0 rfl rfl (vp_in_nI hj (by decide)) hdg (fun H1 locs1 hP1 hD1 hS1 => kk H1 locs1 ?_ hS1)
  rw [nI_clamp (by omega)] at hP1 hD1
  exact ⟨hP1, hD1⟩
theorem ldA_l (C : CW g own p s m args) (hb : c.code = cc) (hP : HW g S H) {i : Int32} {j : Nat} (hi : i = nI j) (hj : j < 36) (hdg : decode cc pc = .ok (.iaload, 1)) (kk : W p l e R s m args below meth c H locs cells slots Q (F0 m (pc + 1) ls (.int (lA S 0 j) :: rest))) : W p l e R s m args below meth c H locs cells slots Q (F0 m (pc) ls (.int i :: .ref (gA g 17) :: rest)) := by
  subst hi
  refine va_iald (D := gD g) (f := lA S 0) C.1 hb C.2.2.2.1 hP.1 17 0 rfl rfl (vp_in_nI hj (by decide)) hdg ?_
  rw [nI_clamp (by omega)]
  exact kk
theorem stA_l (C : CW g own p s m args) (hb : c.code = cc) (hP : HW g S H) (hS : va_S (Ab g) s.heap H locs) {i : Int32} {j : Nat} {x : Int32} (hi : i = nI j) (hj : j < 36) (hdg : decode cc pc = .ok (.iastore, 1)) (kk : ∀ (H1 : Heap) (locs1 : List Loc), HW g (lsA S 0 (upd (lA S 0) j x)) H1 → va_S (Ab g) s.heap H1 locs1 → W p l e R s m args below meth c H1 locs1 cells slots Q (F0 m (pc + 1) ls rest)) : W p l e R s m args below meth c H locs cells slots Q (F0 m (pc) ls (.int x :: .int i :: .ref (gA g 17) :: rest)) := by
  subst hi
  refine va_iast (D := gD g) (f := lA S 0) C.1 hb C.2.2.2.1 hP.1 hP.2 hS 17 0 rfl rfl (vp_in_nI hj (by decide)) hdg (fun H1 locs1 hP1 hD1 hS1 => kk H1 locs1 ?_ hS1)
  rw [nI_clamp (by omega)] at hP1 hD1
  exact ⟨hP1, hD1⟩
theorem ldA_x (C : CW g own p s m args) (hb : c.code = cc) (hP : HW g S H) {i : Int32} {j : Nat} (hi : i = nI j) (hj : j < 12) (hdg : decode cc pc = .ok (.iaload, 1)) (kk : W p l e R s m args below meth c H locs cells slots Q (F0 m (pc + 1) ls (.int (lA S 1 j) :: rest))) : W p l e R s m args below meth c H locs cells slots Q (F0 m (pc) ls (.int i :: .ref (gA g 18) :: rest)) := by
  subst hi
  refine va_iald (D := gD g) (f := lA S 1) C.1 hb C.2.2.2.1 hP.1 18 0 rfl rfl (vp_in_nI hj (by decide)) hdg ?_
  rw [nI_clamp (by omega)]
  exact kk
theorem stA_x (C : CW g own p s m args) (hb : c.code = cc) (hP : HW g S H) (hS : va_S (Ab g) s.heap H locs) {i : Int32} {j : Nat} {x : Int32} (hi : i = nI j) (hj : j < 12) (hdg : decode cc pc = .ok (.iastore, 1)) (kk : ∀ (H1 : Heap) (locs1 : List Loc), HW g (lsA S 1 (upd (lA S 1) j x)) H1 → va_S (Ab g) s.heap H1 locs1 → W p l e R s m args below meth c H1 locs1 cells slots Q (F0 m (pc + 1) ls rest)) : W p l e R s m args below meth c H locs cells slots Q (F0 m (pc) ls (.int x :: .int i :: .ref (gA g 18) :: rest)) := by
  subst hi
  refine va_iast (D := gD g) (f := lA S 1) C.1 hb C.2.2.2.1 hP.1 hP.2 hS 18 0 rfl rfl (vp_in_nI hj (by decide)) hdg (fun H1 locs1 hP1 hD1 hS1 => kk H1 locs1 ?_ hS1)
  rw [nI_clamp (by omega)] at hP1 hD1
  exact ⟨hP1, hD1⟩
theorem ldA_c (C : CW g own p s m args) (hb : c.code = cc) (hP : HW g S H) {i : Int32} {j : Nat} (hi : i = nI j) (hj : j < 12) (hdg : decode cc pc = .ok (.iaload, 1)) (kk : W p l e R s m args below meth c H locs cells slots Q (F0 m (pc + 1) ls (.int (lA S 2 j) :: rest))) : W p l e R s m args below meth c H locs cells slots Q (F0 m (pc) ls (.int i :: .ref (gA g 19) :: rest)) := by
  subst hi
  refine va_iald (D := gD g) (f := lA S 2) C.1 hb C.2.2.2.1 hP.1 19 0 rfl rfl (vp_in_nI hj (by decide)) hdg ?_
  rw [nI_clamp (by omega)]
  exact kk
theorem stA_c (C : CW g own p s m args) (hb : c.code = cc) (hP : HW g S H) (hS : va_S (Ab g) s.heap H locs) {i : Int32} {j : Nat} {x : Int32} (hi : i = nI j) (hj : j < 12) (hdg : decode cc pc = .ok (.iastore, 1)) (kk : ∀ (H1 : Heap) (locs1 : List Loc), HW g (lsA S 2 (upd (lA S 2) j x)) H1 → va_S (Ab g) s.heap H1 locs1 → W p l e R s m args below meth c H1 locs1 cells slots Q (F0 m (pc + 1) ls rest)) : W p l e R s m args below meth c H locs cells slots Q (F0 m (pc) ls (.int x :: .int i :: .ref (gA g 19) :: rest)) := by
  subst hi
  refine va_iast (D := gD g) (f := lA S 2) C.1 hb C.2.2.2.1 hP.1 hP.2 hS 19 0 rfl rfl (vp_in_nI hj (by decide)) hdg (fun H1 locs1 hP1 hD1 hS1 => kk H1 locs1 ?_ hS1)
  rw [nI_clamp (by omega)] at hP1 hD1
  exact ⟨hP1, hD1⟩
theorem ldA_d (C : CW g own p s m args) (hb : c.code = cc) (hP : HW g S H) {i : Int32} {j : Nat} (hi : i = nI j) (hj : j < 12) (hdg : decode cc pc = .ok (.iaload, 1)) (kk : W p l e R s m args below meth c H locs cells slots Q (F0 m (pc + 1) ls (.int (lA S 3 j) :: rest))) : W p l e R s m args below meth c H locs cells slots Q (F0 m (pc) ls (.int i :: .ref (gA g 20) :: rest)) := by
  subst hi
  refine va_iald (D := gD g) (f := lA S 3) C.1 hb C.2.2.2.1 hP.1 20 0 rfl rfl (vp_in_nI hj (by decide)) hdg ?_
  rw [nI_clamp (by omega)]
  exact kk
theorem stA_d (C : CW g own p s m args) (hb : c.code = cc) (hP : HW g S H) (hS : va_S (Ab g) s.heap H locs) {i : Int32} {j : Nat} {x : Int32} (hi : i = nI j) (hj : j < 12) (hdg : decode cc pc = .ok (.iastore, 1)) (kk : ∀ (H1 : Heap) (locs1 : List Loc), HW g (lsA S 3 (upd (lA S 3) j x)) H1 → va_S (Ab g) s.heap H1 locs1 → W p l e R s m args below meth c H1 locs1 cells slots Q (F0 m (pc + 1) ls rest)) : W p l e R s m args below meth c H locs cells slots Q (F0 m (pc) ls (.int x :: .int i :: .ref (gA g 20) :: rest)) := by
  subst hi
  refine va_iast (D := gD g) (f := lA S 3) C.1 hb C.2.2.2.1 hP.1 hP.2 hS 20 0 rfl rfl (vp_in_nI hj (by decide)) hdg (fun H1 locs1 hP1 hD1 hS1 => kk H1 locs1 ?_ hS1)
  rw [nI_clamp (by omega)] at hP1 hD1
  exact ⟨hP1, hD1⟩
theorem ldA_o (C : CW g own p s m args) (hb : c.code = cc) (hP : HW g S H) {i : Int32} {j : Nat} (hi : i = nI j) (hj : j < 12) (hdg : decode cc pc = .ok (.iaload, 1)) (kk : W p l e R s m args below meth c H locs cells slots Q (F0 m (pc + 1) ls (.int (lA S 4 j) :: rest))) : W p l e R s m args below meth c H locs cells slots Q (F0 m (pc) ls (.int i :: .ref (gA g 21) :: rest)) := by
  subst hi
  refine va_iald (D := gD g) (f := lA S 4) C.1 hb C.2.2.2.1 hP.1 21 0 rfl rfl (vp_in_nI hj (by decide)) hdg ?_
  rw [nI_clamp (by omega)]
  exact kk
theorem stA_o (C : CW g own p s m args) (hb : c.code = cc) (hP : HW g S H) (hS : va_S (Ab g) s.heap H locs) {i : Int32} {j : Nat} {x : Int32} (hi : i = nI j) (hj : j < 12) (hdg : decode cc pc = .ok (.iastore, 1)) (kk : ∀ (H1 : Heap) (locs1 : List Loc), HW g (lsA S 4 (upd (lA S 4) j x)) H1 → va_S (Ab g) s.heap H1 locs1 → W p l e R s m args below meth c H1 locs1 cells slots Q (F0 m (pc + 1) ls rest)) : W p l e R s m args below meth c H locs cells slots Q (F0 m (pc) ls (.int x :: .int i :: .ref (gA g 21) :: rest)) := by
  subst hi
  refine va_iast (D := gD g) (f := lA S 4) C.1 hb C.2.2.2.1 hP.1 hP.2 hS 21 0 rfl rfl (vp_in_nI hj (by decide)) hdg (fun H1 locs1 hP1 hD1 hS1 => kk H1 locs1 ?_ hS1)
  rw [nI_clamp (by omega)] at hP1 hD1
  exact ⟨hP1, hD1⟩
theorem ldA_g (C : CW g own p s m args) (hb : c.code = cc) (hP : HW g S H) {i : Int32} {j : Nat} (hi : i = nI j) (hj : j < 12) (hdg : decode cc pc = .ok (.iaload, 1)) (kk : W p l e R s m args below meth c H locs cells slots Q (F0 m (pc + 1) ls (.int (lA S 5 j) :: rest))) : W p l e R s m args below meth c H locs cells slots Q (F0 m (pc) ls (.int i :: .ref (gA g 22) :: rest)) := by
  subst hi
  refine va_iald (D := gD g) (f := lA S 5) C.1 hb C.2.2.2.1 hP.1 22 0 rfl rfl (vp_in_nI hj (by decide)) hdg ?_
  rw [nI_clamp (by omega)]
  exact kk
theorem stA_g (C : CW g own p s m args) (hb : c.code = cc) (hP : HW g S H) (hS : va_S (Ab g) s.heap H locs) {i : Int32} {j : Nat} {x : Int32} (hi : i = nI j) (hj : j < 12) (hdg : decode cc pc = .ok (.iastore, 1)) (kk : ∀ (H1 : Heap) (locs1 : List Loc), HW g (lsA S 5 (upd (lA S 5) j x)) H1 → va_S (Ab g) s.heap H1 locs1 → W p l e R s m args below meth c H1 locs1 cells slots Q (F0 m (pc + 1) ls rest)) : W p l e R s m args below meth c H locs cells slots Q (F0 m (pc) ls (.int x :: .int i :: .ref (gA g 22) :: rest)) := by
  subst hi
  refine va_iast (D := gD g) (f := lA S 5) C.1 hb C.2.2.2.1 hP.1 hP.2 hS 22 0 rfl rfl (vp_in_nI hj (by decide)) hdg (fun H1 locs1 hP1 hD1 hS1 => kk H1 locs1 ?_ hS1)
  rw [nI_clamp (by omega)] at hP1 hD1
  exact ⟨hP1, hD1⟩
theorem ldA_f (C : CW g own p s m args) (hb : c.code = cc) (hP : HW g S H) {i : Int32} {j : Nat} (hi : i = nI j) (hj : j < 12) (hdg : decode cc pc = .ok (.iaload, 1)) (kk : W p l e R s m args below meth c H locs cells slots Q (F0 m (pc + 1) ls (.int (lA S 6 j) :: rest))) : W p l e R s m args below meth c H locs cells slots Q (F0 m (pc) ls (.int i :: .ref (gA g 23) :: rest)) := by
  subst hi
  refine va_iald (D := gD g) (f := lA S 6) C.1 hb C.2.2.2.1 hP.1 23 0 rfl rfl (vp_in_nI hj (by decide)) hdg ?_
  rw [nI_clamp (by omega)]
  exact kk
theorem stA_f (C : CW g own p s m args) (hb : c.code = cc) (hP : HW g S H) (hS : va_S (Ab g) s.heap H locs) {i : Int32} {j : Nat} {x : Int32} (hi : i = nI j) (hj : j < 12) (hdg : decode cc pc = .ok (.iastore, 1)) (kk : ∀ (H1 : Heap) (locs1 : List Loc), HW g (lsA S 6 (upd (lA S 6) j x)) H1 → va_S (Ab g) s.heap H1 locs1 → W p l e R s m args below meth c H1 locs1 cells slots Q (F0 m (pc + 1) ls rest)) : W p l e R s m args below meth c H locs cells slots Q (F0 m (pc) ls (.int x :: .int i :: .ref (gA g 23) :: rest)) := by
  subst hi
  refine va_iast (D := gD g) (f := lA S 6) C.1 hb C.2.2.2.1 hP.1 hP.2 hS 23 0 rfl rfl (vp_in_nI hj (by decide)) hdg (fun H1 locs1 hP1 hD1 hS1 => kk H1 locs1 ?_ hS1)
  rw [nI_clamp (by omega)] at hP1 hD1
  exact ⟨hP1, hD1⟩
theorem ldA_m (C : CW g own p s m args) (hb : c.code = cc) (hP : HW g S H) {i : Int32} {j : Nat} (hi : i = nI j) (hj : j < 4) (hdg : decode cc pc = .ok (.iaload, 1)) (kk : W p l e R s m args below meth c H locs cells slots Q (F0 m (pc + 1) ls (.int (lA S 7 j) :: rest))) : W p l e R s m args below meth c H locs cells slots Q (F0 m (pc) ls (.int i :: .ref (gA g 24) :: rest)) := by
  subst hi
  refine va_iald (D := gD g) (f := lA S 7) C.1 hb C.2.2.2.1 hP.1 24 0 rfl rfl (vp_in_nI hj (by decide)) hdg ?_
  rw [nI_clamp (by omega)]
  exact kk
theorem stA_m (C : CW g own p s m args) (hb : c.code = cc) (hP : HW g S H) (hS : va_S (Ab g) s.heap H locs) {i : Int32} {j : Nat} {x : Int32} (hi : i = nI j) (hj : j < 4) (hdg : decode cc pc = .ok (.iastore, 1)) (kk : ∀ (H1 : Heap) (locs1 : List Loc), HW g (lsA S 7 (upd (lA S 7) j x)) H1 → va_S (Ab g) s.heap H1 locs1 → W p l e R s m args below meth c H1 locs1 cells slots Q (F0 m (pc + 1) ls rest)) : W p l e R s m args below meth c H locs cells slots Q (F0 m (pc) ls (.int x :: .int i :: .ref (gA g 24) :: rest)) := by
  subst hi
  refine va_iast (D := gD g) (f := lA S 7) C.1 hb C.2.2.2.1 hP.1 hP.2 hS 24 0 rfl rfl (vp_in_nI hj (by decide)) hdg (fun H1 locs1 hP1 hD1 hS1 => kk H1 locs1 ?_ hS1)
  rw [nI_clamp (by omega)] at hP1 hD1
  exact ⟨hP1, hD1⟩
theorem al_fac (C : CW g own p s m args) (hb : c.code = cc) (hP : HW g S H) {i : Int32} {t : Nat} (hi : i = nI t) (ht : t < 3) (hdg : decode cc pc = .ok (.aaload, 1)) (kk : W p l e R s m args below meth c H locs cells slots Q (F0 m (pc + 1) ls (.ref (gA g (3 + t)) :: rest))) : W p l e R s m args below meth c H locs cells slots Q (F0 m (pc) ls (.int i :: .ref (gA g 1) :: rest)) := by
  subst hi
  have hin : vp_in (nI t) 3 := vp_in_nI ht (by decide)
  have hlt : (nI t).toNatClampNeg < 3 := by rw [nI_clamp (by omega)]; exact ht
  refine W.aald (v := .ref (gA g (3 + t))) (ty := .array .int) C.1 hb (hP.1 1 _ rfl) ((C.2.2.2.1.2 3 _ rfl).1 3 (fun j => va_rf (some (gA g (3 + j))))) rfl (fun q => by cases q) (by show ¬ (nI t < 0 ∨ (arrV _ _ _).slots.size ≤ _); rw [arrV_size]; exact hin) (by show (arrV _ _ _).slots[_]? = _; rw [arrV_read _ _ hlt, nI_clamp (by omega)]; rfl) rfl rfl hdg kk
theorem wW_fac (g : gG) (S : WS) {t : Nat} (ht : t < 3) : (wW g S)[3 + t]? = some (gA g (3 + t), .inl (gT g 0, 4, .inl (xFac S t))) := by
  rcases (show t = 0 ∨ t = 1 ∨ t = 2 by omega) with rfl | rfl | rfl <;> rfl
theorem wW_sfac (g : gG) (S : WS) {t : Nat} (ht : t < 3) (f : Nat → Int32) : (wW g S).set (3 + t) (gA g (3 + t), .inl (gT g 0, 4, .inl f)) = wW g (xsFac S t f) := by
  rcases (show t = 0 ∨ t = 1 ∨ t = 2 by omega) with rfl | rfl | rfl <;> rfl
theorem ldX_fac (C : CW g own p s m args) (hb : c.code = cc) (hP : HW g S H) {t : Nat} (ht : t < 3) {i : Int32} {j : Nat} (hi : i = nI j) (hj : j < 4) (hdg : decode cc pc = .ok (.iaload, 1)) (kk : W p l e R s m args below meth c H locs cells slots Q (F0 m (pc + 1) ls (.int (xFac S t j) :: rest))) : W p l e R s m args below meth c H locs cells slots Q (F0 m (pc) ls (.int i :: .ref (gA g (3 + t)) :: rest)) := by
  subst hi
  refine va_iald (D := gD g) (f := xFac S t) C.1 hb C.2.2.2.1 hP.1 (3 + t) 0 (wW_fac g S ht) rfl (vp_in_nI hj (by decide)) hdg ?_
  rw [nI_clamp (by omega)]
  exact kk
theorem stX_fac (C : CW g own p s m args) (hb : c.code = cc) (hP : HW g S H) (hS : va_S (Ab g) s.heap H locs) {t : Nat} (ht : t < 3) {i : Int32} {j : Nat} {x : Int32} (hi : i = nI j) (hj : j < 4) (hdg : decode cc pc = .ok (.iastore, 1)) (kk : ∀ (H1 : Heap) (locs1 : List Loc), HW g (xsFac S t (upd (xFac S t) j x)) H1 → va_S (Ab g) s.heap H1 locs1 → W p l e R s m args below meth c H1 locs1 cells slots Q (F0 m (pc + 1) ls rest)) : W p l e R s m args below meth c H locs cells slots Q (F0 m (pc) ls (.int x :: .int i :: .ref (gA g (3 + t)) :: rest)) := by
  subst hi
  refine va_iast (D := gD g) (f := xFac S t) C.1 hb C.2.2.2.1 hP.1 hP.2 hS (3 + t) 0 (wW_fac g S ht) rfl (vp_in_nI hj (by decide)) hdg (fun H1 locs1 hP1 hD1 hS1 => kk H1 locs1 ?_ hS1)
  rw [nI_clamp (by omega), wW_sfac g S ht] at hP1 hD1
  exact ⟨hP1, hD1⟩
theorem al_lev (C : CW g own p s m args) (hb : c.code = cc) (hP : HW g S H) {i : Int32} {t : Nat} (hi : i = nI t) (ht : t < 3) (hdg : decode cc pc = .ok (.aaload, 1)) (kk : W p l e R s m args below meth c H locs cells slots Q (F0 m (pc + 1) ls (.ref (gA g (6 + t)) :: rest))) : W p l e R s m args below meth c H locs cells slots Q (F0 m (pc) ls (.int i :: .ref (gA g 2) :: rest)) := by
  subst hi
  have hin : vp_in (nI t) 3 := vp_in_nI ht (by decide)
  have hlt : (nI t).toNatClampNeg < 3 := by rw [nI_clamp (by omega)]; exact ht
  refine W.aald (v := .ref (gA g (6 + t))) (ty := .array .int) C.1 hb (hP.1 2 _ rfl) ((C.2.2.2.1.2 3 _ rfl).1 3 (fun j => va_rf (some (gA g (6 + j))))) rfl (fun q => by cases q) (by show ¬ (nI t < 0 ∨ (arrV _ _ _).slots.size ≤ _); rw [arrV_size]; exact hin) (by show (arrV _ _ _).slots[_]? = _; rw [arrV_read _ _ hlt, nI_clamp (by omega)]; rfl) rfl rfl hdg kk
theorem wW_lev (g : gG) (S : WS) {t : Nat} (ht : t < 3) : (wW g S)[6 + t]? = some (gA g (6 + t), .inl (gT g 0, 40, .inl (xLev S t))) := by
  rcases (show t = 0 ∨ t = 1 ∨ t = 2 by omega) with rfl | rfl | rfl <;> rfl
theorem wW_slev (g : gG) (S : WS) {t : Nat} (ht : t < 3) (f : Nat → Int32) : (wW g S).set (6 + t) (gA g (6 + t), .inl (gT g 0, 40, .inl f)) = wW g (xsLev S t f) := by
  rcases (show t = 0 ∨ t = 1 ∨ t = 2 by omega) with rfl | rfl | rfl <;> rfl
theorem ldX_lev (C : CW g own p s m args) (hb : c.code = cc) (hP : HW g S H) {t : Nat} (ht : t < 3) {i : Int32} {j : Nat} (hi : i = nI j) (hj : j < 40) (hdg : decode cc pc = .ok (.iaload, 1)) (kk : W p l e R s m args below meth c H locs cells slots Q (F0 m (pc + 1) ls (.int (xLev S t j) :: rest))) : W p l e R s m args below meth c H locs cells slots Q (F0 m (pc) ls (.int i :: .ref (gA g (6 + t)) :: rest)) := by
  subst hi
  refine va_iald (D := gD g) (f := xLev S t) C.1 hb C.2.2.2.1 hP.1 (6 + t) 0 (wW_lev g S ht) rfl (vp_in_nI hj (by decide)) hdg ?_
  rw [nI_clamp (by omega)]
  exact kk
theorem stX_lev (C : CW g own p s m args) (hb : c.code = cc) (hP : HW g S H) (hS : va_S (Ab g) s.heap H locs) {t : Nat} (ht : t < 3) {i : Int32} {j : Nat} {x : Int32} (hi : i = nI j) (hj : j < 40) (hdg : decode cc pc = .ok (.iastore, 1)) (kk : ∀ (H1 : Heap) (locs1 : List Loc), HW g (xsLev S t (upd (xLev S t) j x)) H1 → va_S (Ab g) s.heap H1 locs1 → W p l e R s m args below meth c H1 locs1 cells slots Q (F0 m (pc + 1) ls rest)) : W p l e R s m args below meth c H locs cells slots Q (F0 m (pc) ls (.int x :: .int i :: .ref (gA g (6 + t)) :: rest)) := by
  subst hi
  refine va_iast (D := gD g) (f := xLev S t) C.1 hb C.2.2.2.1 hP.1 hP.2 hS (6 + t) 0 (wW_lev g S ht) rfl (vp_in_nI hj (by decide)) hdg (fun H1 locs1 hP1 hD1 hS1 => kk H1 locs1 ?_ hS1)
  rw [nI_clamp (by omega), wW_slev g S ht] at hP1 hD1
  exact ⟨hP1, hD1⟩
theorem gX_LEVELS (C : CW g RX0 p s m args) (hb : c.code = cc) (hS : va_S (Ab g) s.heap H locs) (hdg : decode cc pc = .ok (.getstatic 130, 3)) (kk : W p l e R s m args below meth c H locs cells slots Q (F0 m (pc + 3) ls (.ref (gL g) :: rest))) : W p l e R s m args below meth c H locs cells slots Q (F0 m (pc) ls rest) :=
  va_gets C.1 hb C.2.2.2.2.1 hS C.2.1 (C.2.2.1 _ wm_64) (fun _ h9 => h9) hdg kk
theorem ldX_LEVELS (C : CW g own p s m args) (hb : c.code = cc) (hS : va_S (Ab g) s.heap H locs) {i : Int32} {j : Nat} (hi : i = nI j) (hj : j < 3) (hdg : decode cc pc = .ok (.iaload, 1)) (kk : W p l e R s m args below meth c H locs cells slots Q (F0 m (pc + 1) ls (.int (nI (levN j)) :: rest))) : W p l e R s m args below meth c H locs cells slots Q (F0 m (pc) ls (.int i :: .ref (gL g) :: rest)) := by
  subst hi
  exact va_ti C.1 hb C.2.2.2.2.2.1 hS (vp_in_nI hj (by decide)) (by rw [nI_clamp (by omega)]) hdg kk
theorem lc_le (C : CW g own p s m args) (hb : c.code = cc) {x y : Int64} {off : Int} {tgt : Nat} (hd0 : decode cc pc = .ok (.lcmp, 1)) (hdg : decode cc (pc + 1) = .ok (.ifCond .le off, 3)) (ht : ((pc + 1 : Nat) : Int) + off = (tgt : Int)) (kt : x ≤ y → W p l e R s m args below meth c H locs cells slots Q (F0 m (tgt) ls rest)) (kf : ¬ x ≤ y → W p l e R s m args below meth c H locs cells slots Q (F0 m (pc + 4) ls rest)) : W p l e R s m args below meth c H locs cells slots Q (F0 m (pc) ls (.long y :: .long x :: rest)) := by
  refine W.lcmp C.1 hb hd0 ?_
  refine lv_if_le C.1 hb hdg ht (fun h => kt ?_) (fun h => kf ?_)
  · exact lc_le_iff.mp h
  · exact fun q => h (lc_le_iff.mpr q)
theorem lc_ge (C : CW g own p s m args) (hb : c.code = cc) {x y : Int64} {off : Int} {tgt : Nat} (hd0 : decode cc pc = .ok (.lcmp, 1)) (hdg : decode cc (pc + 1) = .ok (.ifCond .ge off, 3)) (ht : ((pc + 1 : Nat) : Int) + off = (tgt : Int)) (kt : y ≤ x → W p l e R s m args below meth c H locs cells slots Q (F0 m (tgt) ls rest)) (kf : ¬ y ≤ x → W p l e R s m args below meth c H locs cells slots Q (F0 m (pc + 4) ls rest)) : W p l e R s m args below meth c H locs cells slots Q (F0 m (pc) ls (.long y :: .long x :: rest)) := by
  refine W.lcmp C.1 hb hd0 ?_
  refine lv_if_ge C.1 hb hdg ht (fun h => kt ?_) (fun h => kf ?_)
  · exact lc_ge_iff.mp h
  · exact fun q => h (lc_ge_iff.mpr q)
theorem lc_lt (C : CW g own p s m args) (hb : c.code = cc) {x y : Int64} {off : Int} {tgt : Nat} (hd0 : decode cc pc = .ok (.lcmp, 1)) (hdg : decode cc (pc + 1) = .ok (.ifCond .lt off, 3)) (ht : ((pc + 1 : Nat) : Int) + off = (tgt : Int)) (kt : x < y → W p l e R s m args below meth c H locs cells slots Q (F0 m (tgt) ls rest)) (kf : ¬ x < y → W p l e R s m args below meth c H locs cells slots Q (F0 m (pc + 4) ls rest)) : W p l e R s m args below meth c H locs cells slots Q (F0 m (pc) ls (.long y :: .long x :: rest)) := by
  refine W.lcmp C.1 hb hd0 ?_
  refine lv_if_lt C.1 hb hdg ht (fun h => kt ?_) (fun h => kf ?_)
  · exact lc_lt_iff.mp h
  · exact fun q => h (lc_lt_iff.mpr q)
theorem lc_gt (C : CW g own p s m args) (hb : c.code = cc) {x y : Int64} {off : Int} {tgt : Nat} (hd0 : decode cc pc = .ok (.lcmp, 1)) (hdg : decode cc (pc + 1) = .ok (.ifCond .gt off, 3)) (ht : ((pc + 1 : Nat) : Int) + off = (tgt : Int)) (kt : y < x → W p l e R s m args below meth c H locs cells slots Q (F0 m (tgt) ls rest)) (kf : ¬ y < x → W p l e R s m args below meth c H locs cells slots Q (F0 m (pc + 4) ls rest)) : W p l e R s m args below meth c H locs cells slots Q (F0 m (pc) ls (.long y :: .long x :: rest)) := by
  refine W.lcmp C.1 hb hd0 ?_
  refine lv_if_gt C.1 hb hdg ht (fun h => kt ?_) (fun h => kf ?_)
  · exact lc_gt_iff.mp h
  · exact fun q => h (lc_gt_iff.mpr q)
theorem lc_eq (C : CW g own p s m args) (hb : c.code = cc) {x y : Int64} {off : Int} {tgt : Nat} (hd0 : decode cc pc = .ok (.lcmp, 1)) (hdg : decode cc (pc + 1) = .ok (.ifCond .eq off, 3)) (ht : ((pc + 1 : Nat) : Int) + off = (tgt : Int)) (kt : x = y → W p l e R s m args below meth c H locs cells slots Q (F0 m (tgt) ls rest)) (kf : ¬ x = y → W p l e R s m args below meth c H locs cells slots Q (F0 m (pc + 4) ls rest)) : W p l e R s m args below meth c H locs cells slots Q (F0 m (pc) ls (.long y :: .long x :: rest)) := by
  refine W.lcmp C.1 hb hd0 ?_
  refine lv_if_eq C.1 hb hdg ht (fun h => kt ?_) (fun h => kf ?_)
  · exact lc_eq_iff.mp h
  · exact fun q => h (lc_eq_iff.mpr q)
theorem lc_ne (C : CW g own p s m args) (hb : c.code = cc) {x y : Int64} {off : Int} {tgt : Nat} (hd0 : decode cc pc = .ok (.lcmp, 1)) (hdg : decode cc (pc + 1) = .ok (.ifCond .ne off, 3)) (ht : ((pc + 1 : Nat) : Int) + off = (tgt : Int)) (kt : ¬ x = y → W p l e R s m args below meth c H locs cells slots Q (F0 m (tgt) ls rest)) (kf : x = y → W p l e R s m args below meth c H locs cells slots Q (F0 m (pc + 4) ls rest)) : W p l e R s m args below meth c H locs cells slots Q (F0 m (pc) ls (.long y :: .long x :: rest)) := by
  refine W.lcmp C.1 hb hd0 ?_
  refine lv_if_ne C.1 hb hdg ht (fun h => kt ?_) (fun h => kf ?_)
  · exact lc_ne_iff.mp h
  · exact lc_eq_iff.mp h
end WROWS
end
section
/-! entries, ends and calls of methods over the one world -/
theorem ra_same {s : State} {D : va_G} {cl : List vw_C} {tys : List (ClassId × FieldType)} {cA cB : ClassId} {ty : FieldType} (hK : va_K D cl tys s) (i j : Nat) (hi : tys[i]? = some (cA, ty)) (hj : tys[j]? = some (cB, ty)) (hty : ∀ U c, va_RA U c ty = (U.vm.findClass ("[" ++ ty.toString) = some c)) : cA = cB := by
  have h1 := (hK.2 i _ hi).2
  have h2 := (hK.2 j _ hj).2
  rw [hty] at h1 h2
  exact Option.some.inj (h1.symm.trans h2)
section WCALLS
variable {p : Program} {l : Launch} {e : Env} {R : Room} {s : State} {m : MethodId} {args : Array Value} {below : List Frame} {meth : Method} {c : Code} {H : Heap} {locs : List Loc} {cells slots : Nat} {Q : State → Prop}
variable {cc : ByteArray} {pc : Nat} {ls : Array Slot} {rest st0 : List Value} {g : gG} {S S' : WS} {own : String}
theorem metI {mc ms : Nat} {y : MethodName} {maxL : Nat} {ret : Option FieldType} {rm : Room} {As : List Value} {Qc : Array Value → State → Outcome → State → Prop} {free : Addr → Prop} (hy : plainName y.cls = true) (hlen : (lg_sl As).length ≤ maxL)
    (body : ∀ p e s m below meth c, CW g y.cls p s m As.toArray → c.code = cc → c.maxLocals = maxL → meth.sig.returnType = ret → meth.locks = false → HW g S s.heap → ∀ ls, lv_has ls maxL (lv_args 0 As) → W p l e rm s m As.toArray below meth c s.heap [] 0 0 (MQ below Qc As.toArray s mc ms free) (F0 m 0 ls [])) : Met l y (wA y cc maxL ret) rm (PW g S As) Qc mc ms free := by
  refine Met.ofW (cc := cc) (maxL := maxL) (ret := ret) hy rfl ?_
  intro p e s m args below meth c s₁ B hml hv
  obtain ⟨rfl, hK, hP⟩ := hv
  have hts := atoms_spec (ws := wA y cc maxL ret) B.pre
  rw [lg_entry_eq]
  exact body p e s m below meth c ⟨B.exec, findClass_of_methodNamed B.named, fun w h => hts w (List.mem_cons_of_mem _ h), hK⟩ B.bytes hml B.returns B.notSynchronized hP _ (lv_entry As hlen)
theorem rdI (C : CW g own p s m args) (hb : c.code = cc) (hr : meth.sig.returnType = some .int) (hlk : meth.locks = false) {v v' : Int32} (hdg : decode cc pc = .ok (.ireturn, 1)) (hv : v' = v) : W p l e R s m args below meth c s.heap [] 0 0 (MQ below (RQ (some (.int v))) args s 0 0 (fun _ => False)) (F0 m pc ls [.int v']) := by
  subst hv
  exact W.iret C.1 hb hr (fun t ht _ => ⟨rfl, ht⟩) (fun _ h => by cases h) hdg hlk
theorem rdZ (C : CW g own p s m args) (hb : c.code = cc) (hr : meth.sig.returnType = some .boolean) (hlk : meth.locks = false) {v' : Int32} {b : Bool} (hdg : decode cc pc = .ok (.ireturn, 1)) (hv : v' = bI b) : W p l e R s m args below meth c s.heap [] 0 0 (MQ below (RQ (some (.int (bI b)))) args s 0 0 (fun _ => False)) (F0 m pc ls [.int v']) := by
  subst hv
  exact W.zret C.1 hb hr (bI_nar b) (fun t ht _ => ⟨rfl, ht⟩) (fun _ h => by cases h) hdg hlk
theorem rdL (C : CW g own p s m args) (hb : c.code = cc) (hr : meth.sig.returnType = some .long) (hlk : meth.locks = false) {v v' : Int64} (hdg : decode cc pc = .ok (.lreturn, 1)) (hv : v' = v) : W p l e R s m args below meth c s.heap [] 0 0 (MQ below (RQ (some (.long v))) args s 0 0 (fun _ => False)) (F0 m pc ls [.long v']) := by
  subst hv
  exact W.lret C.1 hb hr (fun t ht _ => ⟨rfl, ht⟩) (fun _ h => by cases h) hdg hlk
theorem wrI (C : CW g own p s m args) (hb : c.code = cc) (hr : meth.sig.returnType = some .int) (hlk : meth.locks = false) (hP : HW g S H) (hS : va_S (Ab g) s.heap H locs) {v v' : Int32} (hdg : decode cc pc = .ok (.ireturn, 1)) (hv : v' = v) (hE : S = S') : W p l e R s m args below meth c H locs 0 0 (MQ below (WQ g S' (some (.int v))) args s 0 0 (Ab g)) (F0 m pc ls [.int v']) := by
  subst hv
  subst hE
  exact W.iret C.1 hb hr (fun t ht _ => ⟨rfl, by rw [ht]; exact hP, hS.F ht⟩) hS.2.2 hdg hlk
theorem wrZ (C : CW g own p s m args) (hb : c.code = cc) (hr : meth.sig.returnType = some .boolean) (hlk : meth.locks = false) (hP : HW g S H) (hS : va_S (Ab g) s.heap H locs) {v' : Int32} {b : Bool} (hdg : decode cc pc = .ok (.ireturn, 1)) (hv : v' = bI b) (hE : S = S') : W p l e R s m args below meth c H locs 0 0 (MQ below (WQ g S' (some (.int (bI b)))) args s 0 0 (Ab g)) (F0 m pc ls [.int v']) := by
  subst hv
  subst hE
  exact W.zret C.1 hb hr (bI_nar b) (fun t ht _ => ⟨rfl, by rw [ht]; exact hP, hS.F ht⟩) hS.2.2 hdg hlk
theorem wrL (C : CW g own p s m args) (hb : c.code = cc) (hr : meth.sig.returnType = some .long) (hlk : meth.locks = false) (hP : HW g S H) (hS : va_S (Ab g) s.heap H locs) {v v' : Int64} (hdg : decode cc pc = .ok (.lreturn, 1)) (hv : v' = v) (hE : S = S') : W p l e R s m args below meth c H locs 0 0 (MQ below (WQ g S' (some (.long v))) args s 0 0 (Ab g)) (F0 m pc ls [.long v']) := by
  subst hv
  subst hE
  exact W.lret C.1 hb hr (fun t ht _ => ⟨rfl, by rw [ht]; exact hP, hS.F ht⟩) hS.2.2 hdg hlk
theorem wrV (C : CW g own p s m args) (hb : c.code = cc) (hr : meth.sig.returnType = none) (hlk : meth.locks = false) (hP : HW g S H) (hS : va_S (Ab g) s.heap H locs) (hdg : decode cc pc = .ok (.return_, 1)) (hE : S = S') : W p l e R s m args below meth c H locs 0 0 (MQ below (WQ g S' none) args s 0 0 (Ab g)) (F0 m pc ls []) := by
  subst hE
  exact W.vret C.1 hb hr (fun t ht _ => ⟨rfl, by rw [ht]; exact hP, hS.F ht⟩) hS.2.2 hdg hlk
theorem run_rd {a : Array Value} {v : Value} (hr : va_Run p l e R s m args below meth c H locs cells slots 0 0 (F0 m pc ls st0) rest (RQ (some v) a) (fun _ => False)) (kk : W p l e R s m args below meth c H locs cells slots Q (F0 m (pc + 3) ls (v :: rest))) : W p l e R s m args below meth c H locs cells slots Q (F0 m pc ls st0) := by
  intro T hT X
  obtain ⟨v', st₀, t, T', L, h0, X', hL, e1, e2, ⟨hv, hh⟩, st⟩ := hr T hT X
  cases hv
  obtain ⟨t2, a1, b1⟩ := kk T' (by rw [e1, hh, h0]) (Stand.forget X' (fun q h => (hL q h).elim))
  exact ⟨t2, st t2 a1, b1⟩
theorem run_wr {a : Array Value} {v : Option Value} (hr : va_Run p l e R s m args below meth c H locs cells slots 0 0 (F0 m pc ls st0) rest (WQ g S' v a) (Ab g)) (hS : va_S (Ab g) s.heap H locs) (kk : ∀ (H1 : Heap) (locs1 : List Loc), HW g S' H1 → va_S (Ab g) s.heap H1 locs1 → W p l e R s m args below meth c H1 locs1 cells slots Q (F0 m (pc + 3) ls (v.toList ++ rest))) : W p l e R s m args below meth c H locs cells slots Q (F0 m pc ls st0) := by
  intro T hT X
  obtain ⟨v', st₀, t, T', L, h0, X', hL, e1, e2, ⟨hv, hp, hz, hk⟩, st⟩ := hr T hT X
  cases hv
  rw [h0] at hz hk
  obtain ⟨t2, a1, b1⟩ := kk T'.heap (locs ++ L) (by rw [e1]; exact hp) ⟨Nat.le_trans hS.1 (by rw [e1]; exact hz), fun q h1 h2 => by rw [e1, hk q (Nat.lt_of_lt_of_le h1 hS.1) h2]; exact hS.2.1 q h1 h2, fun q hq => (List.mem_append.mp hq).elim (hS.2.2 q) (fun h => hL q h)⟩ T' rfl X'
  exact ⟨t2, st t2 a1, b1⟩
theorem wA_in {y : MethodName} {bytes : ByteArray} {maxL : Nat} {ret : Option FieldType} (k : Cond.code y bytes maxL ret ∈ WA) : GoodIn WA (wA y bytes maxL ret) := by
  intro w hw
  have h : w ∈ WA := (List.mem_cons.mp hw).elim (fun q => by rw [q]; exact k) id
  exact ⟨h, good_of_word (List.all_eq_true.mp WA_good w h)⟩
theorem cB (C : CW g own p s m args) {y : MethodName} {bytes : ByteArray} {maxL n index : Nat} {ret : Option FieldType} {rm : Room} (k1 : Cond.methodLink own index y ∈ WA) (k3 : Cond.code y bytes maxL ret ∈ WA) (k4 : Cond.initialized y.cls ∈ WA)
    (hd : y.cls ≠ "java/lang/invoke/MethodHandle" ∧ y.cls ≠ "java/lang/invoke/VarHandle" ∧ (parseMethodDescriptor y.desc).map (fun d => d.parameters.length) = some n) (hR : rm.cells = 0 ∧ rm.slots = 0 ∧ rm.frames + 1 ≤ R.frames ∧ 8 + (maxL + 11) + rm.locals ≤ R.locals) : CallB R s args own index y bytes maxL ret (wA y bytes maxL ret) rm 0 0 n :=
  callB_of n C.2.2.1 (wA_in k3) rfl hR.1 hR.2.1 (C.2.2.1 _ k4) (C.2.2.1 _ k1) hd hR.2.2
/-- a static call -/
theorem cRunS (C : CW g own p s m args) (hb : c.code = cc) (hml : c.maxLocals = ls.size) (hP : HW g S H) (hS : va_S (Ab g) s.heap H locs) {y : MethodName} {bytes : ByteArray} {maxL index n : Nat} {ret : Option FieldType} {rm : Room} {As : List Value} {Qc : Array Value → State → Outcome → State → Prop} {free : Addr → Prop}
    (hM : Met l y (wA y bytes maxL ret) rm (PW g S As) Qc 0 0 free) (k1 : Cond.methodLink own index y ∈ WA) (k2 : Cond.static y ∈ WA) (k3 : Cond.code y bytes maxL ret ∈ WA) (k4 : Cond.initialized y.cls ∈ WA)
    (hd : y.cls ≠ "java/lang/invoke/MethodHandle" ∧ y.cls ≠ "java/lang/invoke/VarHandle" ∧ (parseMethodDescriptor y.desc).map (fun d => d.parameters.length) = some n) (hn : As.length = n) (hR : rm.cells = 0 ∧ rm.slots = 0 ∧ rm.frames + 1 ≤ R.frames ∧ 8 + (maxL + 11) + rm.locals ≤ R.locals)
    (hroom : (rest.map fun v => v.category).sum ≤ 8) (hst : st0 = As.reverse ++ rest) (hf : cells ≤ R.cells ∧ slots ≤ R.slots) (hdg : decode cc pc = .ok (.invokestatic index, 3)) : va_Run p l e R s m args below meth c H locs cells slots 0 0 (F0 m pc ls st0) rest (Qc As.toArray) free :=
  va_runS (Ts := WA) (own := own) ⟨C.1, hb, hml, C.2.1, C.2.2.1⟩ hM ⟨cB C k1 k3 k4 hd hR, C.2.2.1 _ k2⟩ ⟨PW.blind g S As, fun U hU hW => ⟨rfl, KS.at C hS hU hW, by rw [hU]; exact hP⟩⟩ rfl hn rfl hst (lv_room hroom) hdg ⟨by simpa using hf.1, by simpa using hf.2⟩
/-- a call of the class's object, or of the reference's -/
theorem cRunV (C : CW g own p s m args) (hb : c.code = cc) (hml : c.maxLocals = ls.size) (hP : HW g S H) (hS : va_S (Ab g) s.heap H locs) {y : MethodName} {bytes : ByteArray} {maxL index b q0 ci n : Nat} {ret : Option FieldType} {rm : Room} {As fs : List Value} {r : vw_C} {Qc : Array Value → State → Outcome → State → Prop} {free : Addr → Prop} (he : (wW g S)[q0]? = some (b, .inr (ci, fs))) (hc : vwCl[ci]? = some r) (hy : y.cls = r.1)
    (hM : Met l y (wA y bytes maxL ret) rm (PW g S (.ref b :: As)) Qc 0 0 free) (k1 : Cond.methodLink own index y ∈ WA) (k2 : Cond.instanceMethod y ∈ WA) (k5 : Cond.selects y.cls y y ∈ WA) (k3 : Cond.code y bytes maxL ret ∈ WA) (k4 : Cond.initialized y.cls ∈ WA)
    (hd : y.cls ≠ "java/lang/invoke/MethodHandle" ∧ y.cls ≠ "java/lang/invoke/VarHandle" ∧ (parseMethodDescriptor y.desc).map (fun d => d.parameters.length) = some n) (hn : As.length = n) (hR : rm.cells = 0 ∧ rm.slots = 0 ∧ rm.frames + 1 ≤ R.frames ∧ 8 + (maxL + 11) + rm.locals ≤ R.locals)
    (hroom : (rest.map fun v => v.category).sum ≤ 8) (hst : st0 = As.reverse ++ .ref b :: rest) (hf : cells ≤ R.cells ∧ slots ≤ R.slots) (hdg : decode cc pc = .ok (.invokevirtual index, 3)) : va_Run p l e R s m args below meth c H locs cells slots 0 0 (F0 m pc ls st0) rest (Qc (Value.ref b :: As).toArray) free :=
  va_runV (Ts := WA) (own := own) (C := y.cls) ⟨C.1, hb, hml, C.2.1, C.2.2.1⟩ hM ⟨cB C k1 k3 k4 hd hR, C.2.2.1 _ k2, C.2.2.1 _ k5⟩ ⟨PW.blind g S _, by rw [hy]; exact va_recv C.2.2.2.1 hP.1 hc he, fun U hU hW => ⟨rfl, KS.at C hS hU hW, by rw [hU]; exact hP⟩⟩ rfl hn rfl hst (lv_room hroom) hdg ⟨by simpa using hf.1, by simpa using hf.2⟩
theorem cRunX (C : CW g own p s m args) (hb : c.code = cc) (hml : c.maxLocals = ls.size) (hP : HW g S H) (hS : va_S (Ab g) s.heap H locs) {y : MethodName} {bytes : ByteArray} {maxL index n : Nat} {ret : Option FieldType} {rm : Room} {As : List Value} {Qc : Array Value → State → Outcome → State → Prop} {free : Addr → Prop} (hy : y.cls = RX0)
    (hM : Met l y (wA y bytes maxL ret) rm (PW g S (.ref (gA g 0) :: As)) Qc 0 0 free) (k1 : Cond.methodLink own index y ∈ WA) (k2 : Cond.instanceMethod y ∈ WA) (k5 : Cond.selects y.cls y y ∈ WA) (k3 : Cond.code y bytes maxL ret ∈ WA) (k4 : Cond.initialized y.cls ∈ WA)
    (hd : y.cls ≠ "java/lang/invoke/MethodHandle" ∧ y.cls ≠ "java/lang/invoke/VarHandle" ∧ (parseMethodDescriptor y.desc).map (fun d => d.parameters.length) = some n) (hn : As.length = n) (hR : rm.cells = 0 ∧ rm.slots = 0 ∧ rm.frames + 1 ≤ R.frames ∧ 8 + (maxL + 11) + rm.locals ≤ R.locals)
    (hroom : (rest.map fun v => v.category).sum ≤ 8) (hst : st0 = As.reverse ++ .ref (gA g 0) :: rest) (hf : cells ≤ R.cells ∧ slots ≤ R.slots) (hdg : decode cc pc = .ok (.invokevirtual index, 3)) : va_Run p l e R s m args below meth c H locs cells slots 0 0 (F0 m pc ls st0) rest (Qc (Value.ref (gA g 0) :: As).toArray) free :=
  cRunV C hb hml hP hS (q0 := 0) (ci := 0) rfl rfl hy hM k1 k2 k5 k3 k4 hd hn hR hroom hst hf hdg
theorem toI {x y : Int32} (h : x = y) (kk : W p l e R s m args below meth c H locs cells slots Q (F0 m pc ls (.int y :: rest))) : W p l e R s m args below meth c H locs cells slots Q (F0 m pc ls (.int x :: rest)) := by
  subst h; exact kk
theorem toL {x y : Int64} (h : x = y) (kk : W p l e R s m args below meth c H locs cells slots Q (F0 m pc ls (.long y :: rest))) : W p l e R s m args below meth c H locs cells slots Q (F0 m pc ls (.long x :: rest)) := by
  subst h; exact kk
theorem bz_eq (C : CW g own p s m args) (hb : c.code = cc) {b : Bool} {off : Int} {tgt : Nat} (hdg : decode cc pc = .ok (.ifCond .eq off, 3)) (ht : (pc : Int) + off = (tgt : Int)) (kt : b = false → W p l e R s m args below meth c H locs cells slots Q (F0 m tgt ls rest)) (kf : b = true → W p l e R s m args below meth c H locs cells slots Q (F0 m (pc + 3) ls rest)) : W p l e R s m args below meth c H locs cells slots Q (F0 m pc ls (.int (bI b) :: rest)) :=
  lv_if_eq C.1 hb hdg ht (fun h => kt ((bI_0 b).mp h)) (fun h => kf (by cases b; exact absurd rfl h; rfl))
theorem bz_ne (C : CW g own p s m args) (hb : c.code = cc) {b : Bool} {off : Int} {tgt : Nat} (hdg : decode cc pc = .ok (.ifCond .ne off, 3)) (ht : (pc : Int) + off = (tgt : Int)) (kt : b = true → W p l e R s m args below meth c H locs cells slots Q (F0 m tgt ls rest)) (kf : b = false → W p l e R s m args below meth c H locs cells slots Q (F0 m (pc + 3) ls rest)) : W p l e R s m args below meth c H locs cells slots Q (F0 m pc ls (.int (bI b) :: rest)) :=
  lv_if_ne C.1 hb hdg ht (fun h => kt (by cases b; exact absurd rfl h; rfl)) (fun h => kf ((bI_0 b).mp h))
/-- ends of a method that made cells -/
theorem weI {mc ms : Nat} (hcm : cells ≤ mc) (hsm : slots ≤ ms) (C : CW g own p s m args) (hb : c.code = cc) (hr : meth.sig.returnType = some .int) (hlk : meth.locks = false) (hP : HW g S H) (hS : va_S (Ab g) s.heap H locs) {v v' : Int32} (hdg : decode cc pc = .ok (.ireturn, 1)) (hv : v' = v) (hE : S = S') : W p l e R s m args below meth c H locs cells slots (MQ below (WQ g S' (some (.int v))) args s mc ms (Ab g)) (F0 m pc ls [.int v']) := by
  subst hv
  subst hE
  exact W.widen (k := mc) (n := ms) hcm hsm (W.iret C.1 hb hr (fun t ht _ => ⟨rfl, by rw [ht]; exact hP, hS.F ht⟩) hS.2.2 hdg hlk)
theorem weZ {mc ms : Nat} (hcm : cells ≤ mc) (hsm : slots ≤ ms) (C : CW g own p s m args) (hb : c.code = cc) (hr : meth.sig.returnType = some .boolean) (hlk : meth.locks = false) (hP : HW g S H) (hS : va_S (Ab g) s.heap H locs) {v' : Int32} {b : Bool} (hdg : decode cc pc = .ok (.ireturn, 1)) (hv : v' = bI b) (hE : S = S') : W p l e R s m args below meth c H locs cells slots (MQ below (WQ g S' (some (.int (bI b)))) args s mc ms (Ab g)) (F0 m pc ls [.int v']) := by
  subst hv
  subst hE
  exact W.widen (k := mc) (n := ms) hcm hsm (W.zret C.1 hb hr (bI_nar b) (fun t ht _ => ⟨rfl, by rw [ht]; exact hP, hS.F ht⟩) hS.2.2 hdg hlk)
theorem weL {mc ms : Nat} (hcm : cells ≤ mc) (hsm : slots ≤ ms) (C : CW g own p s m args) (hb : c.code = cc) (hr : meth.sig.returnType = some .long) (hlk : meth.locks = false) (hP : HW g S H) (hS : va_S (Ab g) s.heap H locs) {v v' : Int64} (hdg : decode cc pc = .ok (.lreturn, 1)) (hv : v' = v) (hE : S = S') : W p l e R s m args below meth c H locs cells slots (MQ below (WQ g S' (some (.long v))) args s mc ms (Ab g)) (F0 m pc ls [.long v']) := by
  subst hv
  subst hE
  exact W.widen (k := mc) (n := ms) hcm hsm (W.lret C.1 hb hr (fun t ht _ => ⟨rfl, by rw [ht]; exact hP, hS.F ht⟩) hS.2.2 hdg hlk)
/-- a call of a method that makes cells -/
theorem run_wc {mc ms : Nat} {a : Array Value} {v : Option Value} (hr : va_Run p l e R s m args below meth c H locs cells slots mc ms (F0 m pc ls st0) rest (WQ g S' v a) (Ab g)) (hS : va_S (Ab g) s.heap H locs) (kk : ∀ (H1 : Heap) (locs1 : List Loc), HW g S' H1 → va_S (Ab g) s.heap H1 locs1 → W p l e R s m args below meth c H1 locs1 (cells + mc) (slots + ms) Q (F0 m (pc + 3) ls (v.toList ++ rest))) : W p l e R s m args below meth c H locs cells slots Q (F0 m pc ls st0) := by
  intro T hT X
  obtain ⟨v', st₀, t, T', L, h0, X', hL, e1, e2, ⟨hv, hp, hz, hk⟩, st⟩ := hr T hT X
  cases hv
  rw [h0] at hz hk
  obtain ⟨t2, a1, b1⟩ := kk T'.heap (locs ++ L) (by rw [e1]; exact hp) ⟨Nat.le_trans hS.1 (by rw [e1]; exact hz), fun q h1 h2 => by rw [e1, hk q (Nat.lt_of_lt_of_le h1 hS.1) h2]; exact hS.2.1 q h1 h2, fun q hq => (List.mem_append.mp hq).elim (hS.2.2 q) (fun h => hL q h)⟩ T' rfl X'
  exact ⟨t2, st t2 a1, b1⟩
theorem cRunC (C : CW g own p s m args) (hb : c.code = cc) (hml : c.maxLocals = ls.size) (hP : HW g S H) (hS : va_S (Ab g) s.heap H locs) {y : MethodName} {bytes : ByteArray} {maxL index n mc ms : Nat} {ret : Option FieldType} {rm : Room} {As : List Value} {Qc : Array Value → State → Outcome → State → Prop} {free : Addr → Prop}
    (hM : Met l y (wA y bytes maxL ret) rm (PW g S As) Qc mc ms free) (k1 : Cond.methodLink own index y ∈ WA) (k2 : Cond.static y ∈ WA) (k3 : Cond.code y bytes maxL ret ∈ WA) (k4 : Cond.initialized y.cls ∈ WA)
    (hd : y.cls ≠ "java/lang/invoke/MethodHandle" ∧ y.cls ≠ "java/lang/invoke/VarHandle" ∧ (parseMethodDescriptor y.desc).map (fun d => d.parameters.length) = some n) (hn : As.length = n) (hR : rm.cells = mc ∧ rm.slots = ms ∧ rm.frames + 1 ≤ R.frames ∧ 8 + (maxL + 11) + rm.locals ≤ R.locals)
    (hroom : (rest.map fun v => v.category).sum ≤ 8) (hst : st0 = As.reverse ++ rest) (hf : cells + mc ≤ R.cells ∧ slots + ms ≤ R.slots) (hdg : decode cc pc = .ok (.invokestatic index, 3)) : va_Run p l e R s m args below meth c H locs cells slots mc ms (F0 m pc ls st0) rest (Qc As.toArray) free :=
  va_runS (Ts := WA) (own := own) ⟨C.1, hb, hml, C.2.1, C.2.2.1⟩ hM ⟨callB_of n C.2.2.1 (wA_in k3) rfl hR.1 hR.2.1 (C.2.2.1 _ k4) (C.2.2.1 _ k1) hd hR.2.2, C.2.2.1 _ k2⟩ ⟨PW.blind g S As, fun U hU hW => ⟨rfl, KS.at C hS hU hW, by rw [hU]; exact hP⟩⟩ rfl hn rfl hst (lv_room hroom) hdg hf
/-- the making of arrays -/
theorem nwL (C : CW g own p s m args) (hb : c.code = cc) (hAb : gS0 g ≤ s.heap.size) {X : XS} {L : LAr} {E : va_W} (hP : HW g (X, L, E) H) (hS : va_S (Ab g) s.heap H locs) (hc : cells + 1 ≤ R.cells) (hs : slots + 4 ≤ R.slots) (hdg : decode cc pc = .ok (.newarray .long, 2)) (kk : ∀ (q : Nat) (H1 : Heap), HW g (X, L, E ++ [eL g q (fun _ => 0)]) H1 → va_S (Ab g) s.heap H1 locs → W p l e R s m args below meth c H1 locs (cells + 1) (slots + 4) Q (F0 m (pc + 2) ls (.ref q :: rest))) : W p l e R s m args below meth c H locs cells slots Q (F0 m pc ls (.int 4 :: rest)) := by
  refine va_newa (atype := .long) (ty := .long) (N' := 4) (a0 := (4, .inr (.inl (fun _ => 0)))) C.1 hb (C.2.2.1 _ wm_24) rfl C.2.2.2.1 hP.1 hP.2 hS (fun q h => Nat.le_trans hAb h) (fun _ => rfl) (by decide) (by decide) (Nat.le_of_ble_eq_true rfl) hc hs hdg (fun q cA H1 hK2 hP1 hD1 hS1 => ?_)
  have ec : cA = gT g 1 := ra_same hK2 4 1 rfl rfl (fun _ _ => rfl)
  subst ec
  exact kk q H1 ⟨hP1, hD1⟩ hS1
theorem nwI (C : CW g own p s m args) (hb : c.code = cc) (hAb : gS0 g ≤ s.heap.size) {X : XS} {L : LAr} {E : va_W} (hP : HW g (X, L, E) H) (hS : va_S (Ab g) s.heap H locs) (hc : cells + 1 ≤ R.cells) (hs : slots + 4 ≤ R.slots) (hdg : decode cc pc = .ok (.newarray .int, 2)) (kk : ∀ (q : Nat) (H1 : Heap), HW g (X, L, E ++ [eI g q (fun _ => 0)]) H1 → va_S (Ab g) s.heap H1 locs → W p l e R s m args below meth c H1 locs (cells + 1) (slots + 4) Q (F0 m (pc + 2) ls (.ref q :: rest))) : W p l e R s m args below meth c H locs cells slots Q (F0 m pc ls (.int 4 :: rest)) := by
  refine va_newa (atype := .int) (ty := .int) (N' := 4) (a0 := (4, .inl (fun _ => 0))) C.1 hb (C.2.2.1 _ wm_13) rfl C.2.2.2.1 hP.1 hP.2 hS (fun q h => Nat.le_trans hAb h) (fun _ => rfl) (by decide) (by decide) (Nat.le_of_ble_eq_true rfl) hc hs hdg (fun q cA H1 hK2 hP1 hD1 hS1 => ?_)
  have ec : cA = gT g 0 := ra_same hK2 4 0 rfl rfl (fun _ _ => rfl)
  subst ec
  exact kk q H1 ⟨hP1, hD1⟩ hS1
end WCALLS
end
section
theorem dX0_init_0 : decode cX0_init 0 = .ok (.aload_n 0, 1) := by decide +kernel
theorem dX0_init_1 : decode cX0_init 1 = .ok (.invokespecial 1, 3) := by decide +kernel
theorem dX0_init_4 : decode cX0_init 4 = .ok (.aload_n 0, 1) := by decide +kernel
theorem dX0_init_5 : decode cX0_init 5 = .ok (.iconst 3, 1) := by decide +kernel
theorem dX0_init_6 : decode cX0_init 6 = .ok (.iconst 4, 1) := by decide +kernel
theorem dX0_init_7 : decode cX0_init 7 = .ok (.multianewarray 9 2, 4) := by decide +kernel
theorem dX0_init_11 : decode cX0_init 11 = .ok (.putfield 11, 3) := by decide +kernel
theorem dX0_init_14 : decode cX0_init 14 = .ok (.aload_n 0, 1) := by decide +kernel
theorem dX0_init_15 : decode cX0_init 15 = .ok (.iconst 3, 1) := by decide +kernel
theorem dX0_init_16 : decode cX0_init 16 = .ok (.bipush 40, 2) := by decide +kernel
theorem dX0_init_18 : decode cX0_init 18 = .ok (.multianewarray 9 2, 4) := by decide +kernel
theorem dX0_init_22 : decode cX0_init 22 = .ok (.putfield 14, 3) := by decide +kernel
theorem dX0_init_25 : decode cX0_init 25 = .ok (.aload_n 0, 1) := by decide +kernel
theorem dX0_init_26 : decode cX0_init 26 = .ok (.bipush 40, 2) := by decide +kernel
theorem dX0_init_28 : decode cX0_init 28 = .ok (.newarray .long, 2) := by decide +kernel
theorem dX0_init_30 : decode cX0_init 30 = .ok (.putfield 17, 3) := by decide +kernel
theorem dX0_init_33 : decode cX0_init 33 = .ok (.aload_n 0, 1) := by decide +kernel
theorem dX0_init_34 : decode cX0_init 34 = .ok (.bipush 40, 2) := by decide +kernel
theorem dX0_init_36 : decode cX0_init 36 = .ok (.newarray .long, 2) := by decide +kernel
theorem dX0_init_38 : decode cX0_init 38 = .ok (.putfield 21, 3) := by decide +kernel
theorem dX0_init_41 : decode cX0_init 41 = .ok (.aload_n 0, 1) := by decide +kernel
theorem dX0_init_42 : decode cX0_init 42 = .ok (.bipush 40, 2) := by decide +kernel
theorem dX0_init_44 : decode cX0_init 44 = .ok (.newarray .long, 2) := by decide +kernel
theorem dX0_init_46 : decode cX0_init 46 = .ok (.putfield 24, 3) := by decide +kernel
theorem dX0_init_49 : decode cX0_init 49 = .ok (.aload_n 0, 1) := by decide +kernel
theorem dX0_init_50 : decode cX0_init 50 = .ok (.bipush 40, 2) := by decide +kernel
theorem dX0_init_52 : decode cX0_init 52 = .ok (.newarray .int, 2) := by decide +kernel
theorem dX0_init_54 : decode cX0_init 54 = .ok (.putfield 27, 3) := by decide +kernel
theorem dX0_init_57 : decode cX0_init 57 = .ok (.aload_n 0, 1) := by decide +kernel
theorem dX0_init_58 : decode cX0_init 58 = .ok (.bipush 40, 2) := by decide +kernel
theorem dX0_init_60 : decode cX0_init 60 = .ok (.newarray .boolean, 2) := by decide +kernel
theorem dX0_init_62 : decode cX0_init 62 = .ok (.putfield 31, 3) := by decide +kernel
theorem dX0_init_65 : decode cX0_init 65 = .ok (.aload_n 0, 1) := by decide +kernel
theorem dX0_init_66 : decode cX0_init 66 = .ok (.iconst 0, 1) := by decide +kernel
theorem dX0_init_67 : decode cX0_init 67 = .ok (.putfield 35, 3) := by decide +kernel
theorem dX0_init_70 : decode cX0_init 70 = .ok (.aload_n 0, 1) := by decide +kernel
theorem dX0_init_71 : decode cX0_init 71 = .ok (.iconst 0, 1) := by decide +kernel
theorem dX0_init_72 : decode cX0_init 72 = .ok (.putfield 39, 3) := by decide +kernel
theorem dX0_init_75 : decode cX0_init 75 = .ok (.aload_n 0, 1) := by decide +kernel
theorem dX0_init_76 : decode cX0_init 76 = .ok (.iconst 0, 1) := by decide +kernel
theorem dX0_init_77 : decode cX0_init 77 = .ok (.putfield 42, 3) := by decide +kernel
theorem dX0_init_80 : decode cX0_init 80 = .ok (.aload_n 0, 1) := by decide +kernel
theorem dX0_init_81 : decode cX0_init 81 = .ok (.iconst (-1), 1) := by decide +kernel
theorem dX0_init_82 : decode cX0_init 82 = .ok (.putfield 45, 3) := by decide +kernel
theorem dX0_init_85 : decode cX0_init 85 = .ok (.aload_n 0, 1) := by decide +kernel
theorem dX0_init_86 : decode cX0_init 86 = .ok (.sipush 10000, 3) := by decide +kernel
theorem dX0_init_89 : decode cX0_init 89 = .ok (.putfield 48, 3) := by decide +kernel
theorem dX0_init_92 : decode cX0_init 92 = .ok (.aload_n 0, 1) := by decide +kernel
theorem dX0_init_93 : decode cX0_init 93 = .ok (.lconst 0, 1) := by decide +kernel
theorem dX0_init_94 : decode cX0_init 94 = .ok (.putfield 51, 3) := by decide +kernel
theorem dX0_init_97 : decode cX0_init 97 = .ok (.aload_n 0, 1) := by decide +kernel
theorem dX0_init_98 : decode cX0_init 98 = .ok (.bipush 40, 2) := by decide +kernel
theorem dX0_init_100 : decode cX0_init 100 = .ok (.newarray .long, 2) := by decide +kernel
theorem dX0_init_102 : decode cX0_init 102 = .ok (.putfield 55, 3) := by decide +kernel
theorem dX0_init_105 : decode cX0_init 105 = .ok (.aload_n 0, 1) := by decide +kernel
theorem dX0_init_106 : decode cX0_init 106 = .ok (.iconst 4, 1) := by decide +kernel
theorem dX0_init_107 : decode cX0_init 107 = .ok (.newarray .int, 2) := by decide +kernel
theorem dX0_init_109 : decode cX0_init 109 = .ok (.putfield 58, 3) := by decide +kernel
theorem dX0_init_112 : decode cX0_init 112 = .ok (.aload_n 0, 1) := by decide +kernel
theorem dX0_init_113 : decode cX0_init 113 = .ok (.iconst 4, 1) := by decide +kernel
theorem dX0_init_114 : decode cX0_init 114 = .ok (.newarray .int, 2) := by decide +kernel
theorem dX0_init_116 : decode cX0_init 116 = .ok (.putfield 61, 3) := by decide +kernel
theorem dX0_init_119 : decode cX0_init 119 = .ok (.iconst 0, 1) := by decide +kernel
theorem dX0_init_120 : decode cX0_init 120 = .ok (.istore_n 1, 1) := by decide +kernel
theorem dX0_init_121 : decode cX0_init 121 = .ok (.iload_n 1, 1) := by decide +kernel
theorem dX0_init_122 : decode cX0_init 122 = .ok (.iconst 3, 1) := by decide +kernel
theorem dX0_init_123 : decode cX0_init 123 = .ok (.if_icmp .ge 21, 3) := by decide +kernel
theorem dX0_init_126 : decode cX0_init 126 = .ok (.aload_n 0, 1) := by decide +kernel
theorem dX0_init_127 : decode cX0_init 127 = .ok (.getfield 11, 3) := by decide +kernel
theorem dX0_init_130 : decode cX0_init 130 = .ok (.iload_n 1, 1) := by decide +kernel
theorem dX0_init_131 : decode cX0_init 131 = .ok (.aaload, 1) := by decide +kernel
theorem dX0_init_132 : decode cX0_init 132 = .ok (.sipush 10000, 3) := by decide +kernel
theorem dX0_init_135 : decode cX0_init 135 = .ok (.invokestatic 64, 3) := by decide +kernel
theorem dX0_init_138 : decode cX0_init 138 = .ok (.iinc 1 1, 3) := by decide +kernel
theorem dX0_init_141 : decode cX0_init 141 = .ok (.goto (-20), 3) := by decide +kernel
theorem dX0_init_144 : decode cX0_init 144 = .ok (.return_, 1) := by decide +kernel
theorem dX0_add_0 : decode cX0_add 0 = .ok (.iconst 0, 1) := by decide +kernel
theorem dX0_add_1 : decode cX0_add 1 = .ok (.iload_n 1, 1) := by decide +kernel
theorem dX0_add_2 : decode cX0_add 2 = .ok (.invokestatic 70, 3) := by decide +kernel
theorem dX0_add_5 : decode cX0_add 5 = .ok (.ifCond .eq 19, 3) := by decide +kernel
theorem dX0_add_8 : decode cX0_add 8 = .ok (.iconst 1, 1) := by decide +kernel
theorem dX0_add_9 : decode cX0_add 9 = .ok (.iload_n 2, 1) := by decide +kernel
theorem dX0_add_10 : decode cX0_add 10 = .ok (.invokestatic 70, 3) := by decide +kernel
theorem dX0_add_13 : decode cX0_add 13 = .ok (.ifCond .eq 11, 3) := by decide +kernel
theorem dX0_add_16 : decode cX0_add 16 = .ok (.iconst 2, 1) := by decide +kernel
theorem dX0_add_17 : decode cX0_add 17 = .ok (.iload_n 3, 1) := by decide +kernel
theorem dX0_add_18 : decode cX0_add 18 = .ok (.invokestatic 70, 3) := by decide +kernel
theorem dX0_add_21 : decode cX0_add 21 = .ok (.ifCond .ne 13, 3) := by decide +kernel
theorem dX0_add_24 : decode cX0_add 24 = .ok (.new 74, 3) := by decide +kernel
theorem dX0_add_27 : decode cX0_add 27 = .ok (.dup, 1) := by decide +kernel
theorem dX0_add_28 : decode cX0_add 28 = .ok (.ldc 76, 2) := by decide +kernel
theorem dX0_add_30 : decode cX0_add 30 = .ok (.invokespecial 78, 3) := by decide +kernel
theorem dX0_add_33 : decode cX0_add 33 = .ok (.athrow, 1) := by decide +kernel
theorem dX0_add_34 : decode cX0_add 34 = .ok (.iload 4, 2) := by decide +kernel
theorem dX0_add_36 : decode cX0_add 36 = .ok (.iconst 1, 1) := by decide +kernel
theorem dX0_add_37 : decode cX0_add 37 = .ok (.sipush 1000, 3) := by decide +kernel
theorem dX0_add_40 : decode cX0_add 40 = .ok (.invokestatic 81, 3) := by decide +kernel
theorem dX0_add_43 : decode cX0_add 43 = .ok (.ifCond .eq 26, 3) := by decide +kernel
theorem dX0_add_46 : decode cX0_add 46 = .ok (.iload 5, 2) := by decide +kernel
theorem dX0_add_48 : decode cX0_add 48 = .ok (.iconst 0, 1) := by decide +kernel
theorem dX0_add_49 : decode cX0_add 49 = .ok (.sipush 1000, 3) := by decide +kernel
theorem dX0_add_52 : decode cX0_add 52 = .ok (.invokestatic 81, 3) := by decide +kernel
theorem dX0_add_55 : decode cX0_add 55 = .ok (.ifCond .eq 14, 3) := by decide +kernel
theorem dX0_add_58 : decode cX0_add 58 = .ok (.iload 6, 2) := by decide +kernel
theorem dX0_add_60 : decode cX0_add 60 = .ok (.iconst 0, 1) := by decide +kernel
theorem dX0_add_61 : decode cX0_add 61 = .ok (.ldc 85, 2) := by decide +kernel
theorem dX0_add_63 : decode cX0_add 63 = .ok (.invokestatic 81, 3) := by decide +kernel
theorem dX0_add_66 : decode cX0_add 66 = .ok (.ifCond .ne 13, 3) := by decide +kernel
theorem dX0_add_69 : decode cX0_add 69 = .ok (.new 74, 3) := by decide +kernel
theorem dX0_add_72 : decode cX0_add 72 = .ok (.dup, 1) := by decide +kernel
theorem dX0_add_73 : decode cX0_add 73 = .ok (.ldc 86, 2) := by decide +kernel
theorem dX0_add_75 : decode cX0_add 75 = .ok (.invokespecial 78, 3) := by decide +kernel
theorem dX0_add_78 : decode cX0_add 78 = .ok (.athrow, 1) := by decide +kernel
theorem dX0_add_79 : decode cX0_add 79 = .ok (.aload_n 0, 1) := by decide +kernel
theorem dX0_add_80 : decode cX0_add 80 = .ok (.getfield 35, 3) := by decide +kernel
theorem dX0_add_83 : decode cX0_add 83 = .ok (.bipush 40, 2) := by decide +kernel
theorem dX0_add_85 : decode cX0_add 85 = .ok (.if_icmp .lt 13, 3) := by decide +kernel
theorem dX0_add_88 : decode cX0_add 88 = .ok (.new 88, 3) := by decide +kernel
theorem dX0_add_91 : decode cX0_add 91 = .ok (.dup, 1) := by decide +kernel
theorem dX0_add_92 : decode cX0_add 92 = .ok (.ldc 90, 2) := by decide +kernel
theorem dX0_add_94 : decode cX0_add 94 = .ok (.invokespecial 92, 3) := by decide +kernel
theorem dX0_add_97 : decode cX0_add 97 = .ok (.athrow, 1) := by decide +kernel
theorem dX0_add_98 : decode cX0_add 98 = .ok (.aload_n 0, 1) := by decide +kernel
theorem dX0_add_99 : decode cX0_add 99 = .ok (.getfield 35, 3) := by decide +kernel
theorem dX0_add_102 : decode cX0_add 102 = .ok (.istore 7, 2) := by decide +kernel
theorem dX0_add_104 : decode cX0_add 104 = .ok (.aload_n 0, 1) := by decide +kernel
theorem dX0_add_105 : decode cX0_add 105 = .ok (.getfield 14, 3) := by decide +kernel
theorem dX0_add_108 : decode cX0_add 108 = .ok (.iconst 0, 1) := by decide +kernel
theorem dX0_add_109 : decode cX0_add 109 = .ok (.aaload, 1) := by decide +kernel
theorem dX0_add_110 : decode cX0_add 110 = .ok (.iload 7, 2) := by decide +kernel
theorem dX0_add_112 : decode cX0_add 112 = .ok (.iload_n 1, 1) := by decide +kernel
theorem dX0_add_113 : decode cX0_add 113 = .ok (.iastore, 1) := by decide +kernel
theorem dX0_add_114 : decode cX0_add 114 = .ok (.aload_n 0, 1) := by decide +kernel
theorem dX0_add_115 : decode cX0_add 115 = .ok (.getfield 14, 3) := by decide +kernel
theorem dX0_add_118 : decode cX0_add 118 = .ok (.iconst 1, 1) := by decide +kernel
theorem dX0_add_119 : decode cX0_add 119 = .ok (.aaload, 1) := by decide +kernel
theorem dX0_add_120 : decode cX0_add 120 = .ok (.iload 7, 2) := by decide +kernel
theorem dX0_add_122 : decode cX0_add 122 = .ok (.iload_n 2, 1) := by decide +kernel
theorem dX0_add_123 : decode cX0_add 123 = .ok (.iastore, 1) := by decide +kernel
theorem dX0_add_124 : decode cX0_add 124 = .ok (.aload_n 0, 1) := by decide +kernel
theorem dX0_add_125 : decode cX0_add 125 = .ok (.getfield 14, 3) := by decide +kernel
theorem dX0_add_128 : decode cX0_add 128 = .ok (.iconst 2, 1) := by decide +kernel
theorem dX0_add_129 : decode cX0_add 129 = .ok (.aaload, 1) := by decide +kernel
theorem dX0_add_130 : decode cX0_add 130 = .ok (.iload 7, 2) := by decide +kernel
theorem dX0_add_132 : decode cX0_add 132 = .ok (.iload_n 3, 1) := by decide +kernel
theorem dX0_add_133 : decode cX0_add 133 = .ok (.iastore, 1) := by decide +kernel
theorem dX0_add_134 : decode cX0_add 134 = .ok (.aload_n 0, 1) := by decide +kernel
theorem dX0_add_135 : decode cX0_add 135 = .ok (.getfield 17, 3) := by decide +kernel
theorem dX0_add_138 : decode cX0_add 138 = .ok (.iload 7, 2) := by decide +kernel
theorem dX0_add_140 : decode cX0_add 140 = .ok (.iload 4, 2) := by decide +kernel
theorem dX0_add_142 : decode cX0_add 142 = .ok (.i2l, 1) := by decide +kernel
theorem dX0_add_143 : decode cX0_add 143 = .ok (.lastore, 1) := by decide +kernel
theorem dX0_add_144 : decode cX0_add 144 = .ok (.aload_n 0, 1) := by decide +kernel
theorem dX0_add_145 : decode cX0_add 145 = .ok (.getfield 21, 3) := by decide +kernel
theorem dX0_add_148 : decode cX0_add 148 = .ok (.iload 7, 2) := by decide +kernel
theorem dX0_add_150 : decode cX0_add 150 = .ok (.iload 5, 2) := by decide +kernel
theorem dX0_add_152 : decode cX0_add 152 = .ok (.i2l, 1) := by decide +kernel
theorem dX0_add_153 : decode cX0_add 153 = .ok (.lastore, 1) := by decide +kernel
theorem dX0_add_154 : decode cX0_add 154 = .ok (.aload_n 0, 1) := by decide +kernel
theorem dX0_add_155 : decode cX0_add 155 = .ok (.getfield 24, 3) := by decide +kernel
theorem dX0_add_158 : decode cX0_add 158 = .ok (.iload 7, 2) := by decide +kernel
theorem dX0_add_160 : decode cX0_add 160 = .ok (.iload 6, 2) := by decide +kernel
theorem dX0_add_162 : decode cX0_add 162 = .ok (.i2l, 1) := by decide +kernel
theorem dX0_add_163 : decode cX0_add 163 = .ok (.lastore, 1) := by decide +kernel
theorem dX0_add_164 : decode cX0_add 164 = .ok (.aload_n 0, 1) := by decide +kernel
theorem dX0_add_165 : decode cX0_add 165 = .ok (.getfield 27, 3) := by decide +kernel
theorem dX0_add_168 : decode cX0_add 168 = .ok (.iload 7, 2) := by decide +kernel
theorem dX0_add_170 : decode cX0_add 170 = .ok (.iconst (-1), 1) := by decide +kernel
theorem dX0_add_171 : decode cX0_add 171 = .ok (.iastore, 1) := by decide +kernel
theorem dX0_add_172 : decode cX0_add 172 = .ok (.aload_n 0, 1) := by decide +kernel
theorem dX0_add_173 : decode cX0_add 173 = .ok (.getfield 31, 3) := by decide +kernel
theorem dX0_add_176 : decode cX0_add 176 = .ok (.iload 7, 2) := by decide +kernel
theorem dX0_add_178 : decode cX0_add 178 = .ok (.iconst 1, 1) := by decide +kernel
theorem dX0_add_179 : decode cX0_add 179 = .ok (.bastore, 1) := by decide +kernel
theorem dX0_add_180 : decode cX0_add 180 = .ok (.aload_n 0, 1) := by decide +kernel
theorem dX0_add_181 : decode cX0_add 181 = .ok (.dup, 1) := by decide +kernel
theorem dX0_add_182 : decode cX0_add 182 = .ok (.getfield 35, 3) := by decide +kernel
theorem dX0_add_185 : decode cX0_add 185 = .ok (.iconst 1, 1) := by decide +kernel
theorem dX0_add_186 : decode cX0_add 186 = .ok (.iadd, 1) := by decide +kernel
theorem dX0_add_187 : decode cX0_add 187 = .ok (.putfield 35, 3) := by decide +kernel
theorem dX0_add_190 : decode cX0_add 190 = .ok (.aload_n 0, 1) := by decide +kernel
theorem dX0_add_191 : decode cX0_add 191 = .ok (.dup, 1) := by decide +kernel
theorem dX0_add_192 : decode cX0_add 192 = .ok (.getfield 39, 3) := by decide +kernel
theorem dX0_add_195 : decode cX0_add 195 = .ok (.iconst 1, 1) := by decide +kernel
theorem dX0_add_196 : decode cX0_add 196 = .ok (.iadd, 1) := by decide +kernel
theorem dX0_add_197 : decode cX0_add 197 = .ok (.putfield 39, 3) := by decide +kernel
theorem dX0_add_200 : decode cX0_add 200 = .ok (.aload_n 0, 1) := by decide +kernel
theorem dX0_add_201 : decode cX0_add 201 = .ok (.invokevirtual 93, 3) := by decide +kernel
theorem dX0_add_204 : decode cX0_add 204 = .ok (.iload 7, 2) := by decide +kernel
theorem dX0_add_206 : decode cX0_add 206 = .ok (.ireturn, 1) := by decide +kernel
theorem dX0_withdraw_0 : decode cX0_withdraw 0 = .ok (.aload_n 0, 1) := by decide +kernel
theorem dX0_withdraw_1 : decode cX0_withdraw 1 = .ok (.iload_n 1, 1) := by decide +kernel
theorem dX0_withdraw_2 : decode cX0_withdraw 2 = .ok (.invokevirtual 96, 3) := by decide +kernel
theorem dX0_withdraw_5 : decode cX0_withdraw 5 = .ok (.ifCond .ne 13, 3) := by decide +kernel
theorem dX0_withdraw_8 : decode cX0_withdraw 8 = .ok (.new 100, 3) := by decide +kernel
theorem dX0_withdraw_11 : decode cX0_withdraw 11 = .ok (.dup, 1) := by decide +kernel
theorem dX0_withdraw_12 : decode cX0_withdraw 12 = .ok (.ldc 102, 2) := by decide +kernel
theorem dX0_withdraw_14 : decode cX0_withdraw 14 = .ok (.invokespecial 104, 3) := by decide +kernel
theorem dX0_withdraw_17 : decode cX0_withdraw 17 = .ok (.athrow, 1) := by decide +kernel
theorem dX0_withdraw_18 : decode cX0_withdraw 18 = .ok (.aload_n 0, 1) := by decide +kernel
theorem dX0_withdraw_19 : decode cX0_withdraw 19 = .ok (.getfield 31, 3) := by decide +kernel
theorem dX0_withdraw_22 : decode cX0_withdraw 22 = .ok (.iload_n 1, 1) := by decide +kernel
theorem dX0_withdraw_23 : decode cX0_withdraw 23 = .ok (.iconst 0, 1) := by decide +kernel
theorem dX0_withdraw_24 : decode cX0_withdraw 24 = .ok (.bastore, 1) := by decide +kernel
theorem dX0_withdraw_25 : decode cX0_withdraw 25 = .ok (.aload_n 0, 1) := by decide +kernel
theorem dX0_withdraw_26 : decode cX0_withdraw 26 = .ok (.dup, 1) := by decide +kernel
theorem dX0_withdraw_27 : decode cX0_withdraw 27 = .ok (.getfield 39, 3) := by decide +kernel
theorem dX0_withdraw_30 : decode cX0_withdraw 30 = .ok (.iconst 1, 1) := by decide +kernel
theorem dX0_withdraw_31 : decode cX0_withdraw 31 = .ok (.isub, 1) := by decide +kernel
theorem dX0_withdraw_32 : decode cX0_withdraw 32 = .ok (.putfield 39, 3) := by decide +kernel
theorem dX0_withdraw_35 : decode cX0_withdraw 35 = .ok (.aload_n 0, 1) := by decide +kernel
theorem dX0_withdraw_36 : decode cX0_withdraw 36 = .ok (.invokevirtual 93, 3) := by decide +kernel
theorem dX0_withdraw_39 : decode cX0_withdraw 39 = .ok (.aload_n 0, 1) := by decide +kernel
theorem dX0_withdraw_40 : decode cX0_withdraw 40 = .ok (.getfield 39, 3) := by decide +kernel
theorem dX0_withdraw_43 : decode cX0_withdraw 43 = .ok (.ireturn, 1) := by decide +kernel
theorem dX0_setOld_0 : decode cX0_setOld 0 = .ok (.aload_n 0, 1) := by decide +kernel
theorem dX0_setOld_1 : decode cX0_setOld 1 = .ok (.iload_n 1, 1) := by decide +kernel
theorem dX0_setOld_2 : decode cX0_setOld 2 = .ok (.invokevirtual 96, 3) := by decide +kernel
theorem dX0_setOld_5 : decode cX0_setOld 5 = .ok (.ifCond .ne 13, 3) := by decide +kernel
theorem dX0_setOld_8 : decode cX0_setOld 8 = .ok (.new 100, 3) := by decide +kernel
theorem dX0_setOld_11 : decode cX0_setOld 11 = .ok (.dup, 1) := by decide +kernel
theorem dX0_setOld_12 : decode cX0_setOld 12 = .ok (.ldc 102, 2) := by decide +kernel
theorem dX0_setOld_14 : decode cX0_setOld 14 = .ok (.invokespecial 104, 3) := by decide +kernel
theorem dX0_setOld_17 : decode cX0_setOld 17 = .ok (.athrow, 1) := by decide +kernel
theorem dX0_setOld_18 : decode cX0_setOld 18 = .ok (.iload_n 2, 1) := by decide +kernel
theorem dX0_setOld_19 : decode cX0_setOld 19 = .ok (.iconst (-1), 1) := by decide +kernel
theorem dX0_setOld_20 : decode cX0_setOld 20 = .ok (.if_icmp .eq 23, 3) := by decide +kernel
theorem dX0_setOld_23 : decode cX0_setOld 23 = .ok (.iload_n 2, 1) := by decide +kernel
theorem dX0_setOld_24 : decode cX0_setOld 24 = .ok (.iconst 0, 1) := by decide +kernel
theorem dX0_setOld_25 : decode cX0_setOld 25 = .ok (.ldc 105, 2) := by decide +kernel
theorem dX0_setOld_27 : decode cX0_setOld 27 = .ok (.invokestatic 81, 3) := by decide +kernel
theorem dX0_setOld_30 : decode cX0_setOld 30 = .ok (.ifCond .ne 13, 3) := by decide +kernel
theorem dX0_setOld_33 : decode cX0_setOld 33 = .ok (.new 74, 3) := by decide +kernel
theorem dX0_setOld_36 : decode cX0_setOld 36 = .ok (.dup, 1) := by decide +kernel
theorem dX0_setOld_37 : decode cX0_setOld 37 = .ok (.ldc 106, 2) := by decide +kernel
theorem dX0_setOld_39 : decode cX0_setOld 39 = .ok (.invokespecial 78, 3) := by decide +kernel
theorem dX0_setOld_42 : decode cX0_setOld 42 = .ok (.athrow, 1) := by decide +kernel
theorem dX0_setOld_43 : decode cX0_setOld 43 = .ok (.aload_n 0, 1) := by decide +kernel
theorem dX0_setOld_44 : decode cX0_setOld 44 = .ok (.getfield 27, 3) := by decide +kernel
theorem dX0_setOld_47 : decode cX0_setOld 47 = .ok (.iload_n 1, 1) := by decide +kernel
theorem dX0_setOld_48 : decode cX0_setOld 48 = .ok (.iaload, 1) := by decide +kernel
theorem dX0_setOld_49 : decode cX0_setOld 49 = .ok (.istore_n 3, 1) := by decide +kernel
theorem dX0_setOld_50 : decode cX0_setOld 50 = .ok (.aload_n 0, 1) := by decide +kernel
theorem dX0_setOld_51 : decode cX0_setOld 51 = .ok (.getfield 27, 3) := by decide +kernel
theorem dX0_setOld_54 : decode cX0_setOld 54 = .ok (.iload_n 1, 1) := by decide +kernel
theorem dX0_setOld_55 : decode cX0_setOld 55 = .ok (.iload_n 2, 1) := by decide +kernel
theorem dX0_setOld_56 : decode cX0_setOld 56 = .ok (.iastore, 1) := by decide +kernel
theorem dX0_setOld_57 : decode cX0_setOld 57 = .ok (.iload_n 3, 1) := by decide +kernel
theorem dX0_setOld_58 : decode cX0_setOld 58 = .ok (.ireturn, 1) := by decide +kernel
theorem dX0_setRules_0 : decode cX0_setRules 0 = .ok (.iload_n 1, 1) := by decide +kernel
theorem dX0_setRules_1 : decode cX0_setRules 1 = .ok (.iconst 0, 1) := by decide +kernel
theorem dX0_setRules_2 : decode cX0_setRules 2 = .ok (.sipush 1000, 3) := by decide +kernel
theorem dX0_setRules_5 : decode cX0_setRules 5 = .ok (.invokestatic 81, 3) := by decide +kernel
theorem dX0_setRules_8 : decode cX0_setRules 8 = .ok (.ifCond .ne 13, 3) := by decide +kernel
theorem dX0_setRules_11 : decode cX0_setRules 11 = .ok (.new 74, 3) := by decide +kernel
theorem dX0_setRules_14 : decode cX0_setRules 14 = .ok (.dup, 1) := by decide +kernel
theorem dX0_setRules_15 : decode cX0_setRules 15 = .ok (.ldc 108, 2) := by decide +kernel
theorem dX0_setRules_17 : decode cX0_setRules 17 = .ok (.invokespecial 78, 3) := by decide +kernel
theorem dX0_setRules_20 : decode cX0_setRules 20 = .ok (.athrow, 1) := by decide +kernel
theorem dX0_setRules_21 : decode cX0_setRules 21 = .ok (.iload_n 2, 1) := by decide +kernel
theorem dX0_setRules_22 : decode cX0_setRules 22 = .ok (.iconst (-1), 1) := by decide +kernel
theorem dX0_setRules_23 : decode cX0_setRules 23 = .ok (.if_icmp .eq 24, 3) := by decide +kernel
theorem dX0_setRules_26 : decode cX0_setRules 26 = .ok (.iload_n 2, 1) := by decide +kernel
theorem dX0_setRules_27 : decode cX0_setRules 27 = .ok (.iconst 0, 1) := by decide +kernel
theorem dX0_setRules_28 : decode cX0_setRules 28 = .ok (.sipush 1000, 3) := by decide +kernel
theorem dX0_setRules_31 : decode cX0_setRules 31 = .ok (.invokestatic 81, 3) := by decide +kernel
theorem dX0_setRules_34 : decode cX0_setRules 34 = .ok (.ifCond .ne 13, 3) := by decide +kernel
theorem dX0_setRules_37 : decode cX0_setRules 37 = .ok (.new 74, 3) := by decide +kernel
theorem dX0_setRules_40 : decode cX0_setRules 40 = .ok (.dup, 1) := by decide +kernel
theorem dX0_setRules_41 : decode cX0_setRules 41 = .ok (.ldc 110, 2) := by decide +kernel
theorem dX0_setRules_43 : decode cX0_setRules 43 = .ok (.invokespecial 78, 3) := by decide +kernel
theorem dX0_setRules_46 : decode cX0_setRules 46 = .ok (.athrow, 1) := by decide +kernel
theorem dX0_setRules_47 : decode cX0_setRules 47 = .ok (.aload_n 0, 1) := by decide +kernel
theorem dX0_setRules_48 : decode cX0_setRules 48 = .ok (.getfield 42, 3) := by decide +kernel
theorem dX0_setRules_51 : decode cX0_setRules 51 = .ok (.istore_n 3, 1) := by decide +kernel
theorem dX0_setRules_52 : decode cX0_setRules 52 = .ok (.aload_n 0, 1) := by decide +kernel
theorem dX0_setRules_53 : decode cX0_setRules 53 = .ok (.iload_n 1, 1) := by decide +kernel
theorem dX0_setRules_54 : decode cX0_setRules 54 = .ok (.putfield 42, 3) := by decide +kernel
theorem dX0_setRules_57 : decode cX0_setRules 57 = .ok (.aload_n 0, 1) := by decide +kernel
theorem dX0_setRules_58 : decode cX0_setRules 58 = .ok (.iload_n 2, 1) := by decide +kernel
theorem dX0_setRules_59 : decode cX0_setRules 59 = .ok (.putfield 45, 3) := by decide +kernel
theorem dX0_setRules_62 : decode cX0_setRules 62 = .ok (.iload_n 3, 1) := by decide +kernel
theorem dX0_setRules_63 : decode cX0_setRules 63 = .ok (.ireturn, 1) := by decide +kernel
theorem dX0_setFactor_0 : decode cX0_setFactor 0 = .ok (.iload_n 1, 1) := by decide +kernel
theorem dX0_setFactor_1 : decode cX0_setFactor 1 = .ok (.iload_n 2, 1) := by decide +kernel
theorem dX0_setFactor_2 : decode cX0_setFactor 2 = .ok (.invokestatic 70, 3) := by decide +kernel
theorem dX0_setFactor_5 : decode cX0_setFactor 5 = .ok (.ifCond .ne 13, 3) := by decide +kernel
theorem dX0_setFactor_8 : decode cX0_setFactor 8 = .ok (.new 100, 3) := by decide +kernel
theorem dX0_setFactor_11 : decode cX0_setFactor 11 = .ok (.dup, 1) := by decide +kernel
theorem dX0_setFactor_12 : decode cX0_setFactor 12 = .ok (.ldc 112, 2) := by decide +kernel
theorem dX0_setFactor_14 : decode cX0_setFactor 14 = .ok (.invokespecial 104, 3) := by decide +kernel
theorem dX0_setFactor_17 : decode cX0_setFactor 17 = .ok (.athrow, 1) := by decide +kernel
theorem dX0_setFactor_18 : decode cX0_setFactor 18 = .ok (.iload_n 3, 1) := by decide +kernel
theorem dX0_setFactor_19 : decode cX0_setFactor 19 = .ok (.bipush 100, 2) := by decide +kernel
theorem dX0_setFactor_21 : decode cX0_setFactor 21 = .ok (.ldc 114, 2) := by decide +kernel
theorem dX0_setFactor_23 : decode cX0_setFactor 23 = .ok (.invokestatic 81, 3) := by decide +kernel
theorem dX0_setFactor_26 : decode cX0_setFactor 26 = .ok (.ifCond .ne 13, 3) := by decide +kernel
theorem dX0_setFactor_29 : decode cX0_setFactor 29 = .ok (.new 74, 3) := by decide +kernel
theorem dX0_setFactor_32 : decode cX0_setFactor 32 = .ok (.dup, 1) := by decide +kernel
theorem dX0_setFactor_33 : decode cX0_setFactor 33 = .ok (.ldc 115, 2) := by decide +kernel
theorem dX0_setFactor_35 : decode cX0_setFactor 35 = .ok (.invokespecial 78, 3) := by decide +kernel
theorem dX0_setFactor_38 : decode cX0_setFactor 38 = .ok (.athrow, 1) := by decide +kernel
theorem dX0_setFactor_39 : decode cX0_setFactor 39 = .ok (.aload_n 0, 1) := by decide +kernel
theorem dX0_setFactor_40 : decode cX0_setFactor 40 = .ok (.getfield 11, 3) := by decide +kernel
theorem dX0_setFactor_43 : decode cX0_setFactor 43 = .ok (.iload_n 1, 1) := by decide +kernel
theorem dX0_setFactor_44 : decode cX0_setFactor 44 = .ok (.aaload, 1) := by decide +kernel
theorem dX0_setFactor_45 : decode cX0_setFactor 45 = .ok (.iload_n 2, 1) := by decide +kernel
theorem dX0_setFactor_46 : decode cX0_setFactor 46 = .ok (.iaload, 1) := by decide +kernel
theorem dX0_setFactor_47 : decode cX0_setFactor 47 = .ok (.istore 4, 2) := by decide +kernel
theorem dX0_setFactor_49 : decode cX0_setFactor 49 = .ok (.aload_n 0, 1) := by decide +kernel
theorem dX0_setFactor_50 : decode cX0_setFactor 50 = .ok (.getfield 11, 3) := by decide +kernel
theorem dX0_setFactor_53 : decode cX0_setFactor 53 = .ok (.iload_n 1, 1) := by decide +kernel
theorem dX0_setFactor_54 : decode cX0_setFactor 54 = .ok (.aaload, 1) := by decide +kernel
theorem dX0_setFactor_55 : decode cX0_setFactor 55 = .ok (.iload_n 2, 1) := by decide +kernel
theorem dX0_setFactor_56 : decode cX0_setFactor 56 = .ok (.iload_n 3, 1) := by decide +kernel
theorem dX0_setFactor_57 : decode cX0_setFactor 57 = .ok (.iastore, 1) := by decide +kernel
theorem dX0_setFactor_58 : decode cX0_setFactor 58 = .ok (.aload_n 0, 1) := by decide +kernel
theorem dX0_setFactor_59 : decode cX0_setFactor 59 = .ok (.invokevirtual 93, 3) := by decide +kernel
theorem dX0_setFactor_62 : decode cX0_setFactor 62 = .ok (.iload 4, 2) := by decide +kernel
theorem dX0_setFactor_64 : decode cX0_setFactor 64 = .ok (.ireturn, 1) := by decide +kernel
theorem dX0_pass_0 : decode cX0_pass 0 = .ok (.iload_n 1, 1) := by decide +kernel
theorem dX0_pass_1 : decode cX0_pass 1 = .ok (.invokestatic 117, 3) := by decide +kernel
theorem dX0_pass_4 : decode cX0_pass 4 = .ok (.ifCond .ne 13, 3) := by decide +kernel
theorem dX0_pass_7 : decode cX0_pass 7 = .ok (.new 100, 3) := by decide +kernel
theorem dX0_pass_10 : decode cX0_pass 10 = .ok (.dup, 1) := by decide +kernel
theorem dX0_pass_11 : decode cX0_pass 11 = .ok (.ldc 120, 2) := by decide +kernel
theorem dX0_pass_13 : decode cX0_pass 13 = .ok (.invokespecial 104, 3) := by decide +kernel
theorem dX0_pass_16 : decode cX0_pass 16 = .ok (.athrow, 1) := by decide +kernel
theorem dX0_pass_17 : decode cX0_pass 17 = .ok (.aload_n 0, 1) := by decide +kernel
theorem dX0_pass_18 : decode cX0_pass 18 = .ok (.iload_n 1, 1) := by decide +kernel
theorem dX0_pass_19 : decode cX0_pass 19 = .ok (.invokevirtual 122, 3) := by decide +kernel
theorem dX0_pass_22 : decode cX0_pass 22 = .ok (.ireturn, 1) := by decide +kernel
theorem dX0_settle_0 : decode cX0_settle 0 = .ok (.iconst 1, 1) := by decide +kernel
theorem dX0_settle_1 : decode cX0_settle 1 = .ok (.istore_n 1, 1) := by decide +kernel
theorem dX0_settle_2 : decode cX0_settle 2 = .ok (.iload_n 1, 1) := by decide +kernel
theorem dX0_settle_3 : decode cX0_settle 3 = .ok (.bipush 60, 2) := by decide +kernel
theorem dX0_settle_5 : decode cX0_settle 5 = .ok (.if_icmp .gt 18, 3) := by decide +kernel
theorem dX0_settle_8 : decode cX0_settle 8 = .ok (.aload_n 0, 1) := by decide +kernel
theorem dX0_settle_9 : decode cX0_settle 9 = .ok (.invokevirtual 126, 3) := by decide +kernel
theorem dX0_settle_12 : decode cX0_settle 12 = .ok (.ifCond .ne 5, 3) := by decide +kernel
theorem dX0_settle_15 : decode cX0_settle 15 = .ok (.iload_n 1, 1) := by decide +kernel
theorem dX0_settle_16 : decode cX0_settle 16 = .ok (.ireturn, 1) := by decide +kernel
theorem dX0_settle_17 : decode cX0_settle 17 = .ok (.iinc 1 1, 3) := by decide +kernel
theorem dX0_settle_20 : decode cX0_settle 20 = .ok (.goto (-18), 3) := by decide +kernel
theorem dX0_settle_23 : decode cX0_settle 23 = .ok (.bipush 60, 2) := by decide +kernel
theorem dX0_settle_25 : decode cX0_settle 25 = .ok (.ireturn, 1) := by decide +kernel
theorem dX0_smooth_0 : decode cX0_smooth 0 = .ok (.iload_n 1, 1) := by decide +kernel
theorem dX0_smooth_1 : decode cX0_smooth 1 = .ok (.invokestatic 117, 3) := by decide +kernel
theorem dX0_smooth_4 : decode cX0_smooth 4 = .ok (.ifCond .ne 13, 3) := by decide +kernel
theorem dX0_smooth_7 : decode cX0_smooth 7 = .ok (.new 100, 3) := by decide +kernel
theorem dX0_smooth_10 : decode cX0_smooth 10 = .ok (.dup, 1) := by decide +kernel
theorem dX0_smooth_11 : decode cX0_smooth 11 = .ok (.ldc 120, 2) := by decide +kernel
theorem dX0_smooth_13 : decode cX0_smooth 13 = .ok (.invokespecial 104, 3) := by decide +kernel
theorem dX0_smooth_16 : decode cX0_smooth 16 = .ok (.athrow, 1) := by decide +kernel
theorem dX0_smooth_17 : decode cX0_smooth 17 = .ok (.iconst 0, 1) := by decide +kernel
theorem dX0_smooth_18 : decode cX0_smooth 18 = .ok (.istore_n 2, 1) := by decide +kernel
theorem dX0_smooth_19 : decode cX0_smooth 19 = .ok (.iload_n 2, 1) := by decide +kernel
theorem dX0_smooth_20 : decode cX0_smooth 20 = .ok (.getstatic 130, 3) := by decide +kernel
theorem dX0_smooth_23 : decode cX0_smooth 23 = .ok (.iload_n 1, 1) := by decide +kernel
theorem dX0_smooth_24 : decode cX0_smooth 24 = .ok (.iaload, 1) := by decide +kernel
theorem dX0_smooth_25 : decode cX0_smooth 25 = .ok (.if_icmp .ge 30, 3) := by decide +kernel
theorem dX0_smooth_28 : decode cX0_smooth 28 = .ok (.aload_n 0, 1) := by decide +kernel
theorem dX0_smooth_29 : decode cX0_smooth 29 = .ok (.getfield 61, 3) := by decide +kernel
theorem dX0_smooth_32 : decode cX0_smooth 32 = .ok (.iload_n 2, 1) := by decide +kernel
theorem dX0_smooth_33 : decode cX0_smooth 33 = .ok (.aload_n 0, 1) := by decide +kernel
theorem dX0_smooth_34 : decode cX0_smooth 34 = .ok (.getfield 11, 3) := by decide +kernel
theorem dX0_smooth_37 : decode cX0_smooth 37 = .ok (.iload_n 1, 1) := by decide +kernel
theorem dX0_smooth_38 : decode cX0_smooth 38 = .ok (.aaload, 1) := by decide +kernel
theorem dX0_smooth_39 : decode cX0_smooth 39 = .ok (.iload_n 2, 1) := by decide +kernel
theorem dX0_smooth_40 : decode cX0_smooth 40 = .ok (.iaload, 1) := by decide +kernel
theorem dX0_smooth_41 : decode cX0_smooth 41 = .ok (.iastore, 1) := by decide +kernel
theorem dX0_smooth_42 : decode cX0_smooth 42 = .ok (.aload_n 0, 1) := by decide +kernel
theorem dX0_smooth_43 : decode cX0_smooth 43 = .ok (.getfield 58, 3) := by decide +kernel
theorem dX0_smooth_46 : decode cX0_smooth 46 = .ok (.iload_n 2, 1) := by decide +kernel
theorem dX0_smooth_47 : decode cX0_smooth 47 = .ok (.iload_n 2, 1) := by decide +kernel
theorem dX0_smooth_48 : decode cX0_smooth 48 = .ok (.iastore, 1) := by decide +kernel
theorem dX0_smooth_49 : decode cX0_smooth 49 = .ok (.iinc 2 1, 3) := by decide +kernel
theorem dX0_smooth_52 : decode cX0_smooth 52 = .ok (.goto (-33), 3) := by decide +kernel
theorem dX0_smooth_55 : decode cX0_smooth 55 = .ok (.iconst 0, 1) := by decide +kernel
theorem dX0_smooth_56 : decode cX0_smooth 56 = .ok (.istore_n 2, 1) := by decide +kernel
theorem dX0_smooth_57 : decode cX0_smooth 57 = .ok (.iload_n 2, 1) := by decide +kernel
theorem dX0_smooth_58 : decode cX0_smooth 58 = .ok (.getstatic 130, 3) := by decide +kernel
theorem dX0_smooth_61 : decode cX0_smooth 61 = .ok (.iload_n 1, 1) := by decide +kernel
theorem dX0_smooth_62 : decode cX0_smooth 62 = .ok (.iaload, 1) := by decide +kernel
theorem dX0_smooth_63 : decode cX0_smooth 63 = .ok (.if_icmp .ge 29, 3) := by decide +kernel
theorem dX0_smooth_66 : decode cX0_smooth 66 = .ok (.aload_n 0, 1) := by decide +kernel
theorem dX0_smooth_67 : decode cX0_smooth 67 = .ok (.iload_n 1, 1) := by decide +kernel
theorem dX0_smooth_68 : decode cX0_smooth 68 = .ok (.invokevirtual 133, 3) := by decide +kernel
theorem dX0_smooth_71 : decode cX0_smooth 71 = .ok (.istore_n 3, 1) := by decide +kernel
theorem dX0_smooth_72 : decode cX0_smooth 72 = .ok (.iload_n 3, 1) := by decide +kernel
theorem dX0_smooth_73 : decode cX0_smooth 73 = .ok (.iconst (-1), 1) := by decide +kernel
theorem dX0_smooth_74 : decode cX0_smooth 74 = .ok (.if_icmp .ne 6, 3) := by decide +kernel
theorem dX0_smooth_77 : decode cX0_smooth 77 = .ok (.goto 15, 3) := by decide +kernel
theorem dX0_smooth_80 : decode cX0_smooth 80 = .ok (.aload_n 0, 1) := by decide +kernel
theorem dX0_smooth_81 : decode cX0_smooth 81 = .ok (.iload_n 1, 1) := by decide +kernel
theorem dX0_smooth_82 : decode cX0_smooth 82 = .ok (.iload_n 3, 1) := by decide +kernel
theorem dX0_smooth_83 : decode cX0_smooth 83 = .ok (.invokevirtual 136, 3) := by decide +kernel
theorem dX0_smooth_86 : decode cX0_smooth 86 = .ok (.iinc 2 1, 3) := by decide +kernel
theorem dX0_smooth_89 : decode cX0_smooth 89 = .ok (.goto (-32), 3) := by decide +kernel
theorem dX0_smooth_92 : decode cX0_smooth 92 = .ok (.aload_n 0, 1) := by decide +kernel
theorem dX0_smooth_93 : decode cX0_smooth 93 = .ok (.invokevirtual 93, 3) := by decide +kernel
theorem dX0_smooth_96 : decode cX0_smooth 96 = .ok (.aload_n 0, 1) := by decide +kernel
theorem dX0_smooth_97 : decode cX0_smooth 97 = .ok (.iload_n 1, 1) := by decide +kernel
theorem dX0_smooth_98 : decode cX0_smooth 98 = .ok (.invokevirtual 140, 3) := by decide +kernel
theorem dX0_smooth_101 : decode cX0_smooth 101 = .ok (.ireturn, 1) := by decide +kernel
theorem dX0_spread_0 : decode cX0_spread 0 = .ok (.aload_n 0, 1) := by decide +kernel
theorem dX0_spread_1 : decode cX0_spread 1 = .ok (.invokevirtual 143, 3) := by decide +kernel
theorem dX0_spread_4 : decode cX0_spread 4 = .ok (.lstore_n 1, 1) := by decide +kernel
theorem dX0_spread_5 : decode cX0_spread 5 = .ok (.lload_n 1, 1) := by decide +kernel
theorem dX0_spread_6 : decode cX0_spread 6 = .ok (.lconst 0, 1) := by decide +kernel
theorem dX0_spread_7 : decode cX0_spread 7 = .ok (.lcmp, 1) := by decide +kernel
theorem dX0_spread_8 : decode cX0_spread 8 = .ok (.ifCond .le 47, 3) := by decide +kernel
theorem dX0_spread_11 : decode cX0_spread 11 = .ok (.ldc2_w 147, 3) := by decide +kernel
theorem dX0_spread_14 : decode cX0_spread 14 = .ok (.aload_n 0, 1) := by decide +kernel
theorem dX0_spread_15 : decode cX0_spread 15 = .ok (.aload_n 0, 1) := by decide +kernel
theorem dX0_spread_16 : decode cX0_spread 16 = .ok (.getfield 55, 3) := by decide +kernel
theorem dX0_spread_19 : decode cX0_spread 19 = .ok (.invokevirtual 149, 3) := by decide +kernel
theorem dX0_spread_22 : decode cX0_spread 22 = .ok (.lmul, 1) := by decide +kernel
theorem dX0_spread_23 : decode cX0_spread 23 = .ok (.lload_n 1, 1) := by decide +kernel
theorem dX0_spread_24 : decode cX0_spread 24 = .ok (.ldiv, 1) := by decide +kernel
theorem dX0_spread_25 : decode cX0_spread 25 = .ok (.ldc2_w 153, 3) := by decide +kernel
theorem dX0_spread_28 : decode cX0_spread 28 = .ok (.invokestatic 155, 3) := by decide +kernel
theorem dX0_spread_31 : decode cX0_spread 31 = .ok (.lstore_n 3, 1) := by decide +kernel
theorem dX0_spread_32 : decode cX0_spread 32 = .ok (.aload_n 0, 1) := by decide +kernel
theorem dX0_spread_33 : decode cX0_spread 33 = .ok (.aload_n 0, 1) := by decide +kernel
theorem dX0_spread_34 : decode cX0_spread 34 = .ok (.getfield 48, 3) := by decide +kernel
theorem dX0_spread_37 : decode cX0_spread 37 = .ok (.i2l, 1) := by decide +kernel
theorem dX0_spread_38 : decode cX0_spread 38 = .ok (.lload_n 3, 1) := by decide +kernel
theorem dX0_spread_39 : decode cX0_spread 39 = .ok (.lmul, 1) := by decide +kernel
theorem dX0_spread_40 : decode cX0_spread 40 = .ok (.ldc2_w 147, 3) := by decide +kernel
theorem dX0_spread_43 : decode cX0_spread 43 = .ok (.ldiv, 1) := by decide +kernel
theorem dX0_spread_44 : decode cX0_spread 44 = .ok (.lconst 1, 1) := by decide +kernel
theorem dX0_spread_45 : decode cX0_spread 45 = .ok (.ldc2_w 153, 3) := by decide +kernel
theorem dX0_spread_48 : decode cX0_spread 48 = .ok (.invokestatic 161, 3) := by decide +kernel
theorem dX0_spread_51 : decode cX0_spread 51 = .ok (.l2i, 1) := by decide +kernel
theorem dX0_spread_52 : decode cX0_spread 52 = .ok (.putfield 48, 3) := by decide +kernel
theorem dX0_spread_55 : decode cX0_spread 55 = .ok (.aload_n 0, 1) := by decide +kernel
theorem dX0_spread_56 : decode cX0_spread 56 = .ok (.getfield 48, 3) := by decide +kernel
theorem dX0_spread_59 : decode cX0_spread 59 = .ok (.ireturn, 1) := by decide +kernel
theorem dX0_rows_0 : decode cX0_rows 0 = .ok (.aload_n 0, 1) := by decide +kernel
theorem dX0_rows_1 : decode cX0_rows 1 = .ok (.getfield 39, 3) := by decide +kernel
theorem dX0_rows_4 : decode cX0_rows 4 = .ok (.ireturn, 1) := by decide +kernel
theorem dX0_base_0 : decode cX0_base 0 = .ok (.aload_n 0, 1) := by decide +kernel
theorem dX0_base_1 : decode cX0_base 1 = .ok (.getfield 51, 3) := by decide +kernel
theorem dX0_base_4 : decode cX0_base 4 = .ok (.lreturn, 1) := by decide +kernel
theorem dX0_factor_0 : decode cX0_factor 0 = .ok (.iload_n 1, 1) := by decide +kernel
theorem dX0_factor_1 : decode cX0_factor 1 = .ok (.iload_n 2, 1) := by decide +kernel
theorem dX0_factor_2 : decode cX0_factor 2 = .ok (.invokestatic 70, 3) := by decide +kernel
theorem dX0_factor_5 : decode cX0_factor 5 = .ok (.ifCond .ne 13, 3) := by decide +kernel
theorem dX0_factor_8 : decode cX0_factor 8 = .ok (.new 100, 3) := by decide +kernel
theorem dX0_factor_11 : decode cX0_factor 11 = .ok (.dup, 1) := by decide +kernel
theorem dX0_factor_12 : decode cX0_factor 12 = .ok (.ldc 112, 2) := by decide +kernel
theorem dX0_factor_14 : decode cX0_factor 14 = .ok (.invokespecial 104, 3) := by decide +kernel
theorem dX0_factor_17 : decode cX0_factor 17 = .ok (.athrow, 1) := by decide +kernel
theorem dX0_factor_18 : decode cX0_factor 18 = .ok (.aload_n 0, 1) := by decide +kernel
theorem dX0_factor_19 : decode cX0_factor 19 = .ok (.getfield 11, 3) := by decide +kernel
theorem dX0_factor_22 : decode cX0_factor 22 = .ok (.iload_n 1, 1) := by decide +kernel
theorem dX0_factor_23 : decode cX0_factor 23 = .ok (.aaload, 1) := by decide +kernel
theorem dX0_factor_24 : decode cX0_factor 24 = .ok (.iload_n 2, 1) := by decide +kernel
theorem dX0_factor_25 : decode cX0_factor 25 = .ok (.iaload, 1) := by decide +kernel
theorem dX0_factor_26 : decode cX0_factor 26 = .ok (.ireturn, 1) := by decide +kernel
theorem dX0_fitted_0 : decode cX0_fitted 0 = .ok (.aload_n 0, 1) := by decide +kernel
theorem dX0_fitted_1 : decode cX0_fitted 1 = .ok (.iload_n 1, 1) := by decide +kernel
theorem dX0_fitted_2 : decode cX0_fitted 2 = .ok (.invokevirtual 96, 3) := by decide +kernel
theorem dX0_fitted_5 : decode cX0_fitted 5 = .ok (.ifCond .ne 13, 3) := by decide +kernel
theorem dX0_fitted_8 : decode cX0_fitted 8 = .ok (.new 100, 3) := by decide +kernel
theorem dX0_fitted_11 : decode cX0_fitted 11 = .ok (.dup, 1) := by decide +kernel
theorem dX0_fitted_12 : decode cX0_fitted 12 = .ok (.ldc 102, 2) := by decide +kernel
theorem dX0_fitted_14 : decode cX0_fitted 14 = .ok (.invokespecial 104, 3) := by decide +kernel
theorem dX0_fitted_17 : decode cX0_fitted 17 = .ok (.athrow, 1) := by decide +kernel
theorem dX0_fitted_18 : decode cX0_fitted 18 = .ok (.aload_n 0, 1) := by decide +kernel
theorem dX0_fitted_19 : decode cX0_fitted 19 = .ok (.getfield 55, 3) := by decide +kernel
theorem dX0_fitted_22 : decode cX0_fitted 22 = .ok (.iload_n 1, 1) := by decide +kernel
theorem dX0_fitted_23 : decode cX0_fitted 23 = .ok (.laload, 1) := by decide +kernel
theorem dX0_fitted_24 : decode cX0_fitted 24 = .ok (.lreturn, 1) := by decide +kernel
theorem dX0_toldSum_0 : decode cX0_toldSum 0 = .ok (.iload_n 1, 1) := by decide +kernel
theorem dX0_toldSum_1 : decode cX0_toldSum 1 = .ok (.iload_n 2, 1) := by decide +kernel
theorem dX0_toldSum_2 : decode cX0_toldSum 2 = .ok (.invokestatic 70, 3) := by decide +kernel
theorem dX0_toldSum_5 : decode cX0_toldSum 5 = .ok (.ifCond .ne 13, 3) := by decide +kernel
theorem dX0_toldSum_8 : decode cX0_toldSum 8 = .ok (.new 100, 3) := by decide +kernel
theorem dX0_toldSum_11 : decode cX0_toldSum 11 = .ok (.dup, 1) := by decide +kernel
theorem dX0_toldSum_12 : decode cX0_toldSum 12 = .ok (.ldc 112, 2) := by decide +kernel
theorem dX0_toldSum_14 : decode cX0_toldSum 14 = .ok (.invokespecial 104, 3) := by decide +kernel
theorem dX0_toldSum_17 : decode cX0_toldSum 17 = .ok (.athrow, 1) := by decide +kernel
theorem dX0_toldSum_18 : decode cX0_toldSum 18 = .ok (.aload_n 0, 1) := by decide +kernel
theorem dX0_toldSum_19 : decode cX0_toldSum 19 = .ok (.aload_n 0, 1) := by decide +kernel
theorem dX0_toldSum_20 : decode cX0_toldSum 20 = .ok (.getfield 24, 3) := by decide +kernel
theorem dX0_toldSum_23 : decode cX0_toldSum 23 = .ok (.iload_n 1, 1) := by decide +kernel
theorem dX0_toldSum_24 : decode cX0_toldSum 24 = .ok (.iload_n 2, 1) := by decide +kernel
theorem dX0_toldSum_25 : decode cX0_toldSum 25 = .ok (.invokevirtual 165, 3) := by decide +kernel
theorem dX0_toldSum_28 : decode cX0_toldSum 28 = .ok (.lreturn, 1) := by decide +kernel
theorem dX0_fittedSum_0 : decode cX0_fittedSum 0 = .ok (.iload_n 1, 1) := by decide +kernel
theorem dX0_fittedSum_1 : decode cX0_fittedSum 1 = .ok (.iload_n 2, 1) := by decide +kernel
theorem dX0_fittedSum_2 : decode cX0_fittedSum 2 = .ok (.invokestatic 70, 3) := by decide +kernel
theorem dX0_fittedSum_5 : decode cX0_fittedSum 5 = .ok (.ifCond .ne 13, 3) := by decide +kernel
theorem dX0_fittedSum_8 : decode cX0_fittedSum 8 = .ok (.new 100, 3) := by decide +kernel
theorem dX0_fittedSum_11 : decode cX0_fittedSum 11 = .ok (.dup, 1) := by decide +kernel
theorem dX0_fittedSum_12 : decode cX0_fittedSum 12 = .ok (.ldc 112, 2) := by decide +kernel
theorem dX0_fittedSum_14 : decode cX0_fittedSum 14 = .ok (.invokespecial 104, 3) := by decide +kernel
theorem dX0_fittedSum_17 : decode cX0_fittedSum 17 = .ok (.athrow, 1) := by decide +kernel
theorem dX0_fittedSum_18 : decode cX0_fittedSum 18 = .ok (.aload_n 0, 1) := by decide +kernel
theorem dX0_fittedSum_19 : decode cX0_fittedSum 19 = .ok (.aload_n 0, 1) := by decide +kernel
theorem dX0_fittedSum_20 : decode cX0_fittedSum 20 = .ok (.getfield 55, 3) := by decide +kernel
theorem dX0_fittedSum_23 : decode cX0_fittedSum 23 = .ok (.iload_n 1, 1) := by decide +kernel
theorem dX0_fittedSum_24 : decode cX0_fittedSum 24 = .ok (.iload_n 2, 1) := by decide +kernel
theorem dX0_fittedSum_25 : decode cX0_fittedSum 25 = .ok (.invokevirtual 165, 3) := by decide +kernel
theorem dX0_fittedSum_28 : decode cX0_fittedSum 28 = .ok (.lreturn, 1) := by decide +kernel
theorem dX0_worst_0 : decode cX0_worst 0 = .ok (.iload_n 1, 1) := by decide +kernel
theorem dX0_worst_1 : decode cX0_worst 1 = .ok (.invokestatic 117, 3) := by decide +kernel
theorem dX0_worst_4 : decode cX0_worst 4 = .ok (.ifCond .ne 13, 3) := by decide +kernel
theorem dX0_worst_7 : decode cX0_worst 7 = .ok (.new 100, 3) := by decide +kernel
theorem dX0_worst_10 : decode cX0_worst 10 = .ok (.dup, 1) := by decide +kernel
theorem dX0_worst_11 : decode cX0_worst 11 = .ok (.ldc 120, 2) := by decide +kernel
theorem dX0_worst_13 : decode cX0_worst 13 = .ok (.invokespecial 104, 3) := by decide +kernel
theorem dX0_worst_16 : decode cX0_worst 16 = .ok (.athrow, 1) := by decide +kernel
theorem dX0_worst_17 : decode cX0_worst 17 = .ok (.lconst 0, 1) := by decide +kernel
theorem dX0_worst_18 : decode cX0_worst 18 = .ok (.lstore_n 2, 1) := by decide +kernel
theorem dX0_worst_19 : decode cX0_worst 19 = .ok (.iconst 0, 1) := by decide +kernel
theorem dX0_worst_20 : decode cX0_worst 20 = .ok (.istore 4, 2) := by decide +kernel
theorem dX0_worst_22 : decode cX0_worst 22 = .ok (.iload 4, 2) := by decide +kernel
theorem dX0_worst_24 : decode cX0_worst 24 = .ok (.getstatic 130, 3) := by decide +kernel
theorem dX0_worst_27 : decode cX0_worst 27 = .ok (.iload_n 1, 1) := by decide +kernel
theorem dX0_worst_28 : decode cX0_worst 28 = .ok (.iaload, 1) := by decide +kernel
theorem dX0_worst_29 : decode cX0_worst 29 = .ok (.if_icmp .ge 44, 3) := by decide +kernel
theorem dX0_worst_32 : decode cX0_worst 32 = .ok (.aload_n 0, 1) := by decide +kernel
theorem dX0_worst_33 : decode cX0_worst 33 = .ok (.aload_n 0, 1) := by decide +kernel
theorem dX0_worst_34 : decode cX0_worst 34 = .ok (.getfield 24, 3) := by decide +kernel
theorem dX0_worst_37 : decode cX0_worst 37 = .ok (.iload_n 1, 1) := by decide +kernel
theorem dX0_worst_38 : decode cX0_worst 38 = .ok (.iload 4, 2) := by decide +kernel
theorem dX0_worst_40 : decode cX0_worst 40 = .ok (.invokevirtual 165, 3) := by decide +kernel
theorem dX0_worst_43 : decode cX0_worst 43 = .ok (.aload_n 0, 1) := by decide +kernel
theorem dX0_worst_44 : decode cX0_worst 44 = .ok (.aload_n 0, 1) := by decide +kernel
theorem dX0_worst_45 : decode cX0_worst 45 = .ok (.getfield 55, 3) := by decide +kernel
theorem dX0_worst_48 : decode cX0_worst 48 = .ok (.iload_n 1, 1) := by decide +kernel
theorem dX0_worst_49 : decode cX0_worst 49 = .ok (.iload 4, 2) := by decide +kernel
theorem dX0_worst_51 : decode cX0_worst 51 = .ok (.invokevirtual 165, 3) := by decide +kernel
theorem dX0_worst_54 : decode cX0_worst 54 = .ok (.lsub, 1) := by decide +kernel
theorem dX0_worst_55 : decode cX0_worst 55 = .ok (.lstore 5, 2) := by decide +kernel
theorem dX0_worst_57 : decode cX0_worst 57 = .ok (.lload_n 2, 1) := by decide +kernel
theorem dX0_worst_58 : decode cX0_worst 58 = .ok (.lload 5, 2) := by decide +kernel
theorem dX0_worst_60 : decode cX0_worst 60 = .ok (.invokestatic 169, 3) := by decide +kernel
theorem dX0_worst_63 : decode cX0_worst 63 = .ok (.invokestatic 173, 3) := by decide +kernel
theorem dX0_worst_66 : decode cX0_worst 66 = .ok (.lstore_n 2, 1) := by decide +kernel
theorem dX0_worst_67 : decode cX0_worst 67 = .ok (.iinc 4 1, 3) := by decide +kernel
theorem dX0_worst_70 : decode cX0_worst 70 = .ok (.goto (-48), 3) := by decide +kernel
theorem dX0_worst_73 : decode cX0_worst 73 = .ok (.lload_n 2, 1) := by decide +kernel
theorem dX0_worst_74 : decode cX0_worst 74 = .ok (.lreturn, 1) := by decide +kernel
theorem dX0_premium_0 : decode cX0_premium 0 = .ok (.aload_n 0, 1) := by decide +kernel
theorem dX0_premium_1 : decode cX0_premium 1 = .ok (.iload_n 1, 1) := by decide +kernel
theorem dX0_premium_2 : decode cX0_premium 2 = .ok (.invokevirtual 96, 3) := by decide +kernel
theorem dX0_premium_5 : decode cX0_premium 5 = .ok (.ifCond .ne 13, 3) := by decide +kernel
theorem dX0_premium_8 : decode cX0_premium 8 = .ok (.new 100, 3) := by decide +kernel
theorem dX0_premium_11 : decode cX0_premium 11 = .ok (.dup, 1) := by decide +kernel
theorem dX0_premium_12 : decode cX0_premium 12 = .ok (.ldc 102, 2) := by decide +kernel
theorem dX0_premium_14 : decode cX0_premium 14 = .ok (.invokespecial 104, 3) := by decide +kernel
theorem dX0_premium_17 : decode cX0_premium 17 = .ok (.athrow, 1) := by decide +kernel
theorem dX0_premium_18 : decode cX0_premium 18 = .ok (.aload_n 0, 1) := by decide +kernel
theorem dX0_premium_19 : decode cX0_premium 19 = .ok (.iload_n 1, 1) := by decide +kernel
theorem dX0_premium_20 : decode cX0_premium 20 = .ok (.invokevirtual 176, 3) := by decide +kernel
theorem dX0_premium_23 : decode cX0_premium 23 = .ok (.lreturn, 1) := by decide +kernel
theorem dX0_capped_0 : decode cX0_capped 0 = .ok (.aload_n 0, 1) := by decide +kernel
theorem dX0_capped_1 : decode cX0_capped 1 = .ok (.iload_n 1, 1) := by decide +kernel
theorem dX0_capped_2 : decode cX0_capped 2 = .ok (.invokevirtual 96, 3) := by decide +kernel
theorem dX0_capped_5 : decode cX0_capped 5 = .ok (.ifCond .ne 13, 3) := by decide +kernel
theorem dX0_capped_8 : decode cX0_capped 8 = .ok (.new 100, 3) := by decide +kernel
theorem dX0_capped_11 : decode cX0_capped 11 = .ok (.dup, 1) := by decide +kernel
theorem dX0_capped_12 : decode cX0_capped 12 = .ok (.ldc 102, 2) := by decide +kernel
theorem dX0_capped_14 : decode cX0_capped 14 = .ok (.invokespecial 104, 3) := by decide +kernel
theorem dX0_capped_17 : decode cX0_capped 17 = .ok (.athrow, 1) := by decide +kernel
theorem dX0_capped_18 : decode cX0_capped 18 = .ok (.aload_n 0, 1) := by decide +kernel
theorem dX0_capped_19 : decode cX0_capped 19 = .ok (.iload_n 1, 1) := by decide +kernel
theorem dX0_capped_20 : decode cX0_capped 20 = .ok (.invokevirtual 180, 3) := by decide +kernel
theorem dX0_capped_23 : decode cX0_capped 23 = .ok (.lreturn, 1) := by decide +kernel
theorem dX0_lost_0 : decode cX0_lost 0 = .ok (.aload_n 0, 1) := by decide +kernel
theorem dX0_lost_1 : decode cX0_lost 1 = .ok (.aload_n 0, 1) := by decide +kernel
theorem dX0_lost_2 : decode cX0_lost 2 = .ok (.getfield 55, 3) := by decide +kernel
theorem dX0_lost_5 : decode cX0_lost 5 = .ok (.invokevirtual 149, 3) := by decide +kernel
theorem dX0_lost_8 : decode cX0_lost 8 = .ok (.aload_n 0, 1) := by decide +kernel
theorem dX0_lost_9 : decode cX0_lost 9 = .ok (.invokevirtual 143, 3) := by decide +kernel
theorem dX0_lost_12 : decode cX0_lost 12 = .ok (.lsub, 1) := by decide +kernel
theorem dX0_lost_13 : decode cX0_lost 13 = .ok (.lreturn, 1) := by decide +kernel
theorem dX0_rankedAt_0 : decode cX0_rankedAt 0 = .ok (.iconst 0, 1) := by decide +kernel
theorem dX0_rankedAt_1 : decode cX0_rankedAt 1 = .ok (.istore_n 2, 1) := by decide +kernel
theorem dX0_rankedAt_2 : decode cX0_rankedAt 2 = .ok (.iload_n 2, 1) := by decide +kernel
theorem dX0_rankedAt_3 : decode cX0_rankedAt 3 = .ok (.aload_n 0, 1) := by decide +kernel
theorem dX0_rankedAt_4 : decode cX0_rankedAt 4 = .ok (.getfield 35, 3) := by decide +kernel
theorem dX0_rankedAt_7 : decode cX0_rankedAt 7 = .ok (.if_icmp .ge 29, 3) := by decide +kernel
theorem dX0_rankedAt_10 : decode cX0_rankedAt 10 = .ok (.aload_n 0, 1) := by decide +kernel
theorem dX0_rankedAt_11 : decode cX0_rankedAt 11 = .ok (.getfield 31, 3) := by decide +kernel
theorem dX0_rankedAt_14 : decode cX0_rankedAt 14 = .ok (.iload_n 2, 1) := by decide +kernel
theorem dX0_rankedAt_15 : decode cX0_rankedAt 15 = .ok (.baload, 1) := by decide +kernel
theorem dX0_rankedAt_16 : decode cX0_rankedAt 16 = .ok (.ifCond .eq 14, 3) := by decide +kernel
theorem dX0_rankedAt_19 : decode cX0_rankedAt 19 = .ok (.aload_n 0, 1) := by decide +kernel
theorem dX0_rankedAt_20 : decode cX0_rankedAt 20 = .ok (.iload_n 2, 1) := by decide +kernel
theorem dX0_rankedAt_21 : decode cX0_rankedAt 21 = .ok (.invokevirtual 183, 3) := by decide +kernel
theorem dX0_rankedAt_24 : decode cX0_rankedAt 24 = .ok (.iload_n 1, 1) := by decide +kernel
theorem dX0_rankedAt_25 : decode cX0_rankedAt 25 = .ok (.if_icmp .ne 5, 3) := by decide +kernel
theorem dX0_rankedAt_28 : decode cX0_rankedAt 28 = .ok (.iload_n 2, 1) := by decide +kernel
theorem dX0_rankedAt_29 : decode cX0_rankedAt 29 = .ok (.ireturn, 1) := by decide +kernel
theorem dX0_rankedAt_30 : decode cX0_rankedAt 30 = .ok (.iinc 2 1, 3) := by decide +kernel
theorem dX0_rankedAt_33 : decode cX0_rankedAt 33 = .ok (.goto (-31), 3) := by decide +kernel
theorem dX0_rankedAt_36 : decode cX0_rankedAt 36 = .ok (.new 100, 3) := by decide +kernel
theorem dX0_rankedAt_39 : decode cX0_rankedAt 39 = .ok (.dup, 1) := by decide +kernel
theorem dX0_rankedAt_40 : decode cX0_rankedAt 40 = .ok (.ldc 186, 2) := by decide +kernel
theorem dX0_rankedAt_42 : decode cX0_rankedAt 42 = .ok (.invokespecial 104, 3) := by decide +kernel
theorem dX0_rankedAt_45 : decode cX0_rankedAt 45 = .ok (.athrow, 1) := by decide +kernel
theorem dX0_isWithin_0 : decode cX0_isWithin 0 = .ok (.iload_n 0, 1) := by decide +kernel
theorem dX0_isWithin_1 : decode cX0_isWithin 1 = .ok (.iload_n 1, 1) := by decide +kernel
theorem dX0_isWithin_2 : decode cX0_isWithin 2 = .ok (.if_icmp .lt 12, 3) := by decide +kernel
theorem dX0_isWithin_5 : decode cX0_isWithin 5 = .ok (.iload_n 0, 1) := by decide +kernel
theorem dX0_isWithin_6 : decode cX0_isWithin 6 = .ok (.iload_n 2, 1) := by decide +kernel
theorem dX0_isWithin_7 : decode cX0_isWithin 7 = .ok (.if_icmp .gt 7, 3) := by decide +kernel
theorem dX0_isWithin_10 : decode cX0_isWithin 10 = .ok (.iconst 1, 1) := by decide +kernel
theorem dX0_isWithin_11 : decode cX0_isWithin 11 = .ok (.goto 4, 3) := by decide +kernel
theorem dX0_isWithin_14 : decode cX0_isWithin 14 = .ok (.iconst 0, 1) := by decide +kernel
theorem dX0_isWithin_15 : decode cX0_isWithin 15 = .ok (.ireturn, 1) := by decide +kernel
theorem dX0_hasTrait_0 : decode cX0_hasTrait 0 = .ok (.iload_n 0, 1) := by decide +kernel
theorem dX0_hasTrait_1 : decode cX0_hasTrait 1 = .ok (.ifCond .lt 12, 3) := by decide +kernel
theorem dX0_hasTrait_4 : decode cX0_hasTrait 4 = .ok (.iload_n 0, 1) := by decide +kernel
theorem dX0_hasTrait_5 : decode cX0_hasTrait 5 = .ok (.iconst 3, 1) := by decide +kernel
theorem dX0_hasTrait_6 : decode cX0_hasTrait 6 = .ok (.if_icmp .ge 7, 3) := by decide +kernel
theorem dX0_hasTrait_9 : decode cX0_hasTrait 9 = .ok (.iconst 1, 1) := by decide +kernel
theorem dX0_hasTrait_10 : decode cX0_hasTrait 10 = .ok (.goto 4, 3) := by decide +kernel
theorem dX0_hasTrait_13 : decode cX0_hasTrait 13 = .ok (.iconst 0, 1) := by decide +kernel
theorem dX0_hasTrait_14 : decode cX0_hasTrait 14 = .ok (.ireturn, 1) := by decide +kernel
theorem dX0_hasLevel_0 : decode cX0_hasLevel 0 = .ok (.iload_n 0, 1) := by decide +kernel
theorem dX0_hasLevel_1 : decode cX0_hasLevel 1 = .ok (.invokestatic 117, 3) := by decide +kernel
theorem dX0_hasLevel_4 : decode cX0_hasLevel 4 = .ok (.ifCond .eq 20, 3) := by decide +kernel
theorem dX0_hasLevel_7 : decode cX0_hasLevel 7 = .ok (.iload_n 1, 1) := by decide +kernel
theorem dX0_hasLevel_8 : decode cX0_hasLevel 8 = .ok (.ifCond .lt 16, 3) := by decide +kernel
theorem dX0_hasLevel_11 : decode cX0_hasLevel 11 = .ok (.iload_n 1, 1) := by decide +kernel
theorem dX0_hasLevel_12 : decode cX0_hasLevel 12 = .ok (.getstatic 130, 3) := by decide +kernel
theorem dX0_hasLevel_15 : decode cX0_hasLevel 15 = .ok (.iload_n 0, 1) := by decide +kernel
theorem dX0_hasLevel_16 : decode cX0_hasLevel 16 = .ok (.iaload, 1) := by decide +kernel
theorem dX0_hasLevel_17 : decode cX0_hasLevel 17 = .ok (.if_icmp .ge 7, 3) := by decide +kernel
theorem dX0_hasLevel_20 : decode cX0_hasLevel 20 = .ok (.iconst 1, 1) := by decide +kernel
theorem dX0_hasLevel_21 : decode cX0_hasLevel 21 = .ok (.goto 4, 3) := by decide +kernel
theorem dX0_hasLevel_24 : decode cX0_hasLevel 24 = .ok (.iconst 0, 1) := by decide +kernel
theorem dX0_hasLevel_25 : decode cX0_hasLevel 25 = .ok (.ireturn, 1) := by decide +kernel
theorem dX0_hasRow_0 : decode cX0_hasRow 0 = .ok (.iload_n 1, 1) := by decide +kernel
theorem dX0_hasRow_1 : decode cX0_hasRow 1 = .ok (.ifCond .lt 24, 3) := by decide +kernel
theorem dX0_hasRow_4 : decode cX0_hasRow 4 = .ok (.iload_n 1, 1) := by decide +kernel
theorem dX0_hasRow_5 : decode cX0_hasRow 5 = .ok (.aload_n 0, 1) := by decide +kernel
theorem dX0_hasRow_6 : decode cX0_hasRow 6 = .ok (.getfield 35, 3) := by decide +kernel
theorem dX0_hasRow_9 : decode cX0_hasRow 9 = .ok (.if_icmp .ge 16, 3) := by decide +kernel
theorem dX0_hasRow_12 : decode cX0_hasRow 12 = .ok (.aload_n 0, 1) := by decide +kernel
theorem dX0_hasRow_13 : decode cX0_hasRow 13 = .ok (.getfield 31, 3) := by decide +kernel
theorem dX0_hasRow_16 : decode cX0_hasRow 16 = .ok (.iload_n 1, 1) := by decide +kernel
theorem dX0_hasRow_17 : decode cX0_hasRow 17 = .ok (.baload, 1) := by decide +kernel
theorem dX0_hasRow_18 : decode cX0_hasRow 18 = .ok (.ifCond .eq 7, 3) := by decide +kernel
theorem dX0_hasRow_21 : decode cX0_hasRow 21 = .ok (.iconst 1, 1) := by decide +kernel
theorem dX0_hasRow_22 : decode cX0_hasRow 22 = .ok (.goto 4, 3) := by decide +kernel
theorem dX0_hasRow_25 : decode cX0_hasRow 25 = .ok (.iconst 0, 1) := by decide +kernel
theorem dX0_hasRow_26 : decode cX0_hasRow 26 = .ok (.ireturn, 1) := by decide +kernel
theorem dX0_total_0 : decode cX0_total 0 = .ok (.lconst 0, 1) := by decide +kernel
theorem dX0_total_1 : decode cX0_total 1 = .ok (.lstore_n 2, 1) := by decide +kernel
theorem dX0_total_2 : decode cX0_total 2 = .ok (.iconst 0, 1) := by decide +kernel
theorem dX0_total_3 : decode cX0_total 3 = .ok (.istore 4, 2) := by decide +kernel
theorem dX0_total_5 : decode cX0_total 5 = .ok (.iload 4, 2) := by decide +kernel
theorem dX0_total_7 : decode cX0_total 7 = .ok (.aload_n 0, 1) := by decide +kernel
theorem dX0_total_8 : decode cX0_total 8 = .ok (.getfield 35, 3) := by decide +kernel
theorem dX0_total_11 : decode cX0_total 11 = .ok (.if_icmp .ge 26, 3) := by decide +kernel
theorem dX0_total_14 : decode cX0_total 14 = .ok (.aload_n 0, 1) := by decide +kernel
theorem dX0_total_15 : decode cX0_total 15 = .ok (.getfield 31, 3) := by decide +kernel
theorem dX0_total_18 : decode cX0_total 18 = .ok (.iload 4, 2) := by decide +kernel
theorem dX0_total_20 : decode cX0_total 20 = .ok (.baload, 1) := by decide +kernel
theorem dX0_total_21 : decode cX0_total 21 = .ok (.ifCond .eq 10, 3) := by decide +kernel
theorem dX0_total_24 : decode cX0_total 24 = .ok (.lload_n 2, 1) := by decide +kernel
theorem dX0_total_25 : decode cX0_total 25 = .ok (.aload_n 1, 1) := by decide +kernel
theorem dX0_total_26 : decode cX0_total 26 = .ok (.iload 4, 2) := by decide +kernel
theorem dX0_total_28 : decode cX0_total 28 = .ok (.laload, 1) := by decide +kernel
theorem dX0_total_29 : decode cX0_total 29 = .ok (.ladd, 1) := by decide +kernel
theorem dX0_total_30 : decode cX0_total 30 = .ok (.lstore_n 2, 1) := by decide +kernel
theorem dX0_total_31 : decode cX0_total 31 = .ok (.iinc 4 1, 3) := by decide +kernel
theorem dX0_total_34 : decode cX0_total 34 = .ok (.goto (-29), 3) := by decide +kernel
theorem dX0_total_37 : decode cX0_total 37 = .ok (.lload_n 2, 1) := by decide +kernel
theorem dX0_total_38 : decode cX0_total 38 = .ok (.lreturn, 1) := by decide +kernel
theorem dX0_levelTotal_0 : decode cX0_levelTotal 0 = .ok (.lconst 0, 1) := by decide +kernel
theorem dX0_levelTotal_1 : decode cX0_levelTotal 1 = .ok (.lstore 4, 2) := by decide +kernel
theorem dX0_levelTotal_3 : decode cX0_levelTotal 3 = .ok (.iconst 0, 1) := by decide +kernel
theorem dX0_levelTotal_4 : decode cX0_levelTotal 4 = .ok (.istore 6, 2) := by decide +kernel
theorem dX0_levelTotal_6 : decode cX0_levelTotal 6 = .ok (.iload 6, 2) := by decide +kernel
theorem dX0_levelTotal_8 : decode cX0_levelTotal 8 = .ok (.aload_n 0, 1) := by decide +kernel
theorem dX0_levelTotal_9 : decode cX0_levelTotal 9 = .ok (.getfield 35, 3) := by decide +kernel
theorem dX0_levelTotal_12 : decode cX0_levelTotal 12 = .ok (.if_icmp .ge 41, 3) := by decide +kernel
theorem dX0_levelTotal_15 : decode cX0_levelTotal 15 = .ok (.aload_n 0, 1) := by decide +kernel
theorem dX0_levelTotal_16 : decode cX0_levelTotal 16 = .ok (.getfield 31, 3) := by decide +kernel
theorem dX0_levelTotal_19 : decode cX0_levelTotal 19 = .ok (.iload 6, 2) := by decide +kernel
theorem dX0_levelTotal_21 : decode cX0_levelTotal 21 = .ok (.baload, 1) := by decide +kernel
theorem dX0_levelTotal_22 : decode cX0_levelTotal 22 = .ok (.ifCond .eq 25, 3) := by decide +kernel
theorem dX0_levelTotal_25 : decode cX0_levelTotal 25 = .ok (.aload_n 0, 1) := by decide +kernel
theorem dX0_levelTotal_26 : decode cX0_levelTotal 26 = .ok (.getfield 14, 3) := by decide +kernel
theorem dX0_levelTotal_29 : decode cX0_levelTotal 29 = .ok (.iload_n 2, 1) := by decide +kernel
theorem dX0_levelTotal_30 : decode cX0_levelTotal 30 = .ok (.aaload, 1) := by decide +kernel
theorem dX0_levelTotal_31 : decode cX0_levelTotal 31 = .ok (.iload 6, 2) := by decide +kernel
theorem dX0_levelTotal_33 : decode cX0_levelTotal 33 = .ok (.iaload, 1) := by decide +kernel
theorem dX0_levelTotal_34 : decode cX0_levelTotal 34 = .ok (.iload_n 3, 1) := by decide +kernel
theorem dX0_levelTotal_35 : decode cX0_levelTotal 35 = .ok (.if_icmp .ne 12, 3) := by decide +kernel
theorem dX0_levelTotal_38 : decode cX0_levelTotal 38 = .ok (.lload 4, 2) := by decide +kernel
theorem dX0_levelTotal_40 : decode cX0_levelTotal 40 = .ok (.aload_n 1, 1) := by decide +kernel
end
section
theorem dX0_levelTotal_41 : decode cX0_levelTotal 41 = .ok (.iload 6, 2) := by decide +kernel
theorem dX0_levelTotal_43 : decode cX0_levelTotal 43 = .ok (.laload, 1) := by decide +kernel
theorem dX0_levelTotal_44 : decode cX0_levelTotal 44 = .ok (.ladd, 1) := by decide +kernel
theorem dX0_levelTotal_45 : decode cX0_levelTotal 45 = .ok (.lstore 4, 2) := by decide +kernel
theorem dX0_levelTotal_47 : decode cX0_levelTotal 47 = .ok (.iinc 6 1, 3) := by decide +kernel
theorem dX0_levelTotal_50 : decode cX0_levelTotal 50 = .ok (.goto (-44), 3) := by decide +kernel
theorem dX0_levelTotal_53 : decode cX0_levelTotal 53 = .ok (.lload 4, 2) := by decide +kernel
theorem dX0_levelTotal_55 : decode cX0_levelTotal 55 = .ok (.lreturn, 1) := by decide +kernel
theorem dX0_cappedTotal_0 : decode cX0_cappedTotal 0 = .ok (.lconst 0, 1) := by decide +kernel
theorem dX0_cappedTotal_1 : decode cX0_cappedTotal 1 = .ok (.lstore_n 1, 1) := by decide +kernel
theorem dX0_cappedTotal_2 : decode cX0_cappedTotal 2 = .ok (.iconst 0, 1) := by decide +kernel
theorem dX0_cappedTotal_3 : decode cX0_cappedTotal 3 = .ok (.istore_n 3, 1) := by decide +kernel
theorem dX0_cappedTotal_4 : decode cX0_cappedTotal 4 = .ok (.iload_n 3, 1) := by decide +kernel
theorem dX0_cappedTotal_5 : decode cX0_cappedTotal 5 = .ok (.aload_n 0, 1) := by decide +kernel
theorem dX0_cappedTotal_6 : decode cX0_cappedTotal 6 = .ok (.getfield 35, 3) := by decide +kernel
theorem dX0_cappedTotal_9 : decode cX0_cappedTotal 9 = .ok (.if_icmp .ge 26, 3) := by decide +kernel
theorem dX0_cappedTotal_12 : decode cX0_cappedTotal 12 = .ok (.aload_n 0, 1) := by decide +kernel
theorem dX0_cappedTotal_13 : decode cX0_cappedTotal 13 = .ok (.getfield 31, 3) := by decide +kernel
theorem dX0_cappedTotal_16 : decode cX0_cappedTotal 16 = .ok (.iload_n 3, 1) := by decide +kernel
theorem dX0_cappedTotal_17 : decode cX0_cappedTotal 17 = .ok (.baload, 1) := by decide +kernel
theorem dX0_cappedTotal_18 : decode cX0_cappedTotal 18 = .ok (.ifCond .eq 11, 3) := by decide +kernel
theorem dX0_cappedTotal_21 : decode cX0_cappedTotal 21 = .ok (.lload_n 1, 1) := by decide +kernel
theorem dX0_cappedTotal_22 : decode cX0_cappedTotal 22 = .ok (.aload_n 0, 1) := by decide +kernel
theorem dX0_cappedTotal_23 : decode cX0_cappedTotal 23 = .ok (.iload_n 3, 1) := by decide +kernel
theorem dX0_cappedTotal_24 : decode cX0_cappedTotal 24 = .ok (.invokevirtual 180, 3) := by decide +kernel
theorem dX0_cappedTotal_27 : decode cX0_cappedTotal 27 = .ok (.ladd, 1) := by decide +kernel
theorem dX0_cappedTotal_28 : decode cX0_cappedTotal 28 = .ok (.lstore_n 1, 1) := by decide +kernel
theorem dX0_cappedTotal_29 : decode cX0_cappedTotal 29 = .ok (.iinc 3 1, 3) := by decide +kernel
theorem dX0_cappedTotal_32 : decode cX0_cappedTotal 32 = .ok (.goto (-28), 3) := by decide +kernel
theorem dX0_cappedTotal_35 : decode cX0_cappedTotal 35 = .ok (.lload_n 1, 1) := by decide +kernel
theorem dX0_cappedTotal_36 : decode cX0_cappedTotal 36 = .ok (.lreturn, 1) := by decide +kernel
theorem dX0_refit_0 : decode cX0_refit 0 = .ok (.aload_n 0, 1) := by decide +kernel
theorem dX0_refit_1 : decode cX0_refit 1 = .ok (.aload_n 0, 1) := by decide +kernel
theorem dX0_refit_2 : decode cX0_refit 2 = .ok (.getfield 17, 3) := by decide +kernel
theorem dX0_refit_5 : decode cX0_refit 5 = .ok (.invokevirtual 149, 3) := by decide +kernel
theorem dX0_refit_8 : decode cX0_refit 8 = .ok (.lstore_n 1, 1) := by decide +kernel
theorem dX0_refit_9 : decode cX0_refit 9 = .ok (.aload_n 0, 1) := by decide +kernel
theorem dX0_refit_10 : decode cX0_refit 10 = .ok (.lload_n 1, 1) := by decide +kernel
theorem dX0_refit_11 : decode cX0_refit 11 = .ok (.lconst 0, 1) := by decide +kernel
theorem dX0_refit_12 : decode cX0_refit 12 = .ok (.lcmp, 1) := by decide +kernel
theorem dX0_refit_13 : decode cX0_refit 13 = .ok (.ifCond .le 20, 3) := by decide +kernel
theorem dX0_refit_16 : decode cX0_refit 16 = .ok (.ldc2_w 147, 3) := by decide +kernel
theorem dX0_refit_19 : decode cX0_refit 19 = .ok (.aload_n 0, 1) := by decide +kernel
theorem dX0_refit_20 : decode cX0_refit 20 = .ok (.aload_n 0, 1) := by decide +kernel
theorem dX0_refit_21 : decode cX0_refit 21 = .ok (.getfield 24, 3) := by decide +kernel
theorem dX0_refit_24 : decode cX0_refit 24 = .ok (.invokevirtual 149, 3) := by decide +kernel
theorem dX0_refit_27 : decode cX0_refit 27 = .ok (.lmul, 1) := by decide +kernel
theorem dX0_refit_28 : decode cX0_refit 28 = .ok (.lload_n 1, 1) := by decide +kernel
theorem dX0_refit_29 : decode cX0_refit 29 = .ok (.ldiv, 1) := by decide +kernel
theorem dX0_refit_30 : decode cX0_refit 30 = .ok (.goto 4, 3) := by decide +kernel
theorem dX0_refit_33 : decode cX0_refit 33 = .ok (.lconst 0, 1) := by decide +kernel
theorem dX0_refit_34 : decode cX0_refit 34 = .ok (.putfield 51, 3) := by decide +kernel
theorem dX0_refit_37 : decode cX0_refit 37 = .ok (.iconst 0, 1) := by decide +kernel
theorem dX0_refit_38 : decode cX0_refit 38 = .ok (.istore_n 3, 1) := by decide +kernel
theorem dX0_refit_39 : decode cX0_refit 39 = .ok (.iload_n 3, 1) := by decide +kernel
theorem dX0_refit_40 : decode cX0_refit 40 = .ok (.aload_n 0, 1) := by decide +kernel
theorem dX0_refit_41 : decode cX0_refit 41 = .ok (.getfield 35, 3) := by decide +kernel
theorem dX0_refit_44 : decode cX0_refit 44 = .ok (.if_icmp .ge 20, 3) := by decide +kernel
theorem dX0_refit_47 : decode cX0_refit 47 = .ok (.aload_n 0, 1) := by decide +kernel
theorem dX0_refit_48 : decode cX0_refit 48 = .ok (.getfield 55, 3) := by decide +kernel
theorem dX0_refit_51 : decode cX0_refit 51 = .ok (.iload_n 3, 1) := by decide +kernel
theorem dX0_refit_52 : decode cX0_refit 52 = .ok (.aload_n 0, 1) := by decide +kernel
theorem dX0_refit_53 : decode cX0_refit 53 = .ok (.iload_n 3, 1) := by decide +kernel
theorem dX0_refit_54 : decode cX0_refit 54 = .ok (.invokevirtual 188, 3) := by decide +kernel
theorem dX0_refit_57 : decode cX0_refit 57 = .ok (.lastore, 1) := by decide +kernel
theorem dX0_refit_58 : decode cX0_refit 58 = .ok (.iinc 3 1, 3) := by decide +kernel
theorem dX0_refit_61 : decode cX0_refit 61 = .ok (.goto (-22), 3) := by decide +kernel
theorem dX0_refit_64 : decode cX0_refit 64 = .ok (.return_, 1) := by decide +kernel
theorem dX0_fittedLoss_0 : decode cX0_fittedLoss 0 = .ok (.aload_n 0, 1) := by decide +kernel
theorem dX0_fittedLoss_1 : decode cX0_fittedLoss 1 = .ok (.getfield 17, 3) := by decide +kernel
theorem dX0_fittedLoss_4 : decode cX0_fittedLoss 4 = .ok (.iload_n 1, 1) := by decide +kernel
theorem dX0_fittedLoss_5 : decode cX0_fittedLoss 5 = .ok (.laload, 1) := by decide +kernel
theorem dX0_fittedLoss_6 : decode cX0_fittedLoss 6 = .ok (.aload_n 0, 1) := by decide +kernel
theorem dX0_fittedLoss_7 : decode cX0_fittedLoss 7 = .ok (.getfield 51, 3) := by decide +kernel
theorem dX0_fittedLoss_10 : decode cX0_fittedLoss 10 = .ok (.lmul, 1) := by decide +kernel
theorem dX0_fittedLoss_11 : decode cX0_fittedLoss 11 = .ok (.ldc2_w 147, 3) := by decide +kernel
theorem dX0_fittedLoss_14 : decode cX0_fittedLoss 14 = .ok (.ldiv, 1) := by decide +kernel
theorem dX0_fittedLoss_15 : decode cX0_fittedLoss 15 = .ok (.lstore_n 2, 1) := by decide +kernel
theorem dX0_fittedLoss_16 : decode cX0_fittedLoss 16 = .ok (.iconst 0, 1) := by decide +kernel
theorem dX0_fittedLoss_17 : decode cX0_fittedLoss 17 = .ok (.istore 4, 2) := by decide +kernel
theorem dX0_fittedLoss_19 : decode cX0_fittedLoss 19 = .ok (.iload 4, 2) := by decide +kernel
theorem dX0_fittedLoss_21 : decode cX0_fittedLoss 21 = .ok (.iconst 3, 1) := by decide +kernel
theorem dX0_fittedLoss_22 : decode cX0_fittedLoss 22 = .ok (.if_icmp .ge 34, 3) := by decide +kernel
theorem dX0_fittedLoss_25 : decode cX0_fittedLoss 25 = .ok (.lload_n 2, 1) := by decide +kernel
theorem dX0_fittedLoss_26 : decode cX0_fittedLoss 26 = .ok (.aload_n 0, 1) := by decide +kernel
theorem dX0_fittedLoss_27 : decode cX0_fittedLoss 27 = .ok (.getfield 11, 3) := by decide +kernel
theorem dX0_fittedLoss_30 : decode cX0_fittedLoss 30 = .ok (.iload 4, 2) := by decide +kernel
theorem dX0_fittedLoss_32 : decode cX0_fittedLoss 32 = .ok (.aaload, 1) := by decide +kernel
theorem dX0_fittedLoss_33 : decode cX0_fittedLoss 33 = .ok (.aload_n 0, 1) := by decide +kernel
theorem dX0_fittedLoss_34 : decode cX0_fittedLoss 34 = .ok (.getfield 14, 3) := by decide +kernel
theorem dX0_fittedLoss_37 : decode cX0_fittedLoss 37 = .ok (.iload 4, 2) := by decide +kernel
theorem dX0_fittedLoss_39 : decode cX0_fittedLoss 39 = .ok (.aaload, 1) := by decide +kernel
theorem dX0_fittedLoss_40 : decode cX0_fittedLoss 40 = .ok (.iload_n 1, 1) := by decide +kernel
theorem dX0_fittedLoss_41 : decode cX0_fittedLoss 41 = .ok (.iaload, 1) := by decide +kernel
theorem dX0_fittedLoss_42 : decode cX0_fittedLoss 42 = .ok (.iaload, 1) := by decide +kernel
theorem dX0_fittedLoss_43 : decode cX0_fittedLoss 43 = .ok (.i2l, 1) := by decide +kernel
theorem dX0_fittedLoss_44 : decode cX0_fittedLoss 44 = .ok (.lmul, 1) := by decide +kernel
theorem dX0_fittedLoss_45 : decode cX0_fittedLoss 45 = .ok (.ldc2_w 147, 3) := by decide +kernel
theorem dX0_fittedLoss_48 : decode cX0_fittedLoss 48 = .ok (.ldiv, 1) := by decide +kernel
theorem dX0_fittedLoss_49 : decode cX0_fittedLoss 49 = .ok (.lstore_n 2, 1) := by decide +kernel
theorem dX0_fittedLoss_50 : decode cX0_fittedLoss 50 = .ok (.iinc 4 1, 3) := by decide +kernel
theorem dX0_fittedLoss_53 : decode cX0_fittedLoss 53 = .ok (.goto (-34), 3) := by decide +kernel
theorem dX0_fittedLoss_56 : decode cX0_fittedLoss 56 = .ok (.lload_n 2, 1) := by decide +kernel
theorem dX0_fittedLoss_57 : decode cX0_fittedLoss 57 = .ok (.lreturn, 1) := by decide +kernel
theorem dX0_changedByRound_0 : decode cX0_changedByRound 0 = .ok (.iconst 0, 1) := by decide +kernel
theorem dX0_changedByRound_1 : decode cX0_changedByRound 1 = .ok (.istore_n 1, 1) := by decide +kernel
theorem dX0_changedByRound_2 : decode cX0_changedByRound 2 = .ok (.iconst 0, 1) := by decide +kernel
theorem dX0_changedByRound_3 : decode cX0_changedByRound 3 = .ok (.istore_n 2, 1) := by decide +kernel
theorem dX0_changedByRound_4 : decode cX0_changedByRound 4 = .ok (.iload_n 2, 1) := by decide +kernel
theorem dX0_changedByRound_5 : decode cX0_changedByRound 5 = .ok (.iconst 3, 1) := by decide +kernel
theorem dX0_changedByRound_6 : decode cX0_changedByRound 6 = .ok (.if_icmp .ge 17, 3) := by decide +kernel
theorem dX0_changedByRound_9 : decode cX0_changedByRound 9 = .ok (.iload_n 1, 1) := by decide +kernel
theorem dX0_changedByRound_10 : decode cX0_changedByRound 10 = .ok (.aload_n 0, 1) := by decide +kernel
theorem dX0_changedByRound_11 : decode cX0_changedByRound 11 = .ok (.iload_n 2, 1) := by decide +kernel
theorem dX0_changedByRound_12 : decode cX0_changedByRound 12 = .ok (.invokevirtual 122, 3) := by decide +kernel
theorem dX0_changedByRound_15 : decode cX0_changedByRound 15 = .ok (.iadd, 1) := by decide +kernel
theorem dX0_changedByRound_16 : decode cX0_changedByRound 16 = .ok (.istore_n 1, 1) := by decide +kernel
theorem dX0_changedByRound_17 : decode cX0_changedByRound 17 = .ok (.iinc 2 1, 3) := by decide +kernel
theorem dX0_changedByRound_20 : decode cX0_changedByRound 20 = .ok (.goto (-16), 3) := by decide +kernel
theorem dX0_changedByRound_23 : decode cX0_changedByRound 23 = .ok (.iload_n 1, 1) := by decide +kernel
theorem dX0_changedByRound_24 : decode cX0_changedByRound 24 = .ok (.ireturn, 1) := by decide +kernel
theorem dX0_passOver_0 : decode cX0_passOver 0 = .ok (.iconst 0, 1) := by decide +kernel
theorem dX0_passOver_1 : decode cX0_passOver 1 = .ok (.istore_n 2, 1) := by decide +kernel
theorem dX0_passOver_2 : decode cX0_passOver 2 = .ok (.iconst 0, 1) := by decide +kernel
theorem dX0_passOver_3 : decode cX0_passOver 3 = .ok (.istore_n 3, 1) := by decide +kernel
theorem dX0_passOver_4 : decode cX0_passOver 4 = .ok (.iload_n 3, 1) := by decide +kernel
theorem dX0_passOver_5 : decode cX0_passOver 5 = .ok (.getstatic 130, 3) := by decide +kernel
theorem dX0_passOver_8 : decode cX0_passOver 8 = .ok (.iload_n 1, 1) := by decide +kernel
theorem dX0_passOver_9 : decode cX0_passOver 9 = .ok (.iaload, 1) := by decide +kernel
theorem dX0_passOver_10 : decode cX0_passOver 10 = .ok (.if_icmp .ge 43, 3) := by decide +kernel
theorem dX0_passOver_13 : decode cX0_passOver 13 = .ok (.aload_n 0, 1) := by decide +kernel
theorem dX0_passOver_14 : decode cX0_passOver 14 = .ok (.iload_n 1, 1) := by decide +kernel
theorem dX0_passOver_15 : decode cX0_passOver 15 = .ok (.iload_n 3, 1) := by decide +kernel
theorem dX0_passOver_16 : decode cX0_passOver 16 = .ok (.invokevirtual 191, 3) := by decide +kernel
theorem dX0_passOver_19 : decode cX0_passOver 19 = .ok (.istore 4, 2) := by decide +kernel
theorem dX0_passOver_21 : decode cX0_passOver 21 = .ok (.iload 4, 2) := by decide +kernel
theorem dX0_passOver_23 : decode cX0_passOver 23 = .ok (.aload_n 0, 1) := by decide +kernel
theorem dX0_passOver_24 : decode cX0_passOver 24 = .ok (.getfield 11, 3) := by decide +kernel
theorem dX0_passOver_27 : decode cX0_passOver 27 = .ok (.iload_n 1, 1) := by decide +kernel
theorem dX0_passOver_28 : decode cX0_passOver 28 = .ok (.aaload, 1) := by decide +kernel
theorem dX0_passOver_29 : decode cX0_passOver 29 = .ok (.iload_n 3, 1) := by decide +kernel
theorem dX0_passOver_30 : decode cX0_passOver 30 = .ok (.iaload, 1) := by decide +kernel
theorem dX0_passOver_31 : decode cX0_passOver 31 = .ok (.if_icmp .eq 16, 3) := by decide +kernel
theorem dX0_passOver_34 : decode cX0_passOver 34 = .ok (.aload_n 0, 1) := by decide +kernel
theorem dX0_passOver_35 : decode cX0_passOver 35 = .ok (.getfield 11, 3) := by decide +kernel
theorem dX0_passOver_38 : decode cX0_passOver 38 = .ok (.iload_n 1, 1) := by decide +kernel
theorem dX0_passOver_39 : decode cX0_passOver 39 = .ok (.aaload, 1) := by decide +kernel
theorem dX0_passOver_40 : decode cX0_passOver 40 = .ok (.iload_n 3, 1) := by decide +kernel
theorem dX0_passOver_41 : decode cX0_passOver 41 = .ok (.iload 4, 2) := by decide +kernel
theorem dX0_passOver_43 : decode cX0_passOver 43 = .ok (.iastore, 1) := by decide +kernel
theorem dX0_passOver_44 : decode cX0_passOver 44 = .ok (.iinc 2 1, 3) := by decide +kernel
theorem dX0_passOver_47 : decode cX0_passOver 47 = .ok (.iinc 3 1, 3) := by decide +kernel
theorem dX0_passOver_50 : decode cX0_passOver 50 = .ok (.goto (-46), 3) := by decide +kernel
theorem dX0_passOver_53 : decode cX0_passOver 53 = .ok (.aload_n 0, 1) := by decide +kernel
theorem dX0_passOver_54 : decode cX0_passOver 54 = .ok (.invokevirtual 93, 3) := by decide +kernel
theorem dX0_passOver_57 : decode cX0_passOver 57 = .ok (.iload_n 2, 1) := by decide +kernel
theorem dX0_passOver_58 : decode cX0_passOver 58 = .ok (.ireturn, 1) := by decide +kernel
theorem dX0_foundFactor_0 : decode cX0_foundFactor 0 = .ok (.aload_n 0, 1) := by decide +kernel
theorem dX0_foundFactor_1 : decode cX0_foundFactor 1 = .ok (.getfield 11, 3) := by decide +kernel
theorem dX0_foundFactor_4 : decode cX0_foundFactor 4 = .ok (.iload_n 1, 1) := by decide +kernel
theorem dX0_foundFactor_5 : decode cX0_foundFactor 5 = .ok (.aaload, 1) := by decide +kernel
theorem dX0_foundFactor_6 : decode cX0_foundFactor 6 = .ok (.iload_n 2, 1) := by decide +kernel
theorem dX0_foundFactor_7 : decode cX0_foundFactor 7 = .ok (.iaload, 1) := by decide +kernel
theorem dX0_foundFactor_8 : decode cX0_foundFactor 8 = .ok (.istore_n 3, 1) := by decide +kernel
theorem dX0_foundFactor_9 : decode cX0_foundFactor 9 = .ok (.aload_n 0, 1) := by decide +kernel
theorem dX0_foundFactor_10 : decode cX0_foundFactor 10 = .ok (.aload_n 0, 1) := by decide +kernel
theorem dX0_foundFactor_11 : decode cX0_foundFactor 11 = .ok (.getfield 55, 3) := by decide +kernel
theorem dX0_foundFactor_14 : decode cX0_foundFactor 14 = .ok (.iload_n 1, 1) := by decide +kernel
theorem dX0_foundFactor_15 : decode cX0_foundFactor 15 = .ok (.iload_n 2, 1) := by decide +kernel
theorem dX0_foundFactor_16 : decode cX0_foundFactor 16 = .ok (.invokevirtual 165, 3) := by decide +kernel
theorem dX0_foundFactor_19 : decode cX0_foundFactor 19 = .ok (.lstore 4, 2) := by decide +kernel
theorem dX0_foundFactor_21 : decode cX0_foundFactor 21 = .ok (.aload_n 0, 1) := by decide +kernel
theorem dX0_foundFactor_22 : decode cX0_foundFactor 22 = .ok (.aload_n 0, 1) := by decide +kernel
theorem dX0_foundFactor_23 : decode cX0_foundFactor 23 = .ok (.getfield 21, 3) := by decide +kernel
theorem dX0_foundFactor_26 : decode cX0_foundFactor 26 = .ok (.iload_n 1, 1) := by decide +kernel
theorem dX0_foundFactor_27 : decode cX0_foundFactor 27 = .ok (.iload_n 2, 1) := by decide +kernel
theorem dX0_foundFactor_28 : decode cX0_foundFactor 28 = .ok (.invokevirtual 165, 3) := by decide +kernel
theorem dX0_foundFactor_31 : decode cX0_foundFactor 31 = .ok (.lstore 6, 2) := by decide +kernel
theorem dX0_foundFactor_33 : decode cX0_foundFactor 33 = .ok (.lload 4, 2) := by decide +kernel
theorem dX0_foundFactor_35 : decode cX0_foundFactor 35 = .ok (.lconst 0, 1) := by decide +kernel
theorem dX0_foundFactor_36 : decode cX0_foundFactor 36 = .ok (.lcmp, 1) := by decide +kernel
theorem dX0_foundFactor_37 : decode cX0_foundFactor 37 = .ok (.ifCond .le 10, 3) := by decide +kernel
theorem dX0_foundFactor_40 : decode cX0_foundFactor 40 = .ok (.lload 6, 2) := by decide +kernel
theorem dX0_foundFactor_42 : decode cX0_foundFactor 42 = .ok (.lconst 0, 1) := by decide +kernel
theorem dX0_foundFactor_43 : decode cX0_foundFactor 43 = .ok (.lcmp, 1) := by decide +kernel
theorem dX0_foundFactor_44 : decode cX0_foundFactor 44 = .ok (.ifCond .gt 5, 3) := by decide +kernel
theorem dX0_foundFactor_47 : decode cX0_foundFactor 47 = .ok (.iload_n 3, 1) := by decide +kernel
theorem dX0_foundFactor_48 : decode cX0_foundFactor 48 = .ok (.ireturn, 1) := by decide +kernel
theorem dX0_foundFactor_49 : decode cX0_foundFactor 49 = .ok (.iload_n 3, 1) := by decide +kernel
theorem dX0_foundFactor_50 : decode cX0_foundFactor 50 = .ok (.i2l, 1) := by decide +kernel
theorem dX0_foundFactor_51 : decode cX0_foundFactor 51 = .ok (.aload_n 0, 1) := by decide +kernel
theorem dX0_foundFactor_52 : decode cX0_foundFactor 52 = .ok (.aload_n 0, 1) := by decide +kernel
theorem dX0_foundFactor_53 : decode cX0_foundFactor 53 = .ok (.getfield 24, 3) := by decide +kernel
theorem dX0_foundFactor_56 : decode cX0_foundFactor 56 = .ok (.iload_n 1, 1) := by decide +kernel
theorem dX0_foundFactor_57 : decode cX0_foundFactor 57 = .ok (.iload_n 2, 1) := by decide +kernel
theorem dX0_foundFactor_58 : decode cX0_foundFactor 58 = .ok (.invokevirtual 165, 3) := by decide +kernel
theorem dX0_foundFactor_61 : decode cX0_foundFactor 61 = .ok (.lmul, 1) := by decide +kernel
theorem dX0_foundFactor_62 : decode cX0_foundFactor 62 = .ok (.lload 4, 2) := by decide +kernel
theorem dX0_foundFactor_64 : decode cX0_foundFactor 64 = .ok (.ldiv, 1) := by decide +kernel
theorem dX0_foundFactor_65 : decode cX0_foundFactor 65 = .ok (.lstore 8, 2) := by decide +kernel
theorem dX0_foundFactor_67 : decode cX0_foundFactor 67 = .ok (.lload 8, 2) := by decide +kernel
theorem dX0_foundFactor_69 : decode cX0_foundFactor 69 = .ok (.iload_n 3, 1) := by decide +kernel
theorem dX0_foundFactor_70 : decode cX0_foundFactor 70 = .ok (.i2l, 1) := by decide +kernel
theorem dX0_foundFactor_71 : decode cX0_foundFactor 71 = .ok (.lsub, 1) := by decide +kernel
theorem dX0_foundFactor_72 : decode cX0_foundFactor 72 = .ok (.lload 6, 2) := by decide +kernel
theorem dX0_foundFactor_74 : decode cX0_foundFactor 74 = .ok (.lmul, 1) := by decide +kernel
theorem dX0_foundFactor_75 : decode cX0_foundFactor 75 = .ok (.lload 6, 2) := by decide +kernel
theorem dX0_foundFactor_77 : decode cX0_foundFactor 77 = .ok (.aload_n 0, 1) := by decide +kernel
theorem dX0_foundFactor_78 : decode cX0_foundFactor 78 = .ok (.getfield 42, 3) := by decide +kernel
theorem dX0_foundFactor_81 : decode cX0_foundFactor 81 = .ok (.i2l, 1) := by decide +kernel
theorem dX0_foundFactor_82 : decode cX0_foundFactor 82 = .ok (.ladd, 1) := by decide +kernel
theorem dX0_foundFactor_83 : decode cX0_foundFactor 83 = .ok (.ldiv, 1) := by decide +kernel
theorem dX0_foundFactor_84 : decode cX0_foundFactor 84 = .ok (.lstore 10, 2) := by decide +kernel
theorem dX0_foundFactor_86 : decode cX0_foundFactor 86 = .ok (.iload_n 3, 1) := by decide +kernel
theorem dX0_foundFactor_87 : decode cX0_foundFactor 87 = .ok (.i2l, 1) := by decide +kernel
theorem dX0_foundFactor_88 : decode cX0_foundFactor 88 = .ok (.lload 10, 2) := by decide +kernel
theorem dX0_foundFactor_90 : decode cX0_foundFactor 90 = .ok (.ladd, 1) := by decide +kernel
theorem dX0_foundFactor_91 : decode cX0_foundFactor 91 = .ok (.ldc2_w 195, 3) := by decide +kernel
theorem dX0_foundFactor_94 : decode cX0_foundFactor 94 = .ok (.ldc2_w 197, 3) := by decide +kernel
theorem dX0_foundFactor_97 : decode cX0_foundFactor 97 = .ok (.invokestatic 161, 3) := by decide +kernel
theorem dX0_foundFactor_100 : decode cX0_foundFactor 100 = .ok (.l2i, 1) := by decide +kernel
theorem dX0_foundFactor_101 : decode cX0_foundFactor 101 = .ok (.ireturn, 1) := by decide +kernel
theorem dX0_bounded_0 : decode cX0_bounded 0 = .ok (.lload_n 0, 1) := by decide +kernel
theorem dX0_bounded_1 : decode cX0_bounded 1 = .ok (.lload_n 2, 1) := by decide +kernel
theorem dX0_bounded_2 : decode cX0_bounded 2 = .ok (.invokestatic 173, 3) := by decide +kernel
theorem dX0_bounded_5 : decode cX0_bounded 5 = .ok (.lload 4, 2) := by decide +kernel
theorem dX0_bounded_7 : decode cX0_bounded 7 = .ok (.invokestatic 155, 3) := by decide +kernel
theorem dX0_bounded_10 : decode cX0_bounded 10 = .ok (.lreturn, 1) := by decide +kernel
theorem dX0_lowestFallingLevel_0 : decode cX0_lowestFallingLevel 0 = .ok (.iconst 1, 1) := by decide +kernel
theorem dX0_lowestFallingLevel_1 : decode cX0_lowestFallingLevel 1 = .ok (.istore_n 2, 1) := by decide +kernel
theorem dX0_lowestFallingLevel_2 : decode cX0_lowestFallingLevel 2 = .ok (.iload_n 2, 1) := by decide +kernel
theorem dX0_lowestFallingLevel_3 : decode cX0_lowestFallingLevel 3 = .ok (.getstatic 130, 3) := by decide +kernel
theorem dX0_lowestFallingLevel_6 : decode cX0_lowestFallingLevel 6 = .ok (.iload_n 1, 1) := by decide +kernel
theorem dX0_lowestFallingLevel_7 : decode cX0_lowestFallingLevel 7 = .ok (.iaload, 1) := by decide +kernel
theorem dX0_lowestFallingLevel_8 : decode cX0_lowestFallingLevel 8 = .ok (.if_icmp .ge 32, 3) := by decide +kernel
theorem dX0_lowestFallingLevel_11 : decode cX0_lowestFallingLevel 11 = .ok (.aload_n 0, 1) := by decide +kernel
theorem dX0_lowestFallingLevel_12 : decode cX0_lowestFallingLevel 12 = .ok (.getfield 11, 3) := by decide +kernel
theorem dX0_lowestFallingLevel_15 : decode cX0_lowestFallingLevel 15 = .ok (.iload_n 1, 1) := by decide +kernel
theorem dX0_lowestFallingLevel_16 : decode cX0_lowestFallingLevel 16 = .ok (.aaload, 1) := by decide +kernel
theorem dX0_lowestFallingLevel_17 : decode cX0_lowestFallingLevel 17 = .ok (.iload_n 2, 1) := by decide +kernel
theorem dX0_lowestFallingLevel_18 : decode cX0_lowestFallingLevel 18 = .ok (.iaload, 1) := by decide +kernel
theorem dX0_lowestFallingLevel_19 : decode cX0_lowestFallingLevel 19 = .ok (.aload_n 0, 1) := by decide +kernel
theorem dX0_lowestFallingLevel_20 : decode cX0_lowestFallingLevel 20 = .ok (.getfield 11, 3) := by decide +kernel
theorem dX0_lowestFallingLevel_23 : decode cX0_lowestFallingLevel 23 = .ok (.iload_n 1, 1) := by decide +kernel
theorem dX0_lowestFallingLevel_24 : decode cX0_lowestFallingLevel 24 = .ok (.aaload, 1) := by decide +kernel
theorem dX0_lowestFallingLevel_25 : decode cX0_lowestFallingLevel 25 = .ok (.iload_n 2, 1) := by decide +kernel
theorem dX0_lowestFallingLevel_26 : decode cX0_lowestFallingLevel 26 = .ok (.iconst 1, 1) := by decide +kernel
theorem dX0_lowestFallingLevel_27 : decode cX0_lowestFallingLevel 27 = .ok (.isub, 1) := by decide +kernel
theorem dX0_lowestFallingLevel_28 : decode cX0_lowestFallingLevel 28 = .ok (.iaload, 1) := by decide +kernel
theorem dX0_lowestFallingLevel_29 : decode cX0_lowestFallingLevel 29 = .ok (.if_icmp .ge 5, 3) := by decide +kernel
theorem dX0_lowestFallingLevel_32 : decode cX0_lowestFallingLevel 32 = .ok (.iload_n 2, 1) := by decide +kernel
theorem dX0_lowestFallingLevel_33 : decode cX0_lowestFallingLevel 33 = .ok (.ireturn, 1) := by decide +kernel
theorem dX0_lowestFallingLevel_34 : decode cX0_lowestFallingLevel 34 = .ok (.iinc 2 1, 3) := by decide +kernel
theorem dX0_lowestFallingLevel_37 : decode cX0_lowestFallingLevel 37 = .ok (.goto (-35), 3) := by decide +kernel
theorem dX0_lowestFallingLevel_40 : decode cX0_lowestFallingLevel 40 = .ok (.iconst (-1), 1) := by decide +kernel
theorem dX0_lowestFallingLevel_41 : decode cX0_lowestFallingLevel 41 = .ok (.ireturn, 1) := by decide +kernel
theorem dX0_joinToLevelAhead_0 : decode cX0_joinToLevelAhead 0 = .ok (.aload_n 0, 1) := by decide +kernel
theorem dX0_joinToLevelAhead_1 : decode cX0_joinToLevelAhead 1 = .ok (.getfield 58, 3) := by decide +kernel
theorem dX0_joinToLevelAhead_4 : decode cX0_joinToLevelAhead 4 = .ok (.iload_n 2, 1) := by decide +kernel
theorem dX0_joinToLevelAhead_5 : decode cX0_joinToLevelAhead 5 = .ok (.iconst 1, 1) := by decide +kernel
theorem dX0_joinToLevelAhead_6 : decode cX0_joinToLevelAhead 6 = .ok (.isub, 1) := by decide +kernel
theorem dX0_joinToLevelAhead_7 : decode cX0_joinToLevelAhead 7 = .ok (.iaload, 1) := by decide +kernel
theorem dX0_joinToLevelAhead_8 : decode cX0_joinToLevelAhead 8 = .ok (.istore_n 3, 1) := by decide +kernel
theorem dX0_joinToLevelAhead_9 : decode cX0_joinToLevelAhead 9 = .ok (.iload_n 2, 1) := by decide +kernel
theorem dX0_joinToLevelAhead_10 : decode cX0_joinToLevelAhead 10 = .ok (.istore 4, 2) := by decide +kernel
theorem dX0_joinToLevelAhead_12 : decode cX0_joinToLevelAhead 12 = .ok (.iload 4, 2) := by decide +kernel
theorem dX0_joinToLevelAhead_14 : decode cX0_joinToLevelAhead 14 = .ok (.getstatic 130, 3) := by decide +kernel
theorem dX0_joinToLevelAhead_17 : decode cX0_joinToLevelAhead 17 = .ok (.iload_n 1, 1) := by decide +kernel
theorem dX0_joinToLevelAhead_18 : decode cX0_joinToLevelAhead 18 = .ok (.iaload, 1) := by decide +kernel
theorem dX0_joinToLevelAhead_19 : decode cX0_joinToLevelAhead 19 = .ok (.if_icmp .ge 28, 3) := by decide +kernel
theorem dX0_joinToLevelAhead_22 : decode cX0_joinToLevelAhead 22 = .ok (.aload_n 0, 1) := by decide +kernel
theorem dX0_joinToLevelAhead_23 : decode cX0_joinToLevelAhead 23 = .ok (.getfield 58, 3) := by decide +kernel
theorem dX0_joinToLevelAhead_26 : decode cX0_joinToLevelAhead 26 = .ok (.iload 4, 2) := by decide +kernel
theorem dX0_joinToLevelAhead_28 : decode cX0_joinToLevelAhead 28 = .ok (.iaload, 1) := by decide +kernel
theorem dX0_joinToLevelAhead_29 : decode cX0_joinToLevelAhead 29 = .ok (.iload_n 2, 1) := by decide +kernel
theorem dX0_joinToLevelAhead_30 : decode cX0_joinToLevelAhead 30 = .ok (.if_icmp .ne 11, 3) := by decide +kernel
theorem dX0_joinToLevelAhead_33 : decode cX0_joinToLevelAhead 33 = .ok (.aload_n 0, 1) := by decide +kernel
theorem dX0_joinToLevelAhead_34 : decode cX0_joinToLevelAhead 34 = .ok (.getfield 58, 3) := by decide +kernel
theorem dX0_joinToLevelAhead_37 : decode cX0_joinToLevelAhead 37 = .ok (.iload 4, 2) := by decide +kernel
theorem dX0_joinToLevelAhead_39 : decode cX0_joinToLevelAhead 39 = .ok (.iload_n 3, 1) := by decide +kernel
theorem dX0_joinToLevelAhead_40 : decode cX0_joinToLevelAhead 40 = .ok (.iastore, 1) := by decide +kernel
theorem dX0_joinToLevelAhead_41 : decode cX0_joinToLevelAhead 41 = .ok (.iinc 4 1, 3) := by decide +kernel
theorem dX0_joinToLevelAhead_44 : decode cX0_joinToLevelAhead 44 = .ok (.goto (-32), 3) := by decide +kernel
theorem dX0_joinToLevelAhead_47 : decode cX0_joinToLevelAhead 47 = .ok (.aload_n 0, 1) := by decide +kernel
theorem dX0_joinToLevelAhead_48 : decode cX0_joinToLevelAhead 48 = .ok (.iload_n 1, 1) := by decide +kernel
theorem dX0_joinToLevelAhead_49 : decode cX0_joinToLevelAhead 49 = .ok (.iload_n 3, 1) := by decide +kernel
theorem dX0_joinToLevelAhead_50 : decode cX0_joinToLevelAhead 50 = .ok (.invokevirtual 199, 3) := by decide +kernel
theorem dX0_joinToLevelAhead_53 : decode cX0_joinToLevelAhead 53 = .ok (.istore 4, 2) := by decide +kernel
theorem dX0_joinToLevelAhead_55 : decode cX0_joinToLevelAhead 55 = .ok (.iload_n 3, 1) := by decide +kernel
theorem dX0_joinToLevelAhead_56 : decode cX0_joinToLevelAhead 56 = .ok (.istore 5, 2) := by decide +kernel
theorem dX0_joinToLevelAhead_58 : decode cX0_joinToLevelAhead 58 = .ok (.iload 5, 2) := by decide +kernel
theorem dX0_joinToLevelAhead_60 : decode cX0_joinToLevelAhead 60 = .ok (.getstatic 130, 3) := by decide +kernel
theorem dX0_joinToLevelAhead_63 : decode cX0_joinToLevelAhead 63 = .ok (.iload_n 1, 1) := by decide +kernel
theorem dX0_joinToLevelAhead_64 : decode cX0_joinToLevelAhead 64 = .ok (.iaload, 1) := by decide +kernel
theorem dX0_joinToLevelAhead_65 : decode cX0_joinToLevelAhead 65 = .ok (.if_icmp .ge 31, 3) := by decide +kernel
theorem dX0_joinToLevelAhead_68 : decode cX0_joinToLevelAhead 68 = .ok (.aload_n 0, 1) := by decide +kernel
theorem dX0_joinToLevelAhead_69 : decode cX0_joinToLevelAhead 69 = .ok (.getfield 58, 3) := by decide +kernel
theorem dX0_joinToLevelAhead_72 : decode cX0_joinToLevelAhead 72 = .ok (.iload 5, 2) := by decide +kernel
theorem dX0_joinToLevelAhead_74 : decode cX0_joinToLevelAhead 74 = .ok (.iaload, 1) := by decide +kernel
theorem dX0_joinToLevelAhead_75 : decode cX0_joinToLevelAhead 75 = .ok (.iload_n 3, 1) := by decide +kernel
theorem dX0_joinToLevelAhead_76 : decode cX0_joinToLevelAhead 76 = .ok (.if_icmp .ne 14, 3) := by decide +kernel
theorem dX0_joinToLevelAhead_79 : decode cX0_joinToLevelAhead 79 = .ok (.aload_n 0, 1) := by decide +kernel
theorem dX0_joinToLevelAhead_80 : decode cX0_joinToLevelAhead 80 = .ok (.getfield 11, 3) := by decide +kernel
theorem dX0_joinToLevelAhead_83 : decode cX0_joinToLevelAhead 83 = .ok (.iload_n 1, 1) := by decide +kernel
theorem dX0_joinToLevelAhead_84 : decode cX0_joinToLevelAhead 84 = .ok (.aaload, 1) := by decide +kernel
theorem dX0_joinToLevelAhead_85 : decode cX0_joinToLevelAhead 85 = .ok (.iload 5, 2) := by decide +kernel
theorem dX0_joinToLevelAhead_87 : decode cX0_joinToLevelAhead 87 = .ok (.iload 4, 2) := by decide +kernel
theorem dX0_joinToLevelAhead_89 : decode cX0_joinToLevelAhead 89 = .ok (.iastore, 1) := by decide +kernel
theorem dX0_joinToLevelAhead_90 : decode cX0_joinToLevelAhead 90 = .ok (.iinc 5 1, 3) := by decide +kernel
theorem dX0_joinToLevelAhead_93 : decode cX0_joinToLevelAhead 93 = .ok (.goto (-35), 3) := by decide +kernel
theorem dX0_joinToLevelAhead_96 : decode cX0_joinToLevelAhead 96 = .ok (.return_, 1) := by decide +kernel
theorem dX0_groupMean_0 : decode cX0_groupMean 0 = .ok (.lconst 0, 1) := by decide +kernel
theorem dX0_groupMean_1 : decode cX0_groupMean 1 = .ok (.lstore_n 3, 1) := by decide +kernel
theorem dX0_groupMean_2 : decode cX0_groupMean 2 = .ok (.iconst 0, 1) := by decide +kernel
theorem dX0_groupMean_3 : decode cX0_groupMean 3 = .ok (.istore 5, 2) := by decide +kernel
theorem dX0_groupMean_5 : decode cX0_groupMean 5 = .ok (.lconst 0, 1) := by decide +kernel
theorem dX0_groupMean_6 : decode cX0_groupMean 6 = .ok (.lstore 6, 2) := by decide +kernel
theorem dX0_groupMean_8 : decode cX0_groupMean 8 = .ok (.lconst 0, 1) := by decide +kernel
theorem dX0_groupMean_9 : decode cX0_groupMean 9 = .ok (.lstore 8, 2) := by decide +kernel
theorem dX0_groupMean_11 : decode cX0_groupMean 11 = .ok (.iload_n 2, 1) := by decide +kernel
theorem dX0_groupMean_12 : decode cX0_groupMean 12 = .ok (.istore 10, 2) := by decide +kernel
theorem dX0_groupMean_14 : decode cX0_groupMean 14 = .ok (.iload 10, 2) := by decide +kernel
theorem dX0_groupMean_16 : decode cX0_groupMean 16 = .ok (.getstatic 130, 3) := by decide +kernel
theorem dX0_groupMean_19 : decode cX0_groupMean 19 = .ok (.iload_n 1, 1) := by decide +kernel
theorem dX0_groupMean_20 : decode cX0_groupMean 20 = .ok (.iaload, 1) := by decide +kernel
theorem dX0_groupMean_21 : decode cX0_groupMean 21 = .ok (.if_icmp .ge 74, 3) := by decide +kernel
theorem dX0_groupMean_24 : decode cX0_groupMean 24 = .ok (.aload_n 0, 1) := by decide +kernel
theorem dX0_groupMean_25 : decode cX0_groupMean 25 = .ok (.getfield 58, 3) := by decide +kernel
theorem dX0_groupMean_28 : decode cX0_groupMean 28 = .ok (.iload 10, 2) := by decide +kernel
theorem dX0_groupMean_30 : decode cX0_groupMean 30 = .ok (.iaload, 1) := by decide +kernel
theorem dX0_groupMean_31 : decode cX0_groupMean 31 = .ok (.iload_n 2, 1) := by decide +kernel
theorem dX0_groupMean_32 : decode cX0_groupMean 32 = .ok (.if_icmp .ne 57, 3) := by decide +kernel
theorem dX0_groupMean_35 : decode cX0_groupMean 35 = .ok (.aload_n 0, 1) := by decide +kernel
theorem dX0_groupMean_36 : decode cX0_groupMean 36 = .ok (.aload_n 0, 1) := by decide +kernel
theorem dX0_groupMean_37 : decode cX0_groupMean 37 = .ok (.getfield 17, 3) := by decide +kernel
theorem dX0_groupMean_40 : decode cX0_groupMean 40 = .ok (.iload_n 1, 1) := by decide +kernel
theorem dX0_groupMean_41 : decode cX0_groupMean 41 = .ok (.iload 10, 2) := by decide +kernel
theorem dX0_groupMean_43 : decode cX0_groupMean 43 = .ok (.invokevirtual 165, 3) := by decide +kernel
theorem dX0_groupMean_46 : decode cX0_groupMean 46 = .ok (.lstore 11, 2) := by decide +kernel
theorem dX0_groupMean_48 : decode cX0_groupMean 48 = .ok (.lload_n 3, 1) := by decide +kernel
theorem dX0_groupMean_49 : decode cX0_groupMean 49 = .ok (.aload_n 0, 1) := by decide +kernel
theorem dX0_groupMean_50 : decode cX0_groupMean 50 = .ok (.getfield 11, 3) := by decide +kernel
theorem dX0_groupMean_53 : decode cX0_groupMean 53 = .ok (.iload_n 1, 1) := by decide +kernel
theorem dX0_groupMean_54 : decode cX0_groupMean 54 = .ok (.aaload, 1) := by decide +kernel
theorem dX0_groupMean_55 : decode cX0_groupMean 55 = .ok (.iload 10, 2) := by decide +kernel
theorem dX0_groupMean_57 : decode cX0_groupMean 57 = .ok (.iaload, 1) := by decide +kernel
theorem dX0_groupMean_58 : decode cX0_groupMean 58 = .ok (.i2l, 1) := by decide +kernel
theorem dX0_groupMean_59 : decode cX0_groupMean 59 = .ok (.ladd, 1) := by decide +kernel
theorem dX0_groupMean_60 : decode cX0_groupMean 60 = .ok (.lstore_n 3, 1) := by decide +kernel
theorem dX0_groupMean_61 : decode cX0_groupMean 61 = .ok (.iinc 5 1, 3) := by decide +kernel
theorem dX0_groupMean_64 : decode cX0_groupMean 64 = .ok (.lload 6, 2) := by decide +kernel
theorem dX0_groupMean_66 : decode cX0_groupMean 66 = .ok (.lload 11, 2) := by decide +kernel
theorem dX0_groupMean_68 : decode cX0_groupMean 68 = .ok (.aload_n 0, 1) := by decide +kernel
theorem dX0_groupMean_69 : decode cX0_groupMean 69 = .ok (.getfield 11, 3) := by decide +kernel
theorem dX0_groupMean_72 : decode cX0_groupMean 72 = .ok (.iload_n 1, 1) := by decide +kernel
theorem dX0_groupMean_73 : decode cX0_groupMean 73 = .ok (.aaload, 1) := by decide +kernel
theorem dX0_groupMean_74 : decode cX0_groupMean 74 = .ok (.iload 10, 2) := by decide +kernel
theorem dX0_groupMean_76 : decode cX0_groupMean 76 = .ok (.iaload, 1) := by decide +kernel
theorem dX0_groupMean_77 : decode cX0_groupMean 77 = .ok (.i2l, 1) := by decide +kernel
theorem dX0_groupMean_78 : decode cX0_groupMean 78 = .ok (.lmul, 1) := by decide +kernel
theorem dX0_groupMean_79 : decode cX0_groupMean 79 = .ok (.ladd, 1) := by decide +kernel
theorem dX0_groupMean_80 : decode cX0_groupMean 80 = .ok (.lstore 6, 2) := by decide +kernel
theorem dX0_groupMean_82 : decode cX0_groupMean 82 = .ok (.lload 8, 2) := by decide +kernel
theorem dX0_groupMean_84 : decode cX0_groupMean 84 = .ok (.lload 11, 2) := by decide +kernel
theorem dX0_groupMean_86 : decode cX0_groupMean 86 = .ok (.ladd, 1) := by decide +kernel
theorem dX0_groupMean_87 : decode cX0_groupMean 87 = .ok (.lstore 8, 2) := by decide +kernel
theorem dX0_groupMean_89 : decode cX0_groupMean 89 = .ok (.iinc 10 1, 3) := by decide +kernel
theorem dX0_groupMean_92 : decode cX0_groupMean 92 = .ok (.goto (-78), 3) := by decide +kernel
theorem dX0_groupMean_95 : decode cX0_groupMean 95 = .ok (.lload 8, 2) := by decide +kernel
theorem dX0_groupMean_97 : decode cX0_groupMean 97 = .ok (.lconst 0, 1) := by decide +kernel
theorem dX0_groupMean_98 : decode cX0_groupMean 98 = .ok (.lcmp, 1) := by decide +kernel
theorem dX0_groupMean_99 : decode cX0_groupMean 99 = .ok (.ifCond .le 11, 3) := by decide +kernel
theorem dX0_groupMean_102 : decode cX0_groupMean 102 = .ok (.lload 6, 2) := by decide +kernel
theorem dX0_groupMean_104 : decode cX0_groupMean 104 = .ok (.lload 8, 2) := by decide +kernel
theorem dX0_groupMean_106 : decode cX0_groupMean 106 = .ok (.ldiv, 1) := by decide +kernel
theorem dX0_groupMean_107 : decode cX0_groupMean 107 = .ok (.goto 12, 3) := by decide +kernel
theorem dX0_groupMean_110 : decode cX0_groupMean 110 = .ok (.lload_n 3, 1) := by decide +kernel
theorem dX0_groupMean_111 : decode cX0_groupMean 111 = .ok (.iload 5, 2) := by decide +kernel
theorem dX0_groupMean_113 : decode cX0_groupMean 113 = .ok (.iconst 1, 1) := by decide +kernel
theorem dX0_groupMean_114 : decode cX0_groupMean 114 = .ok (.invokestatic 202, 3) := by decide +kernel
theorem dX0_groupMean_117 : decode cX0_groupMean 117 = .ok (.i2l, 1) := by decide +kernel
theorem dX0_groupMean_118 : decode cX0_groupMean 118 = .ok (.ldiv, 1) := by decide +kernel
theorem dX0_groupMean_119 : decode cX0_groupMean 119 = .ok (.l2i, 1) := by decide +kernel
theorem dX0_groupMean_120 : decode cX0_groupMean 120 = .ok (.ireturn, 1) := by decide +kernel
theorem dX0_changedSinceBefore_0 : decode cX0_changedSinceBefore 0 = .ok (.iconst 0, 1) := by decide +kernel
theorem dX0_changedSinceBefore_1 : decode cX0_changedSinceBefore 1 = .ok (.istore_n 2, 1) := by decide +kernel
theorem dX0_changedSinceBefore_2 : decode cX0_changedSinceBefore 2 = .ok (.iconst 0, 1) := by decide +kernel
theorem dX0_changedSinceBefore_3 : decode cX0_changedSinceBefore 3 = .ok (.istore_n 3, 1) := by decide +kernel
theorem dX0_changedSinceBefore_4 : decode cX0_changedSinceBefore 4 = .ok (.iload_n 3, 1) := by decide +kernel
theorem dX0_changedSinceBefore_5 : decode cX0_changedSinceBefore 5 = .ok (.getstatic 130, 3) := by decide +kernel
theorem dX0_changedSinceBefore_8 : decode cX0_changedSinceBefore 8 = .ok (.iload_n 1, 1) := by decide +kernel
theorem dX0_changedSinceBefore_9 : decode cX0_changedSinceBefore 9 = .ok (.iaload, 1) := by decide +kernel
theorem dX0_changedSinceBefore_10 : decode cX0_changedSinceBefore 10 = .ok (.if_icmp .ge 29, 3) := by decide +kernel
theorem dX0_changedSinceBefore_13 : decode cX0_changedSinceBefore 13 = .ok (.aload_n 0, 1) := by decide +kernel
theorem dX0_changedSinceBefore_14 : decode cX0_changedSinceBefore 14 = .ok (.getfield 11, 3) := by decide +kernel
theorem dX0_changedSinceBefore_17 : decode cX0_changedSinceBefore 17 = .ok (.iload_n 1, 1) := by decide +kernel
theorem dX0_changedSinceBefore_18 : decode cX0_changedSinceBefore 18 = .ok (.aaload, 1) := by decide +kernel
theorem dX0_changedSinceBefore_19 : decode cX0_changedSinceBefore 19 = .ok (.iload_n 3, 1) := by decide +kernel
theorem dX0_changedSinceBefore_20 : decode cX0_changedSinceBefore 20 = .ok (.iaload, 1) := by decide +kernel
theorem dX0_changedSinceBefore_21 : decode cX0_changedSinceBefore 21 = .ok (.aload_n 0, 1) := by decide +kernel
theorem dX0_changedSinceBefore_22 : decode cX0_changedSinceBefore 22 = .ok (.getfield 61, 3) := by decide +kernel
theorem dX0_changedSinceBefore_25 : decode cX0_changedSinceBefore 25 = .ok (.iload_n 3, 1) := by decide +kernel
theorem dX0_changedSinceBefore_26 : decode cX0_changedSinceBefore 26 = .ok (.iaload, 1) := by decide +kernel
theorem dX0_changedSinceBefore_27 : decode cX0_changedSinceBefore 27 = .ok (.if_icmp .eq 6, 3) := by decide +kernel
theorem dX0_changedSinceBefore_30 : decode cX0_changedSinceBefore 30 = .ok (.iinc 2 1, 3) := by decide +kernel
theorem dX0_changedSinceBefore_33 : decode cX0_changedSinceBefore 33 = .ok (.iinc 3 1, 3) := by decide +kernel
theorem dX0_changedSinceBefore_36 : decode cX0_changedSinceBefore 36 = .ok (.goto (-32), 3) := by decide +kernel
theorem dX0_changedSinceBefore_39 : decode cX0_changedSinceBefore 39 = .ok (.iload_n 2, 1) := by decide +kernel
theorem dX0_changedSinceBefore_40 : decode cX0_changedSinceBefore 40 = .ok (.ireturn, 1) := by decide +kernel
theorem dX0_newPremium_0 : decode cX0_newPremium 0 = .ok (.aload_n 0, 1) := by decide +kernel
theorem dX0_newPremium_1 : decode cX0_newPremium 1 = .ok (.getfield 55, 3) := by decide +kernel
theorem dX0_newPremium_4 : decode cX0_newPremium 4 = .ok (.iload_n 1, 1) := by decide +kernel
theorem dX0_newPremium_5 : decode cX0_newPremium 5 = .ok (.laload, 1) := by decide +kernel
theorem dX0_newPremium_6 : decode cX0_newPremium 6 = .ok (.aload_n 0, 1) := by decide +kernel
theorem dX0_newPremium_7 : decode cX0_newPremium 7 = .ok (.getfield 48, 3) := by decide +kernel
theorem dX0_newPremium_10 : decode cX0_newPremium 10 = .ok (.i2l, 1) := by decide +kernel
theorem dX0_newPremium_11 : decode cX0_newPremium 11 = .ok (.lmul, 1) := by decide +kernel
theorem dX0_newPremium_12 : decode cX0_newPremium 12 = .ok (.ldc2_w 147, 3) := by decide +kernel
theorem dX0_newPremium_15 : decode cX0_newPremium 15 = .ok (.ldiv, 1) := by decide +kernel
theorem dX0_newPremium_16 : decode cX0_newPremium 16 = .ok (.lreturn, 1) := by decide +kernel
theorem dX0_cappedPremium_0 : decode cX0_cappedPremium 0 = .ok (.aload_n 0, 1) := by decide +kernel
theorem dX0_cappedPremium_1 : decode cX0_cappedPremium 1 = .ok (.getfield 45, 3) := by decide +kernel
theorem dX0_cappedPremium_4 : decode cX0_cappedPremium 4 = .ok (.iconst (-1), 1) := by decide +kernel
theorem dX0_cappedPremium_5 : decode cX0_cappedPremium 5 = .ok (.if_icmp .eq 13, 3) := by decide +kernel
theorem dX0_cappedPremium_8 : decode cX0_cappedPremium 8 = .ok (.aload_n 0, 1) := by decide +kernel
theorem dX0_cappedPremium_9 : decode cX0_cappedPremium 9 = .ok (.getfield 27, 3) := by decide +kernel
theorem dX0_cappedPremium_12 : decode cX0_cappedPremium 12 = .ok (.iload_n 1, 1) := by decide +kernel
theorem dX0_cappedPremium_13 : decode cX0_cappedPremium 13 = .ok (.iaload, 1) := by decide +kernel
theorem dX0_cappedPremium_14 : decode cX0_cappedPremium 14 = .ok (.iconst (-1), 1) := by decide +kernel
theorem dX0_cappedPremium_15 : decode cX0_cappedPremium 15 = .ok (.if_icmp .ne 9, 3) := by decide +kernel
theorem dX0_cappedPremium_18 : decode cX0_cappedPremium 18 = .ok (.aload_n 0, 1) := by decide +kernel
theorem dX0_cappedPremium_19 : decode cX0_cappedPremium 19 = .ok (.iload_n 1, 1) := by decide +kernel
theorem dX0_cappedPremium_20 : decode cX0_cappedPremium 20 = .ok (.invokevirtual 176, 3) := by decide +kernel
theorem dX0_cappedPremium_23 : decode cX0_cappedPremium 23 = .ok (.lreturn, 1) := by decide +kernel
theorem dX0_cappedPremium_24 : decode cX0_cappedPremium 24 = .ok (.aload_n 0, 1) := by decide +kernel
theorem dX0_cappedPremium_25 : decode cX0_cappedPremium 25 = .ok (.getfield 27, 3) := by decide +kernel
theorem dX0_cappedPremium_28 : decode cX0_cappedPremium 28 = .ok (.iload_n 1, 1) := by decide +kernel
theorem dX0_cappedPremium_29 : decode cX0_cappedPremium 29 = .ok (.iaload, 1) := by decide +kernel
theorem dX0_cappedPremium_30 : decode cX0_cappedPremium 30 = .ok (.i2l, 1) := by decide +kernel
theorem dX0_cappedPremium_31 : decode cX0_cappedPremium 31 = .ok (.lstore_n 2, 1) := by decide +kernel
theorem dX0_cappedPremium_32 : decode cX0_cappedPremium 32 = .ok (.lload_n 2, 1) := by decide +kernel
theorem dX0_cappedPremium_33 : decode cX0_cappedPremium 33 = .ok (.bipush 100, 2) := by decide +kernel
theorem dX0_cappedPremium_35 : decode cX0_cappedPremium 35 = .ok (.aload_n 0, 1) := by decide +kernel
theorem dX0_cappedPremium_36 : decode cX0_cappedPremium 36 = .ok (.getfield 45, 3) := by decide +kernel
theorem dX0_cappedPremium_39 : decode cX0_cappedPremium 39 = .ok (.isub, 1) := by decide +kernel
theorem dX0_cappedPremium_40 : decode cX0_cappedPremium 40 = .ok (.iconst 0, 1) := by decide +kernel
theorem dX0_cappedPremium_41 : decode cX0_cappedPremium 41 = .ok (.invokestatic 202, 3) := by decide +kernel
theorem dX0_cappedPremium_44 : decode cX0_cappedPremium 44 = .ok (.i2l, 1) := by decide +kernel
theorem dX0_cappedPremium_45 : decode cX0_cappedPremium 45 = .ok (.lmul, 1) := by decide +kernel
theorem dX0_cappedPremium_46 : decode cX0_cappedPremium 46 = .ok (.ldc2_w 195, 3) := by decide +kernel
theorem dX0_cappedPremium_49 : decode cX0_cappedPremium 49 = .ok (.ldiv, 1) := by decide +kernel
theorem dX0_cappedPremium_50 : decode cX0_cappedPremium 50 = .ok (.lstore 4, 2) := by decide +kernel
theorem dX0_cappedPremium_52 : decode cX0_cappedPremium 52 = .ok (.lload_n 2, 1) := by decide +kernel
theorem dX0_cappedPremium_53 : decode cX0_cappedPremium 53 = .ok (.bipush 100, 2) := by decide +kernel
theorem dX0_cappedPremium_55 : decode cX0_cappedPremium 55 = .ok (.aload_n 0, 1) := by decide +kernel
theorem dX0_cappedPremium_56 : decode cX0_cappedPremium 56 = .ok (.getfield 45, 3) := by decide +kernel
theorem dX0_cappedPremium_59 : decode cX0_cappedPremium 59 = .ok (.iadd, 1) := by decide +kernel
theorem dX0_cappedPremium_60 : decode cX0_cappedPremium 60 = .ok (.i2l, 1) := by decide +kernel
theorem dX0_cappedPremium_61 : decode cX0_cappedPremium 61 = .ok (.lmul, 1) := by decide +kernel
theorem dX0_cappedPremium_62 : decode cX0_cappedPremium 62 = .ok (.ldc2_w 195, 3) := by decide +kernel
theorem dX0_cappedPremium_65 : decode cX0_cappedPremium 65 = .ok (.ldiv, 1) := by decide +kernel
theorem dX0_cappedPremium_66 : decode cX0_cappedPremium 66 = .ok (.lstore 6, 2) := by decide +kernel
theorem dX0_cappedPremium_68 : decode cX0_cappedPremium 68 = .ok (.aload_n 0, 1) := by decide +kernel
theorem dX0_cappedPremium_69 : decode cX0_cappedPremium 69 = .ok (.iload_n 1, 1) := by decide +kernel
theorem dX0_cappedPremium_70 : decode cX0_cappedPremium 70 = .ok (.invokevirtual 176, 3) := by decide +kernel
theorem dX0_cappedPremium_73 : decode cX0_cappedPremium 73 = .ok (.lload 4, 2) := by decide +kernel
theorem dX0_cappedPremium_75 : decode cX0_cappedPremium 75 = .ok (.lload 6, 2) := by decide +kernel
theorem dX0_cappedPremium_77 : decode cX0_cappedPremium 77 = .ok (.invokestatic 161, 3) := by decide +kernel
theorem dX0_cappedPremium_80 : decode cX0_cappedPremium 80 = .ok (.lreturn, 1) := by decide +kernel
theorem dX0_placeOf_0 : decode cX0_placeOf 0 = .ok (.iconst 0, 1) := by decide +kernel
theorem dX0_placeOf_1 : decode cX0_placeOf 1 = .ok (.istore_n 2, 1) := by decide +kernel
theorem dX0_placeOf_2 : decode cX0_placeOf 2 = .ok (.iconst 0, 1) := by decide +kernel
theorem dX0_placeOf_3 : decode cX0_placeOf 3 = .ok (.istore_n 3, 1) := by decide +kernel
theorem dX0_placeOf_4 : decode cX0_placeOf 4 = .ok (.iload_n 3, 1) := by decide +kernel
theorem dX0_placeOf_5 : decode cX0_placeOf 5 = .ok (.aload_n 0, 1) := by decide +kernel
theorem dX0_placeOf_6 : decode cX0_placeOf 6 = .ok (.getfield 35, 3) := by decide +kernel
theorem dX0_placeOf_9 : decode cX0_placeOf 9 = .ok (.if_icmp .ge 30, 3) := by decide +kernel
theorem dX0_placeOf_12 : decode cX0_placeOf 12 = .ok (.aload_n 0, 1) := by decide +kernel
theorem dX0_placeOf_13 : decode cX0_placeOf 13 = .ok (.getfield 31, 3) := by decide +kernel
theorem dX0_placeOf_16 : decode cX0_placeOf 16 = .ok (.iload_n 3, 1) := by decide +kernel
theorem dX0_placeOf_17 : decode cX0_placeOf 17 = .ok (.baload, 1) := by decide +kernel
theorem dX0_placeOf_18 : decode cX0_placeOf 18 = .ok (.ifCond .eq 15, 3) := by decide +kernel
theorem dX0_placeOf_21 : decode cX0_placeOf 21 = .ok (.aload_n 0, 1) := by decide +kernel
theorem dX0_placeOf_22 : decode cX0_placeOf 22 = .ok (.iload_n 3, 1) := by decide +kernel
theorem dX0_placeOf_23 : decode cX0_placeOf 23 = .ok (.iload_n 1, 1) := by decide +kernel
theorem dX0_placeOf_24 : decode cX0_placeOf 24 = .ok (.invokevirtual 204, 3) := by decide +kernel
theorem dX0_placeOf_27 : decode cX0_placeOf 27 = .ok (.ifCond .eq 6, 3) := by decide +kernel
theorem dX0_placeOf_30 : decode cX0_placeOf 30 = .ok (.iinc 2 1, 3) := by decide +kernel
theorem dX0_placeOf_33 : decode cX0_placeOf 33 = .ok (.iinc 3 1, 3) := by decide +kernel
theorem dX0_placeOf_36 : decode cX0_placeOf 36 = .ok (.goto (-32), 3) := by decide +kernel
theorem dX0_placeOf_39 : decode cX0_placeOf 39 = .ok (.iload_n 2, 1) := by decide +kernel
theorem dX0_placeOf_40 : decode cX0_placeOf 40 = .ok (.ireturn, 1) := by decide +kernel
theorem dX0_isAhead_0 : decode cX0_isAhead 0 = .ok (.aload_n 0, 1) := by decide +kernel
theorem dX0_isAhead_1 : decode cX0_isAhead 1 = .ok (.getfield 24, 3) := by decide +kernel
theorem dX0_isAhead_4 : decode cX0_isAhead 4 = .ok (.iload_n 1, 1) := by decide +kernel
theorem dX0_isAhead_5 : decode cX0_isAhead 5 = .ok (.laload, 1) := by decide +kernel
theorem dX0_isAhead_6 : decode cX0_isAhead 6 = .ok (.lconst 1, 1) := by decide +kernel
theorem dX0_isAhead_7 : decode cX0_isAhead 7 = .ok (.aload_n 0, 1) := by decide +kernel
theorem dX0_isAhead_8 : decode cX0_isAhead 8 = .ok (.getfield 55, 3) := by decide +kernel
theorem dX0_isAhead_11 : decode cX0_isAhead 11 = .ok (.iload_n 2, 1) := by decide +kernel
theorem dX0_isAhead_12 : decode cX0_isAhead 12 = .ok (.laload, 1) := by decide +kernel
theorem dX0_isAhead_13 : decode cX0_isAhead 13 = .ok (.ladd, 1) := by decide +kernel
theorem dX0_isAhead_14 : decode cX0_isAhead 14 = .ok (.lmul, 1) := by decide +kernel
theorem dX0_isAhead_15 : decode cX0_isAhead 15 = .ok (.lstore_n 3, 1) := by decide +kernel
theorem dX0_isAhead_16 : decode cX0_isAhead 16 = .ok (.aload_n 0, 1) := by decide +kernel
theorem dX0_isAhead_17 : decode cX0_isAhead 17 = .ok (.getfield 24, 3) := by decide +kernel
theorem dX0_isAhead_20 : decode cX0_isAhead 20 = .ok (.iload_n 2, 1) := by decide +kernel
theorem dX0_isAhead_21 : decode cX0_isAhead 21 = .ok (.laload, 1) := by decide +kernel
theorem dX0_isAhead_22 : decode cX0_isAhead 22 = .ok (.lconst 1, 1) := by decide +kernel
theorem dX0_isAhead_23 : decode cX0_isAhead 23 = .ok (.aload_n 0, 1) := by decide +kernel
theorem dX0_isAhead_24 : decode cX0_isAhead 24 = .ok (.getfield 55, 3) := by decide +kernel
theorem dX0_isAhead_27 : decode cX0_isAhead 27 = .ok (.iload_n 1, 1) := by decide +kernel
theorem dX0_isAhead_28 : decode cX0_isAhead 28 = .ok (.laload, 1) := by decide +kernel
theorem dX0_isAhead_29 : decode cX0_isAhead 29 = .ok (.ladd, 1) := by decide +kernel
theorem dX0_isAhead_30 : decode cX0_isAhead 30 = .ok (.lmul, 1) := by decide +kernel
theorem dX0_isAhead_31 : decode cX0_isAhead 31 = .ok (.lstore 5, 2) := by decide +kernel
theorem dX0_isAhead_33 : decode cX0_isAhead 33 = .ok (.lload_n 3, 1) := by decide +kernel
theorem dX0_isAhead_34 : decode cX0_isAhead 34 = .ok (.lload 5, 2) := by decide +kernel
theorem dX0_isAhead_36 : decode cX0_isAhead 36 = .ok (.lcmp, 1) := by decide +kernel
theorem dX0_isAhead_37 : decode cX0_isAhead 37 = .ok (.ifCond .gt 15, 3) := by decide +kernel
theorem dX0_isAhead_40 : decode cX0_isAhead 40 = .ok (.lload_n 3, 1) := by decide +kernel
theorem dX0_isAhead_41 : decode cX0_isAhead 41 = .ok (.lload 5, 2) := by decide +kernel
theorem dX0_isAhead_43 : decode cX0_isAhead 43 = .ok (.lcmp, 1) := by decide +kernel
theorem dX0_isAhead_44 : decode cX0_isAhead 44 = .ok (.ifCond .ne 12, 3) := by decide +kernel
theorem dX0_isAhead_47 : decode cX0_isAhead 47 = .ok (.iload_n 1, 1) := by decide +kernel
theorem dX0_isAhead_48 : decode cX0_isAhead 48 = .ok (.iload_n 2, 1) := by decide +kernel
theorem dX0_isAhead_49 : decode cX0_isAhead 49 = .ok (.if_icmp .ge 7, 3) := by decide +kernel
theorem dX0_isAhead_52 : decode cX0_isAhead 52 = .ok (.iconst 1, 1) := by decide +kernel
theorem dX0_isAhead_53 : decode cX0_isAhead 53 = .ok (.goto 4, 3) := by decide +kernel
theorem dX0_isAhead_56 : decode cX0_isAhead 56 = .ok (.iconst 0, 1) := by decide +kernel
theorem dX0_isAhead_57 : decode cX0_isAhead 57 = .ok (.ireturn, 1) := by decide +kernel
end
section
theorem dL_law_0 : decode cL_law 0 = .ok (.aload_n 0, 1) := by decide +kernel
theorem dL_law_1 : decode cL_law 1 = .ok (.invokestatic 151, 3) := by decide +kernel
theorem dL_law_4 : decode cL_law 4 = .ok (.ireturn, 1) := by decide +kernel
end
section
theorem dL_from_0 : decode cL_from 0 = .ok (.aload_n 0, 1) := by decide +kernel
theorem dL_from_1 : decode cL_from 1 = .ok (.arraylength, 1) := by decide +kernel
theorem dL_from_2 : decode cL_from 2 = .ok (.ifCond .ne 15, 3) := by decide +kernel
theorem dL_from_5 : decode cL_from 5 = .ok (.sipush 181, 3) := by decide +kernel
theorem dL_from_8 : decode cL_from 8 = .ok (.iload_n 1, 1) := by decide +kernel
theorem dL_from_9 : decode cL_from 9 = .ok (.imul, 1) := by decide +kernel
theorem dL_from_10 : decode cL_from 10 = .ok (.sipush 157, 3) := by decide +kernel
theorem dL_from_13 : decode cL_from 13 = .ok (.iadd, 1) := by decide +kernel
theorem dL_from_14 : decode cL_from 14 = .ok (.goto 14, 3) := by decide +kernel
theorem dL_from_17 : decode cL_from 17 = .ok (.aload_n 0, 1) := by decide +kernel
theorem dL_from_18 : decode cL_from 18 = .ok (.iload_n 1, 1) := by decide +kernel
theorem dL_from_19 : decode cL_from 19 = .ok (.aload_n 0, 1) := by decide +kernel
theorem dL_from_20 : decode cL_from 20 = .ok (.arraylength, 1) := by decide +kernel
theorem dL_from_21 : decode cL_from 21 = .ok (.irem, 1) := by decide +kernel
theorem dL_from_22 : decode cL_from 22 = .ok (.iaload, 1) := by decide +kernel
theorem dL_from_23 : decode cL_from 23 = .ok (.ldc 7, 2) := by decide +kernel
theorem dL_from_25 : decode cL_from 25 = .ok (.iload_n 1, 1) := by decide +kernel
theorem dL_from_26 : decode cL_from 26 = .ok (.imul, 1) := by decide +kernel
theorem dL_from_27 : decode cL_from 27 = .ok (.ixor, 1) := by decide +kernel
theorem dL_from_28 : decode cL_from 28 = .ok (.istore_n 3, 1) := by decide +kernel
theorem dL_from_29 : decode cL_from 29 = .ok (.iload_n 3, 1) := by decide +kernel
theorem dL_from_30 : decode cL_from 30 = .ok (.ldc 8, 2) := by decide +kernel
theorem dL_from_32 : decode cL_from 32 = .ok (.iand, 1) := by decide +kernel
theorem dL_from_33 : decode cL_from 33 = .ok (.iload_n 2, 1) := by decide +kernel
theorem dL_from_34 : decode cL_from 34 = .ok (.irem, 1) := by decide +kernel
theorem dL_from_35 : decode cL_from 35 = .ok (.ireturn, 1) := by decide +kernel
theorem dL_many_0 : decode cL_many 0 = .ok (.iload_n 0, 1) := by decide +kernel
theorem dL_many_1 : decode cL_many 1 = .ok (.iconst 1, 1) := by decide +kernel
theorem dL_many_2 : decode cL_many 2 = .ok (.if_icmp .ne 7, 3) := by decide +kernel
theorem dL_many_5 : decode cL_many 5 = .ok (.iconst 3, 1) := by decide +kernel
theorem dL_many_6 : decode cL_many 6 = .ok (.goto 4, 3) := by decide +kernel
theorem dL_many_9 : decode cL_many 9 = .ok (.iconst 4, 1) := by decide +kernel
theorem dL_many_10 : decode cL_many 10 = .ok (.ireturn, 1) := by decide +kernel
theorem dL_base_0 : decode cL_base 0 = .ok (.lconst 0, 1) := by decide +kernel
theorem dL_base_1 : decode cL_base 1 = .ok (.lstore 4, 2) := by decide +kernel
theorem dL_base_3 : decode cL_base 3 = .ok (.lconst 0, 1) := by decide +kernel
theorem dL_base_4 : decode cL_base 4 = .ok (.lstore 6, 2) := by decide +kernel
theorem dL_base_6 : decode cL_base 6 = .ok (.iconst 0, 1) := by decide +kernel
theorem dL_base_7 : decode cL_base 7 = .ok (.istore 8, 2) := by decide +kernel
theorem dL_base_9 : decode cL_base 9 = .ok (.iload 8, 2) := by decide +kernel
theorem dL_base_11 : decode cL_base 11 = .ok (.aload_n 3, 1) := by decide +kernel
theorem dL_base_12 : decode cL_base 12 = .ok (.iconst 0, 1) := by decide +kernel
theorem dL_base_13 : decode cL_base 13 = .ok (.iaload, 1) := by decide +kernel
theorem dL_base_14 : decode cL_base 14 = .ok (.if_icmp .ge 53, 3) := by decide +kernel
theorem dL_base_17 : decode cL_base 17 = .ok (.lload 4, 2) := by decide +kernel
theorem dL_base_19 : decode cL_base 19 = .ok (.aload_n 2, 1) := by decide +kernel
theorem dL_base_20 : decode cL_base 20 = .ok (.iload 8, 2) := by decide +kernel
theorem dL_base_22 : decode cL_base 22 = .ok (.iaload, 1) := by decide +kernel
theorem dL_base_23 : decode cL_base 23 = .ok (.iconst 1, 1) := by decide +kernel
theorem dL_base_24 : decode cL_base 24 = .ok (.if_icmp .ne 7, 3) := by decide +kernel
theorem dL_base_27 : decode cL_base 27 = .ok (.lconst 0, 1) := by decide +kernel
theorem dL_base_28 : decode cL_base 28 = .ok (.goto 8, 3) := by decide +kernel
theorem dL_base_31 : decode cL_base 31 = .ok (.aload_n 1, 1) := by decide +kernel
theorem dL_base_32 : decode cL_base 32 = .ok (.iload 8, 2) := by decide +kernel
theorem dL_base_34 : decode cL_base 34 = .ok (.iaload, 1) := by decide +kernel
theorem dL_base_35 : decode cL_base 35 = .ok (.i2l, 1) := by decide +kernel
theorem dL_base_36 : decode cL_base 36 = .ok (.ladd, 1) := by decide +kernel
theorem dL_base_37 : decode cL_base 37 = .ok (.lstore 4, 2) := by decide +kernel
theorem dL_base_39 : decode cL_base 39 = .ok (.lload 6, 2) := by decide +kernel
theorem dL_base_41 : decode cL_base 41 = .ok (.aload_n 2, 1) := by decide +kernel
theorem dL_base_42 : decode cL_base 42 = .ok (.iload 8, 2) := by decide +kernel
theorem dL_base_44 : decode cL_base 44 = .ok (.iaload, 1) := by decide +kernel
theorem dL_base_45 : decode cL_base 45 = .ok (.iconst 1, 1) := by decide +kernel
theorem dL_base_46 : decode cL_base 46 = .ok (.if_icmp .ne 7, 3) := by decide +kernel
theorem dL_base_49 : decode cL_base 49 = .ok (.lconst 0, 1) := by decide +kernel
theorem dL_base_50 : decode cL_base 50 = .ok (.goto 8, 3) := by decide +kernel
theorem dL_base_53 : decode cL_base 53 = .ok (.aload_n 0, 1) := by decide +kernel
theorem dL_base_54 : decode cL_base 54 = .ok (.iload 8, 2) := by decide +kernel
theorem dL_base_56 : decode cL_base 56 = .ok (.iaload, 1) := by decide +kernel
theorem dL_base_57 : decode cL_base 57 = .ok (.i2l, 1) := by decide +kernel
theorem dL_base_58 : decode cL_base 58 = .ok (.ladd, 1) := by decide +kernel
theorem dL_base_59 : decode cL_base 59 = .ok (.lstore 6, 2) := by decide +kernel
theorem dL_base_61 : decode cL_base 61 = .ok (.iinc 8 1, 3) := by decide +kernel
theorem dL_base_64 : decode cL_base 64 = .ok (.goto (-55), 3) := by decide +kernel
theorem dL_base_67 : decode cL_base 67 = .ok (.lload 6, 2) := by decide +kernel
theorem dL_base_69 : decode cL_base 69 = .ok (.lconst 0, 1) := by decide +kernel
theorem dL_base_70 : decode cL_base 70 = .ok (.lcmp, 1) := by decide +kernel
theorem dL_base_71 : decode cL_base 71 = .ok (.ifCond .ne 7, 3) := by decide +kernel
theorem dL_base_74 : decode cL_base 74 = .ok (.lconst 0, 1) := by decide +kernel
theorem dL_base_75 : decode cL_base 75 = .ok (.goto 12, 3) := by decide +kernel
theorem dL_base_78 : decode cL_base 78 = .ok (.lload 4, 2) := by decide +kernel
theorem dL_base_80 : decode cL_base 80 = .ok (.ldc2_w 9, 3) := by decide +kernel
theorem dL_base_83 : decode cL_base 83 = .ok (.lmul, 1) := by decide +kernel
theorem dL_base_84 : decode cL_base 84 = .ok (.lload 6, 2) := by decide +kernel
theorem dL_base_86 : decode cL_base 86 = .ok (.ldiv, 1) := by decide +kernel
theorem dL_base_87 : decode cL_base 87 = .ok (.lreturn, 1) := by decide +kernel
theorem dL_fitted_0 : decode cL_fitted 0 = .ok (.lload 4, 2) := by decide +kernel
theorem dL_fitted_2 : decode cL_fitted 2 = .ok (.aload_n 1, 1) := by decide +kernel
theorem dL_fitted_3 : decode cL_fitted 3 = .ok (.iload_n 3, 1) := by decide +kernel
theorem dL_fitted_4 : decode cL_fitted 4 = .ok (.iaload, 1) := by decide +kernel
theorem dL_fitted_5 : decode cL_fitted 5 = .ok (.i2l, 1) := by decide +kernel
theorem dL_fitted_6 : decode cL_fitted 6 = .ok (.lmul, 1) := by decide +kernel
theorem dL_fitted_7 : decode cL_fitted 7 = .ok (.ldc2_w 9, 3) := by decide +kernel
theorem dL_fitted_10 : decode cL_fitted 10 = .ok (.ldiv, 1) := by decide +kernel
theorem dL_fitted_11 : decode cL_fitted 11 = .ok (.lstore 6, 2) := by decide +kernel
theorem dL_fitted_13 : decode cL_fitted 13 = .ok (.lload 6, 2) := by decide +kernel
theorem dL_fitted_15 : decode cL_fitted 15 = .ok (.aload_n 2, 1) := by decide +kernel
theorem dL_fitted_16 : decode cL_fitted 16 = .ok (.aload_n 0, 1) := by decide +kernel
theorem dL_fitted_17 : decode cL_fitted 17 = .ok (.iconst 3, 1) := by decide +kernel
theorem dL_fitted_18 : decode cL_fitted 18 = .ok (.iload_n 3, 1) := by decide +kernel
theorem dL_fitted_19 : decode cL_fitted 19 = .ok (.imul, 1) := by decide +kernel
theorem dL_fitted_20 : decode cL_fitted 20 = .ok (.iaload, 1) := by decide +kernel
theorem dL_fitted_21 : decode cL_fitted 21 = .ok (.iaload, 1) := by decide +kernel
theorem dL_fitted_22 : decode cL_fitted 22 = .ok (.i2l, 1) := by decide +kernel
theorem dL_fitted_23 : decode cL_fitted 23 = .ok (.lmul, 1) := by decide +kernel
theorem dL_fitted_24 : decode cL_fitted 24 = .ok (.ldc2_w 9, 3) := by decide +kernel
theorem dL_fitted_27 : decode cL_fitted 27 = .ok (.ldiv, 1) := by decide +kernel
theorem dL_fitted_28 : decode cL_fitted 28 = .ok (.lstore 8, 2) := by decide +kernel
theorem dL_fitted_30 : decode cL_fitted 30 = .ok (.lload 8, 2) := by decide +kernel
theorem dL_fitted_32 : decode cL_fitted 32 = .ok (.aload_n 2, 1) := by decide +kernel
theorem dL_fitted_33 : decode cL_fitted 33 = .ok (.iconst 4, 1) := by decide +kernel
theorem dL_fitted_34 : decode cL_fitted 34 = .ok (.aload_n 0, 1) := by decide +kernel
theorem dL_fitted_35 : decode cL_fitted 35 = .ok (.iconst 3, 1) := by decide +kernel
theorem dL_fitted_36 : decode cL_fitted 36 = .ok (.iload_n 3, 1) := by decide +kernel
theorem dL_fitted_37 : decode cL_fitted 37 = .ok (.imul, 1) := by decide +kernel
theorem dL_fitted_38 : decode cL_fitted 38 = .ok (.iconst 1, 1) := by decide +kernel
theorem dL_fitted_39 : decode cL_fitted 39 = .ok (.iadd, 1) := by decide +kernel
theorem dL_fitted_40 : decode cL_fitted 40 = .ok (.iaload, 1) := by decide +kernel
theorem dL_fitted_41 : decode cL_fitted 41 = .ok (.iadd, 1) := by decide +kernel
theorem dL_fitted_42 : decode cL_fitted 42 = .ok (.iaload, 1) := by decide +kernel
theorem dL_fitted_43 : decode cL_fitted 43 = .ok (.i2l, 1) := by decide +kernel
theorem dL_fitted_44 : decode cL_fitted 44 = .ok (.lmul, 1) := by decide +kernel
theorem dL_fitted_45 : decode cL_fitted 45 = .ok (.ldc2_w 9, 3) := by decide +kernel
theorem dL_fitted_48 : decode cL_fitted 48 = .ok (.ldiv, 1) := by decide +kernel
theorem dL_fitted_49 : decode cL_fitted 49 = .ok (.lstore 10, 2) := by decide +kernel
theorem dL_fitted_51 : decode cL_fitted 51 = .ok (.lload 10, 2) := by decide +kernel
theorem dL_fitted_53 : decode cL_fitted 53 = .ok (.aload_n 2, 1) := by decide +kernel
theorem dL_fitted_54 : decode cL_fitted 54 = .ok (.bipush 8, 2) := by decide +kernel
theorem dL_fitted_56 : decode cL_fitted 56 = .ok (.aload_n 0, 1) := by decide +kernel
theorem dL_fitted_57 : decode cL_fitted 57 = .ok (.iconst 3, 1) := by decide +kernel
theorem dL_fitted_58 : decode cL_fitted 58 = .ok (.iload_n 3, 1) := by decide +kernel
theorem dL_fitted_59 : decode cL_fitted 59 = .ok (.imul, 1) := by decide +kernel
theorem dL_fitted_60 : decode cL_fitted 60 = .ok (.iconst 2, 1) := by decide +kernel
theorem dL_fitted_61 : decode cL_fitted 61 = .ok (.iadd, 1) := by decide +kernel
theorem dL_fitted_62 : decode cL_fitted 62 = .ok (.iaload, 1) := by decide +kernel
theorem dL_fitted_63 : decode cL_fitted 63 = .ok (.iadd, 1) := by decide +kernel
theorem dL_fitted_64 : decode cL_fitted 64 = .ok (.iaload, 1) := by decide +kernel
theorem dL_fitted_65 : decode cL_fitted 65 = .ok (.i2l, 1) := by decide +kernel
theorem dL_fitted_66 : decode cL_fitted 66 = .ok (.lmul, 1) := by decide +kernel
theorem dL_fitted_67 : decode cL_fitted 67 = .ok (.ldc2_w 9, 3) := by decide +kernel
theorem dL_fitted_70 : decode cL_fitted 70 = .ok (.ldiv, 1) := by decide +kernel
theorem dL_fitted_71 : decode cL_fitted 71 = .ok (.lreturn, 1) := by decide +kernel
theorem dL_sum_0 : decode cL_sum 0 = .ok (.aload_n 1, 1) := by decide +kernel
theorem dL_sum_1 : decode cL_sum 1 = .ok (.aload_n 3, 1) := by decide +kernel
theorem dL_sum_2 : decode cL_sum 2 = .ok (.aload 4, 2) := by decide +kernel
theorem dL_sum_4 : decode cL_sum 4 = .ok (.aload 6, 2) := by decide +kernel
theorem dL_sum_6 : decode cL_sum 6 = .ok (.invokestatic 11, 3) := by decide +kernel
theorem dL_sum_9 : decode cL_sum 9 = .ok (.lstore 10, 2) := by decide +kernel
theorem dL_sum_11 : decode cL_sum 11 = .ok (.lconst 0, 1) := by decide +kernel
theorem dL_sum_12 : decode cL_sum 12 = .ok (.lstore 12, 2) := by decide +kernel
theorem dL_sum_14 : decode cL_sum 14 = .ok (.iconst 0, 1) := by decide +kernel
theorem dL_sum_15 : decode cL_sum 15 = .ok (.istore 14, 2) := by decide +kernel
theorem dL_sum_17 : decode cL_sum 17 = .ok (.iload 14, 2) := by decide +kernel
theorem dL_sum_19 : decode cL_sum 19 = .ok (.aload 6, 2) := by decide +kernel
theorem dL_sum_21 : decode cL_sum 21 = .ok (.iconst 0, 1) := by decide +kernel
theorem dL_sum_22 : decode cL_sum 22 = .ok (.iaload, 1) := by decide +kernel
theorem dL_sum_23 : decode cL_sum 23 = .ok (.if_icmp .ge 114, 3) := by decide +kernel
theorem dL_sum_26 : decode cL_sum 26 = .ok (.aload 4, 2) := by decide +kernel
theorem dL_sum_28 : decode cL_sum 28 = .ok (.iload 14, 2) := by decide +kernel
theorem dL_sum_30 : decode cL_sum 30 = .ok (.iaload, 1) := by decide +kernel
theorem dL_sum_31 : decode cL_sum 31 = .ok (.ifCond .ne 21, 3) := by decide +kernel
theorem dL_sum_34 : decode cL_sum 34 = .ok (.aload_n 0, 1) := by decide +kernel
theorem dL_sum_35 : decode cL_sum 35 = .ok (.iconst 3, 1) := by decide +kernel
theorem dL_sum_36 : decode cL_sum 36 = .ok (.iload 14, 2) := by decide +kernel
theorem dL_sum_38 : decode cL_sum 38 = .ok (.imul, 1) := by decide +kernel
theorem dL_sum_39 : decode cL_sum 39 = .ok (.iload 8, 2) := by decide +kernel
theorem dL_sum_41 : decode cL_sum 41 = .ok (.iadd, 1) := by decide +kernel
theorem dL_sum_42 : decode cL_sum 42 = .ok (.iaload, 1) := by decide +kernel
theorem dL_sum_43 : decode cL_sum 43 = .ok (.iload 9, 2) := by decide +kernel
theorem dL_sum_45 : decode cL_sum 45 = .ok (.if_icmp .ne 7, 3) := by decide +kernel
theorem dL_sum_48 : decode cL_sum 48 = .ok (.iconst 1, 1) := by decide +kernel
theorem dL_sum_49 : decode cL_sum 49 = .ok (.goto 4, 3) := by decide +kernel
theorem dL_sum_52 : decode cL_sum 52 = .ok (.iconst 0, 1) := by decide +kernel
theorem dL_sum_53 : decode cL_sum 53 = .ok (.istore 15, 2) := by decide +kernel
theorem dL_sum_55 : decode cL_sum 55 = .ok (.lload 12, 2) := by decide +kernel
theorem dL_sum_57 : decode cL_sum 57 = .ok (.iload 15, 2) := by decide +kernel
theorem dL_sum_59 : decode cL_sum 59 = .ok (.ifCond .ne 7, 3) := by decide +kernel
theorem dL_sum_62 : decode cL_sum 62 = .ok (.lconst 0, 1) := by decide +kernel
theorem dL_sum_63 : decode cL_sum 63 = .ok (.goto 65, 3) := by decide +kernel
theorem dL_sum_66 : decode cL_sum 66 = .ok (.iload 7, 2) := by decide +kernel
theorem dL_sum_68 : decode cL_sum 68 = .ok (.ifCond .ne 11, 3) := by decide +kernel
theorem dL_sum_71 : decode cL_sum 71 = .ok (.aload_n 3, 1) := by decide +kernel
theorem dL_sum_72 : decode cL_sum 72 = .ok (.iload 14, 2) := by decide +kernel
theorem dL_sum_74 : decode cL_sum 74 = .ok (.iaload, 1) := by decide +kernel
theorem dL_sum_75 : decode cL_sum 75 = .ok (.i2l, 1) := by decide +kernel
theorem dL_sum_76 : decode cL_sum 76 = .ok (.goto 52, 3) := by decide +kernel
theorem dL_sum_79 : decode cL_sum 79 = .ok (.iload 7, 2) := by decide +kernel
theorem dL_sum_81 : decode cL_sum 81 = .ok (.iconst 1, 1) := by decide +kernel
theorem dL_sum_82 : decode cL_sum 82 = .ok (.if_icmp .ne 17, 3) := by decide +kernel
theorem dL_sum_85 : decode cL_sum 85 = .ok (.aload_n 0, 1) := by decide +kernel
theorem dL_sum_86 : decode cL_sum 86 = .ok (.aload_n 1, 1) := by decide +kernel
theorem dL_sum_87 : decode cL_sum 87 = .ok (.aload 5, 2) := by decide +kernel
theorem dL_sum_89 : decode cL_sum 89 = .ok (.iload 14, 2) := by decide +kernel
theorem dL_sum_91 : decode cL_sum 91 = .ok (.lload 10, 2) := by decide +kernel
theorem dL_sum_93 : decode cL_sum 93 = .ok (.invokestatic 17, 3) := by decide +kernel
theorem dL_sum_96 : decode cL_sum 96 = .ok (.goto 32, 3) := by decide +kernel
theorem dL_sum_99 : decode cL_sum 99 = .ok (.iload 7, 2) := by decide +kernel
theorem dL_sum_101 : decode cL_sum 101 = .ok (.iconst 2, 1) := by decide +kernel
theorem dL_sum_102 : decode cL_sum 102 = .ok (.if_icmp .ne 11, 3) := by decide +kernel
theorem dL_sum_105 : decode cL_sum 105 = .ok (.aload_n 2, 1) := by decide +kernel
theorem dL_sum_106 : decode cL_sum 106 = .ok (.iload 14, 2) := by decide +kernel
theorem dL_sum_108 : decode cL_sum 108 = .ok (.iaload, 1) := by decide +kernel
theorem dL_sum_109 : decode cL_sum 109 = .ok (.i2l, 1) := by decide +kernel
theorem dL_sum_110 : decode cL_sum 110 = .ok (.goto 18, 3) := by decide +kernel
theorem dL_sum_113 : decode cL_sum 113 = .ok (.iload 7, 2) := by decide +kernel
theorem dL_sum_115 : decode cL_sum 115 = .ok (.iconst 3, 1) := by decide +kernel
theorem dL_sum_116 : decode cL_sum 116 = .ok (.if_icmp .ne 11, 3) := by decide +kernel
theorem dL_sum_119 : decode cL_sum 119 = .ok (.aload_n 1, 1) := by decide +kernel
theorem dL_sum_120 : decode cL_sum 120 = .ok (.iload 14, 2) := by decide +kernel
theorem dL_sum_122 : decode cL_sum 122 = .ok (.iaload, 1) := by decide +kernel
theorem dL_sum_123 : decode cL_sum 123 = .ok (.i2l, 1) := by decide +kernel
theorem dL_sum_124 : decode cL_sum 124 = .ok (.goto 4, 3) := by decide +kernel
theorem dL_sum_127 : decode cL_sum 127 = .ok (.lconst 1, 1) := by decide +kernel
theorem dL_sum_128 : decode cL_sum 128 = .ok (.ladd, 1) := by decide +kernel
theorem dL_sum_129 : decode cL_sum 129 = .ok (.lstore 12, 2) := by decide +kernel
theorem dL_sum_131 : decode cL_sum 131 = .ok (.iinc 14 1, 3) := by decide +kernel
theorem dL_sum_134 : decode cL_sum 134 = .ok (.goto (-117), 3) := by decide +kernel
theorem dL_sum_137 : decode cL_sum 137 = .ok (.lload 12, 2) := by decide +kernel
theorem dL_sum_139 : decode cL_sum 139 = .ok (.lreturn, 1) := by decide +kernel
theorem dL_pass_0 : decode cL_pass 0 = .ok (.iconst 4, 1) := by decide +kernel
theorem dL_pass_1 : decode cL_pass 1 = .ok (.newarray .long, 2) := by decide +kernel
theorem dL_pass_3 : decode cL_pass 3 = .ok (.astore 8, 2) := by decide +kernel
theorem dL_pass_5 : decode cL_pass 5 = .ok (.iconst 0, 1) := by decide +kernel
theorem dL_pass_6 : decode cL_pass 6 = .ok (.istore 9, 2) := by decide +kernel
theorem dL_pass_8 : decode cL_pass 8 = .ok (.iconst 0, 1) := by decide +kernel
theorem dL_pass_9 : decode cL_pass 9 = .ok (.istore 10, 2) := by decide +kernel
theorem dL_pass_11 : decode cL_pass 11 = .ok (.iload 10, 2) := by decide +kernel
theorem dL_pass_13 : decode cL_pass 13 = .ok (.iload 7, 2) := by decide +kernel
theorem dL_pass_15 : decode cL_pass 15 = .ok (.invokestatic 21, 3) := by decide +kernel
theorem dL_pass_18 : decode cL_pass 18 = .ok (.if_icmp .ge 186, 3) := by decide +kernel
theorem dL_pass_21 : decode cL_pass 21 = .ok (.aload 5, 2) := by decide +kernel
theorem dL_pass_23 : decode cL_pass 23 = .ok (.iconst 4, 1) := by decide +kernel
theorem dL_pass_24 : decode cL_pass 24 = .ok (.iload 7, 2) := by decide +kernel
theorem dL_pass_26 : decode cL_pass 26 = .ok (.imul, 1) := by decide +kernel
theorem dL_pass_27 : decode cL_pass 27 = .ok (.iload 10, 2) := by decide +kernel
theorem dL_pass_29 : decode cL_pass 29 = .ok (.iadd, 1) := by decide +kernel
theorem dL_pass_30 : decode cL_pass 30 = .ok (.iaload, 1) := by decide +kernel
theorem dL_pass_31 : decode cL_pass 31 = .ok (.i2l, 1) := by decide +kernel
theorem dL_pass_32 : decode cL_pass 32 = .ok (.lstore 11, 2) := by decide +kernel
theorem dL_pass_34 : decode cL_pass 34 = .ok (.aload_n 0, 1) := by decide +kernel
theorem dL_pass_35 : decode cL_pass 35 = .ok (.aload_n 1, 1) := by decide +kernel
theorem dL_pass_36 : decode cL_pass 36 = .ok (.aload_n 2, 1) := by decide +kernel
theorem dL_pass_37 : decode cL_pass 37 = .ok (.aload_n 3, 1) := by decide +kernel
theorem dL_pass_38 : decode cL_pass 38 = .ok (.aload 4, 2) := by decide +kernel
theorem dL_pass_40 : decode cL_pass 40 = .ok (.aload 5, 2) := by decide +kernel
theorem dL_pass_42 : decode cL_pass 42 = .ok (.aload 6, 2) := by decide +kernel
theorem dL_pass_44 : decode cL_pass 44 = .ok (.iconst 1, 1) := by decide +kernel
theorem dL_pass_45 : decode cL_pass 45 = .ok (.iload 7, 2) := by decide +kernel
theorem dL_pass_47 : decode cL_pass 47 = .ok (.iload 10, 2) := by decide +kernel
theorem dL_pass_49 : decode cL_pass 49 = .ok (.invokestatic 25, 3) := by decide +kernel
theorem dL_pass_52 : decode cL_pass 52 = .ok (.lstore 13, 2) := by decide +kernel
theorem dL_pass_54 : decode cL_pass 54 = .ok (.aload_n 0, 1) := by decide +kernel
theorem dL_pass_55 : decode cL_pass 55 = .ok (.aload_n 1, 1) := by decide +kernel
theorem dL_pass_56 : decode cL_pass 56 = .ok (.aload_n 2, 1) := by decide +kernel
theorem dL_pass_57 : decode cL_pass 57 = .ok (.aload_n 3, 1) := by decide +kernel
theorem dL_pass_58 : decode cL_pass 58 = .ok (.aload 4, 2) := by decide +kernel
theorem dL_pass_60 : decode cL_pass 60 = .ok (.aload 5, 2) := by decide +kernel
theorem dL_pass_62 : decode cL_pass 62 = .ok (.aload 6, 2) := by decide +kernel
theorem dL_pass_64 : decode cL_pass 64 = .ok (.iconst 2, 1) := by decide +kernel
theorem dL_pass_65 : decode cL_pass 65 = .ok (.iload 7, 2) := by decide +kernel
theorem dL_pass_67 : decode cL_pass 67 = .ok (.iload 10, 2) := by decide +kernel
theorem dL_pass_69 : decode cL_pass 69 = .ok (.invokestatic 25, 3) := by decide +kernel
theorem dL_pass_72 : decode cL_pass 72 = .ok (.lstore 15, 2) := by decide +kernel
theorem dL_pass_74 : decode cL_pass 74 = .ok (.lload 13, 2) := by decide +kernel
theorem dL_pass_76 : decode cL_pass 76 = .ok (.lconst 0, 1) := by decide +kernel
theorem dL_pass_77 : decode cL_pass 77 = .ok (.lcmp, 1) := by decide +kernel
theorem dL_pass_78 : decode cL_pass 78 = .ok (.ifCond .eq 113, 3) := by decide +kernel
theorem dL_pass_81 : decode cL_pass 81 = .ok (.lload 15, 2) := by decide +kernel
theorem dL_pass_83 : decode cL_pass 83 = .ok (.lconst 0, 1) := by decide +kernel
theorem dL_pass_84 : decode cL_pass 84 = .ok (.lcmp, 1) := by decide +kernel
theorem dL_pass_85 : decode cL_pass 85 = .ok (.ifCond .eq 106, 3) := by decide +kernel
theorem dL_pass_88 : decode cL_pass 88 = .ok (.lload 11, 2) := by decide +kernel
theorem dL_pass_90 : decode cL_pass 90 = .ok (.aload_n 0, 1) := by decide +kernel
theorem dL_pass_91 : decode cL_pass 91 = .ok (.aload_n 1, 1) := by decide +kernel
theorem dL_pass_92 : decode cL_pass 92 = .ok (.aload_n 2, 1) := by decide +kernel
theorem dL_pass_93 : decode cL_pass 93 = .ok (.aload_n 3, 1) := by decide +kernel
theorem dL_pass_94 : decode cL_pass 94 = .ok (.aload 4, 2) := by decide +kernel
theorem dL_pass_96 : decode cL_pass 96 = .ok (.aload 5, 2) := by decide +kernel
theorem dL_pass_98 : decode cL_pass 98 = .ok (.aload 6, 2) := by decide +kernel
theorem dL_pass_100 : decode cL_pass 100 = .ok (.iconst 0, 1) := by decide +kernel
theorem dL_pass_101 : decode cL_pass 101 = .ok (.iload 7, 2) := by decide +kernel
theorem dL_pass_103 : decode cL_pass 103 = .ok (.iload 10, 2) := by decide +kernel
theorem dL_pass_105 : decode cL_pass 105 = .ok (.invokestatic 25, 3) := by decide +kernel
theorem dL_pass_108 : decode cL_pass 108 = .ok (.lmul, 1) := by decide +kernel
theorem dL_pass_109 : decode cL_pass 109 = .ok (.lload 13, 2) := by decide +kernel
theorem dL_pass_111 : decode cL_pass 111 = .ok (.ldiv, 1) := by decide +kernel
theorem dL_pass_112 : decode cL_pass 112 = .ok (.lload 11, 2) := by decide +kernel
theorem dL_pass_114 : decode cL_pass 114 = .ok (.lsub, 1) := by decide +kernel
theorem dL_pass_115 : decode cL_pass 115 = .ok (.lload 15, 2) := by decide +kernel
theorem dL_pass_117 : decode cL_pass 117 = .ok (.lmul, 1) := by decide +kernel
theorem dL_pass_118 : decode cL_pass 118 = .ok (.lstore 17, 2) := by decide +kernel
theorem dL_pass_120 : decode cL_pass 120 = .ok (.lload 15, 2) := by decide +kernel
theorem dL_pass_122 : decode cL_pass 122 = .ok (.aload 6, 2) := by decide +kernel
theorem dL_pass_124 : decode cL_pass 124 = .ok (.iconst 1, 1) := by decide +kernel
theorem dL_pass_125 : decode cL_pass 125 = .ok (.iaload, 1) := by decide +kernel
theorem dL_pass_126 : decode cL_pass 126 = .ok (.i2l, 1) := by decide +kernel
theorem dL_pass_127 : decode cL_pass 127 = .ok (.ladd, 1) := by decide +kernel
theorem dL_pass_128 : decode cL_pass 128 = .ok (.lstore 19, 2) := by decide +kernel
theorem dL_pass_130 : decode cL_pass 130 = .ok (.lload 11, 2) := by decide +kernel
theorem dL_pass_132 : decode cL_pass 132 = .ok (.lload 17, 2) := by decide +kernel
theorem dL_pass_134 : decode cL_pass 134 = .ok (.lconst 0, 1) := by decide +kernel
theorem dL_pass_135 : decode cL_pass 135 = .ok (.lcmp, 1) := by decide +kernel
theorem dL_pass_136 : decode cL_pass 136 = .ok (.ifCond .ge 13, 3) := by decide +kernel
theorem dL_pass_139 : decode cL_pass 139 = .ok (.lload 17, 2) := by decide +kernel
theorem dL_pass_141 : decode cL_pass 141 = .ok (.lneg, 1) := by decide +kernel
theorem dL_pass_142 : decode cL_pass 142 = .ok (.lload 19, 2) := by decide +kernel
theorem dL_pass_144 : decode cL_pass 144 = .ok (.ldiv, 1) := by decide +kernel
theorem dL_pass_145 : decode cL_pass 145 = .ok (.lneg, 1) := by decide +kernel
theorem dL_pass_146 : decode cL_pass 146 = .ok (.goto 8, 3) := by decide +kernel
theorem dL_pass_149 : decode cL_pass 149 = .ok (.lload 17, 2) := by decide +kernel
theorem dL_pass_151 : decode cL_pass 151 = .ok (.lload 19, 2) := by decide +kernel
theorem dL_pass_153 : decode cL_pass 153 = .ok (.ldiv, 1) := by decide +kernel
theorem dL_pass_154 : decode cL_pass 154 = .ok (.ladd, 1) := by decide +kernel
theorem dL_pass_155 : decode cL_pass 155 = .ok (.lstore 11, 2) := by decide +kernel
theorem dL_pass_157 : decode cL_pass 157 = .ok (.lload 11, 2) := by decide +kernel
theorem dL_pass_159 : decode cL_pass 159 = .ok (.ldc2_w 29, 3) := by decide +kernel
theorem dL_pass_162 : decode cL_pass 162 = .ok (.lcmp, 1) := by decide +kernel
theorem dL_pass_163 : decode cL_pass 163 = .ok (.ifCond .ge 9, 3) := by decide +kernel
theorem dL_pass_166 : decode cL_pass 166 = .ok (.ldc2_w 29, 3) := by decide +kernel
theorem dL_pass_169 : decode cL_pass 169 = .ok (.goto 20, 3) := by decide +kernel
end
section
theorem dL_pass_172 : decode cL_pass 172 = .ok (.lload 11, 2) := by decide +kernel
theorem dL_pass_174 : decode cL_pass 174 = .ok (.ldc2_w 31, 3) := by decide +kernel
theorem dL_pass_177 : decode cL_pass 177 = .ok (.lcmp, 1) := by decide +kernel
theorem dL_pass_178 : decode cL_pass 178 = .ok (.ifCond .le 9, 3) := by decide +kernel
theorem dL_pass_181 : decode cL_pass 181 = .ok (.ldc2_w 31, 3) := by decide +kernel
theorem dL_pass_184 : decode cL_pass 184 = .ok (.goto 5, 3) := by decide +kernel
theorem dL_pass_187 : decode cL_pass 187 = .ok (.lload 11, 2) := by decide +kernel
theorem dL_pass_189 : decode cL_pass 189 = .ok (.lstore 11, 2) := by decide +kernel
theorem dL_pass_191 : decode cL_pass 191 = .ok (.aload 8, 2) := by decide +kernel
theorem dL_pass_193 : decode cL_pass 193 = .ok (.iload 10, 2) := by decide +kernel
theorem dL_pass_195 : decode cL_pass 195 = .ok (.lload 11, 2) := by decide +kernel
theorem dL_pass_197 : decode cL_pass 197 = .ok (.lastore, 1) := by decide +kernel
theorem dL_pass_198 : decode cL_pass 198 = .ok (.iinc 10 1, 3) := by decide +kernel
theorem dL_pass_201 : decode cL_pass 201 = .ok (.goto (-190), 3) := by decide +kernel
theorem dL_pass_204 : decode cL_pass 204 = .ok (.iconst 0, 1) := by decide +kernel
theorem dL_pass_205 : decode cL_pass 205 = .ok (.istore 10, 2) := by decide +kernel
theorem dL_pass_207 : decode cL_pass 207 = .ok (.iload 10, 2) := by decide +kernel
theorem dL_pass_209 : decode cL_pass 209 = .ok (.iload 7, 2) := by decide +kernel
theorem dL_pass_211 : decode cL_pass 211 = .ok (.invokestatic 21, 3) := by decide +kernel
theorem dL_pass_214 : decode cL_pass 214 = .ok (.if_icmp .ge 55, 3) := by decide +kernel
theorem dL_pass_217 : decode cL_pass 217 = .ok (.iload 9, 2) := by decide +kernel
theorem dL_pass_219 : decode cL_pass 219 = .ok (.aload 8, 2) := by decide +kernel
theorem dL_pass_221 : decode cL_pass 221 = .ok (.iload 10, 2) := by decide +kernel
theorem dL_pass_223 : decode cL_pass 223 = .ok (.laload, 1) := by decide +kernel
theorem dL_pass_224 : decode cL_pass 224 = .ok (.aload 5, 2) := by decide +kernel
theorem dL_pass_226 : decode cL_pass 226 = .ok (.iconst 4, 1) := by decide +kernel
theorem dL_pass_227 : decode cL_pass 227 = .ok (.iload 7, 2) := by decide +kernel
theorem dL_pass_229 : decode cL_pass 229 = .ok (.imul, 1) := by decide +kernel
theorem dL_pass_230 : decode cL_pass 230 = .ok (.iload 10, 2) := by decide +kernel
theorem dL_pass_232 : decode cL_pass 232 = .ok (.iadd, 1) := by decide +kernel
theorem dL_pass_233 : decode cL_pass 233 = .ok (.iaload, 1) := by decide +kernel
theorem dL_pass_234 : decode cL_pass 234 = .ok (.i2l, 1) := by decide +kernel
theorem dL_pass_235 : decode cL_pass 235 = .ok (.lcmp, 1) := by decide +kernel
theorem dL_pass_236 : decode cL_pass 236 = .ok (.ifCond .ne 7, 3) := by decide +kernel
theorem dL_pass_239 : decode cL_pass 239 = .ok (.iconst 0, 1) := by decide +kernel
theorem dL_pass_240 : decode cL_pass 240 = .ok (.goto 4, 3) := by decide +kernel
theorem dL_pass_243 : decode cL_pass 243 = .ok (.iconst 1, 1) := by decide +kernel
theorem dL_pass_244 : decode cL_pass 244 = .ok (.iadd, 1) := by decide +kernel
theorem dL_pass_245 : decode cL_pass 245 = .ok (.istore 9, 2) := by decide +kernel
theorem dL_pass_247 : decode cL_pass 247 = .ok (.aload 5, 2) := by decide +kernel
theorem dL_pass_249 : decode cL_pass 249 = .ok (.iconst 4, 1) := by decide +kernel
theorem dL_pass_250 : decode cL_pass 250 = .ok (.iload 7, 2) := by decide +kernel
theorem dL_pass_252 : decode cL_pass 252 = .ok (.imul, 1) := by decide +kernel
theorem dL_pass_253 : decode cL_pass 253 = .ok (.iload 10, 2) := by decide +kernel
theorem dL_pass_255 : decode cL_pass 255 = .ok (.iadd, 1) := by decide +kernel
theorem dL_pass_256 : decode cL_pass 256 = .ok (.aload 8, 2) := by decide +kernel
theorem dL_pass_258 : decode cL_pass 258 = .ok (.iload 10, 2) := by decide +kernel
theorem dL_pass_260 : decode cL_pass 260 = .ok (.laload, 1) := by decide +kernel
theorem dL_pass_261 : decode cL_pass 261 = .ok (.l2i, 1) := by decide +kernel
theorem dL_pass_262 : decode cL_pass 262 = .ok (.iastore, 1) := by decide +kernel
theorem dL_pass_263 : decode cL_pass 263 = .ok (.iinc 10 1, 3) := by decide +kernel
theorem dL_pass_266 : decode cL_pass 266 = .ok (.goto (-59), 3) := by decide +kernel
theorem dL_pass_269 : decode cL_pass 269 = .ok (.iload 9, 2) := by decide +kernel
theorem dL_pass_271 : decode cL_pass 271 = .ok (.ireturn, 1) := by decide +kernel
theorem dL_smooth_0 : decode cL_smooth 0 = .ok (.iconst 4, 1) := by decide +kernel
theorem dL_smooth_1 : decode cL_smooth 1 = .ok (.newarray .long, 2) := by decide +kernel
theorem dL_smooth_3 : decode cL_smooth 3 = .ok (.astore 8, 2) := by decide +kernel
theorem dL_smooth_5 : decode cL_smooth 5 = .ok (.iconst 4, 1) := by decide +kernel
theorem dL_smooth_6 : decode cL_smooth 6 = .ok (.newarray .long, 2) := by decide +kernel
theorem dL_smooth_8 : decode cL_smooth 8 = .ok (.astore 9, 2) := by decide +kernel
theorem dL_smooth_10 : decode cL_smooth 10 = .ok (.iconst 4, 1) := by decide +kernel
theorem dL_smooth_11 : decode cL_smooth 11 = .ok (.newarray .int, 2) := by decide +kernel
theorem dL_smooth_13 : decode cL_smooth 13 = .ok (.astore 10, 2) := by decide +kernel
theorem dL_smooth_15 : decode cL_smooth 15 = .ok (.iload 7, 2) := by decide +kernel
theorem dL_smooth_17 : decode cL_smooth 17 = .ok (.invokestatic 21, 3) := by decide +kernel
theorem dL_smooth_20 : decode cL_smooth 20 = .ok (.istore 11, 2) := by decide +kernel
theorem dL_smooth_22 : decode cL_smooth 22 = .ok (.iconst 0, 1) := by decide +kernel
theorem dL_smooth_23 : decode cL_smooth 23 = .ok (.istore 12, 2) := by decide +kernel
theorem dL_smooth_25 : decode cL_smooth 25 = .ok (.iload 12, 2) := by decide +kernel
theorem dL_smooth_27 : decode cL_smooth 27 = .ok (.iload 11, 2) := by decide +kernel
theorem dL_smooth_29 : decode cL_smooth 29 = .ok (.if_icmp .ge 54, 3) := by decide +kernel
theorem dL_smooth_32 : decode cL_smooth 32 = .ok (.aload 8, 2) := by decide +kernel
theorem dL_smooth_34 : decode cL_smooth 34 = .ok (.iload 12, 2) := by decide +kernel
theorem dL_smooth_36 : decode cL_smooth 36 = .ok (.aload 5, 2) := by decide +kernel
theorem dL_smooth_38 : decode cL_smooth 38 = .ok (.iconst 4, 1) := by decide +kernel
theorem dL_smooth_39 : decode cL_smooth 39 = .ok (.iload 7, 2) := by decide +kernel
theorem dL_smooth_41 : decode cL_smooth 41 = .ok (.imul, 1) := by decide +kernel
theorem dL_smooth_42 : decode cL_smooth 42 = .ok (.iload 12, 2) := by decide +kernel
theorem dL_smooth_44 : decode cL_smooth 44 = .ok (.iadd, 1) := by decide +kernel
theorem dL_smooth_45 : decode cL_smooth 45 = .ok (.iaload, 1) := by decide +kernel
theorem dL_smooth_46 : decode cL_smooth 46 = .ok (.i2l, 1) := by decide +kernel
theorem dL_smooth_47 : decode cL_smooth 47 = .ok (.lastore, 1) := by decide +kernel
theorem dL_smooth_48 : decode cL_smooth 48 = .ok (.aload 9, 2) := by decide +kernel
theorem dL_smooth_50 : decode cL_smooth 50 = .ok (.iload 12, 2) := by decide +kernel
theorem dL_smooth_52 : decode cL_smooth 52 = .ok (.aload_n 0, 1) := by decide +kernel
theorem dL_smooth_53 : decode cL_smooth 53 = .ok (.aload_n 1, 1) := by decide +kernel
theorem dL_smooth_54 : decode cL_smooth 54 = .ok (.aload_n 2, 1) := by decide +kernel
theorem dL_smooth_55 : decode cL_smooth 55 = .ok (.aload_n 3, 1) := by decide +kernel
theorem dL_smooth_56 : decode cL_smooth 56 = .ok (.aload 4, 2) := by decide +kernel
theorem dL_smooth_58 : decode cL_smooth 58 = .ok (.aload 5, 2) := by decide +kernel
theorem dL_smooth_60 : decode cL_smooth 60 = .ok (.aload 6, 2) := by decide +kernel
theorem dL_smooth_62 : decode cL_smooth 62 = .ok (.iconst 3, 1) := by decide +kernel
theorem dL_smooth_63 : decode cL_smooth 63 = .ok (.iload 7, 2) := by decide +kernel
theorem dL_smooth_65 : decode cL_smooth 65 = .ok (.iload 12, 2) := by decide +kernel
theorem dL_smooth_67 : decode cL_smooth 67 = .ok (.invokestatic 25, 3) := by decide +kernel
theorem dL_smooth_70 : decode cL_smooth 70 = .ok (.lastore, 1) := by decide +kernel
theorem dL_smooth_71 : decode cL_smooth 71 = .ok (.aload 10, 2) := by decide +kernel
theorem dL_smooth_73 : decode cL_smooth 73 = .ok (.iload 12, 2) := by decide +kernel
theorem dL_smooth_75 : decode cL_smooth 75 = .ok (.iconst 1, 1) := by decide +kernel
theorem dL_smooth_76 : decode cL_smooth 76 = .ok (.iastore, 1) := by decide +kernel
theorem dL_smooth_77 : decode cL_smooth 77 = .ok (.iinc 12 1, 3) := by decide +kernel
theorem dL_smooth_80 : decode cL_smooth 80 = .ok (.goto (-55), 3) := by decide +kernel
theorem dL_smooth_83 : decode cL_smooth 83 = .ok (.iconst 1, 1) := by decide +kernel
theorem dL_smooth_84 : decode cL_smooth 84 = .ok (.istore 12, 2) := by decide +kernel
theorem dL_smooth_86 : decode cL_smooth 86 = .ok (.iload 12, 2) := by decide +kernel
theorem dL_smooth_88 : decode cL_smooth 88 = .ok (.iload 11, 2) := by decide +kernel
theorem dL_smooth_90 : decode cL_smooth 90 = .ok (.if_icmp .ge 217, 3) := by decide +kernel
theorem dL_smooth_93 : decode cL_smooth 93 = .ok (.aload 8, 2) := by decide +kernel
theorem dL_smooth_95 : decode cL_smooth 95 = .ok (.iload 12, 2) := by decide +kernel
theorem dL_smooth_97 : decode cL_smooth 97 = .ok (.laload, 1) := by decide +kernel
theorem dL_smooth_98 : decode cL_smooth 98 = .ok (.aload 8, 2) := by decide +kernel
theorem dL_smooth_100 : decode cL_smooth 100 = .ok (.iload 12, 2) := by decide +kernel
theorem dL_smooth_102 : decode cL_smooth 102 = .ok (.iconst 1, 1) := by decide +kernel
theorem dL_smooth_103 : decode cL_smooth 103 = .ok (.isub, 1) := by decide +kernel
theorem dL_smooth_104 : decode cL_smooth 104 = .ok (.laload, 1) := by decide +kernel
theorem dL_smooth_105 : decode cL_smooth 105 = .ok (.lcmp, 1) := by decide +kernel
theorem dL_smooth_106 : decode cL_smooth 106 = .ok (.ifCond .lt 9, 3) := by decide +kernel
theorem dL_smooth_109 : decode cL_smooth 109 = .ok (.iinc 12 1, 3) := by decide +kernel
theorem dL_smooth_112 : decode cL_smooth 112 = .ok (.goto (-26), 3) := by decide +kernel
theorem dL_smooth_115 : decode cL_smooth 115 = .ok (.aload 9, 2) := by decide +kernel
theorem dL_smooth_117 : decode cL_smooth 117 = .ok (.iload 12, 2) := by decide +kernel
theorem dL_smooth_119 : decode cL_smooth 119 = .ok (.iconst 1, 1) := by decide +kernel
theorem dL_smooth_120 : decode cL_smooth 120 = .ok (.isub, 1) := by decide +kernel
theorem dL_smooth_121 : decode cL_smooth 121 = .ok (.laload, 1) := by decide +kernel
theorem dL_smooth_122 : decode cL_smooth 122 = .ok (.aload 9, 2) := by decide +kernel
theorem dL_smooth_124 : decode cL_smooth 124 = .ok (.iload 12, 2) := by decide +kernel
theorem dL_smooth_126 : decode cL_smooth 126 = .ok (.laload, 1) := by decide +kernel
theorem dL_smooth_127 : decode cL_smooth 127 = .ok (.ladd, 1) := by decide +kernel
theorem dL_smooth_128 : decode cL_smooth 128 = .ok (.lstore 13, 2) := by decide +kernel
theorem dL_smooth_130 : decode cL_smooth 130 = .ok (.aload 8, 2) := by decide +kernel
theorem dL_smooth_132 : decode cL_smooth 132 = .ok (.iload 12, 2) := by decide +kernel
theorem dL_smooth_134 : decode cL_smooth 134 = .ok (.iconst 1, 1) := by decide +kernel
theorem dL_smooth_135 : decode cL_smooth 135 = .ok (.isub, 1) := by decide +kernel
theorem dL_smooth_136 : decode cL_smooth 136 = .ok (.lload 13, 2) := by decide +kernel
theorem dL_smooth_138 : decode cL_smooth 138 = .ok (.lconst 0, 1) := by decide +kernel
theorem dL_smooth_139 : decode cL_smooth 139 = .ok (.lcmp, 1) := by decide +kernel
theorem dL_smooth_140 : decode cL_smooth 140 = .ok (.ifCond .ne 50, 3) := by decide +kernel
theorem dL_smooth_143 : decode cL_smooth 143 = .ok (.aload 8, 2) := by decide +kernel
theorem dL_smooth_145 : decode cL_smooth 145 = .ok (.iload 12, 2) := by decide +kernel
theorem dL_smooth_147 : decode cL_smooth 147 = .ok (.iconst 1, 1) := by decide +kernel
theorem dL_smooth_148 : decode cL_smooth 148 = .ok (.isub, 1) := by decide +kernel
theorem dL_smooth_149 : decode cL_smooth 149 = .ok (.laload, 1) := by decide +kernel
theorem dL_smooth_150 : decode cL_smooth 150 = .ok (.aload 10, 2) := by decide +kernel
theorem dL_smooth_152 : decode cL_smooth 152 = .ok (.iload 12, 2) := by decide +kernel
theorem dL_smooth_154 : decode cL_smooth 154 = .ok (.iconst 1, 1) := by decide +kernel
theorem dL_smooth_155 : decode cL_smooth 155 = .ok (.isub, 1) := by decide +kernel
theorem dL_smooth_156 : decode cL_smooth 156 = .ok (.iaload, 1) := by decide +kernel
theorem dL_smooth_157 : decode cL_smooth 157 = .ok (.i2l, 1) := by decide +kernel
theorem dL_smooth_158 : decode cL_smooth 158 = .ok (.lmul, 1) := by decide +kernel
theorem dL_smooth_159 : decode cL_smooth 159 = .ok (.aload 8, 2) := by decide +kernel
theorem dL_smooth_161 : decode cL_smooth 161 = .ok (.iload 12, 2) := by decide +kernel
theorem dL_smooth_163 : decode cL_smooth 163 = .ok (.laload, 1) := by decide +kernel
theorem dL_smooth_164 : decode cL_smooth 164 = .ok (.aload 10, 2) := by decide +kernel
theorem dL_smooth_166 : decode cL_smooth 166 = .ok (.iload 12, 2) := by decide +kernel
theorem dL_smooth_168 : decode cL_smooth 168 = .ok (.iaload, 1) := by decide +kernel
theorem dL_smooth_169 : decode cL_smooth 169 = .ok (.i2l, 1) := by decide +kernel
theorem dL_smooth_170 : decode cL_smooth 170 = .ok (.lmul, 1) := by decide +kernel
theorem dL_smooth_171 : decode cL_smooth 171 = .ok (.ladd, 1) := by decide +kernel
theorem dL_smooth_172 : decode cL_smooth 172 = .ok (.aload 10, 2) := by decide +kernel
theorem dL_smooth_174 : decode cL_smooth 174 = .ok (.iload 12, 2) := by decide +kernel
theorem dL_smooth_176 : decode cL_smooth 176 = .ok (.iconst 1, 1) := by decide +kernel
theorem dL_smooth_177 : decode cL_smooth 177 = .ok (.isub, 1) := by decide +kernel
theorem dL_smooth_178 : decode cL_smooth 178 = .ok (.iaload, 1) := by decide +kernel
theorem dL_smooth_179 : decode cL_smooth 179 = .ok (.aload 10, 2) := by decide +kernel
theorem dL_smooth_181 : decode cL_smooth 181 = .ok (.iload 12, 2) := by decide +kernel
theorem dL_smooth_183 : decode cL_smooth 183 = .ok (.iaload, 1) := by decide +kernel
theorem dL_smooth_184 : decode cL_smooth 184 = .ok (.iadd, 1) := by decide +kernel
theorem dL_smooth_185 : decode cL_smooth 185 = .ok (.i2l, 1) := by decide +kernel
theorem dL_smooth_186 : decode cL_smooth 186 = .ok (.ldiv, 1) := by decide +kernel
theorem dL_smooth_187 : decode cL_smooth 187 = .ok (.goto 33, 3) := by decide +kernel
theorem dL_smooth_190 : decode cL_smooth 190 = .ok (.aload 8, 2) := by decide +kernel
theorem dL_smooth_192 : decode cL_smooth 192 = .ok (.iload 12, 2) := by decide +kernel
theorem dL_smooth_194 : decode cL_smooth 194 = .ok (.iconst 1, 1) := by decide +kernel
theorem dL_smooth_195 : decode cL_smooth 195 = .ok (.isub, 1) := by decide +kernel
theorem dL_smooth_196 : decode cL_smooth 196 = .ok (.laload, 1) := by decide +kernel
theorem dL_smooth_197 : decode cL_smooth 197 = .ok (.aload 9, 2) := by decide +kernel
theorem dL_smooth_199 : decode cL_smooth 199 = .ok (.iload 12, 2) := by decide +kernel
theorem dL_smooth_201 : decode cL_smooth 201 = .ok (.iconst 1, 1) := by decide +kernel
theorem dL_smooth_202 : decode cL_smooth 202 = .ok (.isub, 1) := by decide +kernel
theorem dL_smooth_203 : decode cL_smooth 203 = .ok (.laload, 1) := by decide +kernel
theorem dL_smooth_204 : decode cL_smooth 204 = .ok (.lmul, 1) := by decide +kernel
theorem dL_smooth_205 : decode cL_smooth 205 = .ok (.aload 8, 2) := by decide +kernel
theorem dL_smooth_207 : decode cL_smooth 207 = .ok (.iload 12, 2) := by decide +kernel
theorem dL_smooth_209 : decode cL_smooth 209 = .ok (.laload, 1) := by decide +kernel
theorem dL_smooth_210 : decode cL_smooth 210 = .ok (.aload 9, 2) := by decide +kernel
theorem dL_smooth_212 : decode cL_smooth 212 = .ok (.iload 12, 2) := by decide +kernel
theorem dL_smooth_214 : decode cL_smooth 214 = .ok (.laload, 1) := by decide +kernel
theorem dL_smooth_215 : decode cL_smooth 215 = .ok (.lmul, 1) := by decide +kernel
theorem dL_smooth_216 : decode cL_smooth 216 = .ok (.ladd, 1) := by decide +kernel
theorem dL_smooth_217 : decode cL_smooth 217 = .ok (.lload 13, 2) := by decide +kernel
theorem dL_smooth_219 : decode cL_smooth 219 = .ok (.ldiv, 1) := by decide +kernel
theorem dL_smooth_220 : decode cL_smooth 220 = .ok (.lastore, 1) := by decide +kernel
theorem dL_smooth_221 : decode cL_smooth 221 = .ok (.aload 9, 2) := by decide +kernel
theorem dL_smooth_223 : decode cL_smooth 223 = .ok (.iload 12, 2) := by decide +kernel
theorem dL_smooth_225 : decode cL_smooth 225 = .ok (.iconst 1, 1) := by decide +kernel
theorem dL_smooth_226 : decode cL_smooth 226 = .ok (.isub, 1) := by decide +kernel
theorem dL_smooth_227 : decode cL_smooth 227 = .ok (.lload 13, 2) := by decide +kernel
theorem dL_smooth_229 : decode cL_smooth 229 = .ok (.lastore, 1) := by decide +kernel
theorem dL_smooth_230 : decode cL_smooth 230 = .ok (.aload 10, 2) := by decide +kernel
theorem dL_smooth_232 : decode cL_smooth 232 = .ok (.iload 12, 2) := by decide +kernel
theorem dL_smooth_234 : decode cL_smooth 234 = .ok (.iconst 1, 1) := by decide +kernel
theorem dL_smooth_235 : decode cL_smooth 235 = .ok (.isub, 1) := by decide +kernel
theorem dL_smooth_236 : decode cL_smooth 236 = .ok (.dup2, 1) := by decide +kernel
theorem dL_smooth_237 : decode cL_smooth 237 = .ok (.iaload, 1) := by decide +kernel
theorem dL_smooth_238 : decode cL_smooth 238 = .ok (.aload 10, 2) := by decide +kernel
theorem dL_smooth_240 : decode cL_smooth 240 = .ok (.iload 12, 2) := by decide +kernel
theorem dL_smooth_242 : decode cL_smooth 242 = .ok (.iaload, 1) := by decide +kernel
theorem dL_smooth_243 : decode cL_smooth 243 = .ok (.iadd, 1) := by decide +kernel
theorem dL_smooth_244 : decode cL_smooth 244 = .ok (.iastore, 1) := by decide +kernel
theorem dL_smooth_245 : decode cL_smooth 245 = .ok (.iinc 11 (-1), 3) := by decide +kernel
theorem dL_smooth_248 : decode cL_smooth 248 = .ok (.iload 12, 2) := by decide +kernel
theorem dL_smooth_250 : decode cL_smooth 250 = .ok (.istore 15, 2) := by decide +kernel
theorem dL_smooth_252 : decode cL_smooth 252 = .ok (.iload 15, 2) := by decide +kernel
theorem dL_smooth_254 : decode cL_smooth 254 = .ok (.iload 11, 2) := by decide +kernel
theorem dL_smooth_256 : decode cL_smooth 256 = .ok (.if_icmp .ge 45, 3) := by decide +kernel
theorem dL_smooth_259 : decode cL_smooth 259 = .ok (.aload 8, 2) := by decide +kernel
theorem dL_smooth_261 : decode cL_smooth 261 = .ok (.iload 15, 2) := by decide +kernel
theorem dL_smooth_263 : decode cL_smooth 263 = .ok (.aload 8, 2) := by decide +kernel
theorem dL_smooth_265 : decode cL_smooth 265 = .ok (.iload 15, 2) := by decide +kernel
theorem dL_smooth_267 : decode cL_smooth 267 = .ok (.iconst 1, 1) := by decide +kernel
theorem dL_smooth_268 : decode cL_smooth 268 = .ok (.iadd, 1) := by decide +kernel
theorem dL_smooth_269 : decode cL_smooth 269 = .ok (.laload, 1) := by decide +kernel
theorem dL_smooth_270 : decode cL_smooth 270 = .ok (.lastore, 1) := by decide +kernel
theorem dL_smooth_271 : decode cL_smooth 271 = .ok (.aload 9, 2) := by decide +kernel
theorem dL_smooth_273 : decode cL_smooth 273 = .ok (.iload 15, 2) := by decide +kernel
theorem dL_smooth_275 : decode cL_smooth 275 = .ok (.aload 9, 2) := by decide +kernel
theorem dL_smooth_277 : decode cL_smooth 277 = .ok (.iload 15, 2) := by decide +kernel
theorem dL_smooth_279 : decode cL_smooth 279 = .ok (.iconst 1, 1) := by decide +kernel
theorem dL_smooth_280 : decode cL_smooth 280 = .ok (.iadd, 1) := by decide +kernel
theorem dL_smooth_281 : decode cL_smooth 281 = .ok (.laload, 1) := by decide +kernel
theorem dL_smooth_282 : decode cL_smooth 282 = .ok (.lastore, 1) := by decide +kernel
theorem dL_smooth_283 : decode cL_smooth 283 = .ok (.aload 10, 2) := by decide +kernel
theorem dL_smooth_285 : decode cL_smooth 285 = .ok (.iload 15, 2) := by decide +kernel
theorem dL_smooth_287 : decode cL_smooth 287 = .ok (.aload 10, 2) := by decide +kernel
theorem dL_smooth_289 : decode cL_smooth 289 = .ok (.iload 15, 2) := by decide +kernel
theorem dL_smooth_291 : decode cL_smooth 291 = .ok (.iconst 1, 1) := by decide +kernel
theorem dL_smooth_292 : decode cL_smooth 292 = .ok (.iadd, 1) := by decide +kernel
theorem dL_smooth_293 : decode cL_smooth 293 = .ok (.iaload, 1) := by decide +kernel
theorem dL_smooth_294 : decode cL_smooth 294 = .ok (.iastore, 1) := by decide +kernel
theorem dL_smooth_295 : decode cL_smooth 295 = .ok (.iinc 15 1, 3) := by decide +kernel
theorem dL_smooth_298 : decode cL_smooth 298 = .ok (.goto (-46), 3) := by decide +kernel
theorem dL_smooth_301 : decode cL_smooth 301 = .ok (.iconst 1, 1) := by decide +kernel
theorem dL_smooth_302 : decode cL_smooth 302 = .ok (.istore 12, 2) := by decide +kernel
theorem dL_smooth_304 : decode cL_smooth 304 = .ok (.goto (-218), 3) := by decide +kernel
theorem dL_smooth_307 : decode cL_smooth 307 = .ok (.iconst 0, 1) := by decide +kernel
theorem dL_smooth_308 : decode cL_smooth 308 = .ok (.istore 12, 2) := by decide +kernel
theorem dL_smooth_310 : decode cL_smooth 310 = .ok (.iconst 0, 1) := by decide +kernel
theorem dL_smooth_311 : decode cL_smooth 311 = .ok (.istore 13, 2) := by decide +kernel
theorem dL_smooth_313 : decode cL_smooth 313 = .ok (.iconst 0, 1) := by decide +kernel
theorem dL_smooth_314 : decode cL_smooth 314 = .ok (.istore 14, 2) := by decide +kernel
theorem dL_smooth_316 : decode cL_smooth 316 = .ok (.iload 14, 2) := by decide +kernel
theorem dL_smooth_318 : decode cL_smooth 318 = .ok (.iload 11, 2) := by decide +kernel
theorem dL_smooth_320 : decode cL_smooth 320 = .ok (.if_icmp .ge 77, 3) := by decide +kernel
theorem dL_smooth_323 : decode cL_smooth 323 = .ok (.iconst 0, 1) := by decide +kernel
theorem dL_smooth_324 : decode cL_smooth 324 = .ok (.istore 15, 2) := by decide +kernel
theorem dL_smooth_326 : decode cL_smooth 326 = .ok (.iload 15, 2) := by decide +kernel
theorem dL_smooth_328 : decode cL_smooth 328 = .ok (.aload 10, 2) := by decide +kernel
theorem dL_smooth_330 : decode cL_smooth 330 = .ok (.iload 14, 2) := by decide +kernel
theorem dL_smooth_332 : decode cL_smooth 332 = .ok (.iaload, 1) := by decide +kernel
theorem dL_smooth_333 : decode cL_smooth 333 = .ok (.if_icmp .ge 58, 3) := by decide +kernel
theorem dL_smooth_336 : decode cL_smooth 336 = .ok (.iload 12, 2) := by decide +kernel
theorem dL_smooth_338 : decode cL_smooth 338 = .ok (.aload 5, 2) := by decide +kernel
theorem dL_smooth_340 : decode cL_smooth 340 = .ok (.iconst 4, 1) := by decide +kernel
theorem dL_smooth_341 : decode cL_smooth 341 = .ok (.iload 7, 2) := by decide +kernel
theorem dL_smooth_343 : decode cL_smooth 343 = .ok (.imul, 1) := by decide +kernel
theorem dL_smooth_344 : decode cL_smooth 344 = .ok (.iload 13, 2) := by decide +kernel
theorem dL_smooth_346 : decode cL_smooth 346 = .ok (.iadd, 1) := by decide +kernel
theorem dL_smooth_347 : decode cL_smooth 347 = .ok (.iaload, 1) := by decide +kernel
theorem dL_smooth_348 : decode cL_smooth 348 = .ok (.i2l, 1) := by decide +kernel
theorem dL_smooth_349 : decode cL_smooth 349 = .ok (.aload 8, 2) := by decide +kernel
theorem dL_smooth_351 : decode cL_smooth 351 = .ok (.iload 14, 2) := by decide +kernel
theorem dL_smooth_353 : decode cL_smooth 353 = .ok (.laload, 1) := by decide +kernel
theorem dL_smooth_354 : decode cL_smooth 354 = .ok (.lcmp, 1) := by decide +kernel
theorem dL_smooth_355 : decode cL_smooth 355 = .ok (.ifCond .ne 7, 3) := by decide +kernel
theorem dL_smooth_358 : decode cL_smooth 358 = .ok (.iconst 0, 1) := by decide +kernel
theorem dL_smooth_359 : decode cL_smooth 359 = .ok (.goto 4, 3) := by decide +kernel
theorem dL_smooth_362 : decode cL_smooth 362 = .ok (.iconst 1, 1) := by decide +kernel
theorem dL_smooth_363 : decode cL_smooth 363 = .ok (.iadd, 1) := by decide +kernel
theorem dL_smooth_364 : decode cL_smooth 364 = .ok (.istore 12, 2) := by decide +kernel
theorem dL_smooth_366 : decode cL_smooth 366 = .ok (.aload 5, 2) := by decide +kernel
theorem dL_smooth_368 : decode cL_smooth 368 = .ok (.iconst 4, 1) := by decide +kernel
theorem dL_smooth_369 : decode cL_smooth 369 = .ok (.iload 7, 2) := by decide +kernel
theorem dL_smooth_371 : decode cL_smooth 371 = .ok (.imul, 1) := by decide +kernel
theorem dL_smooth_372 : decode cL_smooth 372 = .ok (.iload 13, 2) := by decide +kernel
theorem dL_smooth_374 : decode cL_smooth 374 = .ok (.iadd, 1) := by decide +kernel
theorem dL_smooth_375 : decode cL_smooth 375 = .ok (.aload 8, 2) := by decide +kernel
theorem dL_smooth_377 : decode cL_smooth 377 = .ok (.iload 14, 2) := by decide +kernel
theorem dL_smooth_379 : decode cL_smooth 379 = .ok (.laload, 1) := by decide +kernel
theorem dL_smooth_380 : decode cL_smooth 380 = .ok (.l2i, 1) := by decide +kernel
theorem dL_smooth_381 : decode cL_smooth 381 = .ok (.iastore, 1) := by decide +kernel
theorem dL_smooth_382 : decode cL_smooth 382 = .ok (.iinc 13 1, 3) := by decide +kernel
theorem dL_smooth_385 : decode cL_smooth 385 = .ok (.iinc 15 1, 3) := by decide +kernel
theorem dL_smooth_388 : decode cL_smooth 388 = .ok (.goto (-62), 3) := by decide +kernel
theorem dL_smooth_391 : decode cL_smooth 391 = .ok (.iinc 14 1, 3) := by decide +kernel
theorem dL_smooth_394 : decode cL_smooth 394 = .ok (.goto (-78), 3) := by decide +kernel
theorem dL_smooth_397 : decode cL_smooth 397 = .ok (.iload 12, 2) := by decide +kernel
theorem dL_smooth_399 : decode cL_smooth 399 = .ok (.ireturn, 1) := by decide +kernel
theorem dL_capped_0 : decode cL_capped 0 = .ok (.aload_n 0, 1) := by decide +kernel
theorem dL_capped_1 : decode cL_capped 1 = .ok (.aload_n 1, 1) := by decide +kernel
theorem dL_capped_2 : decode cL_capped 2 = .ok (.aload 5, 2) := by decide +kernel
theorem dL_capped_4 : decode cL_capped 4 = .ok (.iload 7, 2) := by decide +kernel
theorem dL_capped_6 : decode cL_capped 6 = .ok (.aload_n 1, 1) := by decide +kernel
theorem dL_capped_7 : decode cL_capped 7 = .ok (.aload_n 2, 1) := by decide +kernel
theorem dL_capped_8 : decode cL_capped 8 = .ok (.aload 4, 2) := by decide +kernel
theorem dL_capped_10 : decode cL_capped 10 = .ok (.aload 6, 2) := by decide +kernel
theorem dL_capped_12 : decode cL_capped 12 = .ok (.invokestatic 11, 3) := by decide +kernel
theorem dL_capped_15 : decode cL_capped 15 = .ok (.invokestatic 17, 3) := by decide +kernel
theorem dL_capped_18 : decode cL_capped 18 = .ok (.aload 6, 2) := by decide +kernel
theorem dL_capped_20 : decode cL_capped 20 = .ok (.iconst 3, 1) := by decide +kernel
theorem dL_capped_21 : decode cL_capped 21 = .ok (.iaload, 1) := by decide +kernel
theorem dL_capped_22 : decode cL_capped 22 = .ok (.i2l, 1) := by decide +kernel
theorem dL_capped_23 : decode cL_capped 23 = .ok (.lmul, 1) := by decide +kernel
theorem dL_capped_24 : decode cL_capped 24 = .ok (.ldc2_w 9, 3) := by decide +kernel
theorem dL_capped_27 : decode cL_capped 27 = .ok (.ldiv, 1) := by decide +kernel
theorem dL_capped_28 : decode cL_capped 28 = .ok (.lstore 8, 2) := by decide +kernel
theorem dL_capped_30 : decode cL_capped 30 = .ok (.aload 6, 2) := by decide +kernel
theorem dL_capped_32 : decode cL_capped 32 = .ok (.iconst 2, 1) := by decide +kernel
theorem dL_capped_33 : decode cL_capped 33 = .ok (.iaload, 1) := by decide +kernel
theorem dL_capped_34 : decode cL_capped 34 = .ok (.ifCond .lt 10, 3) := by decide +kernel
theorem dL_capped_37 : decode cL_capped 37 = .ok (.aload_n 3, 1) := by decide +kernel
end
section
theorem dL_capped_38 : decode cL_capped 38 = .ok (.iload 7, 2) := by decide +kernel
theorem dL_capped_40 : decode cL_capped 40 = .ok (.iaload, 1) := by decide +kernel
theorem dL_capped_41 : decode cL_capped 41 = .ok (.ifCond .ge 6, 3) := by decide +kernel
theorem dL_capped_44 : decode cL_capped 44 = .ok (.lload 8, 2) := by decide +kernel
theorem dL_capped_46 : decode cL_capped 46 = .ok (.lreturn, 1) := by decide +kernel
theorem dL_capped_47 : decode cL_capped 47 = .ok (.aload 6, 2) := by decide +kernel
theorem dL_capped_49 : decode cL_capped 49 = .ok (.iconst 2, 1) := by decide +kernel
theorem dL_capped_50 : decode cL_capped 50 = .ok (.iaload, 1) := by decide +kernel
theorem dL_capped_51 : decode cL_capped 51 = .ok (.bipush 100, 2) := by decide +kernel
theorem dL_capped_53 : decode cL_capped 53 = .ok (.if_icmp .le 7, 3) := by decide +kernel
theorem dL_capped_56 : decode cL_capped 56 = .ok (.lconst 0, 1) := by decide +kernel
theorem dL_capped_57 : decode cL_capped 57 = .ok (.goto 22, 3) := by decide +kernel
theorem dL_capped_60 : decode cL_capped 60 = .ok (.ldc2_w 29, 3) := by decide +kernel
theorem dL_capped_63 : decode cL_capped 63 = .ok (.aload 6, 2) := by decide +kernel
theorem dL_capped_65 : decode cL_capped 65 = .ok (.iconst 2, 1) := by decide +kernel
theorem dL_capped_66 : decode cL_capped 66 = .ok (.iaload, 1) := by decide +kernel
theorem dL_capped_67 : decode cL_capped 67 = .ok (.i2l, 1) := by decide +kernel
theorem dL_capped_68 : decode cL_capped 68 = .ok (.lsub, 1) := by decide +kernel
theorem dL_capped_69 : decode cL_capped 69 = .ok (.aload_n 3, 1) := by decide +kernel
theorem dL_capped_70 : decode cL_capped 70 = .ok (.iload 7, 2) := by decide +kernel
theorem dL_capped_72 : decode cL_capped 72 = .ok (.iaload, 1) := by decide +kernel
theorem dL_capped_73 : decode cL_capped 73 = .ok (.i2l, 1) := by decide +kernel
theorem dL_capped_74 : decode cL_capped 74 = .ok (.lmul, 1) := by decide +kernel
theorem dL_capped_75 : decode cL_capped 75 = .ok (.ldc2_w 29, 3) := by decide +kernel
theorem dL_capped_78 : decode cL_capped 78 = .ok (.ldiv, 1) := by decide +kernel
theorem dL_capped_79 : decode cL_capped 79 = .ok (.lstore 10, 2) := by decide +kernel
theorem dL_capped_81 : decode cL_capped 81 = .ok (.ldc2_w 29, 3) := by decide +kernel
theorem dL_capped_84 : decode cL_capped 84 = .ok (.aload 6, 2) := by decide +kernel
theorem dL_capped_86 : decode cL_capped 86 = .ok (.iconst 2, 1) := by decide +kernel
theorem dL_capped_87 : decode cL_capped 87 = .ok (.iaload, 1) := by decide +kernel
theorem dL_capped_88 : decode cL_capped 88 = .ok (.i2l, 1) := by decide +kernel
theorem dL_capped_89 : decode cL_capped 89 = .ok (.ladd, 1) := by decide +kernel
theorem dL_capped_90 : decode cL_capped 90 = .ok (.aload_n 3, 1) := by decide +kernel
theorem dL_capped_91 : decode cL_capped 91 = .ok (.iload 7, 2) := by decide +kernel
theorem dL_capped_93 : decode cL_capped 93 = .ok (.iaload, 1) := by decide +kernel
theorem dL_capped_94 : decode cL_capped 94 = .ok (.i2l, 1) := by decide +kernel
theorem dL_capped_95 : decode cL_capped 95 = .ok (.lmul, 1) := by decide +kernel
theorem dL_capped_96 : decode cL_capped 96 = .ok (.ldc2_w 29, 3) := by decide +kernel
theorem dL_capped_99 : decode cL_capped 99 = .ok (.ldiv, 1) := by decide +kernel
theorem dL_capped_100 : decode cL_capped 100 = .ok (.lstore 12, 2) := by decide +kernel
theorem dL_capped_102 : decode cL_capped 102 = .ok (.lload 8, 2) := by decide +kernel
theorem dL_capped_104 : decode cL_capped 104 = .ok (.lload 10, 2) := by decide +kernel
theorem dL_capped_106 : decode cL_capped 106 = .ok (.lcmp, 1) := by decide +kernel
theorem dL_capped_107 : decode cL_capped 107 = .ok (.ifCond .ge 8, 3) := by decide +kernel
theorem dL_capped_110 : decode cL_capped 110 = .ok (.lload 10, 2) := by decide +kernel
theorem dL_capped_112 : decode cL_capped 112 = .ok (.goto 18, 3) := by decide +kernel
theorem dL_capped_115 : decode cL_capped 115 = .ok (.lload 8, 2) := by decide +kernel
theorem dL_capped_117 : decode cL_capped 117 = .ok (.lload 12, 2) := by decide +kernel
theorem dL_capped_119 : decode cL_capped 119 = .ok (.lcmp, 1) := by decide +kernel
theorem dL_capped_120 : decode cL_capped 120 = .ok (.ifCond .le 8, 3) := by decide +kernel
theorem dL_capped_123 : decode cL_capped 123 = .ok (.lload 12, 2) := by decide +kernel
theorem dL_capped_125 : decode cL_capped 125 = .ok (.goto 5, 3) := by decide +kernel
theorem dL_capped_128 : decode cL_capped 128 = .ok (.lload 8, 2) := by decide +kernel
theorem dL_capped_130 : decode cL_capped 130 = .ok (.lreturn, 1) := by decide +kernel
theorem dL_all_0 : decode cL_all 0 = .ok (.aload_n 1, 1) := by decide +kernel
theorem dL_all_1 : decode cL_all 1 = .ok (.aload_n 2, 1) := by decide +kernel
theorem dL_all_2 : decode cL_all 2 = .ok (.aload 4, 2) := by decide +kernel
theorem dL_all_4 : decode cL_all 4 = .ok (.aload 6, 2) := by decide +kernel
theorem dL_all_6 : decode cL_all 6 = .ok (.invokestatic 11, 3) := by decide +kernel
theorem dL_all_9 : decode cL_all 9 = .ok (.lstore 8, 2) := by decide +kernel
theorem dL_all_11 : decode cL_all 11 = .ok (.lconst 0, 1) := by decide +kernel
theorem dL_all_12 : decode cL_all 12 = .ok (.lstore 10, 2) := by decide +kernel
theorem dL_all_14 : decode cL_all 14 = .ok (.iconst 0, 1) := by decide +kernel
theorem dL_all_15 : decode cL_all 15 = .ok (.istore 12, 2) := by decide +kernel
theorem dL_all_17 : decode cL_all 17 = .ok (.iload 12, 2) := by decide +kernel
theorem dL_all_19 : decode cL_all 19 = .ok (.aload 6, 2) := by decide +kernel
theorem dL_all_21 : decode cL_all 21 = .ok (.iconst 0, 1) := by decide +kernel
theorem dL_all_22 : decode cL_all 22 = .ok (.iaload, 1) := by decide +kernel
theorem dL_all_23 : decode cL_all 23 = .ok (.if_icmp .ge 61, 3) := by decide +kernel
theorem dL_all_26 : decode cL_all 26 = .ok (.lload 10, 2) := by decide +kernel
theorem dL_all_28 : decode cL_all 28 = .ok (.aload 4, 2) := by decide +kernel
theorem dL_all_30 : decode cL_all 30 = .ok (.iload 12, 2) := by decide +kernel
theorem dL_all_32 : decode cL_all 32 = .ok (.iaload, 1) := by decide +kernel
theorem dL_all_33 : decode cL_all 33 = .ok (.iconst 1, 1) := by decide +kernel
theorem dL_all_34 : decode cL_all 34 = .ok (.if_icmp .ne 7, 3) := by decide +kernel
theorem dL_all_37 : decode cL_all 37 = .ok (.lconst 0, 1) := by decide +kernel
theorem dL_all_38 : decode cL_all 38 = .ok (.goto 37, 3) := by decide +kernel
theorem dL_all_41 : decode cL_all 41 = .ok (.iload 7, 2) := by decide +kernel
theorem dL_all_43 : decode cL_all 43 = .ok (.ifCond .eq 21, 3) := by decide +kernel
theorem dL_all_46 : decode cL_all 46 = .ok (.aload_n 0, 1) := by decide +kernel
theorem dL_all_47 : decode cL_all 47 = .ok (.aload_n 1, 1) := by decide +kernel
theorem dL_all_48 : decode cL_all 48 = .ok (.aload_n 2, 1) := by decide +kernel
theorem dL_all_49 : decode cL_all 49 = .ok (.aload_n 3, 1) := by decide +kernel
theorem dL_all_50 : decode cL_all 50 = .ok (.aload 4, 2) := by decide +kernel
theorem dL_all_52 : decode cL_all 52 = .ok (.aload 5, 2) := by decide +kernel
theorem dL_all_54 : decode cL_all 54 = .ok (.aload 6, 2) := by decide +kernel
theorem dL_all_56 : decode cL_all 56 = .ok (.iload 12, 2) := by decide +kernel
theorem dL_all_58 : decode cL_all 58 = .ok (.invokestatic 33, 3) := by decide +kernel
theorem dL_all_61 : decode cL_all 61 = .ok (.goto 14, 3) := by decide +kernel
theorem dL_all_64 : decode cL_all 64 = .ok (.aload_n 0, 1) := by decide +kernel
theorem dL_all_65 : decode cL_all 65 = .ok (.aload_n 1, 1) := by decide +kernel
theorem dL_all_66 : decode cL_all 66 = .ok (.aload 5, 2) := by decide +kernel
theorem dL_all_68 : decode cL_all 68 = .ok (.iload 12, 2) := by decide +kernel
theorem dL_all_70 : decode cL_all 70 = .ok (.lload 8, 2) := by decide +kernel
theorem dL_all_72 : decode cL_all 72 = .ok (.invokestatic 17, 3) := by decide +kernel
theorem dL_all_75 : decode cL_all 75 = .ok (.ladd, 1) := by decide +kernel
theorem dL_all_76 : decode cL_all 76 = .ok (.lstore 10, 2) := by decide +kernel
theorem dL_all_78 : decode cL_all 78 = .ok (.iinc 12 1, 3) := by decide +kernel
theorem dL_all_81 : decode cL_all 81 = .ok (.goto (-64), 3) := by decide +kernel
theorem dL_all_84 : decode cL_all 84 = .ok (.lload 10, 2) := by decide +kernel
theorem dL_all_86 : decode cL_all 86 = .ok (.lreturn, 1) := by decide +kernel
theorem dL_rowTold_0 : decode cL_rowTold 0 = .ok (.iload_n 1, 1) := by decide +kernel
theorem dL_rowTold_1 : decode cL_rowTold 1 = .ok (.ifCond .ne 11, 3) := by decide +kernel
theorem dL_rowTold_4 : decode cL_rowTold 4 = .ok (.aload_n 0, 1) := by decide +kernel
theorem dL_rowTold_5 : decode cL_rowTold 5 = .ok (.iload_n 2, 1) := by decide +kernel
theorem dL_rowTold_6 : decode cL_rowTold 6 = .ok (.invokevirtual 37, 3) := by decide +kernel
theorem dL_rowTold_9 : decode cL_rowTold 9 = .ok (.goto 36, 3) := by decide +kernel
theorem dL_rowTold_12 : decode cL_rowTold 12 = .ok (.iload_n 1, 1) := by decide +kernel
theorem dL_rowTold_13 : decode cL_rowTold 13 = .ok (.iconst 1, 1) := by decide +kernel
theorem dL_rowTold_14 : decode cL_rowTold 14 = .ok (.if_icmp .ne 11, 3) := by decide +kernel
theorem dL_rowTold_17 : decode cL_rowTold 17 = .ok (.aload_n 0, 1) := by decide +kernel
theorem dL_rowTold_18 : decode cL_rowTold 18 = .ok (.iload_n 2, 1) := by decide +kernel
theorem dL_rowTold_19 : decode cL_rowTold 19 = .ok (.invokevirtual 42, 3) := by decide +kernel
theorem dL_rowTold_22 : decode cL_rowTold 22 = .ok (.goto 23, 3) := by decide +kernel
theorem dL_rowTold_25 : decode cL_rowTold 25 = .ok (.iload_n 1, 1) := by decide +kernel
theorem dL_rowTold_26 : decode cL_rowTold 26 = .ok (.iconst 2, 1) := by decide +kernel
theorem dL_rowTold_27 : decode cL_rowTold 27 = .ok (.if_icmp .ne 11, 3) := by decide +kernel
theorem dL_rowTold_30 : decode cL_rowTold 30 = .ok (.aload_n 0, 1) := by decide +kernel
theorem dL_rowTold_31 : decode cL_rowTold 31 = .ok (.iload_n 2, 1) := by decide +kernel
theorem dL_rowTold_32 : decode cL_rowTold 32 = .ok (.invokevirtual 45, 3) := by decide +kernel
theorem dL_rowTold_35 : decode cL_rowTold 35 = .ok (.goto 10, 3) := by decide +kernel
theorem dL_rowTold_38 : decode cL_rowTold 38 = .ok (.aload_n 0, 1) := by decide +kernel
theorem dL_rowTold_39 : decode cL_rowTold 39 = .ok (.iload_n 2, 1) := by decide +kernel
theorem dL_rowTold_40 : decode cL_rowTold 40 = .ok (.iconst (-1), 1) := by decide +kernel
theorem dL_rowTold_41 : decode cL_rowTold 41 = .ok (.invokevirtual 47, 3) := by decide +kernel
theorem dL_rowTold_44 : decode cL_rowTold 44 = .ok (.i2l, 1) := by decide +kernel
theorem dL_rowTold_45 : decode cL_rowTold 45 = .ok (.lreturn, 1) := by decide +kernel
theorem dL_rowTold_46 : decode cL_rowTold 46 = .ok (.astore_n 3, 1) := by decide +kernel
theorem dL_rowTold_47 : decode cL_rowTold 47 = .ok (.ldc2_w 53, 3) := by decide +kernel
theorem dL_rowTold_50 : decode cL_rowTold 50 = .ok (.lreturn, 1) := by decide +kernel
theorem dL_isRanked_0 : decode cL_isRanked 0 = .ok (.aload_n 2, 1) := by decide +kernel
theorem dL_isRanked_1 : decode cL_isRanked 1 = .ok (.aload_n 3, 1) := by decide +kernel
theorem dL_isRanked_2 : decode cL_isRanked 2 = .ok (.aload 4, 2) := by decide +kernel
theorem dL_isRanked_4 : decode cL_isRanked 4 = .ok (.aload 6, 2) := by decide +kernel
theorem dL_isRanked_6 : decode cL_isRanked 6 = .ok (.invokestatic 11, 3) := by decide +kernel
theorem dL_isRanked_9 : decode cL_isRanked 9 = .ok (.lstore 8, 2) := by decide +kernel
theorem dL_isRanked_11 : decode cL_isRanked 11 = .ok (.iconst 0, 1) := by decide +kernel
theorem dL_isRanked_12 : decode cL_isRanked 12 = .ok (.istore 10, 2) := by decide +kernel
theorem dL_isRanked_14 : decode cL_isRanked 14 = .ok (.iconst 1, 1) := by decide +kernel
theorem dL_isRanked_15 : decode cL_isRanked 15 = .ok (.istore 11, 2) := by decide +kernel
theorem dL_isRanked_17 : decode cL_isRanked 17 = .ok (.iconst 0, 1) := by decide +kernel
theorem dL_isRanked_18 : decode cL_isRanked 18 = .ok (.istore 12, 2) := by decide +kernel
theorem dL_isRanked_20 : decode cL_isRanked 20 = .ok (.iload 12, 2) := by decide +kernel
theorem dL_isRanked_22 : decode cL_isRanked 22 = .ok (.iload 7, 2) := by decide +kernel
theorem dL_isRanked_24 : decode cL_isRanked 24 = .ok (.if_icmp .ge 148, 3) := by decide +kernel
theorem dL_isRanked_27 : decode cL_isRanked 27 = .ok (.iload 11, 2) := by decide +kernel
theorem dL_isRanked_29 : decode cL_isRanked 29 = .ok (.ifCond .eq 143, 3) := by decide +kernel
theorem dL_isRanked_32 : decode cL_isRanked 32 = .ok (.iconst (-1), 1) := by decide +kernel
theorem dL_isRanked_33 : decode cL_isRanked 33 = .ok (.istore 13, 2) := by decide +kernel
theorem dL_isRanked_35 : decode cL_isRanked 35 = .ok (.iconst 0, 1) := by decide +kernel
theorem dL_isRanked_36 : decode cL_isRanked 36 = .ok (.istore 14, 2) := by decide +kernel
theorem dL_isRanked_38 : decode cL_isRanked 38 = .ok (.iload 14, 2) := by decide +kernel
theorem dL_isRanked_40 : decode cL_isRanked 40 = .ok (.aload 6, 2) := by decide +kernel
theorem dL_isRanked_42 : decode cL_isRanked 42 = .ok (.iconst 0, 1) := by decide +kernel
theorem dL_isRanked_43 : decode cL_isRanked 43 = .ok (.iaload, 1) := by decide +kernel
theorem dL_isRanked_44 : decode cL_isRanked 44 = .ok (.if_icmp .ge 95, 3) := by decide +kernel
theorem dL_isRanked_47 : decode cL_isRanked 47 = .ok (.aload 4, 2) := by decide +kernel
theorem dL_isRanked_49 : decode cL_isRanked 49 = .ok (.iload 14, 2) := by decide +kernel
theorem dL_isRanked_51 : decode cL_isRanked 51 = .ok (.iaload, 1) := by decide +kernel
theorem dL_isRanked_52 : decode cL_isRanked 52 = .ok (.ifCond .ne 81, 3) := by decide +kernel
theorem dL_isRanked_55 : decode cL_isRanked 55 = .ok (.iload 10, 2) := by decide +kernel
theorem dL_isRanked_57 : decode cL_isRanked 57 = .ok (.iload 14, 2) := by decide +kernel
theorem dL_isRanked_59 : decode cL_isRanked 59 = .ok (.ishr, 1) := by decide +kernel
theorem dL_isRanked_60 : decode cL_isRanked 60 = .ok (.iconst 1, 1) := by decide +kernel
theorem dL_isRanked_61 : decode cL_isRanked 61 = .ok (.iand, 1) := by decide +kernel
theorem dL_isRanked_62 : decode cL_isRanked 62 = .ok (.ifCond .ne 71, 3) := by decide +kernel
theorem dL_isRanked_65 : decode cL_isRanked 65 = .ok (.iload 13, 2) := by decide +kernel
theorem dL_isRanked_67 : decode cL_isRanked 67 = .ok (.ifCond .lt 45, 3) := by decide +kernel
theorem dL_isRanked_70 : decode cL_isRanked 70 = .ok (.aload_n 3, 1) := by decide +kernel
theorem dL_isRanked_71 : decode cL_isRanked 71 = .ok (.iload 14, 2) := by decide +kernel
theorem dL_isRanked_73 : decode cL_isRanked 73 = .ok (.iaload, 1) := by decide +kernel
theorem dL_isRanked_74 : decode cL_isRanked 74 = .ok (.i2l, 1) := by decide +kernel
theorem dL_isRanked_75 : decode cL_isRanked 75 = .ok (.aload_n 1, 1) := by decide +kernel
theorem dL_isRanked_76 : decode cL_isRanked 76 = .ok (.aload_n 2, 1) := by decide +kernel
theorem dL_isRanked_77 : decode cL_isRanked 77 = .ok (.aload 5, 2) := by decide +kernel
theorem dL_isRanked_79 : decode cL_isRanked 79 = .ok (.iload 13, 2) := by decide +kernel
theorem dL_isRanked_81 : decode cL_isRanked 81 = .ok (.lload 8, 2) := by decide +kernel
theorem dL_isRanked_83 : decode cL_isRanked 83 = .ok (.invokestatic 17, 3) := by decide +kernel
theorem dL_isRanked_86 : decode cL_isRanked 86 = .ok (.lconst 1, 1) := by decide +kernel
theorem dL_isRanked_87 : decode cL_isRanked 87 = .ok (.ladd, 1) := by decide +kernel
theorem dL_isRanked_88 : decode cL_isRanked 88 = .ok (.lmul, 1) := by decide +kernel
theorem dL_isRanked_89 : decode cL_isRanked 89 = .ok (.aload_n 3, 1) := by decide +kernel
theorem dL_isRanked_90 : decode cL_isRanked 90 = .ok (.iload 13, 2) := by decide +kernel
theorem dL_isRanked_92 : decode cL_isRanked 92 = .ok (.iaload, 1) := by decide +kernel
theorem dL_isRanked_93 : decode cL_isRanked 93 = .ok (.i2l, 1) := by decide +kernel
theorem dL_isRanked_94 : decode cL_isRanked 94 = .ok (.aload_n 1, 1) := by decide +kernel
theorem dL_isRanked_95 : decode cL_isRanked 95 = .ok (.aload_n 2, 1) := by decide +kernel
theorem dL_isRanked_96 : decode cL_isRanked 96 = .ok (.aload 5, 2) := by decide +kernel
theorem dL_isRanked_98 : decode cL_isRanked 98 = .ok (.iload 14, 2) := by decide +kernel
theorem dL_isRanked_100 : decode cL_isRanked 100 = .ok (.lload 8, 2) := by decide +kernel
theorem dL_isRanked_102 : decode cL_isRanked 102 = .ok (.invokestatic 17, 3) := by decide +kernel
theorem dL_isRanked_105 : decode cL_isRanked 105 = .ok (.lconst 1, 1) := by decide +kernel
theorem dL_isRanked_106 : decode cL_isRanked 106 = .ok (.ladd, 1) := by decide +kernel
theorem dL_isRanked_107 : decode cL_isRanked 107 = .ok (.lmul, 1) := by decide +kernel
theorem dL_isRanked_108 : decode cL_isRanked 108 = .ok (.lcmp, 1) := by decide +kernel
theorem dL_isRanked_109 : decode cL_isRanked 109 = .ok (.ifCond .le 7, 3) := by decide +kernel
theorem dL_isRanked_112 : decode cL_isRanked 112 = .ok (.iconst 1, 1) := by decide +kernel
theorem dL_isRanked_113 : decode cL_isRanked 113 = .ok (.goto 4, 3) := by decide +kernel
theorem dL_isRanked_116 : decode cL_isRanked 116 = .ok (.iconst 0, 1) := by decide +kernel
theorem dL_isRanked_117 : decode cL_isRanked 117 = .ok (.istore 15, 2) := by decide +kernel
theorem dL_isRanked_119 : decode cL_isRanked 119 = .ok (.iload 15, 2) := by decide +kernel
theorem dL_isRanked_121 : decode cL_isRanked 121 = .ok (.ifCond .eq 8, 3) := by decide +kernel
theorem dL_isRanked_124 : decode cL_isRanked 124 = .ok (.iload 14, 2) := by decide +kernel
theorem dL_isRanked_126 : decode cL_isRanked 126 = .ok (.goto 5, 3) := by decide +kernel
theorem dL_isRanked_129 : decode cL_isRanked 129 = .ok (.iload 13, 2) := by decide +kernel
theorem dL_isRanked_131 : decode cL_isRanked 131 = .ok (.istore 13, 2) := by decide +kernel
theorem dL_isRanked_133 : decode cL_isRanked 133 = .ok (.iinc 14 1, 3) := by decide +kernel
theorem dL_isRanked_136 : decode cL_isRanked 136 = .ok (.goto (-98), 3) := by decide +kernel
theorem dL_isRanked_139 : decode cL_isRanked 139 = .ok (.iload 10, 2) := by decide +kernel
theorem dL_isRanked_141 : decode cL_isRanked 141 = .ok (.iconst 1, 1) := by decide +kernel
theorem dL_isRanked_142 : decode cL_isRanked 142 = .ok (.iload 13, 2) := by decide +kernel
theorem dL_isRanked_144 : decode cL_isRanked 144 = .ok (.ishl, 1) := by decide +kernel
theorem dL_isRanked_145 : decode cL_isRanked 145 = .ok (.ior, 1) := by decide +kernel
theorem dL_isRanked_146 : decode cL_isRanked 146 = .ok (.istore 10, 2) := by decide +kernel
theorem dL_isRanked_148 : decode cL_isRanked 148 = .ok (.aload_n 0, 1) := by decide +kernel
theorem dL_isRanked_149 : decode cL_isRanked 149 = .ok (.iload 12, 2) := by decide +kernel
theorem dL_isRanked_151 : decode cL_isRanked 151 = .ok (.invokevirtual 55, 3) := by decide +kernel
theorem dL_isRanked_154 : decode cL_isRanked 154 = .ok (.iload 13, 2) := by decide +kernel
theorem dL_isRanked_156 : decode cL_isRanked 156 = .ok (.if_icmp .ne 7, 3) := by decide +kernel
theorem dL_isRanked_159 : decode cL_isRanked 159 = .ok (.iconst 1, 1) := by decide +kernel
theorem dL_isRanked_160 : decode cL_isRanked 160 = .ok (.goto 4, 3) := by decide +kernel
theorem dL_isRanked_163 : decode cL_isRanked 163 = .ok (.iconst 0, 1) := by decide +kernel
theorem dL_isRanked_164 : decode cL_isRanked 164 = .ok (.istore 11, 2) := by decide +kernel
theorem dL_isRanked_166 : decode cL_isRanked 166 = .ok (.iinc 12 1, 3) := by decide +kernel
theorem dL_isRanked_169 : decode cL_isRanked 169 = .ok (.goto (-149), 3) := by decide +kernel
theorem dL_isRanked_172 : decode cL_isRanked 172 = .ok (.iload 11, 2) := by decide +kernel
theorem dL_isRanked_174 : decode cL_isRanked 174 = .ok (.ireturn, 1) := by decide +kernel
theorem dL_isTold_0 : decode cL_isTold 0 = .ok (.iconst 0, 1) := by decide +kernel
theorem dL_isTold_1 : decode cL_isTold 1 = .ok (.istore 9, 2) := by decide +kernel
theorem dL_isTold_3 : decode cL_isTold 3 = .ok (.aload_n 2, 1) := by decide +kernel
theorem dL_isTold_4 : decode cL_isTold 4 = .ok (.aload 4, 2) := by decide +kernel
theorem dL_isTold_6 : decode cL_isTold 6 = .ok (.aload 6, 2) := by decide +kernel
theorem dL_isTold_8 : decode cL_isTold 8 = .ok (.aload 8, 2) := by decide +kernel
theorem dL_isTold_10 : decode cL_isTold 10 = .ok (.invokestatic 11, 3) := by decide +kernel
theorem dL_isTold_13 : decode cL_isTold 13 = .ok (.lstore 10, 2) := by decide +kernel
theorem dL_isTold_15 : decode cL_isTold 15 = .ok (.aload_n 0, 1) := by decide +kernel
theorem dL_isTold_16 : decode cL_isTold 16 = .ok (.invokevirtual 58, 3) := by decide +kernel
theorem dL_isTold_19 : decode cL_isTold 19 = .ok (.lload 10, 2) := by decide +kernel
theorem dL_isTold_21 : decode cL_isTold 21 = .ok (.lcmp, 1) := by decide +kernel
theorem dL_isTold_22 : decode cL_isTold 22 = .ok (.ifCond .ne 48, 3) := by decide +kernel
theorem dL_isTold_25 : decode cL_isTold 25 = .ok (.aload_n 0, 1) := by decide +kernel
theorem dL_isTold_26 : decode cL_isTold 26 = .ok (.invokevirtual 61, 3) := by decide +kernel
theorem dL_isTold_29 : decode cL_isTold 29 = .ok (.aload_n 1, 1) := by decide +kernel
theorem dL_isTold_30 : decode cL_isTold 30 = .ok (.aload_n 2, 1) := by decide +kernel
theorem dL_isTold_31 : decode cL_isTold 31 = .ok (.aload 4, 2) := by decide +kernel
theorem dL_isTold_33 : decode cL_isTold 33 = .ok (.aload 5, 2) := by decide +kernel
theorem dL_isTold_35 : decode cL_isTold 35 = .ok (.aload 6, 2) := by decide +kernel
theorem dL_isTold_37 : decode cL_isTold 37 = .ok (.aload 7, 2) := by decide +kernel
theorem dL_isTold_39 : decode cL_isTold 39 = .ok (.aload 8, 2) := by decide +kernel
theorem dL_isTold_41 : decode cL_isTold 41 = .ok (.iconst 0, 1) := by decide +kernel
theorem dL_isTold_42 : decode cL_isTold 42 = .ok (.invokestatic 64, 3) := by decide +kernel
theorem dL_isTold_45 : decode cL_isTold 45 = .ok (.aload_n 1, 1) := by decide +kernel
theorem dL_isTold_46 : decode cL_isTold 46 = .ok (.aload_n 2, 1) := by decide +kernel
theorem dL_isTold_47 : decode cL_isTold 47 = .ok (.aload 4, 2) := by decide +kernel
theorem dL_isTold_49 : decode cL_isTold 49 = .ok (.aload 5, 2) := by decide +kernel
theorem dL_isTold_51 : decode cL_isTold 51 = .ok (.aload 6, 2) := by decide +kernel
theorem dL_isTold_53 : decode cL_isTold 53 = .ok (.aload 7, 2) := by decide +kernel
theorem dL_isTold_55 : decode cL_isTold 55 = .ok (.aload 8, 2) := by decide +kernel
theorem dL_isTold_57 : decode cL_isTold 57 = .ok (.iconst 1, 1) := by decide +kernel
theorem dL_isTold_58 : decode cL_isTold 58 = .ok (.invokestatic 64, 3) := by decide +kernel
theorem dL_isTold_61 : decode cL_isTold 61 = .ok (.lsub, 1) := by decide +kernel
theorem dL_isTold_62 : decode cL_isTold 62 = .ok (.lcmp, 1) := by decide +kernel
theorem dL_isTold_63 : decode cL_isTold 63 = .ok (.ifCond .ne 7, 3) := by decide +kernel
theorem dL_isTold_66 : decode cL_isTold 66 = .ok (.iconst 1, 1) := by decide +kernel
theorem dL_isTold_67 : decode cL_isTold 67 = .ok (.goto 4, 3) := by decide +kernel
theorem dL_isTold_70 : decode cL_isTold 70 = .ok (.iconst 0, 1) := by decide +kernel
theorem dL_isTold_71 : decode cL_isTold 71 = .ok (.istore 12, 2) := by decide +kernel
theorem dL_isTold_73 : decode cL_isTold 73 = .ok (.iconst 0, 1) := by decide +kernel
theorem dL_isTold_74 : decode cL_isTold 74 = .ok (.istore 13, 2) := by decide +kernel
theorem dL_isTold_76 : decode cL_isTold 76 = .ok (.iload 13, 2) := by decide +kernel
theorem dL_isTold_78 : decode cL_isTold 78 = .ok (.aload 8, 2) := by decide +kernel
theorem dL_isTold_80 : decode cL_isTold 80 = .ok (.iconst 0, 1) := by decide +kernel
theorem dL_isTold_81 : decode cL_isTold 81 = .ok (.iaload, 1) := by decide +kernel
theorem dL_isTold_82 : decode cL_isTold 82 = .ok (.if_icmp .ge 155, 3) := by decide +kernel
theorem dL_isTold_85 : decode cL_isTold 85 = .ok (.iload 12, 2) := by decide +kernel
theorem dL_isTold_87 : decode cL_isTold 87 = .ok (.ifCond .eq 150, 3) := by decide +kernel
theorem dL_isTold_90 : decode cL_isTold 90 = .ok (.aload_n 1, 1) := by decide +kernel
theorem dL_isTold_91 : decode cL_isTold 91 = .ok (.aload_n 2, 1) := by decide +kernel
theorem dL_isTold_92 : decode cL_isTold 92 = .ok (.aload 7, 2) := by decide +kernel
theorem dL_isTold_94 : decode cL_isTold 94 = .ok (.iload 13, 2) := by decide +kernel
theorem dL_isTold_96 : decode cL_isTold 96 = .ok (.lload 10, 2) := by decide +kernel
theorem dL_isTold_98 : decode cL_isTold 98 = .ok (.invokestatic 17, 3) := by decide +kernel
theorem dL_isTold_101 : decode cL_isTold 101 = .ok (.lstore 14, 2) := by decide +kernel
theorem dL_isTold_103 : decode cL_isTold 103 = .ok (.iload 9, 2) := by decide +kernel
theorem dL_isTold_105 : decode cL_isTold 105 = .ok (.iconst 1, 1) := by decide +kernel
theorem dL_isTold_106 : decode cL_isTold 106 = .ok (.aload 6, 2) := by decide +kernel
theorem dL_isTold_108 : decode cL_isTold 108 = .ok (.iload 13, 2) := by decide +kernel
theorem dL_isTold_110 : decode cL_isTold 110 = .ok (.iaload, 1) := by decide +kernel
theorem dL_isTold_111 : decode cL_isTold 111 = .ok (.isub, 1) := by decide +kernel
theorem dL_isTold_112 : decode cL_isTold 112 = .ok (.iadd, 1) := by decide +kernel
theorem dL_isTold_113 : decode cL_isTold 113 = .ok (.istore 9, 2) := by decide +kernel
theorem dL_isTold_115 : decode cL_isTold 115 = .ok (.aload_n 0, 1) := by decide +kernel
theorem dL_isTold_116 : decode cL_isTold 116 = .ok (.iconst 0, 1) := by decide +kernel
theorem dL_isTold_117 : decode cL_isTold 117 = .ok (.iload 13, 2) := by decide +kernel
theorem dL_isTold_119 : decode cL_isTold 119 = .ok (.invokestatic 68, 3) := by decide +kernel
theorem dL_isTold_122 : decode cL_isTold 122 = .ok (.aload 6, 2) := by decide +kernel
theorem dL_isTold_124 : decode cL_isTold 124 = .ok (.iload 13, 2) := by decide +kernel
theorem dL_isTold_126 : decode cL_isTold 126 = .ok (.iaload, 1) := by decide +kernel
theorem dL_isTold_127 : decode cL_isTold 127 = .ok (.iconst 1, 1) := by decide +kernel
theorem dL_isTold_128 : decode cL_isTold 128 = .ok (.if_icmp .ne 9, 3) := by decide +kernel
theorem dL_isTold_131 : decode cL_isTold 131 = .ok (.ldc2_w 53, 3) := by decide +kernel
theorem dL_isTold_134 : decode cL_isTold 134 = .ok (.goto 5, 3) := by decide +kernel
theorem dL_isTold_137 : decode cL_isTold 137 = .ok (.lload 14, 2) := by decide +kernel
theorem dL_isTold_139 : decode cL_isTold 139 = .ok (.lcmp, 1) := by decide +kernel
theorem dL_isTold_140 : decode cL_isTold 140 = .ok (.ifCond .ne 88, 3) := by decide +kernel
theorem dL_isTold_143 : decode cL_isTold 143 = .ok (.aload_n 0, 1) := by decide +kernel
theorem dL_isTold_144 : decode cL_isTold 144 = .ok (.iconst 1, 1) := by decide +kernel
theorem dL_isTold_145 : decode cL_isTold 145 = .ok (.iload 13, 2) := by decide +kernel
theorem dL_isTold_147 : decode cL_isTold 147 = .ok (.invokestatic 68, 3) := by decide +kernel
theorem dL_isTold_150 : decode cL_isTold 150 = .ok (.aload 6, 2) := by decide +kernel
theorem dL_isTold_152 : decode cL_isTold 152 = .ok (.iload 13, 2) := by decide +kernel
theorem dL_isTold_154 : decode cL_isTold 154 = .ok (.iaload, 1) := by decide +kernel
theorem dL_isTold_155 : decode cL_isTold 155 = .ok (.iconst 1, 1) := by decide +kernel
theorem dL_isTold_156 : decode cL_isTold 156 = .ok (.if_icmp .ne 9, 3) := by decide +kernel
theorem dL_isTold_159 : decode cL_isTold 159 = .ok (.ldc2_w 53, 3) := by decide +kernel
theorem dL_isTold_162 : decode cL_isTold 162 = .ok (.goto 15, 3) := by decide +kernel
theorem dL_isTold_165 : decode cL_isTold 165 = .ok (.lload 14, 2) := by decide +kernel
theorem dL_isTold_167 : decode cL_isTold 167 = .ok (.aload 8, 2) := by decide +kernel
theorem dL_isTold_169 : decode cL_isTold 169 = .ok (.iconst 3, 1) := by decide +kernel
theorem dL_isTold_170 : decode cL_isTold 170 = .ok (.iaload, 1) := by decide +kernel
end
section
theorem dL_isTold_171 : decode cL_isTold 171 = .ok (.i2l, 1) := by decide +kernel
theorem dL_isTold_172 : decode cL_isTold 172 = .ok (.lmul, 1) := by decide +kernel
theorem dL_isTold_173 : decode cL_isTold 173 = .ok (.ldc2_w 9, 3) := by decide +kernel
theorem dL_isTold_176 : decode cL_isTold 176 = .ok (.ldiv, 1) := by decide +kernel
theorem dL_isTold_177 : decode cL_isTold 177 = .ok (.lcmp, 1) := by decide +kernel
theorem dL_isTold_178 : decode cL_isTold 178 = .ok (.ifCond .ne 50, 3) := by decide +kernel
theorem dL_isTold_181 : decode cL_isTold 181 = .ok (.aload_n 0, 1) := by decide +kernel
theorem dL_isTold_182 : decode cL_isTold 182 = .ok (.iconst 2, 1) := by decide +kernel
theorem dL_isTold_183 : decode cL_isTold 183 = .ok (.iload 13, 2) := by decide +kernel
theorem dL_isTold_185 : decode cL_isTold 185 = .ok (.invokestatic 68, 3) := by decide +kernel
theorem dL_isTold_188 : decode cL_isTold 188 = .ok (.aload 6, 2) := by decide +kernel
theorem dL_isTold_190 : decode cL_isTold 190 = .ok (.iload 13, 2) := by decide +kernel
theorem dL_isTold_192 : decode cL_isTold 192 = .ok (.iaload, 1) := by decide +kernel
theorem dL_isTold_193 : decode cL_isTold 193 = .ok (.iconst 1, 1) := by decide +kernel
theorem dL_isTold_194 : decode cL_isTold 194 = .ok (.if_icmp .ne 9, 3) := by decide +kernel
theorem dL_isTold_197 : decode cL_isTold 197 = .ok (.ldc2_w 53, 3) := by decide +kernel
theorem dL_isTold_200 : decode cL_isTold 200 = .ok (.goto 20, 3) := by decide +kernel
theorem dL_isTold_203 : decode cL_isTold 203 = .ok (.aload_n 1, 1) := by decide +kernel
theorem dL_isTold_204 : decode cL_isTold 204 = .ok (.aload_n 2, 1) := by decide +kernel
theorem dL_isTold_205 : decode cL_isTold 205 = .ok (.aload 4, 2) := by decide +kernel
theorem dL_isTold_207 : decode cL_isTold 207 = .ok (.aload 5, 2) := by decide +kernel
theorem dL_isTold_209 : decode cL_isTold 209 = .ok (.aload 6, 2) := by decide +kernel
theorem dL_isTold_211 : decode cL_isTold 211 = .ok (.aload 7, 2) := by decide +kernel
theorem dL_isTold_213 : decode cL_isTold 213 = .ok (.aload 8, 2) := by decide +kernel
theorem dL_isTold_215 : decode cL_isTold 215 = .ok (.iload 13, 2) := by decide +kernel
theorem dL_isTold_217 : decode cL_isTold 217 = .ok (.invokestatic 33, 3) := by decide +kernel
theorem dL_isTold_220 : decode cL_isTold 220 = .ok (.lcmp, 1) := by decide +kernel
theorem dL_isTold_221 : decode cL_isTold 221 = .ok (.ifCond .ne 7, 3) := by decide +kernel
theorem dL_isTold_224 : decode cL_isTold 224 = .ok (.iconst 1, 1) := by decide +kernel
theorem dL_isTold_225 : decode cL_isTold 225 = .ok (.goto 4, 3) := by decide +kernel
theorem dL_isTold_228 : decode cL_isTold 228 = .ok (.iconst 0, 1) := by decide +kernel
theorem dL_isTold_229 : decode cL_isTold 229 = .ok (.istore 12, 2) := by decide +kernel
theorem dL_isTold_231 : decode cL_isTold 231 = .ok (.iinc 13 1, 3) := by decide +kernel
theorem dL_isTold_234 : decode cL_isTold 234 = .ok (.goto (-158), 3) := by decide +kernel
theorem dL_isTold_237 : decode cL_isTold 237 = .ok (.iconst 0, 1) := by decide +kernel
theorem dL_isTold_238 : decode cL_isTold 238 = .ok (.istore 13, 2) := by decide +kernel
theorem dL_isTold_240 : decode cL_isTold 240 = .ok (.iload 13, 2) := by decide +kernel
theorem dL_isTold_242 : decode cL_isTold 242 = .ok (.iconst 3, 1) := by decide +kernel
theorem dL_isTold_243 : decode cL_isTold 243 = .ok (.if_icmp .ge 203, 3) := by decide +kernel
theorem dL_isTold_246 : decode cL_isTold 246 = .ok (.iload 12, 2) := by decide +kernel
theorem dL_isTold_248 : decode cL_isTold 248 = .ok (.ifCond .eq 198, 3) := by decide +kernel
theorem dL_isTold_251 : decode cL_isTold 251 = .ok (.lconst 0, 1) := by decide +kernel
theorem dL_isTold_252 : decode cL_isTold 252 = .ok (.lstore 14, 2) := by decide +kernel
theorem dL_isTold_254 : decode cL_isTold 254 = .ok (.iconst 0, 1) := by decide +kernel
theorem dL_isTold_255 : decode cL_isTold 255 = .ok (.istore 16, 2) := by decide +kernel
theorem dL_isTold_257 : decode cL_isTold 257 = .ok (.iload 16, 2) := by decide +kernel
theorem dL_isTold_259 : decode cL_isTold 259 = .ok (.iload 13, 2) := by decide +kernel
theorem dL_isTold_261 : decode cL_isTold 261 = .ok (.invokestatic 21, 3) := by decide +kernel
theorem dL_isTold_264 : decode cL_isTold 264 = .ok (.if_icmp .ge 152, 3) := by decide +kernel
theorem dL_isTold_267 : decode cL_isTold 267 = .ok (.iload 12, 2) := by decide +kernel
theorem dL_isTold_269 : decode cL_isTold 269 = .ok (.ifCond .eq 147, 3) := by decide +kernel
theorem dL_isTold_272 : decode cL_isTold 272 = .ok (.aload_n 1, 1) := by decide +kernel
theorem dL_isTold_273 : decode cL_isTold 273 = .ok (.aload_n 2, 1) := by decide +kernel
theorem dL_isTold_274 : decode cL_isTold 274 = .ok (.aload_n 3, 1) := by decide +kernel
theorem dL_isTold_275 : decode cL_isTold 275 = .ok (.aload 4, 2) := by decide +kernel
theorem dL_isTold_277 : decode cL_isTold 277 = .ok (.aload 6, 2) := by decide +kernel
theorem dL_isTold_279 : decode cL_isTold 279 = .ok (.aload 7, 2) := by decide +kernel
theorem dL_isTold_281 : decode cL_isTold 281 = .ok (.aload 8, 2) := by decide +kernel
theorem dL_isTold_283 : decode cL_isTold 283 = .ok (.iconst 0, 1) := by decide +kernel
theorem dL_isTold_284 : decode cL_isTold 284 = .ok (.iload 13, 2) := by decide +kernel
theorem dL_isTold_286 : decode cL_isTold 286 = .ok (.iload 16, 2) := by decide +kernel
theorem dL_isTold_288 : decode cL_isTold 288 = .ok (.invokestatic 25, 3) := by decide +kernel
theorem dL_isTold_291 : decode cL_isTold 291 = .ok (.lstore 17, 2) := by decide +kernel
theorem dL_isTold_293 : decode cL_isTold 293 = .ok (.aload_n 1, 1) := by decide +kernel
theorem dL_isTold_294 : decode cL_isTold 294 = .ok (.aload_n 2, 1) := by decide +kernel
theorem dL_isTold_295 : decode cL_isTold 295 = .ok (.aload_n 3, 1) := by decide +kernel
theorem dL_isTold_296 : decode cL_isTold 296 = .ok (.aload 4, 2) := by decide +kernel
theorem dL_isTold_298 : decode cL_isTold 298 = .ok (.aload 6, 2) := by decide +kernel
theorem dL_isTold_300 : decode cL_isTold 300 = .ok (.aload 7, 2) := by decide +kernel
theorem dL_isTold_302 : decode cL_isTold 302 = .ok (.aload 8, 2) := by decide +kernel
theorem dL_isTold_304 : decode cL_isTold 304 = .ok (.iconst 1, 1) := by decide +kernel
theorem dL_isTold_305 : decode cL_isTold 305 = .ok (.iload 13, 2) := by decide +kernel
theorem dL_isTold_307 : decode cL_isTold 307 = .ok (.iload 16, 2) := by decide +kernel
theorem dL_isTold_309 : decode cL_isTold 309 = .ok (.invokestatic 25, 3) := by decide +kernel
theorem dL_isTold_312 : decode cL_isTold 312 = .ok (.lstore 19, 2) := by decide +kernel
theorem dL_isTold_314 : decode cL_isTold 314 = .ok (.lload 17, 2) := by decide +kernel
theorem dL_isTold_316 : decode cL_isTold 316 = .ok (.lload 19, 2) := by decide +kernel
theorem dL_isTold_318 : decode cL_isTold 318 = .ok (.lcmp, 1) := by decide +kernel
theorem dL_isTold_319 : decode cL_isTold 319 = .ok (.ifCond .le 11, 3) := by decide +kernel
theorem dL_isTold_322 : decode cL_isTold 322 = .ok (.lload 17, 2) := by decide +kernel
theorem dL_isTold_324 : decode cL_isTold 324 = .ok (.lload 19, 2) := by decide +kernel
theorem dL_isTold_326 : decode cL_isTold 326 = .ok (.lsub, 1) := by decide +kernel
theorem dL_isTold_327 : decode cL_isTold 327 = .ok (.goto 8, 3) := by decide +kernel
theorem dL_isTold_330 : decode cL_isTold 330 = .ok (.lload 19, 2) := by decide +kernel
theorem dL_isTold_332 : decode cL_isTold 332 = .ok (.lload 17, 2) := by decide +kernel
theorem dL_isTold_334 : decode cL_isTold 334 = .ok (.lsub, 1) := by decide +kernel
theorem dL_isTold_335 : decode cL_isTold 335 = .ok (.lstore 21, 2) := by decide +kernel
theorem dL_isTold_337 : decode cL_isTold 337 = .ok (.lload 21, 2) := by decide +kernel
theorem dL_isTold_339 : decode cL_isTold 339 = .ok (.lload 14, 2) := by decide +kernel
theorem dL_isTold_341 : decode cL_isTold 341 = .ok (.lcmp, 1) := by decide +kernel
theorem dL_isTold_342 : decode cL_isTold 342 = .ok (.ifCond .le 8, 3) := by decide +kernel
theorem dL_isTold_345 : decode cL_isTold 345 = .ok (.lload 21, 2) := by decide +kernel
theorem dL_isTold_347 : decode cL_isTold 347 = .ok (.goto 5, 3) := by decide +kernel
theorem dL_isTold_350 : decode cL_isTold 350 = .ok (.lload 14, 2) := by decide +kernel
theorem dL_isTold_352 : decode cL_isTold 352 = .ok (.lstore 14, 2) := by decide +kernel
theorem dL_isTold_354 : decode cL_isTold 354 = .ok (.aload_n 0, 1) := by decide +kernel
theorem dL_isTold_355 : decode cL_isTold 355 = .ok (.iload 13, 2) := by decide +kernel
theorem dL_isTold_357 : decode cL_isTold 357 = .ok (.iload 16, 2) := by decide +kernel
theorem dL_isTold_359 : decode cL_isTold 359 = .ok (.invokevirtual 72, 3) := by decide +kernel
theorem dL_isTold_362 : decode cL_isTold 362 = .ok (.aload 7, 2) := by decide +kernel
theorem dL_isTold_364 : decode cL_isTold 364 = .ok (.iconst 4, 1) := by decide +kernel
theorem dL_isTold_365 : decode cL_isTold 365 = .ok (.iload 13, 2) := by decide +kernel
theorem dL_isTold_367 : decode cL_isTold 367 = .ok (.imul, 1) := by decide +kernel
theorem dL_isTold_368 : decode cL_isTold 368 = .ok (.iload 16, 2) := by decide +kernel
theorem dL_isTold_370 : decode cL_isTold 370 = .ok (.iadd, 1) := by decide +kernel
theorem dL_isTold_371 : decode cL_isTold 371 = .ok (.iaload, 1) := by decide +kernel
theorem dL_isTold_372 : decode cL_isTold 372 = .ok (.if_icmp .ne 35, 3) := by decide +kernel
theorem dL_isTold_375 : decode cL_isTold 375 = .ok (.aload_n 0, 1) := by decide +kernel
theorem dL_isTold_376 : decode cL_isTold 376 = .ok (.iload 13, 2) := by decide +kernel
theorem dL_isTold_378 : decode cL_isTold 378 = .ok (.iload 16, 2) := by decide +kernel
theorem dL_isTold_380 : decode cL_isTold 380 = .ok (.invokevirtual 75, 3) := by decide +kernel
theorem dL_isTold_383 : decode cL_isTold 383 = .ok (.lload 17, 2) := by decide +kernel
theorem dL_isTold_385 : decode cL_isTold 385 = .ok (.lcmp, 1) := by decide +kernel
theorem dL_isTold_386 : decode cL_isTold 386 = .ok (.ifCond .ne 21, 3) := by decide +kernel
theorem dL_isTold_389 : decode cL_isTold 389 = .ok (.aload_n 0, 1) := by decide +kernel
theorem dL_isTold_390 : decode cL_isTold 390 = .ok (.iload 13, 2) := by decide +kernel
theorem dL_isTold_392 : decode cL_isTold 392 = .ok (.iload 16, 2) := by decide +kernel
theorem dL_isTold_394 : decode cL_isTold 394 = .ok (.invokevirtual 79, 3) := by decide +kernel
theorem dL_isTold_397 : decode cL_isTold 397 = .ok (.lload 19, 2) := by decide +kernel
theorem dL_isTold_399 : decode cL_isTold 399 = .ok (.lcmp, 1) := by decide +kernel
theorem dL_isTold_400 : decode cL_isTold 400 = .ok (.ifCond .ne 7, 3) := by decide +kernel
theorem dL_isTold_403 : decode cL_isTold 403 = .ok (.iconst 1, 1) := by decide +kernel
theorem dL_isTold_404 : decode cL_isTold 404 = .ok (.goto 4, 3) := by decide +kernel
theorem dL_isTold_407 : decode cL_isTold 407 = .ok (.iconst 0, 1) := by decide +kernel
theorem dL_isTold_408 : decode cL_isTold 408 = .ok (.istore 12, 2) := by decide +kernel
theorem dL_isTold_410 : decode cL_isTold 410 = .ok (.iinc 16 1, 3) := by decide +kernel
theorem dL_isTold_413 : decode cL_isTold 413 = .ok (.goto (-156), 3) := by decide +kernel
theorem dL_isTold_416 : decode cL_isTold 416 = .ok (.iload 12, 2) := by decide +kernel
theorem dL_isTold_418 : decode cL_isTold 418 = .ok (.ifCond .eq 19, 3) := by decide +kernel
theorem dL_isTold_421 : decode cL_isTold 421 = .ok (.aload_n 0, 1) := by decide +kernel
theorem dL_isTold_422 : decode cL_isTold 422 = .ok (.iload 13, 2) := by decide +kernel
theorem dL_isTold_424 : decode cL_isTold 424 = .ok (.invokevirtual 82, 3) := by decide +kernel
theorem dL_isTold_427 : decode cL_isTold 427 = .ok (.lload 14, 2) := by decide +kernel
theorem dL_isTold_429 : decode cL_isTold 429 = .ok (.lcmp, 1) := by decide +kernel
theorem dL_isTold_430 : decode cL_isTold 430 = .ok (.ifCond .ne 7, 3) := by decide +kernel
theorem dL_isTold_433 : decode cL_isTold 433 = .ok (.iconst 1, 1) := by decide +kernel
theorem dL_isTold_434 : decode cL_isTold 434 = .ok (.goto 4, 3) := by decide +kernel
theorem dL_isTold_437 : decode cL_isTold 437 = .ok (.iconst 0, 1) := by decide +kernel
theorem dL_isTold_438 : decode cL_isTold 438 = .ok (.istore 12, 2) := by decide +kernel
theorem dL_isTold_440 : decode cL_isTold 440 = .ok (.iinc 13 1, 3) := by decide +kernel
theorem dL_isTold_443 : decode cL_isTold 443 = .ok (.goto (-203), 3) := by decide +kernel
theorem dL_isTold_446 : decode cL_isTold 446 = .ok (.iload 12, 2) := by decide +kernel
theorem dL_isTold_448 : decode cL_isTold 448 = .ok (.ifCond .eq 35, 3) := by decide +kernel
theorem dL_isTold_451 : decode cL_isTold 451 = .ok (.aload_n 0, 1) := by decide +kernel
theorem dL_isTold_452 : decode cL_isTold 452 = .ok (.invokevirtual 85, 3) := by decide +kernel
theorem dL_isTold_455 : decode cL_isTold 455 = .ok (.iload 9, 2) := by decide +kernel
theorem dL_isTold_457 : decode cL_isTold 457 = .ok (.if_icmp .ne 26, 3) := by decide +kernel
theorem dL_isTold_460 : decode cL_isTold 460 = .ok (.aload_n 0, 1) := by decide +kernel
theorem dL_isTold_461 : decode cL_isTold 461 = .ok (.aload_n 1, 1) := by decide +kernel
theorem dL_isTold_462 : decode cL_isTold 462 = .ok (.aload_n 2, 1) := by decide +kernel
theorem dL_isTold_463 : decode cL_isTold 463 = .ok (.aload 4, 2) := by decide +kernel
theorem dL_isTold_465 : decode cL_isTold 465 = .ok (.aload 6, 2) := by decide +kernel
theorem dL_isTold_467 : decode cL_isTold 467 = .ok (.aload 7, 2) := by decide +kernel
theorem dL_isTold_469 : decode cL_isTold 469 = .ok (.aload 8, 2) := by decide +kernel
theorem dL_isTold_471 : decode cL_isTold 471 = .ok (.iload 9, 2) := by decide +kernel
theorem dL_isTold_473 : decode cL_isTold 473 = .ok (.invokestatic 89, 3) := by decide +kernel
theorem dL_isTold_476 : decode cL_isTold 476 = .ok (.ifCond .eq 7, 3) := by decide +kernel
theorem dL_isTold_479 : decode cL_isTold 479 = .ok (.iconst 1, 1) := by decide +kernel
theorem dL_isTold_480 : decode cL_isTold 480 = .ok (.goto 4, 3) := by decide +kernel
theorem dL_isTold_483 : decode cL_isTold 483 = .ok (.iconst 0, 1) := by decide +kernel
theorem dL_isTold_484 : decode cL_isTold 484 = .ok (.ireturn, 1) := by decide +kernel
theorem dL_acts_0 : decode cL_acts 0 = .ok (.iload 9, 2) := by decide +kernel
theorem dL_acts_2 : decode cL_acts 2 = .ok (.iconst 4, 1) := by decide +kernel
theorem dL_acts_3 : decode cL_acts 3 = .ok (.if_icmp .ge 217, 3) := by decide +kernel
theorem dL_acts_6 : decode cL_acts 6 = .ok (.aload 8, 2) := by decide +kernel
theorem dL_acts_8 : decode cL_acts 8 = .ok (.iconst 0, 1) := by decide +kernel
theorem dL_acts_9 : decode cL_acts 9 = .ok (.iaload, 1) := by decide +kernel
theorem dL_acts_10 : decode cL_acts 10 = .ok (.bipush 12, 2) := by decide +kernel
theorem dL_acts_12 : decode cL_acts 12 = .ok (.if_icmp .ge 208, 3) := by decide +kernel
theorem dL_acts_15 : decode cL_acts 15 = .ok (.aload 8, 2) := by decide +kernel
theorem dL_acts_17 : decode cL_acts 17 = .ok (.iconst 0, 1) := by decide +kernel
theorem dL_acts_18 : decode cL_acts 18 = .ok (.iaload, 1) := by decide +kernel
theorem dL_acts_19 : decode cL_acts 19 = .ok (.istore 11, 2) := by decide +kernel
theorem dL_acts_21 : decode cL_acts 21 = .ok (.aload_n 1, 1) := by decide +kernel
theorem dL_acts_22 : decode cL_acts 22 = .ok (.iconst 3, 1) := by decide +kernel
theorem dL_acts_23 : decode cL_acts 23 = .ok (.iload 11, 2) := by decide +kernel
theorem dL_acts_25 : decode cL_acts 25 = .ok (.imul, 1) := by decide +kernel
theorem dL_acts_26 : decode cL_acts 26 = .ok (.iload 10, 2) := by decide +kernel
theorem dL_acts_28 : decode cL_acts 28 = .ok (.iconst 4, 1) := by decide +kernel
theorem dL_acts_29 : decode cL_acts 29 = .ok (.irem, 1) := by decide +kernel
theorem dL_acts_30 : decode cL_acts 30 = .ok (.iastore, 1) := by decide +kernel
theorem dL_acts_31 : decode cL_acts 31 = .ok (.aload_n 1, 1) := by decide +kernel
theorem dL_acts_32 : decode cL_acts 32 = .ok (.iconst 3, 1) := by decide +kernel
theorem dL_acts_33 : decode cL_acts 33 = .ok (.iload 11, 2) := by decide +kernel
theorem dL_acts_35 : decode cL_acts 35 = .ok (.imul, 1) := by decide +kernel
theorem dL_acts_36 : decode cL_acts 36 = .ok (.iconst 1, 1) := by decide +kernel
theorem dL_acts_37 : decode cL_acts 37 = .ok (.iadd, 1) := by decide +kernel
theorem dL_acts_38 : decode cL_acts 38 = .ok (.iload 10, 2) := by decide +kernel
theorem dL_acts_40 : decode cL_acts 40 = .ok (.iconst 4, 1) := by decide +kernel
theorem dL_acts_41 : decode cL_acts 41 = .ok (.idiv, 1) := by decide +kernel
theorem dL_acts_42 : decode cL_acts 42 = .ok (.iconst 3, 1) := by decide +kernel
theorem dL_acts_43 : decode cL_acts 43 = .ok (.irem, 1) := by decide +kernel
theorem dL_acts_44 : decode cL_acts 44 = .ok (.iastore, 1) := by decide +kernel
theorem dL_acts_45 : decode cL_acts 45 = .ok (.aload_n 1, 1) := by decide +kernel
theorem dL_acts_46 : decode cL_acts 46 = .ok (.iconst 3, 1) := by decide +kernel
theorem dL_acts_47 : decode cL_acts 47 = .ok (.iload 11, 2) := by decide +kernel
theorem dL_acts_49 : decode cL_acts 49 = .ok (.imul, 1) := by decide +kernel
theorem dL_acts_50 : decode cL_acts 50 = .ok (.iconst 2, 1) := by decide +kernel
theorem dL_acts_51 : decode cL_acts 51 = .ok (.iadd, 1) := by decide +kernel
theorem dL_acts_52 : decode cL_acts 52 = .ok (.iload 10, 2) := by decide +kernel
theorem dL_acts_54 : decode cL_acts 54 = .ok (.bipush 12, 2) := by decide +kernel
theorem dL_acts_56 : decode cL_acts 56 = .ok (.idiv, 1) := by decide +kernel
theorem dL_acts_57 : decode cL_acts 57 = .ok (.iconst 4, 1) := by decide +kernel
theorem dL_acts_58 : decode cL_acts 58 = .ok (.irem, 1) := by decide +kernel
theorem dL_acts_59 : decode cL_acts 59 = .ok (.iastore, 1) := by decide +kernel
theorem dL_acts_60 : decode cL_acts 60 = .ok (.aload_n 2, 1) := by decide +kernel
theorem dL_acts_61 : decode cL_acts 61 = .ok (.iload 11, 2) := by decide +kernel
theorem dL_acts_63 : decode cL_acts 63 = .ok (.iconst 1, 1) := by decide +kernel
theorem dL_acts_64 : decode cL_acts 64 = .ok (.iload 10, 2) := by decide +kernel
theorem dL_acts_66 : decode cL_acts 66 = .ok (.bipush 48, 2) := by decide +kernel
theorem dL_acts_68 : decode cL_acts 68 = .ok (.idiv, 1) := by decide +kernel
theorem dL_acts_69 : decode cL_acts 69 = .ok (.iload 10, 2) := by decide +kernel
theorem dL_acts_71 : decode cL_acts 71 = .ok (.iconst 5, 1) := by decide +kernel
theorem dL_acts_72 : decode cL_acts 72 = .ok (.irem, 1) := by decide +kernel
theorem dL_acts_73 : decode cL_acts 73 = .ok (.ifCond .ne 9, 3) := by decide +kernel
theorem dL_acts_76 : decode cL_acts 76 = .ok (.sipush 1000, 3) := by decide +kernel
theorem dL_acts_79 : decode cL_acts 79 = .ok (.goto 5, 3) := by decide +kernel
theorem dL_acts_82 : decode cL_acts 82 = .ok (.bipush 20, 2) := by decide +kernel
theorem dL_acts_84 : decode cL_acts 84 = .ok (.irem, 1) := by decide +kernel
theorem dL_acts_85 : decode cL_acts 85 = .ok (.iadd, 1) := by decide +kernel
theorem dL_acts_86 : decode cL_acts 86 = .ok (.iastore, 1) := by decide +kernel
theorem dL_acts_87 : decode cL_acts 87 = .ok (.aload_n 3, 1) := by decide +kernel
theorem dL_acts_88 : decode cL_acts 88 = .ok (.iload 11, 2) := by decide +kernel
theorem dL_acts_90 : decode cL_acts 90 = .ok (.iload 10, 2) := by decide +kernel
theorem dL_acts_92 : decode cL_acts 92 = .ok (.bipush 7, 2) := by decide +kernel
theorem dL_acts_94 : decode cL_acts 94 = .ok (.irem, 1) := by decide +kernel
theorem dL_acts_95 : decode cL_acts 95 = .ok (.ifCond .ne 7, 3) := by decide +kernel
theorem dL_acts_98 : decode cL_acts 98 = .ok (.iconst 0, 1) := by decide +kernel
theorem dL_acts_99 : decode cL_acts 99 = .ok (.goto 12, 3) := by decide +kernel
theorem dL_acts_102 : decode cL_acts 102 = .ok (.iload 10, 2) := by decide +kernel
theorem dL_acts_104 : decode cL_acts 104 = .ok (.sipush 960, 3) := by decide +kernel
theorem dL_acts_107 : decode cL_acts 107 = .ok (.idiv, 1) := by decide +kernel
theorem dL_acts_108 : decode cL_acts 108 = .ok (.bipush 30, 2) := by decide +kernel
theorem dL_acts_110 : decode cL_acts 110 = .ok (.irem, 1) := by decide +kernel
theorem dL_acts_111 : decode cL_acts 111 = .ok (.iastore, 1) := by decide +kernel
theorem dL_acts_112 : decode cL_acts 112 = .ok (.aload 4, 2) := by decide +kernel
theorem dL_acts_114 : decode cL_acts 114 = .ok (.iload 11, 2) := by decide +kernel
theorem dL_acts_116 : decode cL_acts 116 = .ok (.iload 10, 2) := by decide +kernel
theorem dL_acts_118 : decode cL_acts 118 = .ok (.bipush 11, 2) := by decide +kernel
theorem dL_acts_120 : decode cL_acts 120 = .ok (.irem, 1) := by decide +kernel
theorem dL_acts_121 : decode cL_acts 121 = .ok (.ifCond .ne 7, 3) := by decide +kernel
theorem dL_acts_124 : decode cL_acts 124 = .ok (.iconst 0, 1) := by decide +kernel
theorem dL_acts_125 : decode cL_acts 125 = .ok (.goto 24, 3) := by decide +kernel
theorem dL_acts_128 : decode cL_acts 128 = .ok (.iload 10, 2) := by decide +kernel
theorem dL_acts_130 : decode cL_acts 130 = .ok (.bipush 77, 2) := by decide +kernel
theorem dL_acts_132 : decode cL_acts 132 = .ok (.idiv, 1) := by decide +kernel
theorem dL_acts_133 : decode cL_acts 133 = .ok (.iload 10, 2) := by decide +kernel
theorem dL_acts_135 : decode cL_acts 135 = .ok (.iconst 3, 1) := by decide +kernel
theorem dL_acts_136 : decode cL_acts 136 = .ok (.irem, 1) := by decide +kernel
theorem dL_acts_137 : decode cL_acts 137 = .ok (.ifCond .ne 8, 3) := by decide +kernel
theorem dL_acts_140 : decode cL_acts 140 = .ok (.ldc 93, 2) := by decide +kernel
theorem dL_acts_142 : decode cL_acts 142 = .ok (.goto 6, 3) := by decide +kernel
theorem dL_acts_145 : decode cL_acts 145 = .ok (.sipush 900, 3) := by decide +kernel
theorem dL_acts_148 : decode cL_acts 148 = .ok (.irem, 1) := by decide +kernel
theorem dL_acts_149 : decode cL_acts 149 = .ok (.iastore, 1) := by decide +kernel
theorem dL_acts_150 : decode cL_acts 150 = .ok (.aload 5, 2) := by decide +kernel
theorem dL_acts_152 : decode cL_acts 152 = .ok (.iload 11, 2) := by decide +kernel
theorem dL_acts_154 : decode cL_acts 154 = .ok (.iconst (-1), 1) := by decide +kernel
theorem dL_acts_155 : decode cL_acts 155 = .ok (.iastore, 1) := by decide +kernel
theorem dL_acts_156 : decode cL_acts 156 = .ok (.aload 6, 2) := by decide +kernel
theorem dL_acts_158 : decode cL_acts 158 = .ok (.iload 11, 2) := by decide +kernel
theorem dL_acts_160 : decode cL_acts 160 = .ok (.iconst 0, 1) := by decide +kernel
theorem dL_acts_161 : decode cL_acts 161 = .ok (.iastore, 1) := by decide +kernel
theorem dL_acts_162 : decode cL_acts 162 = .ok (.aload 8, 2) := by decide +kernel
theorem dL_acts_164 : decode cL_acts 164 = .ok (.iconst 0, 1) := by decide +kernel
theorem dL_acts_165 : decode cL_acts 165 = .ok (.dup2, 1) := by decide +kernel
theorem dL_acts_166 : decode cL_acts 166 = .ok (.iaload, 1) := by decide +kernel
theorem dL_acts_167 : decode cL_acts 167 = .ok (.iconst 1, 1) := by decide +kernel
theorem dL_acts_168 : decode cL_acts 168 = .ok (.iadd, 1) := by decide +kernel
theorem dL_acts_169 : decode cL_acts 169 = .ok (.iastore, 1) := by decide +kernel
theorem dL_acts_170 : decode cL_acts 170 = .ok (.aload_n 0, 1) := by decide +kernel
theorem dL_acts_171 : decode cL_acts 171 = .ok (.aload_n 1, 1) := by decide +kernel
theorem dL_acts_172 : decode cL_acts 172 = .ok (.iconst 3, 1) := by decide +kernel
theorem dL_acts_173 : decode cL_acts 173 = .ok (.iload 11, 2) := by decide +kernel
theorem dL_acts_175 : decode cL_acts 175 = .ok (.imul, 1) := by decide +kernel
theorem dL_acts_176 : decode cL_acts 176 = .ok (.iaload, 1) := by decide +kernel
theorem dL_acts_177 : decode cL_acts 177 = .ok (.aload_n 1, 1) := by decide +kernel
theorem dL_acts_178 : decode cL_acts 178 = .ok (.iconst 3, 1) := by decide +kernel
theorem dL_acts_179 : decode cL_acts 179 = .ok (.iload 11, 2) := by decide +kernel
theorem dL_acts_181 : decode cL_acts 181 = .ok (.imul, 1) := by decide +kernel
theorem dL_acts_182 : decode cL_acts 182 = .ok (.iconst 1, 1) := by decide +kernel
theorem dL_acts_183 : decode cL_acts 183 = .ok (.iadd, 1) := by decide +kernel
theorem dL_acts_184 : decode cL_acts 184 = .ok (.iaload, 1) := by decide +kernel
theorem dL_acts_185 : decode cL_acts 185 = .ok (.aload_n 1, 1) := by decide +kernel
theorem dL_acts_186 : decode cL_acts 186 = .ok (.iconst 3, 1) := by decide +kernel
theorem dL_acts_187 : decode cL_acts 187 = .ok (.iload 11, 2) := by decide +kernel
theorem dL_acts_189 : decode cL_acts 189 = .ok (.imul, 1) := by decide +kernel
theorem dL_acts_190 : decode cL_acts 190 = .ok (.iconst 2, 1) := by decide +kernel
theorem dL_acts_191 : decode cL_acts 191 = .ok (.iadd, 1) := by decide +kernel
theorem dL_acts_192 : decode cL_acts 192 = .ok (.iaload, 1) := by decide +kernel
theorem dL_acts_193 : decode cL_acts 193 = .ok (.aload_n 2, 1) := by decide +kernel
theorem dL_acts_194 : decode cL_acts 194 = .ok (.iload 11, 2) := by decide +kernel
theorem dL_acts_196 : decode cL_acts 196 = .ok (.iaload, 1) := by decide +kernel
theorem dL_acts_197 : decode cL_acts 197 = .ok (.aload_n 3, 1) := by decide +kernel
theorem dL_acts_198 : decode cL_acts 198 = .ok (.iload 11, 2) := by decide +kernel
theorem dL_acts_200 : decode cL_acts 200 = .ok (.iaload, 1) := by decide +kernel
theorem dL_acts_201 : decode cL_acts 201 = .ok (.aload 4, 2) := by decide +kernel
theorem dL_acts_203 : decode cL_acts 203 = .ok (.iload 11, 2) := by decide +kernel
theorem dL_acts_205 : decode cL_acts 205 = .ok (.iaload, 1) := by decide +kernel
theorem dL_acts_206 : decode cL_acts 206 = .ok (.invokevirtual 94, 3) := by decide +kernel
theorem dL_acts_209 : decode cL_acts 209 = .ok (.iload 11, 2) := by decide +kernel
theorem dL_acts_211 : decode cL_acts 211 = .ok (.if_icmp .ne 7, 3) := by decide +kernel
theorem dL_acts_214 : decode cL_acts 214 = .ok (.iconst 1, 1) := by decide +kernel
theorem dL_acts_215 : decode cL_acts 215 = .ok (.goto 4, 3) := by decide +kernel
theorem dL_acts_218 : decode cL_acts 218 = .ok (.iconst 0, 1) := by decide +kernel
theorem dL_acts_219 : decode cL_acts 219 = .ok (.ireturn, 1) := by decide +kernel
theorem dL_acts_220 : decode cL_acts 220 = .ok (.aload 8, 2) := by decide +kernel
theorem dL_acts_222 : decode cL_acts 222 = .ok (.iconst 0, 1) := by decide +kernel
theorem dL_acts_223 : decode cL_acts 223 = .ok (.iaload, 1) := by decide +kernel
theorem dL_acts_224 : decode cL_acts 224 = .ok (.ifCond .ne 7, 3) := by decide +kernel
theorem dL_acts_227 : decode cL_acts 227 = .ok (.iconst 0, 1) := by decide +kernel
theorem dL_acts_228 : decode cL_acts 228 = .ok (.goto 10, 3) := by decide +kernel
theorem dL_acts_231 : decode cL_acts 231 = .ok (.iload 10, 2) := by decide +kernel
theorem dL_acts_233 : decode cL_acts 233 = .ok (.aload 8, 2) := by decide +kernel
theorem dL_acts_235 : decode cL_acts 235 = .ok (.iconst 0, 1) := by decide +kernel
theorem dL_acts_236 : decode cL_acts 236 = .ok (.iaload, 1) := by decide +kernel
theorem dL_acts_237 : decode cL_acts 237 = .ok (.irem, 1) := by decide +kernel
theorem dL_acts_238 : decode cL_acts 238 = .ok (.istore 11, 2) := by decide +kernel
theorem dL_acts_240 : decode cL_acts 240 = .ok (.iload 9, 2) := by decide +kernel
theorem dL_acts_242 : decode cL_acts 242 = .ok (.iconst 4, 1) := by decide +kernel
end
section
theorem dL_acts_243 : decode cL_acts 243 = .ok (.if_icmp .ne 115, 3) := by decide +kernel
theorem dL_acts_246 : decode cL_acts 246 = .ok (.iload 10, 2) := by decide +kernel
theorem dL_acts_248 : decode cL_acts 248 = .ok (.iconst 4, 1) := by decide +kernel
theorem dL_acts_249 : decode cL_acts 249 = .ok (.irem, 1) := by decide +kernel
theorem dL_acts_250 : decode cL_acts 250 = .ok (.ifCond .ne 108, 3) := by decide +kernel
theorem dL_acts_253 : decode cL_acts 253 = .ok (.aload 8, 2) := by decide +kernel
theorem dL_acts_255 : decode cL_acts 255 = .ok (.iconst 0, 1) := by decide +kernel
theorem dL_acts_256 : decode cL_acts 256 = .ok (.iaload, 1) := by decide +kernel
theorem dL_acts_257 : decode cL_acts 257 = .ok (.ifCond .le 15, 3) := by decide +kernel
theorem dL_acts_260 : decode cL_acts 260 = .ok (.aload 6, 2) := by decide +kernel
theorem dL_acts_262 : decode cL_acts 262 = .ok (.iload 11, 2) := by decide +kernel
theorem dL_acts_264 : decode cL_acts 264 = .ok (.iaload, 1) := by decide +kernel
theorem dL_acts_265 : decode cL_acts 265 = .ok (.ifCond .ne 7, 3) := by decide +kernel
theorem dL_acts_268 : decode cL_acts 268 = .ok (.iconst 1, 1) := by decide +kernel
theorem dL_acts_269 : decode cL_acts 269 = .ok (.goto 4, 3) := by decide +kernel
theorem dL_acts_272 : decode cL_acts 272 = .ok (.iconst 0, 1) := by decide +kernel
theorem dL_acts_273 : decode cL_acts 273 = .ok (.istore 12, 2) := by decide +kernel
theorem dL_acts_275 : decode cL_acts 275 = .ok (.iconst 0, 1) := by decide +kernel
theorem dL_acts_276 : decode cL_acts 276 = .ok (.istore 13, 2) := by decide +kernel
theorem dL_acts_278 : decode cL_acts 278 = .ok (.iconst 0, 1) := by decide +kernel
theorem dL_acts_279 : decode cL_acts 279 = .ok (.istore 14, 2) := by decide +kernel
theorem dL_acts_281 : decode cL_acts 281 = .ok (.iload 14, 2) := by decide +kernel
theorem dL_acts_283 : decode cL_acts 283 = .ok (.aload 8, 2) := by decide +kernel
theorem dL_acts_285 : decode cL_acts 285 = .ok (.iconst 0, 1) := by decide +kernel
theorem dL_acts_286 : decode cL_acts 286 = .ok (.iaload, 1) := by decide +kernel
theorem dL_acts_287 : decode cL_acts 287 = .ok (.if_icmp .ge 21, 3) := by decide +kernel
theorem dL_acts_290 : decode cL_acts 290 = .ok (.iload 13, 2) := by decide +kernel
theorem dL_acts_292 : decode cL_acts 292 = .ok (.iconst 1, 1) := by decide +kernel
theorem dL_acts_293 : decode cL_acts 293 = .ok (.aload 6, 2) := by decide +kernel
theorem dL_acts_295 : decode cL_acts 295 = .ok (.iload 14, 2) := by decide +kernel
theorem dL_acts_297 : decode cL_acts 297 = .ok (.iaload, 1) := by decide +kernel
theorem dL_acts_298 : decode cL_acts 298 = .ok (.isub, 1) := by decide +kernel
theorem dL_acts_299 : decode cL_acts 299 = .ok (.iadd, 1) := by decide +kernel
theorem dL_acts_300 : decode cL_acts 300 = .ok (.istore 13, 2) := by decide +kernel
theorem dL_acts_302 : decode cL_acts 302 = .ok (.iinc 14 1, 3) := by decide +kernel
theorem dL_acts_305 : decode cL_acts 305 = .ok (.goto (-24), 3) := by decide +kernel
theorem dL_acts_308 : decode cL_acts 308 = .ok (.iload 12, 2) := by decide +kernel
theorem dL_acts_310 : decode cL_acts 310 = .ok (.ifCond .ne 23, 3) := by decide +kernel
theorem dL_acts_313 : decode cL_acts 313 = .ok (.aload_n 0, 1) := by decide +kernel
theorem dL_acts_314 : decode cL_acts 314 = .ok (.iconst 3, 1) := by decide +kernel
theorem dL_acts_315 : decode cL_acts 315 = .ok (.iload 11, 2) := by decide +kernel
theorem dL_acts_317 : decode cL_acts 317 = .ok (.invokestatic 68, 3) := by decide +kernel
theorem dL_acts_320 : decode cL_acts 320 = .ok (.ldc2_w 53, 3) := by decide +kernel
theorem dL_acts_323 : decode cL_acts 323 = .ok (.lcmp, 1) := by decide +kernel
theorem dL_acts_324 : decode cL_acts 324 = .ok (.ifCond .ne 7, 3) := by decide +kernel
theorem dL_acts_327 : decode cL_acts 327 = .ok (.iconst 1, 1) := by decide +kernel
theorem dL_acts_328 : decode cL_acts 328 = .ok (.goto 4, 3) := by decide +kernel
theorem dL_acts_331 : decode cL_acts 331 = .ok (.iconst 0, 1) := by decide +kernel
theorem dL_acts_332 : decode cL_acts 332 = .ok (.ireturn, 1) := by decide +kernel
theorem dL_acts_333 : decode cL_acts 333 = .ok (.aload 6, 2) := by decide +kernel
theorem dL_acts_335 : decode cL_acts 335 = .ok (.iload 11, 2) := by decide +kernel
theorem dL_acts_337 : decode cL_acts 337 = .ok (.iconst 1, 1) := by decide +kernel
theorem dL_acts_338 : decode cL_acts 338 = .ok (.iastore, 1) := by decide +kernel
theorem dL_acts_339 : decode cL_acts 339 = .ok (.aload_n 0, 1) := by decide +kernel
theorem dL_acts_340 : decode cL_acts 340 = .ok (.iload 11, 2) := by decide +kernel
theorem dL_acts_342 : decode cL_acts 342 = .ok (.invokevirtual 98, 3) := by decide +kernel
theorem dL_acts_345 : decode cL_acts 345 = .ok (.iload 13, 2) := by decide +kernel
theorem dL_acts_347 : decode cL_acts 347 = .ok (.iconst 1, 1) := by decide +kernel
theorem dL_acts_348 : decode cL_acts 348 = .ok (.isub, 1) := by decide +kernel
theorem dL_acts_349 : decode cL_acts 349 = .ok (.if_icmp .ne 7, 3) := by decide +kernel
theorem dL_acts_352 : decode cL_acts 352 = .ok (.iconst 1, 1) := by decide +kernel
theorem dL_acts_353 : decode cL_acts 353 = .ok (.goto 4, 3) := by decide +kernel
theorem dL_acts_356 : decode cL_acts 356 = .ok (.iconst 0, 1) := by decide +kernel
theorem dL_acts_357 : decode cL_acts 357 = .ok (.ireturn, 1) := by decide +kernel
theorem dL_acts_358 : decode cL_acts 358 = .ok (.iload 9, 2) := by decide +kernel
theorem dL_acts_360 : decode cL_acts 360 = .ok (.bipush 7, 2) := by decide +kernel
theorem dL_acts_362 : decode cL_acts 362 = .ok (.if_icmp .ge 106, 3) := by decide +kernel
theorem dL_acts_365 : decode cL_acts 365 = .ok (.aload 8, 2) := by decide +kernel
theorem dL_acts_367 : decode cL_acts 367 = .ok (.iconst 0, 1) := by decide +kernel
theorem dL_acts_368 : decode cL_acts 368 = .ok (.iaload, 1) := by decide +kernel
theorem dL_acts_369 : decode cL_acts 369 = .ok (.ifCond .eq 12, 3) := by decide +kernel
theorem dL_acts_372 : decode cL_acts 372 = .ok (.aload 6, 2) := by decide +kernel
theorem dL_acts_374 : decode cL_acts 374 = .ok (.iload 11, 2) := by decide +kernel
theorem dL_acts_376 : decode cL_acts 376 = .ok (.iaload, 1) := by decide +kernel
theorem dL_acts_377 : decode cL_acts 377 = .ok (.iconst 1, 1) := by decide +kernel
theorem dL_acts_378 : decode cL_acts 378 = .ok (.if_icmp .ne 23, 3) := by decide +kernel
theorem dL_acts_381 : decode cL_acts 381 = .ok (.aload_n 0, 1) := by decide +kernel
theorem dL_acts_382 : decode cL_acts 382 = .ok (.iconst 3, 1) := by decide +kernel
theorem dL_acts_383 : decode cL_acts 383 = .ok (.iload 11, 2) := by decide +kernel
theorem dL_acts_385 : decode cL_acts 385 = .ok (.invokestatic 68, 3) := by decide +kernel
theorem dL_acts_388 : decode cL_acts 388 = .ok (.ldc2_w 53, 3) := by decide +kernel
theorem dL_acts_391 : decode cL_acts 391 = .ok (.lcmp, 1) := by decide +kernel
theorem dL_acts_392 : decode cL_acts 392 = .ok (.ifCond .ne 7, 3) := by decide +kernel
theorem dL_acts_395 : decode cL_acts 395 = .ok (.iconst 1, 1) := by decide +kernel
theorem dL_acts_396 : decode cL_acts 396 = .ok (.goto 4, 3) := by decide +kernel
theorem dL_acts_399 : decode cL_acts 399 = .ok (.iconst 0, 1) := by decide +kernel
theorem dL_acts_400 : decode cL_acts 400 = .ok (.ireturn, 1) := by decide +kernel
theorem dL_acts_401 : decode cL_acts 401 = .ok (.aload 5, 2) := by decide +kernel
theorem dL_acts_403 : decode cL_acts 403 = .ok (.iload 11, 2) := by decide +kernel
theorem dL_acts_405 : decode cL_acts 405 = .ok (.iaload, 1) := by decide +kernel
theorem dL_acts_406 : decode cL_acts 406 = .ok (.istore 12, 2) := by decide +kernel
theorem dL_acts_408 : decode cL_acts 408 = .ok (.aload 5, 2) := by decide +kernel
theorem dL_acts_410 : decode cL_acts 410 = .ok (.iload 11, 2) := by decide +kernel
theorem dL_acts_412 : decode cL_acts 412 = .ok (.iload 10, 2) := by decide +kernel
theorem dL_acts_414 : decode cL_acts 414 = .ok (.bipush 9, 2) := by decide +kernel
theorem dL_acts_416 : decode cL_acts 416 = .ok (.irem, 1) := by decide +kernel
theorem dL_acts_417 : decode cL_acts 417 = .ok (.ifCond .ne 7, 3) := by decide +kernel
theorem dL_acts_420 : decode cL_acts 420 = .ok (.iconst (-1), 1) := by decide +kernel
theorem dL_acts_421 : decode cL_acts 421 = .ok (.goto 24, 3) := by decide +kernel
theorem dL_acts_424 : decode cL_acts 424 = .ok (.iload 10, 2) := by decide +kernel
theorem dL_acts_426 : decode cL_acts 426 = .ok (.bipush 12, 2) := by decide +kernel
theorem dL_acts_428 : decode cL_acts 428 = .ok (.idiv, 1) := by decide +kernel
theorem dL_acts_429 : decode cL_acts 429 = .ok (.iload 10, 2) := by decide +kernel
theorem dL_acts_431 : decode cL_acts 431 = .ok (.iconst 3, 1) := by decide +kernel
theorem dL_acts_432 : decode cL_acts 432 = .ok (.irem, 1) := by decide +kernel
theorem dL_acts_433 : decode cL_acts 433 = .ok (.ifCond .ne 8, 3) := by decide +kernel
theorem dL_acts_436 : decode cL_acts 436 = .ok (.ldc 101, 2) := by decide +kernel
theorem dL_acts_438 : decode cL_acts 438 = .ok (.goto 6, 3) := by decide +kernel
theorem dL_acts_441 : decode cL_acts 441 = .ok (.sipush 2000, 3) := by decide +kernel
theorem dL_acts_444 : decode cL_acts 444 = .ok (.irem, 1) := by decide +kernel
theorem dL_acts_445 : decode cL_acts 445 = .ok (.iastore, 1) := by decide +kernel
theorem dL_acts_446 : decode cL_acts 446 = .ok (.aload_n 0, 1) := by decide +kernel
theorem dL_acts_447 : decode cL_acts 447 = .ok (.iload 11, 2) := by decide +kernel
theorem dL_acts_449 : decode cL_acts 449 = .ok (.aload 5, 2) := by decide +kernel
theorem dL_acts_451 : decode cL_acts 451 = .ok (.iload 11, 2) := by decide +kernel
theorem dL_acts_453 : decode cL_acts 453 = .ok (.iaload, 1) := by decide +kernel
theorem dL_acts_454 : decode cL_acts 454 = .ok (.invokevirtual 47, 3) := by decide +kernel
theorem dL_acts_457 : decode cL_acts 457 = .ok (.iload 12, 2) := by decide +kernel
theorem dL_acts_459 : decode cL_acts 459 = .ok (.if_icmp .ne 7, 3) := by decide +kernel
theorem dL_acts_462 : decode cL_acts 462 = .ok (.iconst 1, 1) := by decide +kernel
theorem dL_acts_463 : decode cL_acts 463 = .ok (.goto 4, 3) := by decide +kernel
theorem dL_acts_466 : decode cL_acts 466 = .ok (.iconst 0, 1) := by decide +kernel
theorem dL_acts_467 : decode cL_acts 467 = .ok (.ireturn, 1) := by decide +kernel
theorem dL_acts_468 : decode cL_acts 468 = .ok (.iload 9, 2) := by decide +kernel
theorem dL_acts_470 : decode cL_acts 470 = .ok (.bipush 7, 2) := by decide +kernel
theorem dL_acts_472 : decode cL_acts 472 = .ok (.if_icmp .ne 84, 3) := by decide +kernel
theorem dL_acts_475 : decode cL_acts 475 = .ok (.aload 8, 2) := by decide +kernel
theorem dL_acts_477 : decode cL_acts 477 = .ok (.iconst 1, 1) := by decide +kernel
theorem dL_acts_478 : decode cL_acts 478 = .ok (.iaload, 1) := by decide +kernel
theorem dL_acts_479 : decode cL_acts 479 = .ok (.istore 12, 2) := by decide +kernel
theorem dL_acts_481 : decode cL_acts 481 = .ok (.aload 8, 2) := by decide +kernel
theorem dL_acts_483 : decode cL_acts 483 = .ok (.iconst 1, 1) := by decide +kernel
theorem dL_acts_484 : decode cL_acts 484 = .ok (.iload 10, 2) := by decide +kernel
theorem dL_acts_486 : decode cL_acts 486 = .ok (.iconst 3, 1) := by decide +kernel
theorem dL_acts_487 : decode cL_acts 487 = .ok (.irem, 1) := by decide +kernel
theorem dL_acts_488 : decode cL_acts 488 = .ok (.ifCond .ne 7, 3) := by decide +kernel
theorem dL_acts_491 : decode cL_acts 491 = .ok (.iconst 0, 1) := by decide +kernel
theorem dL_acts_492 : decode cL_acts 492 = .ok (.goto 11, 3) := by decide +kernel
theorem dL_acts_495 : decode cL_acts 495 = .ok (.iload 10, 2) := by decide +kernel
theorem dL_acts_497 : decode cL_acts 497 = .ok (.iconst 3, 1) := by decide +kernel
theorem dL_acts_498 : decode cL_acts 498 = .ok (.idiv, 1) := by decide +kernel
theorem dL_acts_499 : decode cL_acts 499 = .ok (.sipush 200, 3) := by decide +kernel
theorem dL_acts_502 : decode cL_acts 502 = .ok (.irem, 1) := by decide +kernel
theorem dL_acts_503 : decode cL_acts 503 = .ok (.iastore, 1) := by decide +kernel
theorem dL_acts_504 : decode cL_acts 504 = .ok (.aload 8, 2) := by decide +kernel
theorem dL_acts_506 : decode cL_acts 506 = .ok (.iconst 2, 1) := by decide +kernel
theorem dL_acts_507 : decode cL_acts 507 = .ok (.iload 10, 2) := by decide +kernel
theorem dL_acts_509 : decode cL_acts 509 = .ok (.sipush 600, 3) := by decide +kernel
theorem dL_acts_512 : decode cL_acts 512 = .ok (.idiv, 1) := by decide +kernel
theorem dL_acts_513 : decode cL_acts 513 = .ok (.iconst 4, 1) := by decide +kernel
theorem dL_acts_514 : decode cL_acts 514 = .ok (.irem, 1) := by decide +kernel
theorem dL_acts_515 : decode cL_acts 515 = .ok (.ifCond .ne 7, 3) := by decide +kernel
theorem dL_acts_518 : decode cL_acts 518 = .ok (.iconst (-1), 1) := by decide +kernel
theorem dL_acts_519 : decode cL_acts 519 = .ok (.goto 13, 3) := by decide +kernel
theorem dL_acts_522 : decode cL_acts 522 = .ok (.iload 10, 2) := by decide +kernel
theorem dL_acts_524 : decode cL_acts 524 = .ok (.sipush 2400, 3) := by decide +kernel
theorem dL_acts_527 : decode cL_acts 527 = .ok (.idiv, 1) := by decide +kernel
theorem dL_acts_528 : decode cL_acts 528 = .ok (.sipush 150, 3) := by decide +kernel
theorem dL_acts_531 : decode cL_acts 531 = .ok (.irem, 1) := by decide +kernel
theorem dL_acts_532 : decode cL_acts 532 = .ok (.iastore, 1) := by decide +kernel
theorem dL_acts_533 : decode cL_acts 533 = .ok (.aload_n 0, 1) := by decide +kernel
theorem dL_acts_534 : decode cL_acts 534 = .ok (.aload 8, 2) := by decide +kernel
theorem dL_acts_536 : decode cL_acts 536 = .ok (.iconst 1, 1) := by decide +kernel
theorem dL_acts_537 : decode cL_acts 537 = .ok (.iaload, 1) := by decide +kernel
theorem dL_acts_538 : decode cL_acts 538 = .ok (.aload 8, 2) := by decide +kernel
theorem dL_acts_540 : decode cL_acts 540 = .ok (.iconst 2, 1) := by decide +kernel
theorem dL_acts_541 : decode cL_acts 541 = .ok (.iaload, 1) := by decide +kernel
theorem dL_acts_542 : decode cL_acts 542 = .ok (.invokevirtual 102, 3) := by decide +kernel
theorem dL_acts_545 : decode cL_acts 545 = .ok (.iload 12, 2) := by decide +kernel
theorem dL_acts_547 : decode cL_acts 547 = .ok (.if_icmp .ne 7, 3) := by decide +kernel
theorem dL_acts_550 : decode cL_acts 550 = .ok (.iconst 1, 1) := by decide +kernel
theorem dL_acts_551 : decode cL_acts 551 = .ok (.goto 4, 3) := by decide +kernel
theorem dL_acts_554 : decode cL_acts 554 = .ok (.iconst 0, 1) := by decide +kernel
theorem dL_acts_555 : decode cL_acts 555 = .ok (.ireturn, 1) := by decide +kernel
theorem dL_acts_556 : decode cL_acts 556 = .ok (.iload 10, 2) := by decide +kernel
theorem dL_acts_558 : decode cL_acts 558 = .ok (.iconst 3, 1) := by decide +kernel
theorem dL_acts_559 : decode cL_acts 559 = .ok (.irem, 1) := by decide +kernel
theorem dL_acts_560 : decode cL_acts 560 = .ok (.istore 12, 2) := by decide +kernel
theorem dL_acts_562 : decode cL_acts 562 = .ok (.iload 9, 2) := by decide +kernel
theorem dL_acts_564 : decode cL_acts 564 = .ok (.bipush 10, 2) := by decide +kernel
theorem dL_acts_566 : decode cL_acts 566 = .ok (.if_icmp .ge 90, 3) := by decide +kernel
theorem dL_acts_569 : decode cL_acts 569 = .ok (.iload 10, 2) := by decide +kernel
theorem dL_acts_571 : decode cL_acts 571 = .ok (.iconst 3, 1) := by decide +kernel
theorem dL_acts_572 : decode cL_acts 572 = .ok (.idiv, 1) := by decide +kernel
theorem dL_acts_573 : decode cL_acts 573 = .ok (.iload 12, 2) := by decide +kernel
theorem dL_acts_575 : decode cL_acts 575 = .ok (.invokestatic 21, 3) := by decide +kernel
theorem dL_acts_578 : decode cL_acts 578 = .ok (.irem, 1) := by decide +kernel
theorem dL_acts_579 : decode cL_acts 579 = .ok (.istore 13, 2) := by decide +kernel
theorem dL_acts_581 : decode cL_acts 581 = .ok (.aload 7, 2) := by decide +kernel
theorem dL_acts_583 : decode cL_acts 583 = .ok (.iconst 4, 1) := by decide +kernel
theorem dL_acts_584 : decode cL_acts 584 = .ok (.iload 12, 2) := by decide +kernel
theorem dL_acts_586 : decode cL_acts 586 = .ok (.imul, 1) := by decide +kernel
theorem dL_acts_587 : decode cL_acts 587 = .ok (.iload 13, 2) := by decide +kernel
theorem dL_acts_589 : decode cL_acts 589 = .ok (.iadd, 1) := by decide +kernel
theorem dL_acts_590 : decode cL_acts 590 = .ok (.iaload, 1) := by decide +kernel
theorem dL_acts_591 : decode cL_acts 591 = .ok (.istore 14, 2) := by decide +kernel
theorem dL_acts_593 : decode cL_acts 593 = .ok (.aload 7, 2) := by decide +kernel
theorem dL_acts_595 : decode cL_acts 595 = .ok (.iconst 4, 1) := by decide +kernel
theorem dL_acts_596 : decode cL_acts 596 = .ok (.iload 12, 2) := by decide +kernel
theorem dL_acts_598 : decode cL_acts 598 = .ok (.imul, 1) := by decide +kernel
theorem dL_acts_599 : decode cL_acts 599 = .ok (.iload 13, 2) := by decide +kernel
theorem dL_acts_601 : decode cL_acts 601 = .ok (.iadd, 1) := by decide +kernel
theorem dL_acts_602 : decode cL_acts 602 = .ok (.bipush 100, 2) := by decide +kernel
theorem dL_acts_604 : decode cL_acts 604 = .ok (.iload 10, 2) := by decide +kernel
theorem dL_acts_606 : decode cL_acts 606 = .ok (.bipush 12, 2) := by decide +kernel
theorem dL_acts_608 : decode cL_acts 608 = .ok (.idiv, 1) := by decide +kernel
theorem dL_acts_609 : decode cL_acts 609 = .ok (.iload 10, 2) := by decide +kernel
theorem dL_acts_611 : decode cL_acts 611 = .ok (.iconst 4, 1) := by decide +kernel
theorem dL_acts_612 : decode cL_acts 612 = .ok (.irem, 1) := by decide +kernel
theorem dL_acts_613 : decode cL_acts 613 = .ok (.ifCond .ne 8, 3) := by decide +kernel
theorem dL_acts_616 : decode cL_acts 616 = .ok (.ldc 105, 2) := by decide +kernel
theorem dL_acts_618 : decode cL_acts 618 = .ok (.goto 6, 3) := by decide +kernel
theorem dL_acts_621 : decode cL_acts 621 = .ok (.sipush 15000, 3) := by decide +kernel
theorem dL_acts_624 : decode cL_acts 624 = .ok (.irem, 1) := by decide +kernel
theorem dL_acts_625 : decode cL_acts 625 = .ok (.iadd, 1) := by decide +kernel
theorem dL_acts_626 : decode cL_acts 626 = .ok (.iastore, 1) := by decide +kernel
theorem dL_acts_627 : decode cL_acts 627 = .ok (.aload_n 0, 1) := by decide +kernel
theorem dL_acts_628 : decode cL_acts 628 = .ok (.iload 12, 2) := by decide +kernel
theorem dL_acts_630 : decode cL_acts 630 = .ok (.iload 13, 2) := by decide +kernel
theorem dL_acts_632 : decode cL_acts 632 = .ok (.aload 7, 2) := by decide +kernel
theorem dL_acts_634 : decode cL_acts 634 = .ok (.iconst 4, 1) := by decide +kernel
theorem dL_acts_635 : decode cL_acts 635 = .ok (.iload 12, 2) := by decide +kernel
theorem dL_acts_637 : decode cL_acts 637 = .ok (.imul, 1) := by decide +kernel
theorem dL_acts_638 : decode cL_acts 638 = .ok (.iload 13, 2) := by decide +kernel
theorem dL_acts_640 : decode cL_acts 640 = .ok (.iadd, 1) := by decide +kernel
theorem dL_acts_641 : decode cL_acts 641 = .ok (.iaload, 1) := by decide +kernel
theorem dL_acts_642 : decode cL_acts 642 = .ok (.invokevirtual 106, 3) := by decide +kernel
theorem dL_acts_645 : decode cL_acts 645 = .ok (.iload 14, 2) := by decide +kernel
theorem dL_acts_647 : decode cL_acts 647 = .ok (.if_icmp .ne 7, 3) := by decide +kernel
theorem dL_acts_650 : decode cL_acts 650 = .ok (.iconst 1, 1) := by decide +kernel
theorem dL_acts_651 : decode cL_acts 651 = .ok (.goto 4, 3) := by decide +kernel
theorem dL_acts_654 : decode cL_acts 654 = .ok (.iconst 0, 1) := by decide +kernel
theorem dL_acts_655 : decode cL_acts 655 = .ok (.ireturn, 1) := by decide +kernel
theorem dL_acts_656 : decode cL_acts 656 = .ok (.iload 9, 2) := by decide +kernel
theorem dL_acts_658 : decode cL_acts 658 = .ok (.bipush 13, 2) := by decide +kernel
theorem dL_acts_660 : decode cL_acts 660 = .ok (.if_icmp .ge 34, 3) := by decide +kernel
theorem dL_acts_663 : decode cL_acts 663 = .ok (.aload_n 0, 1) := by decide +kernel
theorem dL_acts_664 : decode cL_acts 664 = .ok (.iload 12, 2) := by decide +kernel
theorem dL_acts_666 : decode cL_acts 666 = .ok (.invokevirtual 110, 3) := by decide +kernel
theorem dL_acts_669 : decode cL_acts 669 = .ok (.aload_n 1, 1) := by decide +kernel
theorem dL_acts_670 : decode cL_acts 670 = .ok (.aload_n 2, 1) := by decide +kernel
theorem dL_acts_671 : decode cL_acts 671 = .ok (.aload_n 3, 1) := by decide +kernel
theorem dL_acts_672 : decode cL_acts 672 = .ok (.aload 4, 2) := by decide +kernel
theorem dL_acts_674 : decode cL_acts 674 = .ok (.aload 6, 2) := by decide +kernel
theorem dL_acts_676 : decode cL_acts 676 = .ok (.aload 7, 2) := by decide +kernel
theorem dL_acts_678 : decode cL_acts 678 = .ok (.aload 8, 2) := by decide +kernel
theorem dL_acts_680 : decode cL_acts 680 = .ok (.iload 12, 2) := by decide +kernel
theorem dL_acts_682 : decode cL_acts 682 = .ok (.invokestatic 113, 3) := by decide +kernel
theorem dL_acts_685 : decode cL_acts 685 = .ok (.if_icmp .ne 7, 3) := by decide +kernel
theorem dL_acts_688 : decode cL_acts 688 = .ok (.iconst 1, 1) := by decide +kernel
theorem dL_acts_689 : decode cL_acts 689 = .ok (.goto 4, 3) := by decide +kernel
theorem dL_acts_692 : decode cL_acts 692 = .ok (.iconst 0, 1) := by decide +kernel
theorem dL_acts_693 : decode cL_acts 693 = .ok (.ireturn, 1) := by decide +kernel
theorem dL_acts_694 : decode cL_acts 694 = .ok (.iload 9, 2) := by decide +kernel
theorem dL_acts_696 : decode cL_acts 696 = .ok (.bipush 13, 2) := by decide +kernel
theorem dL_acts_698 : decode cL_acts 698 = .ok (.if_icmp .ne 103, 3) := by decide +kernel
theorem dL_acts_701 : decode cL_acts 701 = .ok (.iconst 0, 1) := by decide +kernel
theorem dL_acts_702 : decode cL_acts 702 = .ok (.istore 13, 2) := by decide +kernel
theorem dL_acts_704 : decode cL_acts 704 = .ok (.iconst 1, 1) := by decide +kernel
theorem dL_acts_705 : decode cL_acts 705 = .ok (.istore 14, 2) := by decide +kernel
theorem dL_acts_707 : decode cL_acts 707 = .ok (.iload 14, 2) := by decide +kernel
theorem dL_acts_709 : decode cL_acts 709 = .ok (.ifCond .eq 77, 3) := by decide +kernel
theorem dL_acts_712 : decode cL_acts 712 = .ok (.iload 13, 2) := by decide +kernel
theorem dL_acts_714 : decode cL_acts 714 = .ok (.bipush 60, 2) := by decide +kernel
theorem dL_acts_716 : decode cL_acts 716 = .ok (.if_icmp .ge 70, 3) := by decide +kernel
theorem dL_acts_719 : decode cL_acts 719 = .ok (.aload_n 1, 1) := by decide +kernel
theorem dL_acts_720 : decode cL_acts 720 = .ok (.aload_n 2, 1) := by decide +kernel
theorem dL_acts_721 : decode cL_acts 721 = .ok (.aload_n 3, 1) := by decide +kernel
theorem dL_acts_722 : decode cL_acts 722 = .ok (.aload 4, 2) := by decide +kernel
theorem dL_acts_724 : decode cL_acts 724 = .ok (.aload 6, 2) := by decide +kernel
theorem dL_acts_726 : decode cL_acts 726 = .ok (.aload 7, 2) := by decide +kernel
theorem dL_acts_728 : decode cL_acts 728 = .ok (.aload 8, 2) := by decide +kernel
theorem dL_acts_730 : decode cL_acts 730 = .ok (.iconst 0, 1) := by decide +kernel
theorem dL_acts_731 : decode cL_acts 731 = .ok (.invokestatic 113, 3) := by decide +kernel
theorem dL_acts_734 : decode cL_acts 734 = .ok (.aload_n 1, 1) := by decide +kernel
theorem dL_acts_735 : decode cL_acts 735 = .ok (.aload_n 2, 1) := by decide +kernel
theorem dL_acts_736 : decode cL_acts 736 = .ok (.aload_n 3, 1) := by decide +kernel
theorem dL_acts_737 : decode cL_acts 737 = .ok (.aload 4, 2) := by decide +kernel
theorem dL_acts_739 : decode cL_acts 739 = .ok (.aload 6, 2) := by decide +kernel
theorem dL_acts_741 : decode cL_acts 741 = .ok (.aload 7, 2) := by decide +kernel
theorem dL_acts_743 : decode cL_acts 743 = .ok (.aload 8, 2) := by decide +kernel
theorem dL_acts_745 : decode cL_acts 745 = .ok (.iconst 1, 1) := by decide +kernel
theorem dL_acts_746 : decode cL_acts 746 = .ok (.invokestatic 113, 3) := by decide +kernel
theorem dL_acts_749 : decode cL_acts 749 = .ok (.iadd, 1) := by decide +kernel
theorem dL_acts_750 : decode cL_acts 750 = .ok (.aload_n 1, 1) := by decide +kernel
theorem dL_acts_751 : decode cL_acts 751 = .ok (.aload_n 2, 1) := by decide +kernel
theorem dL_acts_752 : decode cL_acts 752 = .ok (.aload_n 3, 1) := by decide +kernel
theorem dL_acts_753 : decode cL_acts 753 = .ok (.aload 4, 2) := by decide +kernel
theorem dL_acts_755 : decode cL_acts 755 = .ok (.aload 6, 2) := by decide +kernel
theorem dL_acts_757 : decode cL_acts 757 = .ok (.aload 7, 2) := by decide +kernel
theorem dL_acts_759 : decode cL_acts 759 = .ok (.aload 8, 2) := by decide +kernel
theorem dL_acts_761 : decode cL_acts 761 = .ok (.iconst 2, 1) := by decide +kernel
theorem dL_acts_762 : decode cL_acts 762 = .ok (.invokestatic 113, 3) := by decide +kernel
theorem dL_acts_765 : decode cL_acts 765 = .ok (.iadd, 1) := by decide +kernel
theorem dL_acts_766 : decode cL_acts 766 = .ok (.istore 15, 2) := by decide +kernel
theorem dL_acts_768 : decode cL_acts 768 = .ok (.iload 15, 2) := by decide +kernel
theorem dL_acts_770 : decode cL_acts 770 = .ok (.ifCond .le 7, 3) := by decide +kernel
theorem dL_acts_773 : decode cL_acts 773 = .ok (.iconst 1, 1) := by decide +kernel
theorem dL_acts_774 : decode cL_acts 774 = .ok (.goto 4, 3) := by decide +kernel
theorem dL_acts_777 : decode cL_acts 777 = .ok (.iconst 0, 1) := by decide +kernel
theorem dL_acts_778 : decode cL_acts 778 = .ok (.istore 14, 2) := by decide +kernel
theorem dL_acts_780 : decode cL_acts 780 = .ok (.iinc 13 1, 3) := by decide +kernel
theorem dL_acts_783 : decode cL_acts 783 = .ok (.goto (-76), 3) := by decide +kernel
theorem dL_acts_786 : decode cL_acts 786 = .ok (.aload_n 0, 1) := by decide +kernel
theorem dL_acts_787 : decode cL_acts 787 = .ok (.invokevirtual 116, 3) := by decide +kernel
theorem dL_acts_790 : decode cL_acts 790 = .ok (.iload 13, 2) := by decide +kernel
theorem dL_acts_792 : decode cL_acts 792 = .ok (.if_icmp .ne 7, 3) := by decide +kernel
theorem dL_acts_795 : decode cL_acts 795 = .ok (.iconst 1, 1) := by decide +kernel
theorem dL_acts_796 : decode cL_acts 796 = .ok (.goto 4, 3) := by decide +kernel
theorem dL_acts_799 : decode cL_acts 799 = .ok (.iconst 0, 1) := by decide +kernel
theorem dL_acts_800 : decode cL_acts 800 = .ok (.ireturn, 1) := by decide +kernel
theorem dL_acts_801 : decode cL_acts 801 = .ok (.iload 9, 2) := by decide +kernel
theorem dL_acts_803 : decode cL_acts 803 = .ok (.bipush 16, 2) := by decide +kernel
theorem dL_acts_805 : decode cL_acts 805 = .ok (.if_icmp .ge 34, 3) := by decide +kernel
theorem dL_acts_808 : decode cL_acts 808 = .ok (.aload_n 0, 1) := by decide +kernel
theorem dL_acts_809 : decode cL_acts 809 = .ok (.iload 12, 2) := by decide +kernel
theorem dL_acts_811 : decode cL_acts 811 = .ok (.invokevirtual 119, 3) := by decide +kernel
theorem dL_acts_814 : decode cL_acts 814 = .ok (.aload_n 1, 1) := by decide +kernel
theorem dL_acts_815 : decode cL_acts 815 = .ok (.aload_n 2, 1) := by decide +kernel
theorem dL_acts_816 : decode cL_acts 816 = .ok (.aload_n 3, 1) := by decide +kernel
end
section
theorem dL_acts_817 : decode cL_acts 817 = .ok (.aload 4, 2) := by decide +kernel
theorem dL_acts_819 : decode cL_acts 819 = .ok (.aload 6, 2) := by decide +kernel
theorem dL_acts_821 : decode cL_acts 821 = .ok (.aload 7, 2) := by decide +kernel
theorem dL_acts_823 : decode cL_acts 823 = .ok (.aload 8, 2) := by decide +kernel
theorem dL_acts_825 : decode cL_acts 825 = .ok (.iload 12, 2) := by decide +kernel
theorem dL_acts_827 : decode cL_acts 827 = .ok (.invokestatic 122, 3) := by decide +kernel
theorem dL_acts_830 : decode cL_acts 830 = .ok (.if_icmp .ne 7, 3) := by decide +kernel
theorem dL_acts_833 : decode cL_acts 833 = .ok (.iconst 1, 1) := by decide +kernel
theorem dL_acts_834 : decode cL_acts 834 = .ok (.goto 4, 3) := by decide +kernel
theorem dL_acts_837 : decode cL_acts 837 = .ok (.iconst 0, 1) := by decide +kernel
theorem dL_acts_838 : decode cL_acts 838 = .ok (.ireturn, 1) := by decide +kernel
theorem dL_acts_839 : decode cL_acts 839 = .ok (.aload_n 1, 1) := by decide +kernel
theorem dL_acts_840 : decode cL_acts 840 = .ok (.aload_n 2, 1) := by decide +kernel
theorem dL_acts_841 : decode cL_acts 841 = .ok (.aload 4, 2) := by decide +kernel
theorem dL_acts_843 : decode cL_acts 843 = .ok (.aload 5, 2) := by decide +kernel
theorem dL_acts_845 : decode cL_acts 845 = .ok (.aload 6, 2) := by decide +kernel
theorem dL_acts_847 : decode cL_acts 847 = .ok (.aload 7, 2) := by decide +kernel
theorem dL_acts_849 : decode cL_acts 849 = .ok (.aload 8, 2) := by decide +kernel
theorem dL_acts_851 : decode cL_acts 851 = .ok (.iconst 1, 1) := by decide +kernel
theorem dL_acts_852 : decode cL_acts 852 = .ok (.invokestatic 64, 3) := by decide +kernel
theorem dL_acts_855 : decode cL_acts 855 = .ok (.lstore 13, 2) := by decide +kernel
theorem dL_acts_857 : decode cL_acts 857 = .ok (.lload 13, 2) := by decide +kernel
theorem dL_acts_859 : decode cL_acts 859 = .ok (.lconst 0, 1) := by decide +kernel
theorem dL_acts_860 : decode cL_acts 860 = .ok (.lcmp, 1) := by decide +kernel
theorem dL_acts_861 : decode cL_acts 861 = .ok (.ifCond .eq 89, 3) := by decide +kernel
theorem dL_acts_864 : decode cL_acts 864 = .ok (.aload_n 1, 1) := by decide +kernel
theorem dL_acts_865 : decode cL_acts 865 = .ok (.aload_n 2, 1) := by decide +kernel
theorem dL_acts_866 : decode cL_acts 866 = .ok (.aload 4, 2) := by decide +kernel
theorem dL_acts_868 : decode cL_acts 868 = .ok (.aload 5, 2) := by decide +kernel
theorem dL_acts_870 : decode cL_acts 870 = .ok (.aload 6, 2) := by decide +kernel
theorem dL_acts_872 : decode cL_acts 872 = .ok (.aload 7, 2) := by decide +kernel
theorem dL_acts_874 : decode cL_acts 874 = .ok (.aload 8, 2) := by decide +kernel
theorem dL_acts_876 : decode cL_acts 876 = .ok (.iconst 0, 1) := by decide +kernel
theorem dL_acts_877 : decode cL_acts 877 = .ok (.invokestatic 64, 3) := by decide +kernel
theorem dL_acts_880 : decode cL_acts 880 = .ok (.ldc2_w 9, 3) := by decide +kernel
theorem dL_acts_883 : decode cL_acts 883 = .ok (.lmul, 1) := by decide +kernel
theorem dL_acts_884 : decode cL_acts 884 = .ok (.lload 13, 2) := by decide +kernel
theorem dL_acts_886 : decode cL_acts 886 = .ok (.ldiv, 1) := by decide +kernel
theorem dL_acts_887 : decode cL_acts 887 = .ok (.lstore 15, 2) := by decide +kernel
theorem dL_acts_889 : decode cL_acts 889 = .ok (.aload 8, 2) := by decide +kernel
theorem dL_acts_891 : decode cL_acts 891 = .ok (.iconst 3, 1) := by decide +kernel
theorem dL_acts_892 : decode cL_acts 892 = .ok (.iaload, 1) := by decide +kernel
theorem dL_acts_893 : decode cL_acts 893 = .ok (.i2l, 1) := by decide +kernel
theorem dL_acts_894 : decode cL_acts 894 = .ok (.lload 15, 2) := by decide +kernel
theorem dL_acts_896 : decode cL_acts 896 = .ok (.ldc2_w 124, 3) := by decide +kernel
theorem dL_acts_899 : decode cL_acts 899 = .ok (.lcmp, 1) := by decide +kernel
theorem dL_acts_900 : decode cL_acts 900 = .ok (.ifCond .ge 8, 3) := by decide +kernel
theorem dL_acts_903 : decode cL_acts 903 = .ok (.lload 15, 2) := by decide +kernel
theorem dL_acts_905 : decode cL_acts 905 = .ok (.goto 6, 3) := by decide +kernel
theorem dL_acts_908 : decode cL_acts 908 = .ok (.ldc2_w 124, 3) := by decide +kernel
theorem dL_acts_911 : decode cL_acts 911 = .ok (.lmul, 1) := by decide +kernel
theorem dL_acts_912 : decode cL_acts 912 = .ok (.ldc2_w 9, 3) := by decide +kernel
theorem dL_acts_915 : decode cL_acts 915 = .ok (.ldiv, 1) := by decide +kernel
theorem dL_acts_916 : decode cL_acts 916 = .ok (.lstore 17, 2) := by decide +kernel
theorem dL_acts_918 : decode cL_acts 918 = .ok (.aload 8, 2) := by decide +kernel
theorem dL_acts_920 : decode cL_acts 920 = .ok (.iconst 3, 1) := by decide +kernel
theorem dL_acts_921 : decode cL_acts 921 = .ok (.lload 17, 2) := by decide +kernel
theorem dL_acts_923 : decode cL_acts 923 = .ok (.lconst 1, 1) := by decide +kernel
theorem dL_acts_924 : decode cL_acts 924 = .ok (.lcmp, 1) := by decide +kernel
theorem dL_acts_925 : decode cL_acts 925 = .ok (.ifCond .ge 7, 3) := by decide +kernel
theorem dL_acts_928 : decode cL_acts 928 = .ok (.iconst 1, 1) := by decide +kernel
theorem dL_acts_929 : decode cL_acts 929 = .ok (.goto 20, 3) := by decide +kernel
theorem dL_acts_932 : decode cL_acts 932 = .ok (.lload 17, 2) := by decide +kernel
theorem dL_acts_934 : decode cL_acts 934 = .ok (.ldc2_w 124, 3) := by decide +kernel
theorem dL_acts_937 : decode cL_acts 937 = .ok (.lcmp, 1) := by decide +kernel
theorem dL_acts_938 : decode cL_acts 938 = .ok (.ifCond .le 8, 3) := by decide +kernel
theorem dL_acts_941 : decode cL_acts 941 = .ok (.ldc 93, 2) := by decide +kernel
theorem dL_acts_943 : decode cL_acts 943 = .ok (.goto 6, 3) := by decide +kernel
theorem dL_acts_946 : decode cL_acts 946 = .ok (.lload 17, 2) := by decide +kernel
theorem dL_acts_948 : decode cL_acts 948 = .ok (.l2i, 1) := by decide +kernel
theorem dL_acts_949 : decode cL_acts 949 = .ok (.iastore, 1) := by decide +kernel
theorem dL_acts_950 : decode cL_acts 950 = .ok (.aload_n 0, 1) := by decide +kernel
theorem dL_acts_951 : decode cL_acts 951 = .ok (.invokevirtual 126, 3) := by decide +kernel
theorem dL_acts_954 : decode cL_acts 954 = .ok (.aload 8, 2) := by decide +kernel
theorem dL_acts_956 : decode cL_acts 956 = .ok (.iconst 3, 1) := by decide +kernel
theorem dL_acts_957 : decode cL_acts 957 = .ok (.iaload, 1) := by decide +kernel
theorem dL_acts_958 : decode cL_acts 958 = .ok (.if_icmp .ne 7, 3) := by decide +kernel
theorem dL_acts_961 : decode cL_acts 961 = .ok (.iconst 1, 1) := by decide +kernel
theorem dL_acts_962 : decode cL_acts 962 = .ok (.goto 4, 3) := by decide +kernel
theorem dL_acts_965 : decode cL_acts 965 = .ok (.iconst 0, 1) := by decide +kernel
theorem dL_acts_966 : decode cL_acts 966 = .ok (.ireturn, 1) := by decide +kernel
theorem dL_holds_0 : decode cL_holds 0 = .ok (.new 38, 3) := by decide +kernel
theorem dL_holds_3 : decode cL_holds 3 = .ok (.dup, 1) := by decide +kernel
theorem dL_holds_4 : decode cL_holds 4 = .ok (.invokespecial 129, 3) := by decide +kernel
theorem dL_holds_7 : decode cL_holds 7 = .ok (.astore_n 1, 1) := by decide +kernel
theorem dL_holds_8 : decode cL_holds 8 = .ok (.bipush 36, 2) := by decide +kernel
theorem dL_holds_10 : decode cL_holds 10 = .ok (.newarray .int, 2) := by decide +kernel
theorem dL_holds_12 : decode cL_holds 12 = .ok (.astore_n 2, 1) := by decide +kernel
theorem dL_holds_13 : decode cL_holds 13 = .ok (.bipush 12, 2) := by decide +kernel
theorem dL_holds_15 : decode cL_holds 15 = .ok (.newarray .int, 2) := by decide +kernel
theorem dL_holds_17 : decode cL_holds 17 = .ok (.astore_n 3, 1) := by decide +kernel
theorem dL_holds_18 : decode cL_holds 18 = .ok (.bipush 12, 2) := by decide +kernel
theorem dL_holds_20 : decode cL_holds 20 = .ok (.newarray .int, 2) := by decide +kernel
theorem dL_holds_22 : decode cL_holds 22 = .ok (.astore 4, 2) := by decide +kernel
theorem dL_holds_24 : decode cL_holds 24 = .ok (.bipush 12, 2) := by decide +kernel
theorem dL_holds_26 : decode cL_holds 26 = .ok (.newarray .int, 2) := by decide +kernel
theorem dL_holds_28 : decode cL_holds 28 = .ok (.astore 5, 2) := by decide +kernel
theorem dL_holds_30 : decode cL_holds 30 = .ok (.bipush 12, 2) := by decide +kernel
theorem dL_holds_32 : decode cL_holds 32 = .ok (.newarray .int, 2) := by decide +kernel
theorem dL_holds_34 : decode cL_holds 34 = .ok (.astore 6, 2) := by decide +kernel
theorem dL_holds_36 : decode cL_holds 36 = .ok (.bipush 12, 2) := by decide +kernel
theorem dL_holds_38 : decode cL_holds 38 = .ok (.newarray .int, 2) := by decide +kernel
theorem dL_holds_40 : decode cL_holds 40 = .ok (.astore 7, 2) := by decide +kernel
theorem dL_holds_42 : decode cL_holds 42 = .ok (.bipush 12, 2) := by decide +kernel
theorem dL_holds_44 : decode cL_holds 44 = .ok (.newarray .int, 2) := by decide +kernel
theorem dL_holds_46 : decode cL_holds 46 = .ok (.astore 8, 2) := by decide +kernel
theorem dL_holds_48 : decode cL_holds 48 = .ok (.iconst 4, 1) := by decide +kernel
theorem dL_holds_49 : decode cL_holds 49 = .ok (.newarray .int, 2) := by decide +kernel
theorem dL_holds_51 : decode cL_holds 51 = .ok (.astore 9, 2) := by decide +kernel
theorem dL_holds_53 : decode cL_holds 53 = .ok (.iconst 0, 1) := by decide +kernel
theorem dL_holds_54 : decode cL_holds 54 = .ok (.istore 10, 2) := by decide +kernel
theorem dL_holds_56 : decode cL_holds 56 = .ok (.iload 10, 2) := by decide +kernel
theorem dL_holds_58 : decode cL_holds 58 = .ok (.bipush 12, 2) := by decide +kernel
theorem dL_holds_60 : decode cL_holds 60 = .ok (.if_icmp .ge 17, 3) := by decide +kernel
theorem dL_holds_63 : decode cL_holds 63 = .ok (.aload 8, 2) := by decide +kernel
theorem dL_holds_65 : decode cL_holds 65 = .ok (.iload 10, 2) := by decide +kernel
theorem dL_holds_67 : decode cL_holds 67 = .ok (.sipush 10000, 3) := by decide +kernel
theorem dL_holds_70 : decode cL_holds 70 = .ok (.iastore, 1) := by decide +kernel
theorem dL_holds_71 : decode cL_holds 71 = .ok (.iinc 10 1, 3) := by decide +kernel
theorem dL_holds_74 : decode cL_holds 74 = .ok (.goto (-18), 3) := by decide +kernel
theorem dL_holds_77 : decode cL_holds 77 = .ok (.aload 9, 2) := by decide +kernel
theorem dL_holds_79 : decode cL_holds 79 = .ok (.iconst 2, 1) := by decide +kernel
theorem dL_holds_80 : decode cL_holds 80 = .ok (.iconst (-1), 1) := by decide +kernel
theorem dL_holds_81 : decode cL_holds 81 = .ok (.iastore, 1) := by decide +kernel
theorem dL_holds_82 : decode cL_holds 82 = .ok (.aload 9, 2) := by decide +kernel
theorem dL_holds_84 : decode cL_holds 84 = .ok (.iconst 3, 1) := by decide +kernel
theorem dL_holds_85 : decode cL_holds 85 = .ok (.sipush 10000, 3) := by decide +kernel
theorem dL_holds_88 : decode cL_holds 88 = .ok (.iastore, 1) := by decide +kernel
theorem dL_holds_89 : decode cL_holds 89 = .ok (.aload_n 1, 1) := by decide +kernel
theorem dL_holds_90 : decode cL_holds 90 = .ok (.invokevirtual 85, 3) := by decide +kernel
theorem dL_holds_93 : decode cL_holds 93 = .ok (.ifCond .ne 24, 3) := by decide +kernel
theorem dL_holds_96 : decode cL_holds 96 = .ok (.aload_n 1, 1) := by decide +kernel
theorem dL_holds_97 : decode cL_holds 97 = .ok (.invokevirtual 58, 3) := by decide +kernel
theorem dL_holds_100 : decode cL_holds 100 = .ok (.lconst 0, 1) := by decide +kernel
theorem dL_holds_101 : decode cL_holds 101 = .ok (.lcmp, 1) := by decide +kernel
theorem dL_holds_102 : decode cL_holds 102 = .ok (.ifCond .ne 15, 3) := by decide +kernel
theorem dL_holds_105 : decode cL_holds 105 = .ok (.aload_n 1, 1) := by decide +kernel
theorem dL_holds_106 : decode cL_holds 106 = .ok (.invokevirtual 116, 3) := by decide +kernel
theorem dL_holds_109 : decode cL_holds 109 = .ok (.iconst 1, 1) := by decide +kernel
theorem dL_holds_110 : decode cL_holds 110 = .ok (.if_icmp .ne 7, 3) := by decide +kernel
theorem dL_holds_113 : decode cL_holds 113 = .ok (.iconst 1, 1) := by decide +kernel
theorem dL_holds_114 : decode cL_holds 114 = .ok (.goto 4, 3) := by decide +kernel
theorem dL_holds_117 : decode cL_holds 117 = .ok (.iconst 0, 1) := by decide +kernel
theorem dL_holds_118 : decode cL_holds 118 = .ok (.istore 10, 2) := by decide +kernel
theorem dL_holds_120 : decode cL_holds 120 = .ok (.iconst 0, 1) := by decide +kernel
theorem dL_holds_121 : decode cL_holds 121 = .ok (.istore 11, 2) := by decide +kernel
theorem dL_holds_123 : decode cL_holds 123 = .ok (.iload 11, 2) := by decide +kernel
theorem dL_holds_125 : decode cL_holds 125 = .ok (.bipush 60, 2) := by decide +kernel
theorem dL_holds_127 : decode cL_holds 127 = .ok (.if_icmp .ge 106, 3) := by decide +kernel
theorem dL_holds_130 : decode cL_holds 130 = .ok (.iload 10, 2) := by decide +kernel
theorem dL_holds_132 : decode cL_holds 132 = .ok (.ifCond .eq 101, 3) := by decide +kernel
theorem dL_holds_135 : decode cL_holds 135 = .ok (.iload 11, 2) := by decide +kernel
theorem dL_holds_137 : decode cL_holds 137 = .ok (.iconst 5, 1) := by decide +kernel
theorem dL_holds_138 : decode cL_holds 138 = .ok (.if_icmp .ge 7, 3) := by decide +kernel
theorem dL_holds_141 : decode cL_holds 141 = .ok (.iconst 0, 1) := by decide +kernel
theorem dL_holds_142 : decode cL_holds 142 = .ok (.goto 13, 3) := by decide +kernel
theorem dL_holds_145 : decode cL_holds 145 = .ok (.aload_n 0, 1) := by decide +kernel
theorem dL_holds_146 : decode cL_holds 146 = .ok (.iconst 2, 1) := by decide +kernel
theorem dL_holds_147 : decode cL_holds 147 = .ok (.iload 11, 2) := by decide +kernel
theorem dL_holds_149 : decode cL_holds 149 = .ok (.imul, 1) := by decide +kernel
theorem dL_holds_150 : decode cL_holds 150 = .ok (.bipush 18, 2) := by decide +kernel
theorem dL_holds_152 : decode cL_holds 152 = .ok (.invokestatic 130, 3) := by decide +kernel
theorem dL_holds_155 : decode cL_holds 155 = .ok (.istore 12, 2) := by decide +kernel
theorem dL_holds_157 : decode cL_holds 157 = .ok (.aload_n 1, 1) := by decide +kernel
theorem dL_holds_158 : decode cL_holds 158 = .ok (.aload_n 2, 1) := by decide +kernel
theorem dL_holds_159 : decode cL_holds 159 = .ok (.aload_n 3, 1) := by decide +kernel
theorem dL_holds_160 : decode cL_holds 160 = .ok (.aload 4, 2) := by decide +kernel
theorem dL_holds_162 : decode cL_holds 162 = .ok (.aload 5, 2) := by decide +kernel
theorem dL_holds_164 : decode cL_holds 164 = .ok (.aload 6, 2) := by decide +kernel
theorem dL_holds_166 : decode cL_holds 166 = .ok (.aload 7, 2) := by decide +kernel
theorem dL_holds_168 : decode cL_holds 168 = .ok (.aload 8, 2) := by decide +kernel
theorem dL_holds_170 : decode cL_holds 170 = .ok (.aload 9, 2) := by decide +kernel
theorem dL_holds_172 : decode cL_holds 172 = .ok (.iload 12, 2) := by decide +kernel
theorem dL_holds_174 : decode cL_holds 174 = .ok (.aload_n 0, 1) := by decide +kernel
theorem dL_holds_175 : decode cL_holds 175 = .ok (.iconst 2, 1) := by decide +kernel
theorem dL_holds_176 : decode cL_holds 176 = .ok (.iload 11, 2) := by decide +kernel
theorem dL_holds_178 : decode cL_holds 178 = .ok (.imul, 1) := by decide +kernel
theorem dL_holds_179 : decode cL_holds 179 = .ok (.iconst 1, 1) := by decide +kernel
theorem dL_holds_180 : decode cL_holds 180 = .ok (.iadd, 1) := by decide +kernel
theorem dL_holds_181 : decode cL_holds 181 = .ok (.ldc 134, 2) := by decide +kernel
theorem dL_holds_183 : decode cL_holds 183 = .ok (.invokestatic 130, 3) := by decide +kernel
theorem dL_holds_186 : decode cL_holds 186 = .ok (.invokestatic 135, 3) := by decide +kernel
theorem dL_holds_189 : decode cL_holds 189 = .ok (.ifCond .eq 35, 3) := by decide +kernel
theorem dL_holds_192 : decode cL_holds 192 = .ok (.iload 11, 2) := by decide +kernel
theorem dL_holds_194 : decode cL_holds 194 = .ok (.iconst 2, 1) := by decide +kernel
theorem dL_holds_195 : decode cL_holds 195 = .ok (.irem, 1) := by decide +kernel
theorem dL_holds_196 : decode cL_holds 196 = .ok (.ifCond .eq 24, 3) := by decide +kernel
theorem dL_holds_199 : decode cL_holds 199 = .ok (.aload_n 1, 1) := by decide +kernel
theorem dL_holds_200 : decode cL_holds 200 = .ok (.aload_n 2, 1) := by decide +kernel
theorem dL_holds_201 : decode cL_holds 201 = .ok (.aload_n 3, 1) := by decide +kernel
theorem dL_holds_202 : decode cL_holds 202 = .ok (.aload 4, 2) := by decide +kernel
theorem dL_holds_204 : decode cL_holds 204 = .ok (.aload 5, 2) := by decide +kernel
theorem dL_holds_206 : decode cL_holds 206 = .ok (.aload 6, 2) := by decide +kernel
theorem dL_holds_208 : decode cL_holds 208 = .ok (.aload 7, 2) := by decide +kernel
theorem dL_holds_210 : decode cL_holds 210 = .ok (.aload 8, 2) := by decide +kernel
theorem dL_holds_212 : decode cL_holds 212 = .ok (.aload 9, 2) := by decide +kernel
theorem dL_holds_214 : decode cL_holds 214 = .ok (.invokestatic 139, 3) := by decide +kernel
theorem dL_holds_217 : decode cL_holds 217 = .ok (.ifCond .eq 7, 3) := by decide +kernel
theorem dL_holds_220 : decode cL_holds 220 = .ok (.iconst 1, 1) := by decide +kernel
theorem dL_holds_221 : decode cL_holds 221 = .ok (.goto 4, 3) := by decide +kernel
theorem dL_holds_224 : decode cL_holds 224 = .ok (.iconst 0, 1) := by decide +kernel
theorem dL_holds_225 : decode cL_holds 225 = .ok (.istore 10, 2) := by decide +kernel
theorem dL_holds_227 : decode cL_holds 227 = .ok (.iinc 11 1, 3) := by decide +kernel
theorem dL_holds_230 : decode cL_holds 230 = .ok (.goto (-107), 3) := by decide +kernel
theorem dL_holds_233 : decode cL_holds 233 = .ok (.iload 10, 2) := by decide +kernel
theorem dL_holds_235 : decode cL_holds 235 = .ok (.ifCond .eq 28, 3) := by decide +kernel
theorem dL_holds_238 : decode cL_holds 238 = .ok (.aload_n 1, 1) := by decide +kernel
theorem dL_holds_239 : decode cL_holds 239 = .ok (.aload_n 2, 1) := by decide +kernel
theorem dL_holds_240 : decode cL_holds 240 = .ok (.aload_n 3, 1) := by decide +kernel
theorem dL_holds_241 : decode cL_holds 241 = .ok (.aload 4, 2) := by decide +kernel
theorem dL_holds_243 : decode cL_holds 243 = .ok (.aload 5, 2) := by decide +kernel
theorem dL_holds_245 : decode cL_holds 245 = .ok (.aload 6, 2) := by decide +kernel
theorem dL_holds_247 : decode cL_holds 247 = .ok (.aload 7, 2) := by decide +kernel
theorem dL_holds_249 : decode cL_holds 249 = .ok (.aload 8, 2) := by decide +kernel
theorem dL_holds_251 : decode cL_holds 251 = .ok (.aload 9, 2) := by decide +kernel
theorem dL_holds_253 : decode cL_holds 253 = .ok (.invokestatic 139, 3) := by decide +kernel
theorem dL_holds_256 : decode cL_holds 256 = .ok (.ifCond .eq 7, 3) := by decide +kernel
theorem dL_holds_259 : decode cL_holds 259 = .ok (.iconst 1, 1) := by decide +kernel
theorem dL_holds_260 : decode cL_holds 260 = .ok (.goto 4, 3) := by decide +kernel
theorem dL_holds_263 : decode cL_holds 263 = .ok (.iconst 0, 1) := by decide +kernel
theorem dL_holds_264 : decode cL_holds 264 = .ok (.ireturn, 1) := by decide +kernel
theorem dL_isHeld_0 : decode cL_isHeld 0 = .ok (.aload_n 0, 1) := by decide +kernel
theorem dL_isHeld_1 : decode cL_isHeld 1 = .ok (.invokestatic 143, 3) := by decide +kernel
theorem dL_isHeld_4 : decode cL_isHeld 4 = .ok (.ireturn, 1) := by decide +kernel
theorem dL_isHeld_5 : decode cL_isHeld 5 = .ok (.astore_n 1, 1) := by decide +kernel
theorem dL_isHeld_6 : decode cL_isHeld 6 = .ok (.iconst 0, 1) := by decide +kernel
theorem dL_isHeld_7 : decode cL_isHeld 7 = .ok (.ireturn, 1) := by decide +kernel
theorem dL_isHeld_8 : decode cL_isHeld 8 = .ok (.astore_n 1, 1) := by decide +kernel
theorem dL_isHeld_9 : decode cL_isHeld 9 = .ok (.iconst 0, 1) := by decide +kernel
theorem dL_isHeld_10 : decode cL_isHeld 10 = .ok (.ireturn, 1) := by decide +kernel
theorem dL_isHeld_11 : decode cL_isHeld 11 = .ok (.astore_n 1, 1) := by decide +kernel
theorem dL_isHeld_12 : decode cL_isHeld 12 = .ok (.iconst 0, 1) := by decide +kernel
theorem dL_isHeld_13 : decode cL_isHeld 13 = .ok (.ireturn, 1) := by decide +kernel
end
section
theorem dJ7_fill_53178_0 : decode cJ7_fill_53178 0 = .ok (.iconst 0, 1) := by decide +kernel
theorem dJ7_fill_53178_1 : decode cJ7_fill_53178 1 = .ok (.istore_n 2, 1) := by decide +kernel
theorem dJ7_fill_53178_2 : decode cJ7_fill_53178 2 = .ok (.aload_n 0, 1) := by decide +kernel
theorem dJ7_fill_53178_3 : decode cJ7_fill_53178 3 = .ok (.arraylength, 1) := by decide +kernel
theorem dJ7_fill_53178_4 : decode cJ7_fill_53178 4 = .ok (.istore_n 3, 1) := by decide +kernel
theorem dJ7_fill_53178_5 : decode cJ7_fill_53178 5 = .ok (.iload_n 2, 1) := by decide +kernel
theorem dJ7_fill_53178_6 : decode cJ7_fill_53178 6 = .ok (.iload_n 3, 1) := by decide +kernel
theorem dJ7_fill_53178_7 : decode cJ7_fill_53178 7 = .ok (.if_icmp .ge 13, 3) := by decide +kernel
theorem dJ7_fill_53178_10 : decode cJ7_fill_53178 10 = .ok (.aload_n 0, 1) := by decide +kernel
theorem dJ7_fill_53178_11 : decode cJ7_fill_53178 11 = .ok (.iload_n 2, 1) := by decide +kernel
theorem dJ7_fill_53178_12 : decode cJ7_fill_53178 12 = .ok (.iload_n 1, 1) := by decide +kernel
theorem dJ7_fill_53178_13 : decode cJ7_fill_53178 13 = .ok (.iastore, 1) := by decide +kernel
theorem dJ7_fill_53178_14 : decode cJ7_fill_53178 14 = .ok (.iinc 2 1, 3) := by decide +kernel
theorem dJ7_fill_53178_17 : decode cJ7_fill_53178 17 = .ok (.goto (-12), 3) := by decide +kernel
theorem dJ7_fill_53178_20 : decode cJ7_fill_53178 20 = .ok (.return_, 1) := by decide +kernel
end
section
/-! what the class's private methods answer, in the numbers of the state -/
theorem le_nI {a b : Nat} (ha : a < 2 ^ 31) (hb : b < 2 ^ 31) (h : nI a ≤ nI b) : a ≤ b := (nI_leI ha hb).mp h
theorem nle_nI {a b : Nat} (ha : a < 2 ^ 31) (hb : b < 2 ^ 31) (h : ¬ nI a ≤ nI b) : b < a := Nat.lt_of_not_le (fun q => h ((nI_leI ha hb).mpr q))
theorem ixN {r : Int32} {n : Nat} (hn : n < 2 ^ 31) (h1 : ¬ r < 0) (h2 : ¬ nI n ≤ r) : r = nI (tN r) ∧ tN r < n := by
  rcases pk_ix r hn with h | h | ⟨j, hj, rfl⟩
  · exact absurd h h1
  · exact absurd h h2
  · unfold tN
    rw [nI_clamp (by omega)]
    exact ⟨rfl, hj⟩
theorem tN_nI {j : Nat} (h : j < 2 ^ 31) : tN (nI j) = j := nI_clamp h
theorem levN_4 (t : Nat) : levN t ≤ 4 := by unfold levN; split <;> omega
theorem levN_3 (t : Nat) : 3 ≤ levN t := by unfold levN; split <;> omega
def lngP (q : Nat) : Nat := if q = 3 then 14 else 9 + q
def xHasTrait (t : Int32) : Bool := !decide (t < 0) && !decide (3 ≤ t)
def xIsWithin (v lo hi : Int32) : Bool := !decide (v < lo) && !decide (hi < v)
def xHasLevel (t k : Int32) : Bool := xHasTrait t && (!decide (k < 0) && !decide (nI (levN (tN t)) ≤ k))
def xHasRow (S : WS) (r : Int32) : Bool := !decide (r < 0) && (!decide (xSc S 0 ≤ r) && !decide (xIa S 1 (tN r) = 0))
theorem xHasTrait_ix {t : Int32} (h : xHasTrait t = true) : t = nI (tN t) ∧ tN t < 3 := by
  simp only [xHasTrait, Bool.and_eq_true, Bool.not_eq_true', decide_eq_false_iff_not] at h
  exact ixN (n := 3) (by decide) h.1 h.2
theorem xHasLevel_ix {t k : Int32} (h : xHasLevel t k = true) : (t = nI (tN t) ∧ tN t < 3) ∧ (k = nI (tN k) ∧ tN k < levN (tN t)) := by
  simp only [xHasLevel, Bool.and_eq_true, Bool.not_eq_true', decide_eq_false_iff_not] at h
  have h3 := levN_4 (tN t)
  exact ⟨xHasTrait_ix h.1, ixN (n := levN (tN t)) (by omega) h.2.1 h.2.2⟩
theorem xHasRow_ix {S : WS} {r : Int32} {n : Nat} (hn : n ≤ 40) (h0 : xSc S 0 = nI n) (h : xHasRow S r = true) : (r = nI (tN r) ∧ tN r < n) ∧ ¬ xIa S 1 (tN r) = 0 := by
  simp only [xHasRow, Bool.and_eq_true, Bool.not_eq_true', decide_eq_false_iff_not, h0] at h
  exact ⟨ixN (n := n) (by omega) h.1 h.2.1, h.2.2⟩
def xTot (live : Nat → Int32) (f : Nat → Int64) : Nat → Int64
  | 0 => 0
  | k + 1 => if live k = 0 then xTot live f k else xTot live f k + f k
theorem xTot_z {live : Nat → Int32} {f : Nat → Int64} {k : Nat} (h : live k = 0) : xTot live f (k + 1) = xTot live f k := if_pos h
theorem xTot_n {live : Nat → Int32} {f : Nat → Int64} {k : Nat} (h : ¬ live k = 0) : xTot live f (k + 1) = xTot live f k + f k := if_neg h
def xLTot (live lv : Nat → Int32) (q : Int32) (f : Nat → Int64) : Nat → Int64
  | 0 => 0
  | k + 1 => if live k = 0 then xLTot live lv q f k else if lv k = q then xLTot live lv q f k + f k else xLTot live lv q f k
theorem xLTot_z {live lv : Nat → Int32} {q : Int32} {f : Nat → Int64} {k : Nat} (h : live k = 0) : xLTot live lv q f (k + 1) = xLTot live lv q f k := if_pos h
theorem xLTot_q {live lv : Nat → Int32} {q : Int32} {f : Nat → Int64} {k : Nat} (h : ¬ live k = 0) (h2 : lv k = q) : xLTot live lv q f (k + 1) = xLTot live lv q f k + f k := (if_neg h).trans (if_pos h2)
theorem xLTot_o {live lv : Nat → Int32} {q : Int32} {f : Nat → Int64} {k : Nat} (h : ¬ live k = 0) (h2 : ¬ lv k = q) : xLTot live lv q f (k + 1) = xLTot live lv q f k := (if_neg h).trans (if_neg h2)
def mx64 (x y : Int64) : Int64 := if y < x then x else y
def mn64 (x y : Int64) : Int64 := if y < x then y else x
def ab64 (x : Int64) : Int64 := if 0 < x then x else -x
def xBnd (v lo hi : Int64) : Int64 := mn64 (mx64 v lo) hi
/-- the class's state as its calls leave it: n rows were added -/
def XI (n : Nat) (S : WS) : Prop := n ≤ 40 ∧ xSc S 0 = nI n ∧ (∀ t k : Nat, t < 3 → k < n → ∃ j : Nat, j < 4 ∧ xLev S t k = nI j) ∧ (∀ k : Nat, k < n → ∃ c : Nat, c ≤ 1000 ∧ xLng S 1 k = lN c) ∧ ∃ c : Nat, c ≤ 1000 ∧ xSc S 2 = nI c
def xFitN (S : WS) (r : Nat) : Nat → Int64
  | 0 => xLng S 0 r * xBase S / 10000
  | t + 1 => xFitN S r t * (xFac S t (tN (xLev S t r))).toInt64 / 10000
def xFit (S : WS) (r : Nat) : Int64 := xFitN S r 3
def xNewP (S : WS) (r : Nat) : Int64 := xLng S 3 r * (xSc S 4).toInt64 / 10000
def mxI (x y : Int32) : Int32 := if x < y then y else x
def xCapP (S : WS) (r : Nat) : Int64 := if xSc S 3 = -1 then xNewP S r else if xIa S 0 r = -1 then xNewP S r else
  xBnd (xNewP S r) ((xIa S 0 r).toInt64 * (mxI (100 - xSc S 3) 0).toInt64 / 100) ((xIa S 0 r).toInt64 * (100 + xSc S 3).toInt64 / 100)
def xAhead (S : WS) (r q : Nat) : Bool := decide (xLng S 2 q * (1 + xLng S 3 r) < xLng S 2 r * (1 + xLng S 3 q)) || (decide (xLng S 2 r * (1 + xLng S 3 q) = xLng S 2 q * (1 + xLng S 3 r)) && !decide (nI q ≤ nI r))
def xCnt (p : Nat → Bool) : Nat → Nat
  | 0 => 0
  | k + 1 => if p k then xCnt p k + 1 else xCnt p k
theorem xCnt_t {p : Nat → Bool} {k : Nat} (h : p k = true) : xCnt p (k + 1) = xCnt p k + 1 := if_pos h
theorem xCnt_f {p : Nat → Bool} {k : Nat} (h : p k = false) : xCnt p (k + 1) = xCnt p k := if_neg (by rw [h]; decide)
theorem xCnt_le (p : Nat → Bool) : ∀ k, xCnt p k ≤ k
  | 0 => Nat.le_refl 0
  | k + 1 => by
    have h := xCnt_le p k
    cases hp : p k
    · rw [xCnt_f hp]; omega
    · rw [xCnt_t hp]; omega
def xPlP (S : WS) (r : Nat) : Nat → Bool := fun k => !decide (xIa S 1 k = 0) && xAhead S k r
def xPlace (S : WS) (r n : Nat) : Nat := xCnt (xPlP S r) n
def xFound (S : WS) (n t k : Nat) : Int32 :=
  if xLTot (xIa S 1) (xLev S t) (nI k) (xLng S 3) n ≤ 0 then xFac S t k else
  if 0 < xLTot (xIa S 1) (xLev S t) (nI k) (xLng S 1) n then
    (xBnd ((xFac S t k).toInt64 + ((xFac S t k).toInt64 * xLTot (xIa S 1) (xLev S t) (nI k) (xLng S 2) n / xLTot (xIa S 1) (xLev S t) (nI k) (xLng S 3) n - (xFac S t k).toInt64) * xLTot (xIa S 1) (xLev S t) (nI k) (xLng S 1) n / (xLTot (xIa S 1) (xLev S t) (nI k) (xLng S 1) n + (xSc S 2).toInt64)) 100 100000).toInt32
  else xFac S t k
/-- f up to i, g behind -/
def fil {α : Type} (f g : Nat → α) (i : Nat) : Nat → α := fun k => if k < i then f k else g k
theorem fil_0 {α : Type} (f g : Nat → α) : fil f g 0 = g := funext fun k => if_neg (Nat.not_lt_zero k)
theorem fil_at {α : Type} (f g : Nat → α) (i : Nat) : fil f g i i = g i := if_neg (Nat.lt_irrefl i)
theorem fil_lo {α : Type} {f g : Nat → α} {i k : Nat} (h : k < i) : fil f g i k = f k := if_pos h
theorem fil_hi {α : Type} {f g : Nat → α} {i k : Nat} (h : i ≤ k) : fil f g i k = g k := if_neg (by omega)
theorem fil_sI (f g : Nat → Int32) (i : Nat) : upd (fil f g i) i (f i) = fil f g (i + 1) := by
  funext k
  unfold upd fil
  by_cases h : k = i
  · subst h; rw [if_pos rfl, if_pos (by omega)]
  · rw [if_neg h]
    by_cases h2 : k < i
    · rw [if_pos h2, if_pos (by omega)]
    · rw [if_neg h2, if_neg (by omega)]
theorem fil_sL (f g : Nat → Int64) (i : Nat) : vp_updL (fil f g i) i (f i) = fil f g (i + 1) := by
  funext k
  unfold vp_updL fil
  by_cases h : k = i
  · subst h; rw [if_pos rfl, if_pos (by omega)]
  · rw [if_neg h]
    by_cases h2 : k < i
    · rw [if_pos h2, if_pos (by omega)]
    · rw [if_neg h2, if_neg (by omega)]
theorem fil_k {α : Type} {f g : Nat → α} {i : Nat} (h : f i = g i) : fil f g (i + 1) = fil f g i := by
  funext k
  unfold fil
  by_cases h1 : k = i
  · subst h1; rw [if_pos (by omega), if_neg (by omega), h]
  · by_cases h2 : k < i
    · rw [if_pos h2, if_pos (by omega)]
    · rw [if_neg h2, if_neg (by omega)]
def xBase1 (S : WS) (n : Nat) : Int64 := if xTot (xIa S 1) (xLng S 0) n ≤ 0 then 0 else 10000 * xTot (xIa S 1) (xLng S 2) n / xTot (xIa S 1) (xLng S 0) n
def xRefit (S : WS) (n : Nat) : WS := xsLng (xsBase S (xBase1 S n)) 3 (fil (xFit (xsBase S (xBase1 S n))) (xLng S 3) n)
def xPassF (S : WS) (n t : Nat) : WS := xsFac S t (fil (xFound S n t) (xFac S t) (levN t))
def xPass (S : WS) (n t : Nat) : WS := xRefit (xPassF S n t) n
def xPasP (S : WS) (n t : Nat) : Nat → Bool := fun k => !decide (xFound S n t k = xFac S t k)
def xPassC (S : WS) (n t : Nat) : Nat := xCnt (xPasP S n t) (levN t)
def xRound (S : WS) (n : Nat) : Nat → WS
  | 0 => S
  | t + 1 => xPass (xRound S n t) n t
def xRoundC (S : WS) (n : Nat) : Nat → Nat
  | 0 => 0
  | t + 1 => xRoundC S n t + xPassC (xRound S n t) n t
theorem wW_lng (g : gG) (S : WS) {q : Nat} (hq : q < 4) : (wW g S)[lngP q]? = some (gA g (lngP q), .inl (gT g 1, 40, .inr (.inl (xLng S q)))) := by
  rcases (show q = 0 ∨ q = 1 ∨ q = 2 ∨ q = 3 by omega) with rfl | rfl | rfl | rfl <;> rfl
section WLNG
variable {p : Program} {l : Launch} {e : Env} {R : Room} {s : State} {m : MethodId} {args : Array Value} {below : List Frame} {meth : Method} {c : Code} {H : Heap} {locs : List Loc} {cells slots : Nat} {Q : State → Prop}
variable {cc : ByteArray} {pc : Nat} {ls : Array Slot} {rest : List Value} {g : gG} {S : WS} {own : String}
theorem ldX_lng (C : CW g own p s m args) (hb : c.code = cc) (hP : HW g S H) {q : Nat} (hq : q < 4) {i : Int32} {j : Nat} (hi : i = nI j) (hj : j < 40) (hdg : decode cc pc = .ok (.laload, 1)) (kk : W p l e R s m args below meth c H locs cells slots Q (F0 m (pc + 1) ls (.long (xLng S q j) :: rest))) : W p l e R s m args below meth c H locs cells slots Q (F0 m (pc) ls (.int i :: .ref (gA g (lngP q)) :: rest)) := by
  subst hi
  refine va_lald (D := gD g) (f := xLng S q) C.1 hb C.2.2.2.1 hP.1 (lngP q) 1 (wW_lng g S hq) rfl (vp_in_nI hj (by decide)) hdg ?_
  rw [nI_clamp (by omega)]
  exact kk
end WLNG
end
section
theorem ne0_nle {y : Int64} (h : ¬ y ≤ 0) : ¬ y = 0 := fun q => h (by rw [q]; decide)
theorem ne0_lt {y : Int64} (h : 0 < y) : ¬ y = 0 := fun q => absurd h (by rw [q]; decide)
theorem XI_lev {n : Nat} {S : WS} (hI : XI n S) {t k : Nat} (ht : t < 3) (hk : k < n) : xLev S t k = nI (tN (xLev S t k)) ∧ tN (xLev S t k) < 4 := by
  obtain ⟨j, hj, e⟩ := hI.2.2.1 t k ht hk
  rw [e, tN_nI (by omega)]
  exact ⟨rfl, hj⟩
theorem XI_lng3 {n : Nat} {S : WS} (f : Nat → Int64) (h : XI n S) : XI n (xsLng S 3 f) := h
theorem XI_base {n : Nat} {S : WS} (v : Int64) (h : XI n S) : XI n (xsBase S v) := h
theorem XI_fac {n : Nat} {S : WS} (t : Nat) (f : Nat → Int32) (h : XI n S) : XI n (xsFac S t f) := h
theorem XI_ia {n : Nat} {S : WS} (t : Nat) (f : Nat → Int32) (h : XI n S) : XI n (xsIa S t f) := h
theorem XI_refit {n : Nat} {S : WS} (h : XI n S) : XI n (xRefit S n) := h
theorem XI_pass {n : Nat} {S : WS} (t : Nat) (h : XI n S) : XI n (xPass S n t) := h
theorem XI_round {n : Nat} {S : WS} (h : XI n S) : ∀ t : Nat, XI n (xRound S n t)
  | 0 => h
  | t + 1 => XI_pass t (XI_round h t)
theorem xFit_lng3 (S : WS) (f : Nat → Int64) (r : Nat) : xFit (xsLng S 3 f) r = xFit S r := rfl
theorem lng_twice (S : WS) (q : Nat) (a b : Nat → Int64) : xsLng (xsLng S q a) q b = xsLng S q b := by
  show ((_, _, va_up (va_up S.1.2.2.1 q a) q b, _), _) = _
  rw [bx_uu]
theorem lng_at (S : WS) (q : Nat) (a : Nat → Int64) : xLng (xsLng S q a) q = a := va_up_self _ _ _
theorem fac_twice (S : WS) (q : Nat) (a b : Nat → Int32) : xsFac (xsFac S q a) q b = xsFac S q b := by
  show ((va_up (va_up S.1.1 q a) q b, _), _) = _
  rw [bx_uu]
theorem fac_at (S : WS) (q : Nat) (a : Nat → Int32) : xFac (xsFac S q a) q = a := va_up_self _ _ _
theorem ia_twice (S : WS) (q : Nat) (a b : Nat → Int32) : xsIa (xsIa S q a) q b = xsIa S q b := by
  show ((_, _, _, va_up (va_up S.1.2.2.2.1 q a) q b, _), _) = _
  rw [bx_uu]
theorem ia_at (S : WS) (q : Nat) (a : Nat → Int32) : xIa (xsIa S q a) q = a := va_up_self _ _ _
theorem fac_self (S : WS) (t : Nat) : xsFac S t (xFac S t) = S := by
  have h : va_up S.1.1 t (S.1.1 t) = S.1.1 := by
    funext j
    unfold va_up
    by_cases hj : j = t
    · rw [if_pos hj, hj]
    · rw [if_neg hj]
  show ((va_up S.1.1 t (S.1.1 t), _), _) = S
  rw [h]
theorem lng_self (S : WS) (t : Nat) : xsLng S t (xLng S t) = S := by
  have h : va_up S.1.2.2.1 t (S.1.2.2.1 t) = S.1.2.2.1 := by
    funext j
    unfold va_up
    by_cases hj : j = t
    · rw [if_pos hj, hj]
    · rw [if_neg hj]
  show ((_, _, va_up S.1.2.2.1 t (S.1.2.2.1 t), _), _) = S
  rw [h]
theorem ia_self (S : WS) (t : Nat) : xsIa S t (xIa S t) = S := by
  have h : va_up S.1.2.2.2.1 t (S.1.2.2.2.1 t) = S.1.2.2.2.1 := by
    funext j
    unfold va_up
    by_cases hj : j = t
    · rw [if_pos hj, hj]
    · rw [if_neg hj]
  show ((_, _, _, va_up S.1.2.2.2.1 t (S.1.2.2.2.1 t), _), _) = S
  rw [h]
theorem refit_0 (S : WS) (n : Nat) : xsLng (xsBase S (xBase1 S n)) 3 (fil (xFit (xsBase S (xBase1 S n))) (xLng S 3) 0) = xsBase S (xBase1 S n) := by
  rw [fil_0]
  exact lng_self (xsBase S (xBase1 S n)) 3
theorem refit_step (S : WS) (F G : Nat → Int64) (i : Nat) : xsLng (xsLng S 3 (fil F G i)) 3 (vp_updL (xLng (xsLng S 3 (fil F G i)) 3) i (F i)) = xsLng S 3 (fil F G (i + 1)) := by
  rw [lng_twice, lng_at, fil_sL]
theorem xFound_fil (S : WS) (n t i : Nat) (F : Nat → Int32) : xFound (xsFac S t (fil F (xFac S t) i)) n t i = xFound S n t i := by
  have h : xFac (xsFac S t (fil F (xFac S t) i)) t i = xFac S t i := by rw [fac_at, fil_at]
  unfold xFound
  rw [h]
theorem passf_0 (S : WS) (t : Nat) (F : Nat → Int32) : xsFac S t (fil F (xFac S t) 0) = S := by
  rw [fil_0]
  exact fac_self S t
theorem passf_step (S : WS) (t i : Nat) (F : Nat → Int32) : xsFac (xsFac S t (fil F (xFac S t) i)) t (upd (xFac (xsFac S t (fil F (xFac S t) i)) t) i (F i)) = xsFac S t (fil F (xFac S t) (i + 1)) := by
  rw [fac_twice, fac_at, fil_sI]
theorem passf_keep (S : WS) (t i : Nat) (F : Nat → Int32) (h : F i = xFac S t i) : xsFac S t (fil F (xFac S t) (i + 1)) = xsFac S t (fil F (xFac S t) i) := by
  rw [fil_k h]
/-- a sum of small numbers -/
theorem xLTot_small {live lv : Nat → Int32} {q : Int32} {f : Nat → Int64} {B : Nat} : ∀ k : Nat, (∀ i, i < k → ∃ c : Nat, c ≤ B ∧ f i = lN c) → ∃ c : Nat, c ≤ k * B ∧ xLTot live lv q f k = lN c
  | 0, _ => ⟨0, Nat.zero_le _, rfl⟩
  | k + 1, h => by
    obtain ⟨c, hc, e⟩ := xLTot_small (live := live) (lv := lv) (q := q) k (fun i hi => h i (by omega))
    obtain ⟨d, hd, e2⟩ := h k (by omega)
    have e3 : (k + 1) * B = k * B + B := Nat.succ_mul k B
    by_cases h1 : live k = 0
    · exact ⟨c, by omega, by rw [xLTot_z h1]; exact e⟩
    · by_cases h2 : lv k = q
      · exact ⟨c + d, by omega, by rw [xLTot_q h1 h2, e, e2, lN_add]⟩
      · exact ⟨c, by omega, by rw [xLTot_o h1 h2]; exact e⟩
theorem lN_pos {c : Nat} (hc : c < 2 ^ 31) (h : (0 : Int64) < lN c) : 0 < c := (lN_lt (a := 0) (by decide) hc).mp h
theorem lN_ne0 {c : Nat} (hc : c < 2 ^ 31) (h : 0 < c) : ¬ lN c = 0 := fun q => by
  have := (lN_eq (a := c) (b := 0) hc (by decide)).mp q
  omega
theorem xFound_div {n : Nat} {S : WS} (hI : XI n S) {live lv : Nat → Int32} {q : Int32} (h : 0 < xLTot live lv q (xLng S 1) n) : ¬ xLTot live lv q (xLng S 1) n + (xSc S 2).toInt64 = 0 := by
  obtain ⟨hn, -, -, hc, d, hd, e2⟩ := hI
  obtain ⟨c, hc1, e⟩ := xLTot_small (live := live) (lv := lv) (q := q) (B := 1000) n hc
  have hb : c ≤ 40000 := by have : n * 1000 ≤ 40 * 1000 := Nat.mul_le_mul_right _ hn; omega
  rw [e] at h ⊢
  have hp := lN_pos (by omega) h
  rw [e2, nI_l (by omega), lN_add]
  exact lN_ne0 (by omega) (by omega)
def wsum (P : Nat → Bool) (h : Nat → Int64) : Nat → Int64
  | 0 => 0
  | k + 1 => if P k then wsum P h k + h k else wsum P h k
theorem wsum_t {P : Nat → Bool} {h : Nat → Int64} {k : Nat} (e : P k = true) : wsum P h (k + 1) = wsum P h k + h k := if_pos e
theorem wsum_f {P : Nat → Bool} {h : Nat → Int64} {k : Nat} (e : P k = false) : wsum P h (k + 1) = wsum P h k := if_neg (by rw [e]; decide)
theorem wsum_z {P : Nat → Bool} {h : Nat → Int64} : ∀ {k : Nat}, (∀ i, i < k → P i = false) → wsum P h k = 0
  | 0, _ => rfl
  | k + 1, e => by rw [wsum_f (e k (by omega))]; exact wsum_z (fun i hi => e i (by omega))
theorem xCnt_z {P : Nat → Bool} : ∀ {k : Nat}, (∀ i, i < k → P i = false) → xCnt P k = 0
  | 0, _ => rfl
  | k + 1, e => by rw [xCnt_f (e k (by omega))]; exact xCnt_z (fun i hi => e i (by omega))
/-- the levels of the group that starts at st -/
def xGP (S : WS) (st : Nat) : Nat → Bool := fun k => decide (st ≤ k) && decide (xIa S 2 k = nI st)
def xWt (S : WS) (n t k : Nat) : Int64 := xLTot (xIa S 1) (xLev S t) (nI k) (xLng S 0) n
def xMean (S : WS) (n t st : Nat) : Int32 :=
  (if wsum (xGP S st) (xWt S n t) (levN t) ≤ 0 then wsum (xGP S st) (fun k => (xFac S t k).toInt64) (levN t) / (mxI (nI (xCnt (xGP S st) (levN t))) 1).toInt64
   else wsum (xGP S st) (fun k => xWt S n t k * (xFac S t k).toInt64) (levN t) / wsum (xGP S st) (xWt S n t) (levN t)).toInt32
theorem mxI_ne0 {k : Nat} (h : k ≤ 40) : ¬ (mxI (nI k) 1).toInt64 = 0 := by
  unfold mxI
  by_cases h1 : k = 0
  · subst h1; decide
  · rw [if_neg (fun q => by have := (nI_ltI (a := k) (b := 1) (by omega) (by decide)).mp q; omega), nI_l (by omega)]
    exact lN_ne0 (by omega) (by omega)
/-- the first level from i on that falls behind the one ahead of it -/
def xLowF (f : Nat → Int32) : Nat → Nat → Int32
  | 0, _ => -1
  | d + 1, i => if f (i - 1) ≤ f i then xLowF f d (i + 1) else nI i
def xLow (S : WS) (t : Nat) : Int32 := xLowF (xFac S t) (levN t - 1) 1
def xJoinG (S : WS) (t fl st : Nat) (i : Nat) : Nat → Int32 := fun k => if fl ≤ k ∧ k < i ∧ xIa S 2 k = nI fl then nI st else xIa S 2 k
def xJoin1 (S : WS) (t fl st : Nat) : WS := xsIa S 2 (xJoinG S t fl st (levN t))
def xJoinF (S : WS) (t st : Nat) (v : Int32) (i : Nat) : Nat → Int32 := fun k => if st ≤ k ∧ k < i ∧ xIa S 2 k = nI st then v else xFac S t k
def xJoin (S : WS) (n t fl st : Nat) : WS := xsFac (xJoin1 S t fl st) t (xJoinF (xJoin1 S t fl st) t st (xMean (xJoin1 S t fl st) n t st) (levN t))
theorem jg_0 (S : WS) (t fl st : Nat) : xsIa S 2 (xJoinG S t fl st fl) = S := by
  have h : xJoinG S t fl st fl = xIa S 2 := funext fun k => if_neg (fun q => by omega)
  rw [h]; exact ia_self S 2
theorem jg_keep (S : WS) (t fl st i : Nat) (h : ¬ xIa S 2 i = nI fl) : xJoinG S t fl st (i + 1) = xJoinG S t fl st i := by
  funext k
  unfold xJoinG
  by_cases hk : k = i
  · subst hk
    rw [if_neg (fun q => h q.2.2), if_neg (fun q => by omega)]
  · by_cases h2 : fl ≤ k ∧ k < i ∧ xIa S 2 k = nI fl
    · rw [if_pos h2, if_pos ⟨h2.1, by omega, h2.2.2⟩]
    · rw [if_neg h2, if_neg (fun q => h2 ⟨q.1, by omega, q.2.2⟩)]
theorem jg_put (S : WS) (t fl st i : Nat) (h0 : fl ≤ i) (h : xIa S 2 i = nI fl) : upd (xJoinG S t fl st i) i (nI st) = xJoinG S t fl st (i + 1) := by
  funext k
  unfold upd
  by_cases hk : k = i
  · subst hk
    rw [if_pos rfl]
    exact (if_pos ⟨h0, by omega, h⟩).symm
  · rw [if_neg hk]
    unfold xJoinG
    by_cases h2 : fl ≤ k ∧ k < i ∧ xIa S 2 k = nI fl
    · rw [if_pos h2, if_pos ⟨h2.1, by omega, h2.2.2⟩]
    · rw [if_neg h2, if_neg (fun q => h2 ⟨q.1, by omega, q.2.2⟩)]
theorem jg_at (S : WS) (t fl st i : Nat) : xJoinG S t fl st i i = xIa S 2 i := if_neg (fun q => by omega)
theorem jg_step (S : WS) (t fl st i : Nat) (h0 : fl ≤ i) (h : xIa S 2 i = nI fl) : xsIa (xsIa S 2 (xJoinG S t fl st i)) 2 (upd (xIa (xsIa S 2 (xJoinG S t fl st i)) 2) i (nI st)) = xsIa S 2 (xJoinG S t fl st (i + 1)) := by
  rw [ia_twice, ia_at, jg_put S t fl st i h0 h]
theorem jf_0 (S : WS) (t st : Nat) (v : Int32) : xsFac S t (xJoinF S t st v st) = S := by
  have h : xJoinF S t st v st = xFac S t := funext fun k => if_neg (fun q => by omega)
  rw [h]; exact fac_self S t
theorem jf_keep (S : WS) (t st i : Nat) (v : Int32) (h : ¬ xIa S 2 i = nI st) : xJoinF S t st v (i + 1) = xJoinF S t st v i := by
  funext k
  unfold xJoinF
  by_cases hk : k = i
  · subst hk
    rw [if_neg (fun q => h q.2.2), if_neg (fun q => by omega)]
  · by_cases h2 : st ≤ k ∧ k < i ∧ xIa S 2 k = nI st
    · rw [if_pos h2, if_pos ⟨h2.1, by omega, h2.2.2⟩]
    · rw [if_neg h2, if_neg (fun q => h2 ⟨q.1, by omega, q.2.2⟩)]
theorem jf_put (S : WS) (t st i : Nat) (v : Int32) (h0 : st ≤ i) (h : xIa S 2 i = nI st) : upd (xJoinF S t st v i) i v = xJoinF S t st v (i + 1) := by
  funext k
  unfold upd
  by_cases hk : k = i
  · subst hk
    rw [if_pos rfl]
    exact (if_pos ⟨h0, by omega, h⟩).symm
  · rw [if_neg hk]
    unfold xJoinF
    by_cases h2 : st ≤ k ∧ k < i ∧ xIa S 2 k = nI st
    · rw [if_pos h2, if_pos ⟨h2.1, by omega, h2.2.2⟩]
    · rw [if_neg h2, if_neg (fun q => h2 ⟨q.1, by omega, q.2.2⟩)]
theorem jf_step (S : WS) (t st i : Nat) (v : Int32) (h0 : st ≤ i) (h : xIa S 2 i = nI st) : xsFac (xsFac S t (xJoinF S t st v i)) t (upd (xFac (xsFac S t (xJoinF S t st v i)) t) i v) = xsFac S t (xJoinF S t st v (i + 1)) := by
  rw [fac_twice, fac_at, jf_put S t st i v h0 h]
def xChP (S : WS) (t : Nat) : Nat → Bool := fun k => !decide (xFac S t k = xIa S 3 k)
end
section
set_option maxRecDepth 100000 in
set_option maxHeartbeats 4000000 in
theorem k_X0_isWithin (l : Launch) (g : gG) (S : WS) (v lo hi : Int32) : Met l yX0_isWithin (wA yX0_isWithin cX0_isWithin 3 (some .boolean)) ({ frames := 0, cells := 0, slots := 0, locals := 0 }) (PW g S [.int v, .int lo, .int hi]) (RQ (some (.int (bI (xIsWithin v lo hi))))) 0 0 (fun _ => False) := by
  refine metI (by decide +kernel) (Nat.le_of_ble_eq_true rfl) ?_
  intro p e s m below meth c C hb hml hret hlk hP ls hl
  have C : CW g RX0 p s m ([.int v, .int lo, .int hi] : List Value).toArray := C
  have hS : va_S (Ab g) s.heap s.heap [] := va_S.rf
  have hl : lv_has ls 3 [(0, .int v), (1, .int lo), (2, .int hi)] := hl
  refine lv_iload_n C.1 hb dX0_isWithin_0 rfl (lv_at hl 0 rfl) ?_
  refine lv_iload_n C.1 hb dX0_isWithin_1 rfl (lv_at hl 1 rfl) ?_
  refine lv_icmp_lt (tgt := 14) C.1 hb dX0_isWithin_2 (by decide) (fun c1 => ?_) (fun c1 => ?_)
  · refine lv_iconst (v := 0) C.1 hb dX0_isWithin_14 (by decide) ?_
    exact rdZ C hb hret hlk dX0_isWithin_15 (by simp [xIsWithin, bI, c1])
  · refine lv_iload_n C.1 hb dX0_isWithin_5 rfl (lv_at hl 0 rfl) ?_
    refine lv_iload_n C.1 hb dX0_isWithin_6 rfl (lv_at hl 2 rfl) ?_
    refine lv_icmp_gt (tgt := 14) C.1 hb dX0_isWithin_7 (by decide) (fun c2 => ?_) (fun c2 => ?_)
    · refine lv_iconst (v := 0) C.1 hb dX0_isWithin_14 (by decide) ?_
      exact rdZ C hb hret hlk dX0_isWithin_15 (by simp [xIsWithin, bI, c1, c2])
    · refine lv_iconst (v := 1) C.1 hb dX0_isWithin_10 (by decide) ?_
      refine lv_goto (tgt := 15) C.1 hb dX0_isWithin_11 (by decide) ?_
      exact rdZ C hb hret hlk dX0_isWithin_15 (by simp [xIsWithin, bI, c1, c2])

set_option maxRecDepth 100000 in
set_option maxHeartbeats 4000000 in
theorem k_X0_hasTrait (l : Launch) (g : gG) (S : WS) (t : Int32) : Met l yX0_hasTrait (wA yX0_hasTrait cX0_hasTrait 1 (some .boolean)) ({ frames := 0, cells := 0, slots := 0, locals := 0 }) (PW g S [.int t]) (RQ (some (.int (bI (xHasTrait t))))) 0 0 (fun _ => False) := by
  refine metI (by decide +kernel) (Nat.le_of_ble_eq_true rfl) ?_
  intro p e s m below meth c C hb hml hret hlk hP ls hl
  have C : CW g RX0 p s m ([.int t] : List Value).toArray := C
  have hS : va_S (Ab g) s.heap s.heap [] := va_S.rf
  have hl : lv_has ls 1 [(0, .int t)] := hl
  refine lv_iload_n C.1 hb dX0_hasTrait_0 rfl (lv_at hl 0 rfl) ?_
  refine lv_if_lt (tgt := 13) C.1 hb dX0_hasTrait_1 (by decide) (fun c3 => ?_) (fun c3 => ?_)
  · refine lv_iconst (v := 0) C.1 hb dX0_hasTrait_13 (by decide) ?_
    exact rdZ C hb hret hlk dX0_hasTrait_14 (by simp [xHasTrait, bI, c3])
  · refine lv_iload_n C.1 hb dX0_hasTrait_4 rfl (lv_at hl 0 rfl) ?_
    refine lv_iconst (v := 3) C.1 hb dX0_hasTrait_5 (by decide) ?_
    refine lv_icmp_ge (tgt := 13) C.1 hb dX0_hasTrait_6 (by decide) (fun c4 => ?_) (fun c4 => ?_)
    · refine lv_iconst (v := 0) C.1 hb dX0_hasTrait_13 (by decide) ?_
      exact rdZ C hb hret hlk dX0_hasTrait_14 (by simp [xHasTrait, bI, c4])
    · refine lv_iconst (v := 1) C.1 hb dX0_hasTrait_9 (by decide) ?_
      refine lv_goto (tgt := 14) C.1 hb dX0_hasTrait_10 (by decide) ?_
      exact rdZ C hb hret hlk dX0_hasTrait_14 (by simp [xHasTrait, bI, c3, c4])

set_option maxRecDepth 100000 in
set_option maxHeartbeats 4000000 in
theorem k_X0_hasLevel (l : Launch) (g : gG) (S : WS) (t k : Int32) : Met l yX0_hasLevel (wA yX0_hasLevel cX0_hasLevel 2 (some .boolean)) ({ frames := 1, cells := 0, slots := 0, locals := 30 }) (PW g S [.int t, .int k]) (RQ (some (.int (bI (xHasLevel t k))))) 0 0 (fun _ => False) := by
  refine metI (by decide +kernel) (Nat.le_of_ble_eq_true rfl) ?_
  intro p e s m below meth c C hb hml hret hlk hP ls hl
  have C : CW g RX0 p s m ([.int t, .int k] : List Value).toArray := C
  have hS : va_S (Ab g) s.heap s.heap [] := va_S.rf
  have hl : lv_has ls 2 [(0, .int t), (1, .int k)] := hl
  refine lv_iload_n C.1 hb dX0_hasLevel_0 rfl (lv_at hl 0 rfl) ?_
  refine run_rd (cRunS (As := [.int t]) (rest := []) C hb (hml.trans hl.1.symm) hP hS (k_X0_hasTrait l g S t) wm_124 wm_125 wm_126 wm_12 (n := 1) (by decide +kernel) rfl ⟨rfl, rfl, Nat.le_of_ble_eq_true rfl, Nat.le_of_ble_eq_true rfl⟩ (Nat.le_of_ble_eq_true rfl) rfl ⟨Nat.zero_le _, Nat.zero_le _⟩ dX0_hasLevel_1) ?_
  refine bz_eq (tgt := 24) C hb dX0_hasLevel_4 (by decide) (fun c5 => ?_) (fun c5 => ?_)
  · refine lv_iconst (v := 0) C.1 hb dX0_hasLevel_24 (by decide) ?_
    exact rdZ C hb hret hlk dX0_hasLevel_25 (by simp [xHasLevel, bI, c5])
  · refine lv_iload_n C.1 hb dX0_hasLevel_7 rfl (lv_at hl 1 rfl) ?_
    refine lv_if_lt (tgt := 24) C.1 hb dX0_hasLevel_8 (by decide) (fun c6 => ?_) (fun c6 => ?_)
    · refine lv_iconst (v := 0) C.1 hb dX0_hasLevel_24 (by decide) ?_
      exact rdZ C hb hret hlk dX0_hasLevel_25 (by simp [xHasLevel, bI, c6])
    · have ht := xHasTrait_ix c5
      refine lv_iload_n C.1 hb dX0_hasLevel_11 rfl (lv_at hl 1 rfl) ?_
      refine gX_LEVELS C hb hS dX0_hasLevel_12 ?_
      refine lv_iload_n C.1 hb dX0_hasLevel_15 rfl (lv_at hl 0 rfl) ?_
      refine ldX_LEVELS (j := (tN t)) C hb hS ht.1 ht.2 dX0_hasLevel_16 ?_
      refine lv_icmp_ge (tgt := 24) C.1 hb dX0_hasLevel_17 (by decide) (fun c7 => ?_) (fun c7 => ?_)
      · refine lv_iconst (v := 0) C.1 hb dX0_hasLevel_24 (by decide) ?_
        exact rdZ C hb hret hlk dX0_hasLevel_25 (by simp [xHasLevel, bI, c7])
      · refine lv_iconst (v := 1) C.1 hb dX0_hasLevel_20 (by decide) ?_
        refine lv_goto (tgt := 25) C.1 hb dX0_hasLevel_21 (by decide) ?_
        exact rdZ C hb hret hlk dX0_hasLevel_25 (by simp [xHasLevel, bI, c5, c6, c7])

set_option maxRecDepth 100000 in
set_option maxHeartbeats 4000000 in
theorem k_X0_hasRow (l : Launch) (g : gG) (S : WS) (n : Nat) (hI : XI n S) (r : Int32) : Met l yX0_hasRow (wA yX0_hasRow cX0_hasRow 2 (some .boolean)) ({ frames := 0, cells := 0, slots := 0, locals := 0 }) (PW g S [.ref (gA g 0), .int r]) (RQ (some (.int (bI (xHasRow S r))))) 0 0 (fun _ => False) := by
  refine metI (by decide +kernel) (Nat.le_of_ble_eq_true rfl) ?_
  intro p e s m below meth c C hb hml hret hlk hP ls hl
  have C : CW g RX0 p s m ([.ref (gA g 0), .int r] : List Value).toArray := C
  have hS : va_S (Ab g) s.heap s.heap [] := va_S.rf
  have hl : lv_has ls 2 [(0, .ref (gA g 0)), (1, .int r)] := hl
  refine lv_iload_n C.1 hb dX0_hasRow_0 rfl (lv_at hl 1 rfl) ?_
  refine lv_if_lt (tgt := 25) C.1 hb dX0_hasRow_1 (by decide) (fun c8 => ?_) (fun c8 => ?_)
  · refine lv_iconst (v := 0) C.1 hb dX0_hasRow_25 (by decide) ?_
    exact rdZ C hb hret hlk dX0_hasRow_26 (by simp [xHasRow, bI, c8])
  · refine lv_iload_n C.1 hb dX0_hasRow_4 rfl (lv_at hl 1 rfl) ?_
    refine lv_aload_n C.1 hb dX0_hasRow_5 rfl (lv_at hl 0 rfl) ?_
    refine gX_addedRows C hb hP dX0_hasRow_6 ?_
    refine lv_icmp_ge (tgt := 25) C.1 hb dX0_hasRow_9 (by decide) (fun c9 => ?_) (fun c9 => ?_)
    · refine lv_iconst (v := 0) C.1 hb dX0_hasRow_25 (by decide) ?_
      exact rdZ C hb hret hlk dX0_hasRow_26 (by simp [xHasRow, bI, c9])
    · have hr2 := ixN (n := n) (by have := hI.1; omega) c8 (by rw [← hI.2.1]; exact c9)
      refine lv_aload_n C.1 hb dX0_hasRow_12 rfl (lv_at hl 0 rfl) ?_
      refine gX_live C hb hP dX0_hasRow_13 ?_
      refine lv_iload_n C.1 hb dX0_hasRow_16 rfl (lv_at hl 1 rfl) ?_
      refine ldX_live (j := (tN r)) C hb hP hr2.1 (by have := hr2.2; have := hI.1; omega) dX0_hasRow_17 ?_
      refine lv_if_eq (tgt := 25) C.1 hb dX0_hasRow_18 (by decide) (fun c10 => ?_) (fun c10 => ?_)
      · refine lv_iconst (v := 0) C.1 hb dX0_hasRow_25 (by decide) ?_
        exact rdZ C hb hret hlk dX0_hasRow_26 (by simp [xHasRow, bI, c10])
      · refine lv_iconst (v := 1) C.1 hb dX0_hasRow_21 (by decide) ?_
        refine lv_goto (tgt := 26) C.1 hb dX0_hasRow_22 (by decide) ?_
        exact rdZ C hb hret hlk dX0_hasRow_26 (by simp [xHasRow, bI, c8, c9, c10])

set_option maxRecDepth 100000 in
set_option maxHeartbeats 4000000 in
theorem k_X0_total (l : Launch) (g : gG) (S : WS) (n : Nat) (hI : XI n S) (q : Nat) (hq : q < 4) : Met l yX0_total (wA yX0_total cX0_total 5 (some .long)) ({ frames := 0, cells := 0, slots := 0, locals := 0 }) (PW g S [.ref (gA g 0), .ref (gA g (lngP q))]) (RQ (some (.long (xTot (xIa S 1) (xLng S q) n)))) 0 0 (fun _ => False) := by
  refine metI (by decide +kernel) (Nat.le_of_ble_eq_true rfl) ?_
  intro p e s m below meth c C hb hml hret hlk hP ls hl
  have C : CW g RX0 p s m ([.ref (gA g 0), .ref (gA g (lngP q))] : List Value).toArray := C
  have hS : va_S (Ab g) s.heap s.heap [] := va_S.rf
  have hl : lv_has ls 5 [(0, .ref (gA g 0)), (1, .ref (gA g (lngP q)))] := hl
  refine lv_lconst (v := 0) C.1 hb dX0_total_0 (by decide) ?_
  refine lv_lstore_n (lv' := [(2, .long 0), (0, .ref (gA g 0)), (1, .ref (gA g (lngP q)))]) C.1 hb dX0_total_1 rfl hl (by decide) rfl (fun ls hl => ?_)
  refine lv_iconst (v := 0) C.1 hb dX0_total_2 (by decide) ?_
  refine lv_istore (lv' := [(4, .int 0), (2, .long 0), (0, .ref (gA g 0)), (1, .ref (gA g (lngP q)))]) C.1 hb dX0_total_3 hl (by decide) rfl (fun ls hl => ?_)
  have key : ∀ f i : Nat, n - i < f → i ≤ n → ∀ ls : Array Slot, lv_has ls 5 [(0, .ref (gA g 0)), (1, .ref (gA g (lngP q))), (2, .long (xTot (xIa S 1) (xLng S q) i)), (4, .int (nI i))] → W p l e ({ frames := 0, cells := 0, slots := 0, locals := 0 }) s m ([.ref (gA g 0), .ref (gA g (lngP q))] : List Value).toArray below meth c s.heap [] 0 0 (MQ below (RQ (some (.long (xTot (xIa S 1) (xLng S q) n)))) ([.ref (gA g 0), .ref (gA g (lngP q))] : List Value).toArray s 0 0 (fun _ => False)) (F0 m 5 ls []) := by
    intro f
    induction f with
    | zero => intro i h; exact absurd h (Nat.not_lt_zero _)
    | succ f ih =>
      intro i hfi hi  ls hl
      refine lv_iload C.1 hb dX0_total_5 (lv_at hl 3 rfl) ?_
      refine lv_aload_n C.1 hb dX0_total_7 rfl (lv_at hl 0 rfl) ?_
      refine gX_addedRows C hb hP dX0_total_8 ?_
      refine lv_icmp_ge (tgt := 37) C.1 hb dX0_total_11 (by decide) (fun c11 => ?_) (fun c11 => ?_)
      · have hin : i = n := by have := le_nI (a := n) (b := i) (by have := hI.1; omega) (by have := hI.1; omega) (by rw [← hI.2.1]; exact c11); omega
        rw [hin] at hl
        refine lv_lload_n C.1 hb dX0_total_37 rfl (lv_at hl 2 rfl) ?_
        exact rdL C hb hret hlk dX0_total_38 rfl
      · have hlt : i < n := nle_nI (a := n) (b := i) (by have := hI.1; omega) (by have := hI.1; omega) (by rw [← hI.2.1]; exact c11)
        have hn40 := hI.1
        refine lv_aload_n C.1 hb dX0_total_14 rfl (lv_at hl 0 rfl) ?_
        refine gX_live C hb hP dX0_total_15 ?_
        refine lv_iload C.1 hb dX0_total_18 (lv_at hl 3 rfl) ?_
        refine ldX_live (j := i) C hb hP rfl (by omega) dX0_total_20 ?_
        refine lv_if_eq (tgt := 31) C.1 hb dX0_total_21 (by decide) (fun c12 => ?_) (fun c12 => ?_)
        · refine lv_iinc (v := nI (i + 1)) (lv' := [(4, .int (nI (i + 1))), (0, .ref (gA g 0)), (1, .ref (gA g (lngP q))), (2, .long (xTot (xIa S 1) (xLng S q) i))]) C.1 hb dX0_total_31 hl (k := 3) rfl (nI_1 i) (by decide) rfl (fun ls hl => ?_)
          refine lv_goto (tgt := 5) C.1 hb dX0_total_34 (by decide) ?_
          exact ih (i + 1) (by omega) (by omega)  ls (by rw [xTot_z c12]; exact lv_sub hl [1, 2, 3, 0] rfl)
        · refine lv_lload_n C.1 hb dX0_total_24 rfl (lv_at hl 2 rfl) ?_
          refine lv_aload_n C.1 hb dX0_total_25 rfl (lv_at hl 1 rfl) ?_
          refine lv_iload C.1 hb dX0_total_26 (lv_at hl 3 rfl) ?_
          refine ldX_lng (q := q) (j := i) C hb hP hq rfl (by omega) dX0_total_28 ?_
          refine lv_ladd C.1 hb dX0_total_29 ?_
          refine lv_lstore_n (lv' := [(2, .long ((xTot (xIa S 1) (xLng S q) i) + (xLng S q i))), (0, .ref (gA g 0)), (1, .ref (gA g (lngP q))), (4, .int (nI i))]) C.1 hb dX0_total_30 rfl hl (by decide) rfl (fun ls hl => ?_)
          refine lv_iinc (v := nI (i + 1)) (lv' := [(4, .int (nI (i + 1))), (2, .long ((xTot (xIa S 1) (xLng S q) i) + (xLng S q i))), (0, .ref (gA g 0)), (1, .ref (gA g (lngP q)))]) C.1 hb dX0_total_31 hl (k := 3) rfl (nI_1 i) (by decide) rfl (fun ls hl => ?_)
          refine lv_goto (tgt := 5) C.1 hb dX0_total_34 (by decide) ?_
          exact ih (i + 1) (by omega) (by omega)  ls (by rw [xTot_n c12]; exact lv_sub hl [2, 3, 1, 0] rfl)
  exact key (n - 0 + 1) 0 (by omega) (by omega)  ls (lv_sub hl [2, 3, 1, 0] rfl)

set_option maxRecDepth 100000 in
set_option maxHeartbeats 4000000 in
theorem k_X0_levelTotal (l : Launch) (g : gG) (S : WS) (n : Nat) (hI : XI n S) (q : Nat) (hq : q < 4) (t : Nat) (ht : t < 3) (k : Int32) : Met l yX0_levelTotal (wA yX0_levelTotal cX0_levelTotal 7 (some .long)) ({ frames := 0, cells := 0, slots := 0, locals := 0 }) (PW g S [.ref (gA g 0), .ref (gA g (lngP q)), .int (nI t), .int k]) (RQ (some (.long (xLTot (xIa S 1) (xLev S t) k (xLng S q) n)))) 0 0 (fun _ => False) := by
  refine metI (by decide +kernel) (Nat.le_of_ble_eq_true rfl) ?_
  intro p e s m below meth c C hb hml hret hlk hP ls hl
  have C : CW g RX0 p s m ([.ref (gA g 0), .ref (gA g (lngP q)), .int (nI t), .int k] : List Value).toArray := C
  have hS : va_S (Ab g) s.heap s.heap [] := va_S.rf
  have hl : lv_has ls 7 [(0, .ref (gA g 0)), (1, .ref (gA g (lngP q))), (2, .int (nI t)), (3, .int k)] := hl
  refine lv_lconst (v := 0) C.1 hb dX0_levelTotal_0 (by decide) ?_
  refine lv_lstore (lv' := [(4, .long 0), (0, .ref (gA g 0)), (1, .ref (gA g (lngP q))), (2, .int (nI t)), (3, .int k)]) C.1 hb dX0_levelTotal_1 hl (by decide) rfl (fun ls hl => ?_)
  refine lv_iconst (v := 0) C.1 hb dX0_levelTotal_3 (by decide) ?_
  refine lv_istore (lv' := [(6, .int 0), (4, .long 0), (0, .ref (gA g 0)), (1, .ref (gA g (lngP q))), (2, .int (nI t)), (3, .int k)]) C.1 hb dX0_levelTotal_4 hl (by decide) rfl (fun ls hl => ?_)
  have key : ∀ f i : Nat, n - i < f → i ≤ n → ∀ ls : Array Slot, lv_has ls 7 [(0, .ref (gA g 0)), (1, .ref (gA g (lngP q))), (2, .int (nI t)), (3, .int k), (4, .long (xLTot (xIa S 1) (xLev S t) k (xLng S q) i)), (6, .int (nI i))] → W p l e ({ frames := 0, cells := 0, slots := 0, locals := 0 }) s m ([.ref (gA g 0), .ref (gA g (lngP q)), .int (nI t), .int k] : List Value).toArray below meth c s.heap [] 0 0 (MQ below (RQ (some (.long (xLTot (xIa S 1) (xLev S t) k (xLng S q) n)))) ([.ref (gA g 0), .ref (gA g (lngP q)), .int (nI t), .int k] : List Value).toArray s 0 0 (fun _ => False)) (F0 m 6 ls []) := by
    intro f
    induction f with
    | zero => intro i h; exact absurd h (Nat.not_lt_zero _)
    | succ f ih =>
      intro i hfi hi  ls hl
      refine lv_iload C.1 hb dX0_levelTotal_6 (lv_at hl 5 rfl) ?_
      refine lv_aload_n C.1 hb dX0_levelTotal_8 rfl (lv_at hl 0 rfl) ?_
      refine gX_addedRows C hb hP dX0_levelTotal_9 ?_
      refine lv_icmp_ge (tgt := 53) C.1 hb dX0_levelTotal_12 (by decide) (fun c13 => ?_) (fun c13 => ?_)
      · have hin : i = n := by have := le_nI (a := n) (b := i) (by have := hI.1; omega) (by have := hI.1; omega) (by rw [← hI.2.1]; exact c13); omega
        rw [hin] at hl
        refine lv_lload C.1 hb dX0_levelTotal_53 (lv_at hl 4 rfl) ?_
        exact rdL C hb hret hlk dX0_levelTotal_55 rfl
      · have hlt : i < n := nle_nI (a := n) (b := i) (by have := hI.1; omega) (by have := hI.1; omega) (by rw [← hI.2.1]; exact c13)
        have hn40 := hI.1
        refine lv_aload_n C.1 hb dX0_levelTotal_15 rfl (lv_at hl 0 rfl) ?_
        refine gX_live C hb hP dX0_levelTotal_16 ?_
        refine lv_iload C.1 hb dX0_levelTotal_19 (lv_at hl 5 rfl) ?_
        refine ldX_live (j := i) C hb hP rfl (by omega) dX0_levelTotal_21 ?_
        refine lv_if_eq (tgt := 47) C.1 hb dX0_levelTotal_22 (by decide) (fun c14 => ?_) (fun c14 => ?_)
        · refine lv_iinc (v := nI (i + 1)) (lv' := [(6, .int (nI (i + 1))), (0, .ref (gA g 0)), (1, .ref (gA g (lngP q))), (2, .int (nI t)), (3, .int k), (4, .long (xLTot (xIa S 1) (xLev S t) k (xLng S q) i))]) C.1 hb dX0_levelTotal_47 hl (k := 5) rfl (nI_1 i) (by decide) rfl (fun ls hl => ?_)
          refine lv_goto (tgt := 6) C.1 hb dX0_levelTotal_50 (by decide) ?_
          exact ih (i + 1) (by omega) (by omega)  ls (by rw [xLTot_z c14]; exact lv_sub hl [1, 2, 3, 4, 5, 0] rfl)
        · refine lv_aload_n C.1 hb dX0_levelTotal_25 rfl (lv_at hl 0 rfl) ?_
          refine gX_rowLevels C hb hP dX0_levelTotal_26 ?_
          refine lv_iload_n C.1 hb dX0_levelTotal_29 rfl (lv_at hl 2 rfl) ?_
          refine al_lev (t := t) C hb hP rfl ht dX0_levelTotal_30 ?_
          refine lv_iload C.1 hb dX0_levelTotal_31 (lv_at hl 5 rfl) ?_
          refine ldX_lev (t := t) (j := i) C hb hP ht rfl (by omega) dX0_levelTotal_33 ?_
          refine lv_iload_n C.1 hb dX0_levelTotal_34 rfl (lv_at hl 3 rfl) ?_
          refine lv_icmp_ne (tgt := 47) C.1 hb dX0_levelTotal_35 (by decide) (fun c15 => ?_) (fun c15 => ?_)
          · refine lv_iinc (v := nI (i + 1)) (lv' := [(6, .int (nI (i + 1))), (0, .ref (gA g 0)), (1, .ref (gA g (lngP q))), (2, .int (nI t)), (3, .int k), (4, .long (xLTot (xIa S 1) (xLev S t) k (xLng S q) i))]) C.1 hb dX0_levelTotal_47 hl (k := 5) rfl (nI_1 i) (by decide) rfl (fun ls hl => ?_)
            refine lv_goto (tgt := 6) C.1 hb dX0_levelTotal_50 (by decide) ?_
            exact ih (i + 1) (by omega) (by omega)  ls (by rw [xLTot_o c14 c15]; exact lv_sub hl [1, 2, 3, 4, 5, 0] rfl)
          · refine lv_lload C.1 hb dX0_levelTotal_38 (lv_at hl 4 rfl) ?_
            refine lv_aload_n C.1 hb dX0_levelTotal_40 rfl (lv_at hl 1 rfl) ?_
            refine lv_iload C.1 hb dX0_levelTotal_41 (lv_at hl 5 rfl) ?_
            refine ldX_lng (q := q) (j := i) C hb hP hq rfl (by omega) dX0_levelTotal_43 ?_
            refine lv_ladd C.1 hb dX0_levelTotal_44 ?_
            refine lv_lstore (lv' := [(4, .long ((xLTot (xIa S 1) (xLev S t) k (xLng S q) i) + (xLng S q i))), (0, .ref (gA g 0)), (1, .ref (gA g (lngP q))), (2, .int (nI t)), (3, .int k), (6, .int (nI i))]) C.1 hb dX0_levelTotal_45 hl (by decide) rfl (fun ls hl => ?_)
            refine lv_iinc (v := nI (i + 1)) (lv' := [(6, .int (nI (i + 1))), (4, .long ((xLTot (xIa S 1) (xLev S t) k (xLng S q) i) + (xLng S q i))), (0, .ref (gA g 0)), (1, .ref (gA g (lngP q))), (2, .int (nI t)), (3, .int k)]) C.1 hb dX0_levelTotal_47 hl (k := 5) rfl (nI_1 i) (by decide) rfl (fun ls hl => ?_)
            refine lv_goto (tgt := 6) C.1 hb dX0_levelTotal_50 (by decide) ?_
            exact ih (i + 1) (by omega) (by omega)  ls (by rw [xLTot_q c14 c15]; exact lv_sub hl [2, 3, 4, 5, 1, 0] rfl)
  exact key (n - 0 + 1) 0 (by omega) (by omega)  ls (lv_sub hl [2, 3, 4, 5, 1, 0] rfl)
end
section
set_option maxRecDepth 100000 in
set_option maxHeartbeats 4000000 in
theorem k_X0_bounded (l : Launch) (g : gG) (S : WS) (v lo hi : Int64) : Met l yX0_bounded (wA yX0_bounded cX0_bounded 6 (some .long)) ({ frames := 1, cells := 0, slots := 0, locals := 40 }) (PW g S [.long v, .long lo, .long hi]) (RQ (some (.long (xBnd v lo hi)))) 0 0 (fun _ => False) := by
  refine metI (by decide +kernel) (Nat.le_of_ble_eq_true rfl) ?_
  intro p e s m below meth c C hb hml hret hlk hP ls hl
  have C : CW g RX0 p s m ([.long v, .long lo, .long hi] : List Value).toArray := C
  have hS : va_S (Ab g) s.heap s.heap [] := va_S.rf
  have hl : lv_has ls 6 [(0, .long v), (2, .long lo), (4, .long hi)] := hl
  refine lv_lload_n C.1 hb dX0_bounded_0 rfl (lv_at hl 0 rfl) ?_
  refine lv_lload_n C.1 hb dX0_bounded_1 rfl (lv_at hl 1 rfl) ?_
  refine va_mmax_long C.1 hb (hml.trans hl.1.symm) C.2.1 (C.2.2.1 _ wm_78) (C.2.2.1 _ wm_79) (C.2.2.1 _ wm_80) (C.2.2.1 _ wm_81) (Nat.le_of_ble_eq_true rfl) (Nat.le_of_ble_eq_true rfl) (Nat.zero_le _) (Nat.zero_le _) dX0_bounded_2 ?_
  refine lv_lload C.1 hb dX0_bounded_5 (lv_at hl 2 rfl) ?_
  refine va_mmin_long C.1 hb (hml.trans hl.1.symm) C.2.1 (C.2.2.1 _ wm_82) (C.2.2.1 _ wm_83) (C.2.2.1 _ wm_80) (C.2.2.1 _ wm_84) (Nat.le_of_ble_eq_true rfl) (Nat.le_of_ble_eq_true rfl) (Nat.zero_le _) (Nat.zero_le _) dX0_bounded_7 ?_
  exact rdL C hb hret hlk dX0_bounded_10 rfl

set_option maxRecDepth 100000 in
set_option maxHeartbeats 4000000 in
theorem k_X0_isAhead (l : Launch) (g : gG) (S : WS) (r q : Nat) (hr : r < 40) (hq : q < 40) : Met l yX0_isAhead (wA yX0_isAhead cX0_isAhead 7 (some .boolean)) ({ frames := 0, cells := 0, slots := 0, locals := 0 }) (PW g S [.ref (gA g 0), .int (nI r), .int (nI q)]) (RQ (some (.int (bI (xAhead S r q))))) 0 0 (fun _ => False) := by
  refine metI (by decide +kernel) (Nat.le_of_ble_eq_true rfl) ?_
  intro p e s m below meth c C hb hml hret hlk hP ls hl
  have C : CW g RX0 p s m ([.ref (gA g 0), .int (nI r), .int (nI q)] : List Value).toArray := C
  have hS : va_S (Ab g) s.heap s.heap [] := va_S.rf
  have hl : lv_has ls 7 [(0, .ref (gA g 0)), (1, .int (nI r)), (2, .int (nI q))] := hl
  refine lv_aload_n C.1 hb dX0_isAhead_0 rfl (lv_at hl 0 rfl) ?_
  refine gX_losses C hb hP dX0_isAhead_1 ?_
  refine lv_iload_n C.1 hb dX0_isAhead_4 rfl (lv_at hl 1 rfl) ?_
  refine ldX_losses (j := r) C hb hP rfl (by omega) dX0_isAhead_5 ?_
  refine lv_lconst (v := 1) C.1 hb dX0_isAhead_6 (by decide) ?_
  refine lv_aload_n C.1 hb dX0_isAhead_7 rfl (lv_at hl 0 rfl) ?_
  refine gX_fittedLosses C hb hP dX0_isAhead_8 ?_
  refine lv_iload_n C.1 hb dX0_isAhead_11 rfl (lv_at hl 2 rfl) ?_
  refine ldX_fittedLosses (j := q) C hb hP rfl (by omega) dX0_isAhead_12 ?_
  refine lv_ladd C.1 hb dX0_isAhead_13 ?_
  refine lv_lmul C.1 hb dX0_isAhead_14 ?_
  refine lv_lstore_n (lv' := [(3, .long ((xLng S 2 r) * (1 + (xLng S 3 q)))), (0, .ref (gA g 0)), (1, .int (nI r)), (2, .int (nI q))]) C.1 hb dX0_isAhead_15 rfl hl (by decide) rfl (fun ls hl => ?_)
  refine lv_aload_n C.1 hb dX0_isAhead_16 rfl (lv_at hl 1 rfl) ?_
  refine gX_losses C hb hP dX0_isAhead_17 ?_
  refine lv_iload_n C.1 hb dX0_isAhead_20 rfl (lv_at hl 3 rfl) ?_
  refine ldX_losses (j := q) C hb hP rfl (by omega) dX0_isAhead_21 ?_
  refine lv_lconst (v := 1) C.1 hb dX0_isAhead_22 (by decide) ?_
  refine lv_aload_n C.1 hb dX0_isAhead_23 rfl (lv_at hl 1 rfl) ?_
  refine gX_fittedLosses C hb hP dX0_isAhead_24 ?_
  refine lv_iload_n C.1 hb dX0_isAhead_27 rfl (lv_at hl 2 rfl) ?_
  refine ldX_fittedLosses (j := r) C hb hP rfl (by omega) dX0_isAhead_28 ?_
  refine lv_ladd C.1 hb dX0_isAhead_29 ?_
  refine lv_lmul C.1 hb dX0_isAhead_30 ?_
  refine lv_lstore (lv' := [(5, .long ((xLng S 2 q) * (1 + (xLng S 3 r)))), (3, .long ((xLng S 2 r) * (1 + (xLng S 3 q)))), (0, .ref (gA g 0)), (1, .int (nI r)), (2, .int (nI q))]) C.1 hb dX0_isAhead_31 hl (by decide) rfl (fun ls hl => ?_)
  refine lv_lload_n C.1 hb dX0_isAhead_33 rfl (lv_at hl 1 rfl) ?_
  refine lv_lload C.1 hb dX0_isAhead_34 (lv_at hl 0 rfl) ?_
  refine lc_gt (tgt := 52) C hb dX0_isAhead_36 dX0_isAhead_37 (by decide) (fun c16 => ?_) (fun c16 => ?_)
  · refine lv_iconst (v := 1) C.1 hb dX0_isAhead_52 (by decide) ?_
    refine lv_goto (tgt := 57) C.1 hb dX0_isAhead_53 (by decide) ?_
    exact rdZ C hb hret hlk dX0_isAhead_57 (by simp [xAhead, bI, c16])
  · refine lv_lload_n C.1 hb dX0_isAhead_40 rfl (lv_at hl 1 rfl) ?_
    refine lv_lload C.1 hb dX0_isAhead_41 (lv_at hl 0 rfl) ?_
    refine lc_ne (tgt := 56) C hb dX0_isAhead_43 dX0_isAhead_44 (by decide) (fun c17 => ?_) (fun c17 => ?_)
    · refine lv_iconst (v := 0) C.1 hb dX0_isAhead_56 (by decide) ?_
      exact rdZ C hb hret hlk dX0_isAhead_57 (by simp [xAhead, bI, c16, c17])
    · refine lv_iload_n C.1 hb dX0_isAhead_47 rfl (lv_at hl 3 rfl) ?_
      refine lv_iload_n C.1 hb dX0_isAhead_48 rfl (lv_at hl 4 rfl) ?_
      refine lv_icmp_ge (tgt := 56) C.1 hb dX0_isAhead_49 (by decide) (fun c18 => ?_) (fun c18 => ?_)
      · refine lv_iconst (v := 0) C.1 hb dX0_isAhead_56 (by decide) ?_
        exact rdZ C hb hret hlk dX0_isAhead_57 (by simp [xAhead, bI, c16, c17, c18])
      · refine lv_iconst (v := 1) C.1 hb dX0_isAhead_52 (by decide) ?_
        refine lv_goto (tgt := 57) C.1 hb dX0_isAhead_53 (by decide) ?_
        exact rdZ C hb hret hlk dX0_isAhead_57 (by simp [xAhead, bI, c16, c17, c18])

set_option maxRecDepth 100000 in
set_option maxHeartbeats 4000000 in
theorem k_X0_placeOf (l : Launch) (g : gG) (S : WS) (n : Nat) (hI : XI n S) (r : Nat) (hr : r < 40) : Met l yX0_placeOf (wA yX0_placeOf cX0_placeOf 4 (some .int)) ({ frames := 1, cells := 0, slots := 0, locals := 40 }) (PW g S [.ref (gA g 0), .int (nI r)]) (RQ (some (.int (nI (xPlace S r n))))) 0 0 (fun _ => False) := by
  refine metI (by decide +kernel) (Nat.le_of_ble_eq_true rfl) ?_
  intro p e s m below meth c C hb hml hret hlk hP ls hl
  have C : CW g RX0 p s m ([.ref (gA g 0), .int (nI r)] : List Value).toArray := C
  have hS : va_S (Ab g) s.heap s.heap [] := va_S.rf
  have hl : lv_has ls 4 [(0, .ref (gA g 0)), (1, .int (nI r))] := hl
  refine lv_iconst (v := 0) C.1 hb dX0_placeOf_0 (by decide) ?_
  refine lv_istore_n (lv' := [(2, .int 0), (0, .ref (gA g 0)), (1, .int (nI r))]) C.1 hb dX0_placeOf_1 rfl hl (by decide) rfl (fun ls hl => ?_)
  refine lv_iconst (v := 0) C.1 hb dX0_placeOf_2 (by decide) ?_
  refine lv_istore_n (lv' := [(3, .int 0), (2, .int 0), (0, .ref (gA g 0)), (1, .int (nI r))]) C.1 hb dX0_placeOf_3 rfl hl (by decide) rfl (fun ls hl => ?_)
  have key : ∀ f i : Nat, n - i < f → i ≤ n → ∀ ls : Array Slot, lv_has ls 4 [(0, .ref (gA g 0)), (1, .int (nI r)), (2, .int (nI (xCnt (xPlP S r) i))), (3, .int (nI i))] → W p l e ({ frames := 1, cells := 0, slots := 0, locals := 40 }) s m ([.ref (gA g 0), .int (nI r)] : List Value).toArray below meth c s.heap [] 0 0 (MQ below (RQ (some (.int (nI (xPlace S r n))))) ([.ref (gA g 0), .int (nI r)] : List Value).toArray s 0 0 (fun _ => False)) (F0 m 4 ls []) := by
    intro f
    induction f with
    | zero => intro i h; exact absurd h (Nat.not_lt_zero _)
    | succ f ih =>
      intro i hfi hi  ls hl
      refine lv_iload_n C.1 hb dX0_placeOf_4 rfl (lv_at hl 3 rfl) ?_
      refine lv_aload_n C.1 hb dX0_placeOf_5 rfl (lv_at hl 0 rfl) ?_
      refine gX_addedRows C hb hP dX0_placeOf_6 ?_
      refine lv_icmp_ge (tgt := 39) C.1 hb dX0_placeOf_9 (by decide) (fun c19 => ?_) (fun c19 => ?_)
      · have hin : i = n := by have := le_nI (a := n) (b := i) (by have := hI.1; omega) (by have := hI.1; omega) (by rw [← hI.2.1]; exact c19); omega
        rw [hin] at hl
        refine lv_iload_n C.1 hb dX0_placeOf_39 rfl (lv_at hl 2 rfl) ?_
        exact rdI C hb hret hlk dX0_placeOf_40 rfl
      · have hlt : i < n := nle_nI (a := n) (b := i) (by have := hI.1; omega) (by have := hI.1; omega) (by rw [← hI.2.1]; exact c19)
        have hn40 := hI.1
        refine lv_aload_n C.1 hb dX0_placeOf_12 rfl (lv_at hl 0 rfl) ?_
        refine gX_live C hb hP dX0_placeOf_13 ?_
        refine lv_iload_n C.1 hb dX0_placeOf_16 rfl (lv_at hl 3 rfl) ?_
        refine ldX_live (j := i) C hb hP rfl (by omega) dX0_placeOf_17 ?_
        refine lv_if_eq (tgt := 33) C.1 hb dX0_placeOf_18 (by decide) (fun c20 => ?_) (fun c20 => ?_)
        · refine lv_iinc (v := nI (i + 1)) (lv' := [(3, .int (nI (i + 1))), (0, .ref (gA g 0)), (1, .int (nI r)), (2, .int (nI (xCnt (xPlP S r) i)))]) C.1 hb dX0_placeOf_33 hl (k := 3) rfl (nI_1 i) (by decide) rfl (fun ls hl => ?_)
          refine lv_goto (tgt := 4) C.1 hb dX0_placeOf_36 (by decide) ?_
          exact ih (i + 1) (by omega) (by omega)  ls (by rw [xCnt_f (by simp [xPlP, c20])]; exact lv_sub hl [1, 2, 3, 0] rfl)
        · refine lv_aload_n C.1 hb dX0_placeOf_21 rfl (lv_at hl 0 rfl) ?_
          refine lv_iload_n C.1 hb dX0_placeOf_22 rfl (lv_at hl 3 rfl) ?_
          refine lv_iload_n C.1 hb dX0_placeOf_23 rfl (lv_at hl 1 rfl) ?_
          refine run_rd (cRunX (As := [.int (nI i), .int (nI r)]) (rest := []) C hb (hml.trans hl.1.symm) hP hS rfl (k_X0_isAhead l g S i r (by omega) hr) wm_276 wm_277 wm_278 wm_279 wm_12 (n := 2) (by decide +kernel) rfl ⟨rfl, rfl, Nat.le_of_ble_eq_true rfl, Nat.le_of_ble_eq_true rfl⟩ (Nat.le_of_ble_eq_true rfl) rfl ⟨Nat.zero_le _, Nat.zero_le _⟩ dX0_placeOf_24) ?_
          refine bz_eq (tgt := 33) C hb dX0_placeOf_27 (by decide) (fun c21 => ?_) (fun c21 => ?_)
          · refine lv_iinc (v := nI (i + 1)) (lv' := [(3, .int (nI (i + 1))), (0, .ref (gA g 0)), (1, .int (nI r)), (2, .int (nI (xCnt (xPlP S r) i)))]) C.1 hb dX0_placeOf_33 hl (k := 3) rfl (nI_1 i) (by decide) rfl (fun ls hl => ?_)
            refine lv_goto (tgt := 4) C.1 hb dX0_placeOf_36 (by decide) ?_
            exact ih (i + 1) (by omega) (by omega)  ls (by rw [xCnt_f (by simp [xPlP, c20, c21])]; exact lv_sub hl [1, 2, 3, 0] rfl)
          · refine lv_iinc (v := nI ((xCnt (xPlP S r) i) + 1)) (lv' := [(2, .int (nI ((xCnt (xPlP S r) i) + 1))), (0, .ref (gA g 0)), (1, .int (nI r)), (3, .int (nI i))]) C.1 hb dX0_placeOf_30 hl (k := 2) rfl (nI_1 (xCnt (xPlP S r) i)) (by decide) rfl (fun ls hl => ?_)
            refine lv_iinc (v := nI (i + 1)) (lv' := [(3, .int (nI (i + 1))), (2, .int (nI ((xCnt (xPlP S r) i) + 1))), (0, .ref (gA g 0)), (1, .int (nI r))]) C.1 hb dX0_placeOf_33 hl (k := 3) rfl (nI_1 i) (by decide) rfl (fun ls hl => ?_)
            refine lv_goto (tgt := 4) C.1 hb dX0_placeOf_36 (by decide) ?_
            exact ih (i + 1) (by omega) (by omega)  ls (by rw [xCnt_t (by simp [xPlP, c20, c21])]; exact lv_sub hl [2, 3, 1, 0] rfl)
  exact key (n - 0 + 1) 0 (by omega) (by omega)  ls (lv_sub hl [2, 3, 1, 0] rfl)

set_option maxRecDepth 100000 in
set_option maxHeartbeats 4000000 in
theorem k_X0_newPremium (l : Launch) (g : gG) (S : WS) (r : Nat) (hr : r < 40) : Met l yX0_newPremium (wA yX0_newPremium cX0_newPremium 2 (some .long)) ({ frames := 0, cells := 0, slots := 0, locals := 0 }) (PW g S [.ref (gA g 0), .int (nI r)]) (RQ (some (.long (xNewP S r)))) 0 0 (fun _ => False) := by
  refine metI (by decide +kernel) (Nat.le_of_ble_eq_true rfl) ?_
  intro p e s m below meth c C hb hml hret hlk hP ls hl
  have C : CW g RX0 p s m ([.ref (gA g 0), .int (nI r)] : List Value).toArray := C
  have hS : va_S (Ab g) s.heap s.heap [] := va_S.rf
  have hl : lv_has ls 2 [(0, .ref (gA g 0)), (1, .int (nI r))] := hl
  refine lv_aload_n C.1 hb dX0_newPremium_0 rfl (lv_at hl 0 rfl) ?_
  refine gX_fittedLosses C hb hP dX0_newPremium_1 ?_
  refine lv_iload_n C.1 hb dX0_newPremium_4 rfl (lv_at hl 1 rfl) ?_
  refine ldX_fittedLosses (j := r) C hb hP rfl (by omega) dX0_newPremium_5 ?_
  refine lv_aload_n C.1 hb dX0_newPremium_6 rfl (lv_at hl 0 rfl) ?_
  refine gX_spreadNow C hb hP dX0_newPremium_7 ?_
  refine lv_i2l C.1 hb dX0_newPremium_10 rfl ?_
  refine lv_lmul C.1 hb dX0_newPremium_11 ?_
  refine lv_ldc2 (v := 10000) C.1 hb C.2.1 (C.2.2.1 _ wm_89) dX0_newPremium_12 ?_
  refine lv_ldiv C.1 hb dX0_newPremium_15 (by decide) ?_
  exact rdL C hb hret hlk dX0_newPremium_16 rfl

set_option maxRecDepth 100000 in
set_option maxHeartbeats 4000000 in
theorem k_X0_cappedPremium (l : Launch) (g : gG) (S : WS) (r : Nat) (hr : r < 40) : Met l yX0_cappedPremium (wA yX0_cappedPremium cX0_cappedPremium 8 (some .long)) ({ frames := 2, cells := 0, slots := 0, locals := 80 }) (PW g S [.ref (gA g 0), .int (nI r)]) (RQ (some (.long (xCapP S r)))) 0 0 (fun _ => False) := by
  refine metI (by decide +kernel) (Nat.le_of_ble_eq_true rfl) ?_
  intro p e s m below meth c C hb hml hret hlk hP ls hl
  have C : CW g RX0 p s m ([.ref (gA g 0), .int (nI r)] : List Value).toArray := C
  have hS : va_S (Ab g) s.heap s.heap [] := va_S.rf
  have hl : lv_has ls 8 [(0, .ref (gA g 0)), (1, .int (nI r))] := hl
  refine lv_aload_n C.1 hb dX0_cappedPremium_0 rfl (lv_at hl 0 rfl) ?_
  refine gX_cap C hb hP dX0_cappedPremium_1 ?_
  refine lv_iconst (v := (-1)) C.1 hb dX0_cappedPremium_4 (by decide) ?_
  refine lv_icmp_eq (tgt := 18) C.1 hb dX0_cappedPremium_5 (by decide) (fun c22 => ?_) (fun c22 => ?_)
  · refine lv_aload_n C.1 hb dX0_cappedPremium_18 rfl (lv_at hl 0 rfl) ?_
    refine lv_iload_n C.1 hb dX0_cappedPremium_19 rfl (lv_at hl 1 rfl) ?_
    refine run_rd (cRunX (As := [.int (nI r)]) (rest := []) C hb (hml.trans hl.1.symm) hP hS rfl (k_X0_newPremium l g S r hr) wm_147 wm_148 wm_149 wm_150 wm_12 (n := 1) (by decide +kernel) rfl ⟨rfl, rfl, Nat.le_of_ble_eq_true rfl, Nat.le_of_ble_eq_true rfl⟩ (Nat.le_of_ble_eq_true rfl) rfl ⟨Nat.zero_le _, Nat.zero_le _⟩ dX0_cappedPremium_20) ?_
    exact rdL C hb hret hlk dX0_cappedPremium_23 (by simp [xCapP, c22])
  · refine lv_aload_n C.1 hb dX0_cappedPremium_8 rfl (lv_at hl 0 rfl) ?_
    refine gX_oldPremiums C hb hP dX0_cappedPremium_9 ?_
    refine lv_iload_n C.1 hb dX0_cappedPremium_12 rfl (lv_at hl 1 rfl) ?_
    refine ldX_oldPremiums (j := r) C hb hP rfl (by omega) dX0_cappedPremium_13 ?_
    refine lv_iconst (v := (-1)) C.1 hb dX0_cappedPremium_14 (by decide) ?_
    refine lv_icmp_ne (tgt := 24) C.1 hb dX0_cappedPremium_15 (by decide) (fun c23 => ?_) (fun c23 => ?_)
    · refine lv_aload_n C.1 hb dX0_cappedPremium_24 rfl (lv_at hl 0 rfl) ?_
      refine gX_oldPremiums C hb hP dX0_cappedPremium_25 ?_
      refine lv_iload_n C.1 hb dX0_cappedPremium_28 rfl (lv_at hl 1 rfl) ?_
      refine ldX_oldPremiums (j := r) C hb hP rfl (by omega) dX0_cappedPremium_29 ?_
      refine lv_i2l C.1 hb dX0_cappedPremium_30 rfl ?_
      refine lv_lstore_n (lv' := [(2, .long (xIa S 0 r).toInt64), (0, .ref (gA g 0)), (1, .int (nI r))]) C.1 hb dX0_cappedPremium_31 rfl hl (by decide) rfl (fun ls hl => ?_)
      refine lv_lload_n C.1 hb dX0_cappedPremium_32 rfl (lv_at hl 0 rfl) ?_
      refine lv_bipush (v := 100) C.1 hb dX0_cappedPremium_33 (by decide) ?_
      refine lv_aload_n C.1 hb dX0_cappedPremium_35 rfl (lv_at hl 1 rfl) ?_
      refine gX_cap C hb hP dX0_cappedPremium_36 ?_
      refine lv_isub C.1 hb dX0_cappedPremium_39 ?_
      refine lv_iconst (v := 0) C.1 hb dX0_cappedPremium_40 (by decide) ?_
      refine va_mmax C.1 hb (hml.trans hl.1.symm) C.2.1 (C.2.2.1 _ wm_159) (C.2.2.1 _ wm_160) (C.2.2.1 _ wm_80) (C.2.2.1 _ wm_161) (Nat.le_of_ble_eq_true rfl) (Nat.le_of_ble_eq_true rfl) (Nat.zero_le _) (Nat.zero_le _) dX0_cappedPremium_41 ?_
      refine lv_i2l C.1 hb dX0_cappedPremium_44 rfl ?_
      refine lv_lmul C.1 hb dX0_cappedPremium_45 ?_
      refine lv_ldc2 (v := 100) C.1 hb C.2.1 (C.2.2.1 _ wm_69) dX0_cappedPremium_46 ?_
      refine lv_ldiv C.1 hb dX0_cappedPremium_49 (by decide) ?_
      refine lv_lstore (lv' := [(4, .long (((xIa S 0 r).toInt64 * (mxI (100 - (xSc S 3)) 0).toInt64) / 100)), (2, .long (xIa S 0 r).toInt64), (0, .ref (gA g 0)), (1, .int (nI r))]) C.1 hb dX0_cappedPremium_50 hl (by decide) rfl (fun ls hl => ?_)
      refine lv_lload_n C.1 hb dX0_cappedPremium_52 rfl (lv_at hl 1 rfl) ?_
      refine lv_bipush (v := 100) C.1 hb dX0_cappedPremium_53 (by decide) ?_
      refine lv_aload_n C.1 hb dX0_cappedPremium_55 rfl (lv_at hl 2 rfl) ?_
      refine gX_cap C hb hP dX0_cappedPremium_56 ?_
      refine lv_iadd C.1 hb dX0_cappedPremium_59 ?_
      refine lv_i2l C.1 hb dX0_cappedPremium_60 rfl ?_
      refine lv_lmul C.1 hb dX0_cappedPremium_61 ?_
      refine lv_ldc2 (v := 100) C.1 hb C.2.1 (C.2.2.1 _ wm_69) dX0_cappedPremium_62 ?_
      refine lv_ldiv C.1 hb dX0_cappedPremium_65 (by decide) ?_
      refine lv_lstore (lv' := [(6, .long (((xIa S 0 r).toInt64 * (100 + (xSc S 3)).toInt64) / 100)), (4, .long (((xIa S 0 r).toInt64 * (mxI (100 - (xSc S 3)) 0).toInt64) / 100)), (2, .long (xIa S 0 r).toInt64), (0, .ref (gA g 0)), (1, .int (nI r))]) C.1 hb dX0_cappedPremium_66 hl (by decide) rfl (fun ls hl => ?_)
      refine lv_aload_n C.1 hb dX0_cappedPremium_68 rfl (lv_at hl 3 rfl) ?_
      refine lv_iload_n C.1 hb dX0_cappedPremium_69 rfl (lv_at hl 4 rfl) ?_
      refine run_rd (cRunX (As := [.int (nI r)]) (rest := []) C hb (hml.trans hl.1.symm) hP hS rfl (k_X0_newPremium l g S r hr) wm_147 wm_148 wm_149 wm_150 wm_12 (n := 1) (by decide +kernel) rfl ⟨rfl, rfl, Nat.le_of_ble_eq_true rfl, Nat.le_of_ble_eq_true rfl⟩ (Nat.le_of_ble_eq_true rfl) rfl ⟨Nat.zero_le _, Nat.zero_le _⟩ dX0_cappedPremium_70) ?_
      refine lv_lload C.1 hb dX0_cappedPremium_73 (lv_at hl 1 rfl) ?_
      refine lv_lload C.1 hb dX0_cappedPremium_75 (lv_at hl 0 rfl) ?_
      refine run_rd (cRunS (As := [.long (xNewP S r), .long (((xIa S 0 r).toInt64 * (mxI (100 - (xSc S 3)) 0).toInt64) / 100), .long (((xIa S 0 r).toInt64 * (100 + (xSc S 3)).toInt64) / 100)]) (rest := []) C hb (hml.trans hl.1.symm) hP hS (k_X0_bounded l g S (xNewP S r) (((xIa S 0 r).toInt64 * (mxI (100 - (xSc S 3)) 0).toInt64) / 100) (((xIa S 0 r).toInt64 * (100 + (xSc S 3)).toInt64) / 100)) wm_75 wm_76 wm_77 wm_12 (n := 3) (by decide +kernel) rfl ⟨rfl, rfl, Nat.le_of_ble_eq_true rfl, Nat.le_of_ble_eq_true rfl⟩ (Nat.le_of_ble_eq_true rfl) rfl ⟨Nat.zero_le _, Nat.zero_le _⟩ dX0_cappedPremium_77) ?_
      exact rdL C hb hret hlk dX0_cappedPremium_80 (by unfold xCapP; rw [if_neg c22, if_neg c23])
    · refine lv_aload_n C.1 hb dX0_cappedPremium_18 rfl (lv_at hl 0 rfl) ?_
      refine lv_iload_n C.1 hb dX0_cappedPremium_19 rfl (lv_at hl 1 rfl) ?_
      refine run_rd (cRunX (As := [.int (nI r)]) (rest := []) C hb (hml.trans hl.1.symm) hP hS rfl (k_X0_newPremium l g S r hr) wm_147 wm_148 wm_149 wm_150 wm_12 (n := 1) (by decide +kernel) rfl ⟨rfl, rfl, Nat.le_of_ble_eq_true rfl, Nat.le_of_ble_eq_true rfl⟩ (Nat.le_of_ble_eq_true rfl) rfl ⟨Nat.zero_le _, Nat.zero_le _⟩ dX0_cappedPremium_20) ?_
      exact rdL C hb hret hlk dX0_cappedPremium_23 (by simp [xCapP, c23])

set_option maxRecDepth 100000 in
set_option maxHeartbeats 4000000 in
theorem k_X0_cappedTotal (l : Launch) (g : gG) (S : WS) (n : Nat) (hI : XI n S) : Met l yX0_cappedTotal (wA yX0_cappedTotal cX0_cappedTotal 4 (some .long)) ({ frames := 3, cells := 0, slots := 0, locals := 120 }) (PW g S [.ref (gA g 0)]) (RQ (some (.long (xTot (xIa S 1) (xCapP S) n)))) 0 0 (fun _ => False) := by
  refine metI (by decide +kernel) (Nat.le_of_ble_eq_true rfl) ?_
  intro p e s m below meth c C hb hml hret hlk hP ls hl
  have C : CW g RX0 p s m ([.ref (gA g 0)] : List Value).toArray := C
  have hS : va_S (Ab g) s.heap s.heap [] := va_S.rf
  have hl : lv_has ls 4 [(0, .ref (gA g 0))] := hl
  refine lv_lconst (v := 0) C.1 hb dX0_cappedTotal_0 (by decide) ?_
  refine lv_lstore_n (lv' := [(1, .long 0), (0, .ref (gA g 0))]) C.1 hb dX0_cappedTotal_1 rfl hl (by decide) rfl (fun ls hl => ?_)
  refine lv_iconst (v := 0) C.1 hb dX0_cappedTotal_2 (by decide) ?_
  refine lv_istore_n (lv' := [(3, .int 0), (1, .long 0), (0, .ref (gA g 0))]) C.1 hb dX0_cappedTotal_3 rfl hl (by decide) rfl (fun ls hl => ?_)
  have key : ∀ f i : Nat, n - i < f → i ≤ n → ∀ ls : Array Slot, lv_has ls 4 [(0, .ref (gA g 0)), (1, .long (xTot (xIa S 1) (xCapP S) i)), (3, .int (nI i))] → W p l e ({ frames := 3, cells := 0, slots := 0, locals := 120 }) s m ([.ref (gA g 0)] : List Value).toArray below meth c s.heap [] 0 0 (MQ below (RQ (some (.long (xTot (xIa S 1) (xCapP S) n)))) ([.ref (gA g 0)] : List Value).toArray s 0 0 (fun _ => False)) (F0 m 4 ls []) := by
    intro f
    induction f with
    | zero => intro i h; exact absurd h (Nat.not_lt_zero _)
    | succ f ih =>
      intro i hfi hi  ls hl
      refine lv_iload_n C.1 hb dX0_cappedTotal_4 rfl (lv_at hl 2 rfl) ?_
      refine lv_aload_n C.1 hb dX0_cappedTotal_5 rfl (lv_at hl 0 rfl) ?_
      refine gX_addedRows C hb hP dX0_cappedTotal_6 ?_
      refine lv_icmp_ge (tgt := 35) C.1 hb dX0_cappedTotal_9 (by decide) (fun c24 => ?_) (fun c24 => ?_)
      · have hin : i = n := by have := le_nI (a := n) (b := i) (by have := hI.1; omega) (by have := hI.1; omega) (by rw [← hI.2.1]; exact c24); omega
        rw [hin] at hl
        refine lv_lload_n C.1 hb dX0_cappedTotal_35 rfl (lv_at hl 1 rfl) ?_
        exact rdL C hb hret hlk dX0_cappedTotal_36 rfl
      · have hlt : i < n := nle_nI (a := n) (b := i) (by have := hI.1; omega) (by have := hI.1; omega) (by rw [← hI.2.1]; exact c24)
        have hn40 := hI.1
        refine lv_aload_n C.1 hb dX0_cappedTotal_12 rfl (lv_at hl 0 rfl) ?_
        refine gX_live C hb hP dX0_cappedTotal_13 ?_
        refine lv_iload_n C.1 hb dX0_cappedTotal_16 rfl (lv_at hl 2 rfl) ?_
        refine ldX_live (j := i) C hb hP rfl (by omega) dX0_cappedTotal_17 ?_
        refine lv_if_eq (tgt := 29) C.1 hb dX0_cappedTotal_18 (by decide) (fun c25 => ?_) (fun c25 => ?_)
        · refine lv_iinc (v := nI (i + 1)) (lv' := [(3, .int (nI (i + 1))), (0, .ref (gA g 0)), (1, .long (xTot (xIa S 1) (xCapP S) i))]) C.1 hb dX0_cappedTotal_29 hl (k := 2) rfl (nI_1 i) (by decide) rfl (fun ls hl => ?_)
          refine lv_goto (tgt := 4) C.1 hb dX0_cappedTotal_32 (by decide) ?_
          exact ih (i + 1) (by omega) (by omega)  ls (by rw [xTot_z c25]; exact lv_sub hl [1, 2, 0] rfl)
        · refine lv_lload_n C.1 hb dX0_cappedTotal_21 rfl (lv_at hl 1 rfl) ?_
          refine lv_aload_n C.1 hb dX0_cappedTotal_22 rfl (lv_at hl 0 rfl) ?_
          refine lv_iload_n C.1 hb dX0_cappedTotal_23 rfl (lv_at hl 2 rfl) ?_
          refine run_rd (cRunX (As := [.int (nI i)]) (rest := [.long (xTot (xIa S 1) (xCapP S) i)]) C hb (hml.trans hl.1.symm) hP hS rfl (k_X0_cappedPremium l g S i (by omega)) wm_155 wm_156 wm_157 wm_158 wm_12 (n := 1) (by decide +kernel) rfl ⟨rfl, rfl, Nat.le_of_ble_eq_true rfl, Nat.le_of_ble_eq_true rfl⟩ (Nat.le_of_ble_eq_true rfl) rfl ⟨Nat.zero_le _, Nat.zero_le _⟩ dX0_cappedTotal_24) ?_
          refine lv_ladd C.1 hb dX0_cappedTotal_27 ?_
          refine lv_lstore_n (lv' := [(1, .long ((xTot (xIa S 1) (xCapP S) i) + (xCapP S i))), (0, .ref (gA g 0)), (3, .int (nI i))]) C.1 hb dX0_cappedTotal_28 rfl hl (by decide) rfl (fun ls hl => ?_)
          refine lv_iinc (v := nI (i + 1)) (lv' := [(3, .int (nI (i + 1))), (1, .long ((xTot (xIa S 1) (xCapP S) i) + (xCapP S i))), (0, .ref (gA g 0))]) C.1 hb dX0_cappedTotal_29 hl (k := 2) rfl (nI_1 i) (by decide) rfl (fun ls hl => ?_)
          refine lv_goto (tgt := 4) C.1 hb dX0_cappedTotal_32 (by decide) ?_
          exact ih (i + 1) (by omega) (by omega)  ls (by rw [xTot_n c25]; exact lv_sub hl [2, 1, 0] rfl)
  exact key (n - 0 + 1) 0 (by omega) (by omega)  ls (lv_sub hl [2, 1, 0] rfl)

set_option maxRecDepth 100000 in
set_option maxHeartbeats 4000000 in
theorem k_X0_fittedLoss (l : Launch) (g : gG) (S : WS) (n : Nat) (hI : XI n S) (r : Nat) (hr : r < n) : Met l yX0_fittedLoss (wA yX0_fittedLoss cX0_fittedLoss 5 (some .long)) ({ frames := 0, cells := 0, slots := 0, locals := 0 }) (PW g S [.ref (gA g 0), .int (nI r)]) (RQ (some (.long (xFit S r)))) 0 0 (fun _ => False) := by
  refine metI (by decide +kernel) (Nat.le_of_ble_eq_true rfl) ?_
  intro p e s m below meth c C hb hml hret hlk hP ls hl
  have C : CW g RX0 p s m ([.ref (gA g 0), .int (nI r)] : List Value).toArray := C
  have hS : va_S (Ab g) s.heap s.heap [] := va_S.rf
  have hl : lv_has ls 5 [(0, .ref (gA g 0)), (1, .int (nI r))] := hl
  have hn40 := hI.1
  refine lv_aload_n C.1 hb dX0_fittedLoss_0 rfl (lv_at hl 0 rfl) ?_
  refine gX_exposures C hb hP dX0_fittedLoss_1 ?_
  refine lv_iload_n C.1 hb dX0_fittedLoss_4 rfl (lv_at hl 1 rfl) ?_
  refine ldX_exposures (j := r) C hb hP rfl (by omega) dX0_fittedLoss_5 ?_
  refine lv_aload_n C.1 hb dX0_fittedLoss_6 rfl (lv_at hl 0 rfl) ?_
  refine gX_baseNow C hb hP dX0_fittedLoss_7 ?_
  refine lv_lmul C.1 hb dX0_fittedLoss_10 ?_
  refine lv_ldc2 (v := 10000) C.1 hb C.2.1 (C.2.2.1 _ wm_89) dX0_fittedLoss_11 ?_
  refine lv_ldiv C.1 hb dX0_fittedLoss_14 (by decide) ?_
  refine lv_lstore_n (lv' := [(2, .long (((xLng S 0 r) * (xBase S)) / 10000)), (0, .ref (gA g 0)), (1, .int (nI r))]) C.1 hb dX0_fittedLoss_15 rfl hl (by decide) rfl (fun ls hl => ?_)
  refine lv_iconst (v := 0) C.1 hb dX0_fittedLoss_16 (by decide) ?_
  refine lv_istore (lv' := [(4, .int 0), (2, .long (((xLng S 0 r) * (xBase S)) / 10000)), (0, .ref (gA g 0)), (1, .int (nI r))]) C.1 hb dX0_fittedLoss_17 hl (by decide) rfl (fun ls hl => ?_)
  have key : ∀ f i : Nat, 3 - i < f → i ≤ 3 → ∀ ls : Array Slot, lv_has ls 5 [(0, .ref (gA g 0)), (1, .int (nI r)), (2, .long (xFitN S r i)), (4, .int (nI i))] → W p l e ({ frames := 0, cells := 0, slots := 0, locals := 0 }) s m ([.ref (gA g 0), .int (nI r)] : List Value).toArray below meth c s.heap [] 0 0 (MQ below (RQ (some (.long (xFit S r)))) ([.ref (gA g 0), .int (nI r)] : List Value).toArray s 0 0 (fun _ => False)) (F0 m 19 ls []) := by
    intro f
    induction f with
    | zero => intro i h; exact absurd h (Nat.not_lt_zero _)
    | succ f ih =>
      intro i hfi hi  ls hl
      refine lv_iload C.1 hb dX0_fittedLoss_19 (lv_at hl 3 rfl) ?_
      refine lv_iconst (v := 3) C.1 hb dX0_fittedLoss_21 (by decide) ?_
      refine lv_icmp_ge (tgt := 56) C.1 hb dX0_fittedLoss_22 (by decide) (fun c26 => ?_) (fun c26 => ?_)
      · have hin : i = 3 := by have := le_nI (a := 3) (b := i) (by decide) (by omega) c26; omega
        rw [hin] at hl
        refine lv_lload_n C.1 hb dX0_fittedLoss_56 rfl (lv_at hl 2 rfl) ?_
        exact rdL C hb hret hlk dX0_fittedLoss_57 rfl
      · have hlt : i < 3 := nle_nI (a := 3) (b := i) (by decide) (by omega) c26
        have hn40 := hI.1
        have hlv := XI_lev hI hlt hr
        refine lv_lload_n C.1 hb dX0_fittedLoss_25 rfl (lv_at hl 2 rfl) ?_
        refine lv_aload_n C.1 hb dX0_fittedLoss_26 rfl (lv_at hl 0 rfl) ?_
        refine gX_factors C hb hP dX0_fittedLoss_27 ?_
        refine lv_iload C.1 hb dX0_fittedLoss_30 (lv_at hl 3 rfl) ?_
        refine al_fac (t := i) C hb hP rfl (by omega) dX0_fittedLoss_32 ?_
        refine lv_aload_n C.1 hb dX0_fittedLoss_33 rfl (lv_at hl 0 rfl) ?_
        refine gX_rowLevels C hb hP dX0_fittedLoss_34 ?_
        refine lv_iload C.1 hb dX0_fittedLoss_37 (lv_at hl 3 rfl) ?_
        refine al_lev (t := i) C hb hP rfl (by omega) dX0_fittedLoss_39 ?_
        refine lv_iload_n C.1 hb dX0_fittedLoss_40 rfl (lv_at hl 1 rfl) ?_
        refine ldX_lev (t := i) (j := r) C hb hP (by omega) rfl (by omega) dX0_fittedLoss_41 ?_
        refine ldX_fac (t := i) (j := (tN (xLev S i r))) C hb hP (by omega) hlv.1 hlv.2 dX0_fittedLoss_42 ?_
        refine lv_i2l C.1 hb dX0_fittedLoss_43 rfl ?_
        refine lv_lmul C.1 hb dX0_fittedLoss_44 ?_
        refine lv_ldc2 (v := 10000) C.1 hb C.2.1 (C.2.2.1 _ wm_89) dX0_fittedLoss_45 ?_
        refine lv_ldiv C.1 hb dX0_fittedLoss_48 (by decide) ?_
        refine lv_lstore_n (lv' := [(2, .long (((xFitN S r i) * (xFac S i (tN (xLev S i r))).toInt64) / 10000)), (0, .ref (gA g 0)), (1, .int (nI r)), (4, .int (nI i))]) C.1 hb dX0_fittedLoss_49 rfl hl (by decide) rfl (fun ls hl => ?_)
        refine lv_iinc (v := nI (i + 1)) (lv' := [(4, .int (nI (i + 1))), (2, .long (((xFitN S r i) * (xFac S i (tN (xLev S i r))).toInt64) / 10000)), (0, .ref (gA g 0)), (1, .int (nI r))]) C.1 hb dX0_fittedLoss_50 hl (k := 3) rfl (nI_1 i) (by decide) rfl (fun ls hl => ?_)
        refine lv_goto (tgt := 19) C.1 hb dX0_fittedLoss_53 (by decide) ?_
        exact ih (i + 1) (by omega) (by omega)  ls (by rw [show xFitN S r (i + 1) = xFitN S r i * (xFac S i (tN (xLev S i r))).toInt64 / 10000 from rfl]; exact lv_sub hl [2, 3, 1, 0] rfl)
  exact key (3 - 0 + 1) 0 (by omega) (by omega)  ls (lv_sub hl [2, 3, 1, 0] rfl)

set_option maxRecDepth 100000 in
set_option maxHeartbeats 4000000 in
theorem k_X0_refit (l : Launch) (g : gG) (S : WS) (n : Nat) (hI : XI n S) : Met l yX0_refit (wA yX0_refit cX0_refit 4 none) ({ frames := 1, cells := 0, slots := 0, locals := 40 }) (PW g S [.ref (gA g 0)]) (WQ g (xRefit S n) (none)) 0 0 (Ab g) := by
  refine metI (by decide +kernel) (Nat.le_of_ble_eq_true rfl) ?_
  intro p e s m below meth c C hb hml hret hlk hP ls hl
  have C : CW g RX0 p s m ([.ref (gA g 0)] : List Value).toArray := C
  have hS : va_S (Ab g) s.heap s.heap [] := va_S.rf
  have hl : lv_has ls 4 [(0, .ref (gA g 0))] := hl
  refine lv_aload_n C.1 hb dX0_refit_0 rfl (lv_at hl 0 rfl) ?_
  refine lv_aload_n C.1 hb dX0_refit_1 rfl (lv_at hl 0 rfl) ?_
  refine gX_exposures C hb hP dX0_refit_2 ?_
  refine run_rd (cRunX (As := [.ref (gA g 9)]) (rest := []) C hb (hml.trans hl.1.symm) hP hS rfl (k_X0_total l g S n hI 0 (by decide)) wm_90 wm_91 wm_92 wm_93 wm_12 (n := 1) (by decide +kernel) rfl ⟨rfl, rfl, Nat.le_of_ble_eq_true rfl, Nat.le_of_ble_eq_true rfl⟩ (Nat.le_of_ble_eq_true rfl) rfl ⟨Nat.zero_le _, Nat.zero_le _⟩ dX0_refit_5) ?_
  refine lv_lstore_n (lv' := [(1, .long (xTot (xIa S 1) (xLng S 0) n)), (0, .ref (gA g 0))]) C.1 hb dX0_refit_8 rfl hl (by decide) rfl (fun ls hl => ?_)
  refine lv_aload_n C.1 hb dX0_refit_9 rfl (lv_at hl 1 rfl) ?_
  refine lv_lload_n C.1 hb dX0_refit_10 rfl (lv_at hl 0 rfl) ?_
  refine lv_lconst (v := 0) C.1 hb dX0_refit_11 (by decide) ?_
  refine lc_le (tgt := 33) C hb dX0_refit_12 dX0_refit_13 (by decide) (fun c27 => ?_) (fun c27 => ?_)
  · refine lv_lconst (v := 0) C.1 hb dX0_refit_33 (by decide) ?_
    refine toL (show (0 : Int64) = xBase1 S n by unfold xBase1; rw [if_pos c27]) ?_
    refine pX_baseNow C hb hP hS dX0_refit_34 (fun H locs hP hS => ?_)
    refine lv_iconst (v := 0) C.1 hb dX0_refit_37 (by decide) ?_
    refine lv_istore_n (lv' := [(3, .int 0), (1, .long (xTot (xIa S 1) (xLng S 0) n)), (0, .ref (gA g 0))]) C.1 hb dX0_refit_38 rfl hl (by decide) rfl (fun ls hl => ?_)
    have key : ∀ f i : Nat, n - i < f → i ≤ n → ∀ (H : Heap) (locs : List Loc), HW g (xsLng (xsBase S (xBase1 S n)) 3 (fil (xFit (xsBase S (xBase1 S n))) (xLng S 3) i)) H → va_S (Ab g) s.heap H locs → ∀ ls : Array Slot, lv_has ls 4 [(0, .ref (gA g 0)), (3, .int (nI i))] → W p l e ({ frames := 1, cells := 0, slots := 0, locals := 40 }) s m ([.ref (gA g 0)] : List Value).toArray below meth c H locs 0 0 (MQ below (WQ g (xRefit S n) (none)) ([.ref (gA g 0)] : List Value).toArray s 0 0 (Ab g)) (F0 m 39 ls []) := by
      intro f
      induction f with
      | zero => intro i h; exact absurd h (Nat.not_lt_zero _)
      | succ f ih =>
        intro i hfi hi  H locs hP hS ls hl
        refine lv_iload_n C.1 hb dX0_refit_39 rfl (lv_at hl 1 rfl) ?_
        refine lv_aload_n C.1 hb dX0_refit_40 rfl (lv_at hl 0 rfl) ?_
        refine gX_addedRows C hb hP dX0_refit_41 ?_
        refine lv_icmp_ge (tgt := 64) C.1 hb dX0_refit_44 (by decide) (fun c28 => ?_) (fun c28 => ?_)
        · have hin : i = n := by have := le_nI (a := n) (b := i) (by have := hI.1; omega) (by have := hI.1; omega) (by rw [← hI.2.1]; exact c28); omega
          rw [hin] at hl hP
          exact wrV C hb hret hlk hP hS dX0_refit_64 rfl
        · have hlt : i < n := nle_nI (a := n) (b := i) (by have := hI.1; omega) (by have := hI.1; omega) (by rw [← hI.2.1]; exact c28)
          have hn40 := hI.1
          refine lv_aload_n C.1 hb dX0_refit_47 rfl (lv_at hl 0 rfl) ?_
          refine gX_fittedLosses C hb hP dX0_refit_48 ?_
          refine lv_iload_n C.1 hb dX0_refit_51 rfl (lv_at hl 1 rfl) ?_
          refine lv_aload_n C.1 hb dX0_refit_52 rfl (lv_at hl 0 rfl) ?_
          refine lv_iload_n C.1 hb dX0_refit_53 rfl (lv_at hl 1 rfl) ?_
          refine run_rd (cRunX (As := [.int (nI i)]) (rest := [.int (nI i), .ref (gA g 14)]) C hb (hml.trans hl.1.symm) hP hS rfl (k_X0_fittedLoss l g (xsLng (xsBase S (xBase1 S n)) 3 (fil (xFit (xsBase S (xBase1 S n))) (xLng S 3) i)) n (XI_lng3 _ (XI_base _ hI)) i hlt) wm_94 wm_95 wm_96 wm_97 wm_12 (n := 1) (by decide +kernel) rfl ⟨rfl, rfl, Nat.le_of_ble_eq_true rfl, Nat.le_of_ble_eq_true rfl⟩ (Nat.le_of_ble_eq_true rfl) rfl ⟨Nat.zero_le _, Nat.zero_le _⟩ dX0_refit_54) ?_
          refine toL (xFit_lng3 (xsBase S (xBase1 S n)) _ i) ?_
          refine stX_fittedLosses (j := i) C hb hP hS rfl (by omega) dX0_refit_57 (fun H locs hP hS => ?_)
          refine lv_iinc (v := nI (i + 1)) (lv' := [(3, .int (nI (i + 1))), (0, .ref (gA g 0))]) C.1 hb dX0_refit_58 hl (k := 1) rfl (nI_1 i) (by decide) rfl (fun ls hl => ?_)
          refine lv_goto (tgt := 39) C.1 hb dX0_refit_61 (by decide) ?_
          exact ih (i + 1) (by omega) (by omega)  _ _ (by rw [← refit_step (xsBase S (xBase1 S n))]; exact hP) hS ls (lv_sub hl [1, 0] rfl)
    exact key (n - 0 + 1) 0 (by omega) (by omega)  _ _ (by rw [refit_0]; exact hP) hS ls (lv_sub hl [2, 0] rfl)
  · refine lv_ldc2 (v := 10000) C.1 hb C.2.1 (C.2.2.1 _ wm_89) dX0_refit_16 ?_
    refine lv_aload_n C.1 hb dX0_refit_19 rfl (lv_at hl 1 rfl) ?_
    refine lv_aload_n C.1 hb dX0_refit_20 rfl (lv_at hl 1 rfl) ?_
    refine gX_losses C hb hP dX0_refit_21 ?_
    refine run_rd (cRunX (As := [.ref (gA g 11)]) (rest := [.long 10000, .ref (gA g 0)]) C hb (hml.trans hl.1.symm) hP hS rfl (k_X0_total l g S n hI 2 (by decide)) wm_90 wm_91 wm_92 wm_93 wm_12 (n := 1) (by decide +kernel) rfl ⟨rfl, rfl, Nat.le_of_ble_eq_true rfl, Nat.le_of_ble_eq_true rfl⟩ (Nat.le_of_ble_eq_true rfl) rfl ⟨Nat.zero_le _, Nat.zero_le _⟩ dX0_refit_24) ?_
    refine lv_lmul C.1 hb dX0_refit_27 ?_
    refine lv_lload_n C.1 hb dX0_refit_28 rfl (lv_at hl 0 rfl) ?_
    refine lv_ldiv C.1 hb dX0_refit_29 (ne0_nle c27) ?_
    refine lv_goto (tgt := 34) C.1 hb dX0_refit_30 (by decide) ?_
    refine toL (show _ = xBase1 S n by unfold xBase1; rw [if_neg c27]) ?_
    refine pX_baseNow C hb hP hS dX0_refit_34 (fun H locs hP hS => ?_)
    refine lv_iconst (v := 0) C.1 hb dX0_refit_37 (by decide) ?_
    refine lv_istore_n (lv' := [(3, .int 0), (1, .long (xTot (xIa S 1) (xLng S 0) n)), (0, .ref (gA g 0))]) C.1 hb dX0_refit_38 rfl hl (by decide) rfl (fun ls hl => ?_)
    have key : ∀ f i : Nat, n - i < f → i ≤ n → ∀ (H : Heap) (locs : List Loc), HW g (xsLng (xsBase S (xBase1 S n)) 3 (fil (xFit (xsBase S (xBase1 S n))) (xLng S 3) i)) H → va_S (Ab g) s.heap H locs → ∀ ls : Array Slot, lv_has ls 4 [(0, .ref (gA g 0)), (3, .int (nI i))] → W p l e ({ frames := 1, cells := 0, slots := 0, locals := 40 }) s m ([.ref (gA g 0)] : List Value).toArray below meth c H locs 0 0 (MQ below (WQ g (xRefit S n) (none)) ([.ref (gA g 0)] : List Value).toArray s 0 0 (Ab g)) (F0 m 39 ls []) := by
      intro f
      induction f with
      | zero => intro i h; exact absurd h (Nat.not_lt_zero _)
      | succ f ih =>
        intro i hfi hi  H locs hP hS ls hl
        refine lv_iload_n C.1 hb dX0_refit_39 rfl (lv_at hl 1 rfl) ?_
        refine lv_aload_n C.1 hb dX0_refit_40 rfl (lv_at hl 0 rfl) ?_
        refine gX_addedRows C hb hP dX0_refit_41 ?_
        refine lv_icmp_ge (tgt := 64) C.1 hb dX0_refit_44 (by decide) (fun c29 => ?_) (fun c29 => ?_)
        · have hin : i = n := by have := le_nI (a := n) (b := i) (by have := hI.1; omega) (by have := hI.1; omega) (by rw [← hI.2.1]; exact c29); omega
          rw [hin] at hl hP
          exact wrV C hb hret hlk hP hS dX0_refit_64 rfl
        · have hlt : i < n := nle_nI (a := n) (b := i) (by have := hI.1; omega) (by have := hI.1; omega) (by rw [← hI.2.1]; exact c29)
          have hn40 := hI.1
          refine lv_aload_n C.1 hb dX0_refit_47 rfl (lv_at hl 0 rfl) ?_
          refine gX_fittedLosses C hb hP dX0_refit_48 ?_
          refine lv_iload_n C.1 hb dX0_refit_51 rfl (lv_at hl 1 rfl) ?_
          refine lv_aload_n C.1 hb dX0_refit_52 rfl (lv_at hl 0 rfl) ?_
          refine lv_iload_n C.1 hb dX0_refit_53 rfl (lv_at hl 1 rfl) ?_
          refine run_rd (cRunX (As := [.int (nI i)]) (rest := [.int (nI i), .ref (gA g 14)]) C hb (hml.trans hl.1.symm) hP hS rfl (k_X0_fittedLoss l g (xsLng (xsBase S (xBase1 S n)) 3 (fil (xFit (xsBase S (xBase1 S n))) (xLng S 3) i)) n (XI_lng3 _ (XI_base _ hI)) i hlt) wm_94 wm_95 wm_96 wm_97 wm_12 (n := 1) (by decide +kernel) rfl ⟨rfl, rfl, Nat.le_of_ble_eq_true rfl, Nat.le_of_ble_eq_true rfl⟩ (Nat.le_of_ble_eq_true rfl) rfl ⟨Nat.zero_le _, Nat.zero_le _⟩ dX0_refit_54) ?_
          refine toL (xFit_lng3 (xsBase S (xBase1 S n)) _ i) ?_
          refine stX_fittedLosses (j := i) C hb hP hS rfl (by omega) dX0_refit_57 (fun H locs hP hS => ?_)
          refine lv_iinc (v := nI (i + 1)) (lv' := [(3, .int (nI (i + 1))), (0, .ref (gA g 0))]) C.1 hb dX0_refit_58 hl (k := 1) rfl (nI_1 i) (by decide) rfl (fun ls hl => ?_)
          refine lv_goto (tgt := 39) C.1 hb dX0_refit_61 (by decide) ?_
          exact ih (i + 1) (by omega) (by omega)  _ _ (by rw [← refit_step (xsBase S (xBase1 S n))]; exact hP) hS ls (lv_sub hl [1, 0] rfl)
    exact key (n - 0 + 1) 0 (by omega) (by omega)  _ _ (by rw [refit_0]; exact hP) hS ls (lv_sub hl [2, 0] rfl)

set_option maxRecDepth 100000 in
set_option maxHeartbeats 4000000 in
theorem k_X0_foundFactor (l : Launch) (g : gG) (S : WS) (n : Nat) (hI : XI n S) (t k : Nat) (ht : t < 3) (hk : k < 4) : Met l yX0_foundFactor (wA yX0_foundFactor cX0_foundFactor 12 (some .int)) ({ frames := 2, cells := 0, slots := 0, locals := 80 }) (PW g S [.ref (gA g 0), .int (nI t), .int (nI k)]) (RQ (some (.int (xFound S n t k)))) 0 0 (fun _ => False) := by
  refine metI (by decide +kernel) (Nat.le_of_ble_eq_true rfl) ?_
  intro p e s m below meth c C hb hml hret hlk hP ls hl
  have C : CW g RX0 p s m ([.ref (gA g 0), .int (nI t), .int (nI k)] : List Value).toArray := C
  have hS : va_S (Ab g) s.heap s.heap [] := va_S.rf
  have hl : lv_has ls 12 [(0, .ref (gA g 0)), (1, .int (nI t)), (2, .int (nI k))] := hl
  have hn40 := hI.1
  refine lv_aload_n C.1 hb dX0_foundFactor_0 rfl (lv_at hl 0 rfl) ?_
  refine gX_factors C hb hP dX0_foundFactor_1 ?_
  refine lv_iload_n C.1 hb dX0_foundFactor_4 rfl (lv_at hl 1 rfl) ?_
  refine al_fac (t := t) C hb hP rfl ht dX0_foundFactor_5 ?_
  refine lv_iload_n C.1 hb dX0_foundFactor_6 rfl (lv_at hl 2 rfl) ?_
  refine ldX_fac (t := t) (j := k) C hb hP ht rfl (by omega) dX0_foundFactor_7 ?_
  refine lv_istore_n (lv' := [(3, .int (xFac S t k)), (0, .ref (gA g 0)), (1, .int (nI t)), (2, .int (nI k))]) C.1 hb dX0_foundFactor_8 rfl hl (by decide) rfl (fun ls hl => ?_)
  refine lv_aload_n C.1 hb dX0_foundFactor_9 rfl (lv_at hl 1 rfl) ?_
  refine lv_aload_n C.1 hb dX0_foundFactor_10 rfl (lv_at hl 1 rfl) ?_
  refine gX_fittedLosses C hb hP dX0_foundFactor_11 ?_
  refine lv_iload_n C.1 hb dX0_foundFactor_14 rfl (lv_at hl 2 rfl) ?_
  refine lv_iload_n C.1 hb dX0_foundFactor_15 rfl (lv_at hl 3 rfl) ?_
  refine run_rd (cRunX (As := [.ref (gA g 14), .int (nI t), .int (nI k)]) (rest := []) C hb (hml.trans hl.1.symm) hP hS rfl (k_X0_levelTotal l g S n hI 3 (by decide) t ht (nI k)) wm_71 wm_72 wm_73 wm_74 wm_12 (n := 3) (by decide +kernel) rfl ⟨rfl, rfl, Nat.le_of_ble_eq_true rfl, Nat.le_of_ble_eq_true rfl⟩ (Nat.le_of_ble_eq_true rfl) rfl ⟨Nat.zero_le _, Nat.zero_le _⟩ dX0_foundFactor_16) ?_
  refine lv_lstore (lv' := [(4, .long (xLTot (xIa S 1) (xLev S t) (nI k) (xLng S 3) n)), (3, .int (xFac S t k)), (0, .ref (gA g 0)), (1, .int (nI t)), (2, .int (nI k))]) C.1 hb dX0_foundFactor_19 hl (by decide) rfl (fun ls hl => ?_)
  refine lv_aload_n C.1 hb dX0_foundFactor_21 rfl (lv_at hl 2 rfl) ?_
  refine lv_aload_n C.1 hb dX0_foundFactor_22 rfl (lv_at hl 2 rfl) ?_
  refine gX_claims C hb hP dX0_foundFactor_23 ?_
  refine lv_iload_n C.1 hb dX0_foundFactor_26 rfl (lv_at hl 3 rfl) ?_
  refine lv_iload_n C.1 hb dX0_foundFactor_27 rfl (lv_at hl 4 rfl) ?_
  refine run_rd (cRunX (As := [.ref (gA g 10), .int (nI t), .int (nI k)]) (rest := []) C hb (hml.trans hl.1.symm) hP hS rfl (k_X0_levelTotal l g S n hI 1 (by decide) t ht (nI k)) wm_71 wm_72 wm_73 wm_74 wm_12 (n := 3) (by decide +kernel) rfl ⟨rfl, rfl, Nat.le_of_ble_eq_true rfl, Nat.le_of_ble_eq_true rfl⟩ (Nat.le_of_ble_eq_true rfl) rfl ⟨Nat.zero_le _, Nat.zero_le _⟩ dX0_foundFactor_28) ?_
  refine lv_lstore (lv' := [(6, .long (xLTot (xIa S 1) (xLev S t) (nI k) (xLng S 1) n)), (4, .long (xLTot (xIa S 1) (xLev S t) (nI k) (xLng S 3) n)), (3, .int (xFac S t k)), (0, .ref (gA g 0)), (1, .int (nI t)), (2, .int (nI k))]) C.1 hb dX0_foundFactor_31 hl (by decide) rfl (fun ls hl => ?_)
  refine lv_lload C.1 hb dX0_foundFactor_33 (lv_at hl 1 rfl) ?_
  refine lv_lconst (v := 0) C.1 hb dX0_foundFactor_35 (by decide) ?_
  refine lc_le (tgt := 47) C hb dX0_foundFactor_36 dX0_foundFactor_37 (by decide) (fun c30 => ?_) (fun c30 => ?_)
  · refine lv_iload_n C.1 hb dX0_foundFactor_47 rfl (lv_at hl 2 rfl) ?_
    exact rdI C hb hret hlk dX0_foundFactor_48 (by unfold xFound; rw [if_pos c30])
  · refine lv_lload C.1 hb dX0_foundFactor_40 (lv_at hl 0 rfl) ?_
    refine lv_lconst (v := 0) C.1 hb dX0_foundFactor_42 (by decide) ?_
    refine lc_gt (tgt := 49) C hb dX0_foundFactor_43 dX0_foundFactor_44 (by decide) (fun c31 => ?_) (fun c31 => ?_)
    · refine lv_iload_n C.1 hb dX0_foundFactor_49 rfl (lv_at hl 2 rfl) ?_
      refine lv_i2l C.1 hb dX0_foundFactor_50 rfl ?_
      refine lv_aload_n C.1 hb dX0_foundFactor_51 rfl (lv_at hl 3 rfl) ?_
      refine lv_aload_n C.1 hb dX0_foundFactor_52 rfl (lv_at hl 3 rfl) ?_
      refine gX_losses C hb hP dX0_foundFactor_53 ?_
      refine lv_iload_n C.1 hb dX0_foundFactor_56 rfl (lv_at hl 4 rfl) ?_
      refine lv_iload_n C.1 hb dX0_foundFactor_57 rfl (lv_at hl 5 rfl) ?_
      refine run_rd (cRunX (As := [.ref (gA g 11), .int (nI t), .int (nI k)]) (rest := [.long (xFac S t k).toInt64]) C hb (hml.trans hl.1.symm) hP hS rfl (k_X0_levelTotal l g S n hI 2 (by decide) t ht (nI k)) wm_71 wm_72 wm_73 wm_74 wm_12 (n := 3) (by decide +kernel) rfl ⟨rfl, rfl, Nat.le_of_ble_eq_true rfl, Nat.le_of_ble_eq_true rfl⟩ (Nat.le_of_ble_eq_true rfl) rfl ⟨Nat.zero_le _, Nat.zero_le _⟩ dX0_foundFactor_58) ?_
      refine lv_lmul C.1 hb dX0_foundFactor_61 ?_
      refine lv_lload C.1 hb dX0_foundFactor_62 (lv_at hl 1 rfl) ?_
      refine lv_ldiv C.1 hb dX0_foundFactor_64 (ne0_nle c30) ?_
      refine lv_lstore (lv' := [(8, .long (((xFac S t k).toInt64 * (xLTot (xIa S 1) (xLev S t) (nI k) (xLng S 2) n)) / (xLTot (xIa S 1) (xLev S t) (nI k) (xLng S 3) n))), (6, .long (xLTot (xIa S 1) (xLev S t) (nI k) (xLng S 1) n)), (4, .long (xLTot (xIa S 1) (xLev S t) (nI k) (xLng S 3) n)), (3, .int (xFac S t k)), (0, .ref (gA g 0)), (1, .int (nI t)), (2, .int (nI k))]) C.1 hb dX0_foundFactor_65 hl (by decide) rfl (fun ls hl => ?_)
      refine lv_lload C.1 hb dX0_foundFactor_67 (lv_at hl 0 rfl) ?_
      refine lv_iload_n C.1 hb dX0_foundFactor_69 rfl (lv_at hl 3 rfl) ?_
      refine lv_i2l C.1 hb dX0_foundFactor_70 rfl ?_
      refine lv_lsub C.1 hb dX0_foundFactor_71 ?_
      refine lv_lload C.1 hb dX0_foundFactor_72 (lv_at hl 1 rfl) ?_
      refine lv_lmul C.1 hb dX0_foundFactor_74 ?_
      refine lv_lload C.1 hb dX0_foundFactor_75 (lv_at hl 1 rfl) ?_
      refine lv_aload_n C.1 hb dX0_foundFactor_77 rfl (lv_at hl 4 rfl) ?_
      refine gX_credibility C hb hP dX0_foundFactor_78 ?_
      refine lv_i2l C.1 hb dX0_foundFactor_81 rfl ?_
      refine lv_ladd C.1 hb dX0_foundFactor_82 ?_
      refine lv_ldiv C.1 hb dX0_foundFactor_83 (xFound_div hI c31) ?_
      refine lv_lstore (lv' := [(10, .long ((((((xFac S t k).toInt64 * (xLTot (xIa S 1) (xLev S t) (nI k) (xLng S 2) n)) / (xLTot (xIa S 1) (xLev S t) (nI k) (xLng S 3) n)) - (xFac S t k).toInt64) * (xLTot (xIa S 1) (xLev S t) (nI k) (xLng S 1) n)) / ((xLTot (xIa S 1) (xLev S t) (nI k) (xLng S 1) n) + (xSc S 2).toInt64))), (8, .long (((xFac S t k).toInt64 * (xLTot (xIa S 1) (xLev S t) (nI k) (xLng S 2) n)) / (xLTot (xIa S 1) (xLev S t) (nI k) (xLng S 3) n))), (6, .long (xLTot (xIa S 1) (xLev S t) (nI k) (xLng S 1) n)), (4, .long (xLTot (xIa S 1) (xLev S t) (nI k) (xLng S 3) n)), (3, .int (xFac S t k)), (0, .ref (gA g 0)), (1, .int (nI t)), (2, .int (nI k))]) C.1 hb dX0_foundFactor_84 hl (by decide) rfl (fun ls hl => ?_)
      refine lv_iload_n C.1 hb dX0_foundFactor_86 rfl (lv_at hl 4 rfl) ?_
      refine lv_i2l C.1 hb dX0_foundFactor_87 rfl ?_
      refine lv_lload C.1 hb dX0_foundFactor_88 (lv_at hl 0 rfl) ?_
      refine lv_ladd C.1 hb dX0_foundFactor_90 ?_
      refine lv_ldc2 (v := 100) C.1 hb C.2.1 (C.2.2.1 _ wm_69) dX0_foundFactor_91 ?_
      refine lv_ldc2 (v := 100000) C.1 hb C.2.1 (C.2.2.1 _ wm_70) dX0_foundFactor_94 ?_
      refine run_rd (cRunS (As := [.long ((xFac S t k).toInt64 + ((((((xFac S t k).toInt64 * (xLTot (xIa S 1) (xLev S t) (nI k) (xLng S 2) n)) / (xLTot (xIa S 1) (xLev S t) (nI k) (xLng S 3) n)) - (xFac S t k).toInt64) * (xLTot (xIa S 1) (xLev S t) (nI k) (xLng S 1) n)) / ((xLTot (xIa S 1) (xLev S t) (nI k) (xLng S 1) n) + (xSc S 2).toInt64))), .long 100, .long 100000]) (rest := []) C hb (hml.trans hl.1.symm) hP hS (k_X0_bounded l g S ((xFac S t k).toInt64 + ((((((xFac S t k).toInt64 * (xLTot (xIa S 1) (xLev S t) (nI k) (xLng S 2) n)) / (xLTot (xIa S 1) (xLev S t) (nI k) (xLng S 3) n)) - (xFac S t k).toInt64) * (xLTot (xIa S 1) (xLev S t) (nI k) (xLng S 1) n)) / ((xLTot (xIa S 1) (xLev S t) (nI k) (xLng S 1) n) + (xSc S 2).toInt64))) 100 100000) wm_75 wm_76 wm_77 wm_12 (n := 3) (by decide +kernel) rfl ⟨rfl, rfl, Nat.le_of_ble_eq_true rfl, Nat.le_of_ble_eq_true rfl⟩ (Nat.le_of_ble_eq_true rfl) rfl ⟨Nat.zero_le _, Nat.zero_le _⟩ dX0_foundFactor_97) ?_
      refine lv_l2i C.1 hb dX0_foundFactor_100 rfl ?_
      exact rdI C hb hret hlk dX0_foundFactor_101 (by unfold xFound; rw [if_neg c30, if_pos c31])
    · refine lv_iload_n C.1 hb dX0_foundFactor_47 rfl (lv_at hl 2 rfl) ?_
      exact rdI C hb hret hlk dX0_foundFactor_48 (by unfold xFound; rw [if_neg c30, if_neg c31])

set_option maxRecDepth 100000 in
set_option maxHeartbeats 4000000 in
theorem k_X0_passOver (l : Launch) (g : gG) (S : WS) (n : Nat) (hI : XI n S) (t : Nat) (ht : t < 3) : Met l yX0_passOver (wA yX0_passOver cX0_passOver 5 (some .int)) ({ frames := 3, cells := 0, slots := 0, locals := 120 }) (PW g S [.ref (gA g 0), .int (nI t)]) (WQ g (xPass S n t) (some (.int (nI (xPassC S n t))))) 0 0 (Ab g) := by
  refine metI (by decide +kernel) (Nat.le_of_ble_eq_true rfl) ?_
  intro p e s m below meth c C hb hml hret hlk hP ls hl
  have C : CW g RX0 p s m ([.ref (gA g 0), .int (nI t)] : List Value).toArray := C
  have hS : va_S (Ab g) s.heap s.heap [] := va_S.rf
  have hl : lv_has ls 5 [(0, .ref (gA g 0)), (1, .int (nI t))] := hl
  have hn40 := hI.1
  have h4 := levN_4 t
  refine lv_iconst (v := 0) C.1 hb dX0_passOver_0 (by decide) ?_
  refine lv_istore_n (lv' := [(2, .int 0), (0, .ref (gA g 0)), (1, .int (nI t))]) C.1 hb dX0_passOver_1 rfl hl (by decide) rfl (fun ls hl => ?_)
  refine lv_iconst (v := 0) C.1 hb dX0_passOver_2 (by decide) ?_
  refine lv_istore_n (lv' := [(3, .int 0), (2, .int 0), (0, .ref (gA g 0)), (1, .int (nI t))]) C.1 hb dX0_passOver_3 rfl hl (by decide) rfl (fun ls hl => ?_)
  have key : ∀ f i : Nat, levN t - i < f → i ≤ levN t → ∀ (H : Heap) (locs : List Loc), HW g (xsFac S t (fil (xFound S n t) (xFac S t) i)) H → va_S (Ab g) s.heap H locs → ∀ ls : Array Slot, lv_has ls 5 [(0, .ref (gA g 0)), (1, .int (nI t)), (2, .int (nI (xCnt (xPasP S n t) i))), (3, .int (nI i))] → W p l e ({ frames := 3, cells := 0, slots := 0, locals := 120 }) s m ([.ref (gA g 0), .int (nI t)] : List Value).toArray below meth c H locs 0 0 (MQ below (WQ g (xPass S n t) (some (.int (nI (xPassC S n t))))) ([.ref (gA g 0), .int (nI t)] : List Value).toArray s 0 0 (Ab g)) (F0 m 4 ls []) := by
    intro f
    induction f with
    | zero => intro i h; exact absurd h (Nat.not_lt_zero _)
    | succ f ih =>
      intro i hfi hi  H locs hP hS ls hl
      refine lv_iload_n C.1 hb dX0_passOver_4 rfl (lv_at hl 3 rfl) ?_
      refine gX_LEVELS C hb hS dX0_passOver_5 ?_
      refine lv_iload_n C.1 hb dX0_passOver_8 rfl (lv_at hl 1 rfl) ?_
      refine ldX_LEVELS (j := t) C hb hS rfl ht dX0_passOver_9 ?_
      refine lv_icmp_ge (tgt := 53) C.1 hb dX0_passOver_10 (by decide) (fun c32 => ?_) (fun c32 => ?_)
      · have hin : i = levN t := by have := le_nI (a := levN t) (b := i) (by omega) (by omega) c32; omega
        rw [hin] at hl hP
        refine lv_aload_n C.1 hb dX0_passOver_53 rfl (lv_at hl 0 rfl) ?_
        refine run_wr (cRunX (As := []) (rest := []) C hb (hml.trans hl.1.symm) hP hS rfl (k_X0_refit l g (xsFac S t (fil (xFound S n t) (xFac S t) (levN t))) n (XI_fac t _ hI)) wm_85 wm_86 wm_87 wm_88 wm_12 (n := 0) (by decide +kernel) rfl ⟨rfl, rfl, Nat.le_of_ble_eq_true rfl, Nat.le_of_ble_eq_true rfl⟩ (Nat.le_of_ble_eq_true rfl) rfl ⟨Nat.zero_le _, Nat.zero_le _⟩ dX0_passOver_54) hS (fun H locs hP hS => ?_)
        refine lv_iload_n C.1 hb dX0_passOver_57 rfl (lv_at hl 2 rfl) ?_
        exact wrI C hb hret hlk hP hS dX0_passOver_58 rfl rfl
      · have hlt : i < levN t := nle_nI (a := levN t) (b := i) (by omega) (by omega) c32
        refine lv_aload_n C.1 hb dX0_passOver_13 rfl (lv_at hl 0 rfl) ?_
        refine lv_iload_n C.1 hb dX0_passOver_14 rfl (lv_at hl 1 rfl) ?_
        refine lv_iload_n C.1 hb dX0_passOver_15 rfl (lv_at hl 3 rfl) ?_
        refine run_rd (cRunX (As := [.int (nI t), .int (nI i)]) (rest := []) C hb (hml.trans hl.1.symm) hP hS rfl (k_X0_foundFactor l g (xsFac S t (fil (xFound S n t) (xFac S t) i)) n (XI_fac t _ hI) t i ht (by omega)) wm_65 wm_66 wm_67 wm_68 wm_12 (n := 2) (by decide +kernel) rfl ⟨rfl, rfl, Nat.le_of_ble_eq_true rfl, Nat.le_of_ble_eq_true rfl⟩ (Nat.le_of_ble_eq_true rfl) rfl ⟨Nat.zero_le _, Nat.zero_le _⟩ dX0_passOver_16) ?_
        refine toI (xFound_fil S n t i _) ?_
        refine lv_istore (lv' := [(4, .int (xFound S n t i)), (0, .ref (gA g 0)), (1, .int (nI t)), (2, .int (nI (xCnt (xPasP S n t) i))), (3, .int (nI i))]) C.1 hb dX0_passOver_19 hl (by decide) rfl (fun ls hl => ?_)
        refine lv_iload C.1 hb dX0_passOver_21 (lv_at hl 0 rfl) ?_
        refine lv_aload_n C.1 hb dX0_passOver_23 rfl (lv_at hl 1 rfl) ?_
        refine gX_factors C hb hP dX0_passOver_24 ?_
        refine lv_iload_n C.1 hb dX0_passOver_27 rfl (lv_at hl 2 rfl) ?_
        refine al_fac (t := t) C hb hP rfl ht dX0_passOver_28 ?_
        refine lv_iload_n C.1 hb dX0_passOver_29 rfl (lv_at hl 4 rfl) ?_
        refine ldX_fac (t := t) (j := i) C hb hP ht rfl (by omega) dX0_passOver_30 ?_
        refine toI (show xFac (xsFac S t (fil (xFound S n t) (xFac S t) i)) t i = xFac S t i by rw [fac_at, fil_at]) ?_
        refine lv_icmp_eq (tgt := 47) C.1 hb dX0_passOver_31 (by decide) (fun c33 => ?_) (fun c33 => ?_)
        · refine lv_iinc (v := nI (i + 1)) (lv' := [(3, .int (nI (i + 1))), (4, .int (xFound S n t i)), (0, .ref (gA g 0)), (1, .int (nI t)), (2, .int (nI (xCnt (xPasP S n t) i)))]) C.1 hb dX0_passOver_47 hl (k := 4) rfl (nI_1 i) (by decide) rfl (fun ls hl => ?_)
          refine lv_goto (tgt := 4) C.1 hb dX0_passOver_50 (by decide) ?_
          exact ih (i + 1) (by omega) (by omega)  _ _ (by rw [passf_keep S t i _ c33]; exact hP) hS ls (by rw [xCnt_f (show xPasP S n t i = false by simp [xPasP, c33])]; exact lv_sub hl [2, 3, 4, 0] rfl)
        · refine lv_aload_n C.1 hb dX0_passOver_34 rfl (lv_at hl 1 rfl) ?_
          refine gX_factors C hb hP dX0_passOver_35 ?_
          refine lv_iload_n C.1 hb dX0_passOver_38 rfl (lv_at hl 2 rfl) ?_
          refine al_fac (t := t) C hb hP rfl ht dX0_passOver_39 ?_
          refine lv_iload_n C.1 hb dX0_passOver_40 rfl (lv_at hl 4 rfl) ?_
          refine lv_iload C.1 hb dX0_passOver_41 (lv_at hl 0 rfl) ?_
          refine stX_fac (t := t) (j := i) C hb hP hS ht rfl (by omega) dX0_passOver_43 (fun H locs hP hS => ?_)
          refine lv_iinc (v := nI ((xCnt (xPasP S n t) i) + 1)) (lv' := [(2, .int (nI ((xCnt (xPasP S n t) i) + 1))), (4, .int (xFound S n t i)), (0, .ref (gA g 0)), (1, .int (nI t)), (3, .int (nI i))]) C.1 hb dX0_passOver_44 hl (k := 3) rfl (nI_1 (xCnt (xPasP S n t) i)) (by decide) rfl (fun ls hl => ?_)
          refine lv_iinc (v := nI (i + 1)) (lv' := [(3, .int (nI (i + 1))), (2, .int (nI ((xCnt (xPasP S n t) i) + 1))), (4, .int (xFound S n t i)), (0, .ref (gA g 0)), (1, .int (nI t))]) C.1 hb dX0_passOver_47 hl (k := 4) rfl (nI_1 i) (by decide) rfl (fun ls hl => ?_)
          refine lv_goto (tgt := 4) C.1 hb dX0_passOver_50 (by decide) ?_
          exact ih (i + 1) (by omega) (by omega)  _ _ (by rw [← passf_step S t i]; exact hP) hS ls (by rw [xCnt_t (show xPasP S n t i = true by simp [xPasP, c33])]; exact lv_sub hl [3, 4, 1, 0] rfl)
  exact key (levN t - 0 + 1) 0 (by omega) (by omega)  _ _ (by rw [passf_0]; exact hP) hS ls (lv_sub hl [2, 3, 1, 0] rfl)

set_option maxRecDepth 100000 in
set_option maxHeartbeats 4000000 in
theorem k_X0_changedByRound (l : Launch) (g : gG) (S : WS) (n : Nat) (hI : XI n S) : Met l yX0_changedByRound (wA yX0_changedByRound cX0_changedByRound 3 (some .int)) ({ frames := 4, cells := 0, slots := 0, locals := 160 }) (PW g S [.ref (gA g 0)]) (WQ g (xRound S n 3) (some (.int (nI (xRoundC S n 3))))) 0 0 (Ab g) := by
  refine metI (by decide +kernel) (Nat.le_of_ble_eq_true rfl) ?_
  intro p e s m below meth c C hb hml hret hlk hP ls hl
  have C : CW g RX0 p s m ([.ref (gA g 0)] : List Value).toArray := C
  have hS : va_S (Ab g) s.heap s.heap [] := va_S.rf
  have hl : lv_has ls 3 [(0, .ref (gA g 0))] := hl
  refine lv_iconst (v := 0) C.1 hb dX0_changedByRound_0 (by decide) ?_
  refine lv_istore_n (lv' := [(1, .int 0), (0, .ref (gA g 0))]) C.1 hb dX0_changedByRound_1 rfl hl (by decide) rfl (fun ls hl => ?_)
  refine lv_iconst (v := 0) C.1 hb dX0_changedByRound_2 (by decide) ?_
  refine lv_istore_n (lv' := [(2, .int 0), (1, .int 0), (0, .ref (gA g 0))]) C.1 hb dX0_changedByRound_3 rfl hl (by decide) rfl (fun ls hl => ?_)
  have key : ∀ f i : Nat, 3 - i < f → i ≤ 3 → ∀ (H : Heap) (locs : List Loc), HW g (xRound S n i) H → va_S (Ab g) s.heap H locs → ∀ ls : Array Slot, lv_has ls 3 [(0, .ref (gA g 0)), (1, .int (nI (xRoundC S n i))), (2, .int (nI i))] → W p l e ({ frames := 4, cells := 0, slots := 0, locals := 160 }) s m ([.ref (gA g 0)] : List Value).toArray below meth c H locs 0 0 (MQ below (WQ g (xRound S n 3) (some (.int (nI (xRoundC S n 3))))) ([.ref (gA g 0)] : List Value).toArray s 0 0 (Ab g)) (F0 m 4 ls []) := by
    intro f
    induction f with
    | zero => intro i h; exact absurd h (Nat.not_lt_zero _)
    | succ f ih =>
      intro i hfi hi  H locs hP hS ls hl
      refine lv_iload_n C.1 hb dX0_changedByRound_4 rfl (lv_at hl 2 rfl) ?_
      refine lv_iconst (v := 3) C.1 hb dX0_changedByRound_5 (by decide) ?_
      refine lv_icmp_ge (tgt := 23) C.1 hb dX0_changedByRound_6 (by decide) (fun c34 => ?_) (fun c34 => ?_)
      · have hin : i = 3 := by have := le_nI (a := 3) (b := i) (by decide) (by omega) c34; omega
        rw [hin] at hl hP
        refine lv_iload_n C.1 hb dX0_changedByRound_23 rfl (lv_at hl 1 rfl) ?_
        exact wrI C hb hret hlk hP hS dX0_changedByRound_24 rfl rfl
      · have hlt : i < 3 := nle_nI (a := 3) (b := i) (by decide) (by omega) c34
        refine lv_iload_n C.1 hb dX0_changedByRound_9 rfl (lv_at hl 1 rfl) ?_
        refine lv_aload_n C.1 hb dX0_changedByRound_10 rfl (lv_at hl 0 rfl) ?_
        refine lv_iload_n C.1 hb dX0_changedByRound_11 rfl (lv_at hl 2 rfl) ?_
        refine run_wr (cRunX (As := [.int (nI i)]) (rest := [.int (nI (xRoundC S n i))]) C hb (hml.trans hl.1.symm) hP hS rfl (k_X0_passOver l g (xRound S n i) n (XI_round hI i) i hlt) wm_60 wm_61 wm_62 wm_63 wm_12 (n := 1) (by decide +kernel) rfl ⟨rfl, rfl, Nat.le_of_ble_eq_true rfl, Nat.le_of_ble_eq_true rfl⟩ (Nat.le_of_ble_eq_true rfl) rfl ⟨Nat.zero_le _, Nat.zero_le _⟩ dX0_changedByRound_12) hS (fun H locs hP hS => ?_)
        refine lv_iadd C.1 hb dX0_changedByRound_15 ?_
        refine toI (nI_add _ _) ?_
        refine lv_istore_n (lv' := [(1, .int (nI (xRoundC S n i + xPassC (xRound S n i) n i))), (0, .ref (gA g 0)), (2, .int (nI i))]) C.1 hb dX0_changedByRound_16 rfl hl (by decide) rfl (fun ls hl => ?_)
        refine lv_iinc (v := nI (i + 1)) (lv' := [(2, .int (nI (i + 1))), (1, .int (nI (xRoundC S n i + xPassC (xRound S n i) n i))), (0, .ref (gA g 0))]) C.1 hb dX0_changedByRound_17 hl (k := 2) rfl (nI_1 i) (by decide) rfl (fun ls hl => ?_)
        refine lv_goto (tgt := 4) C.1 hb dX0_changedByRound_20 (by decide) ?_
        exact ih (i + 1) (by omega) (by omega)  _ _ hP hS ls (lv_sub hl [2, 1, 0] rfl)
  exact key (3 - 0 + 1) 0 (by omega) (by omega)  _ _ hP hS ls (lv_sub hl [2, 1, 0] rfl)
end
section
theorem nI_sub1 {i : Nat} (h : 1 ≤ i) : nI i - 1 = nI (i - 1) := by
  obtain ⟨k, rfl⟩ : ∃ k, i = k + 1 := ⟨i - 1, by omega⟩
  exact nI_pred k
theorem xGP_lo (S : WS) (st : Nat) : ∀ i : Nat, i < st → xGP S st i = false := fun i h => by
  have h2 : ¬ st ≤ i := by omega
  simp [xGP, h2]
theorem xPassC_le (S : WS) (n t : Nat) : xPassC S n t ≤ 4 := Nat.le_trans (xCnt_le _ _) (levN_4 t)
theorem xRoundC_le (S : WS) (n : Nat) : ∀ t : Nat, xRoundC S n t ≤ 4 * t
  | 0 => Nat.le_refl 0
  | t + 1 => by
    have h1 := xRoundC_le S n t
    have h2 := xPassC_le (xRound S n t) n t
    show xRoundC S n t + xPassC (xRound S n t) n t ≤ 4 * (t + 1)
    omega
def xSettle (n : Nat) : Nat → Nat → WS → Nat × WS
  | 0, _, S => (60, S)
  | f + 1, r, S => if xRoundC S n 3 = 0 then (r, xRound S n 3) else xSettle n f (r + 1) (xRound S n 3)
def xSpr1 (S : WS) (n : Nat) : Int32 := (xBnd ((xSc S 4).toInt64 * mn64 (10000 * xTot (xIa S 1) (xLng S 3) n / xTot (xIa S 1) (xCapP S) n) 1000000 / 10000) 1 1000000).toInt32
def xSpread (S : WS) (n : Nat) : WS := if xTot (xIa S 1) (xCapP S) n ≤ 0 then S else xsSc S 4 (xSpr1 S n)
end
section
set_option maxRecDepth 100000 in
set_option maxHeartbeats 4000000 in
theorem k_X0_lowestFallingLevel (l : Launch) (g : gG) (S : WS) (t : Nat) (ht : t < 3) : Met l yX0_lowestFallingLevel (wA yX0_lowestFallingLevel cX0_lowestFallingLevel 3 (some .int)) ({ frames := 0, cells := 0, slots := 0, locals := 0 }) (PW g S [.ref (gA g 0), .int (nI t)]) (RQ (some (.int (xLow S t)))) 0 0 (fun _ => False) := by
  refine metI (by decide +kernel) (Nat.le_of_ble_eq_true rfl) ?_
  intro p e s m below meth c C hb hml hret hlk hP ls hl
  have C : CW g RX0 p s m ([.ref (gA g 0), .int (nI t)] : List Value).toArray := C
  have hS : va_S (Ab g) s.heap s.heap [] := va_S.rf
  have hl : lv_has ls 3 [(0, .ref (gA g 0)), (1, .int (nI t))] := hl
  have h4 := levN_4 t
  have h3 := levN_3 t
  refine lv_iconst (v := 1) C.1 hb dX0_lowestFallingLevel_0 (by decide) ?_
  refine lv_istore_n (lv' := [(2, .int 1), (0, .ref (gA g 0)), (1, .int (nI t))]) C.1 hb dX0_lowestFallingLevel_1 rfl hl (by decide) rfl (fun ls hl => ?_)
  have key : ∀ f i : Nat, levN t - i < f → i ≤ levN t → (xLowF (xFac S t) (levN t - i) i = xLow S t) → (1 ≤ i) → ∀ ls : Array Slot, lv_has ls 3 [(0, .ref (gA g 0)), (1, .int (nI t)), (2, .int (nI i))] → W p l e ({ frames := 0, cells := 0, slots := 0, locals := 0 }) s m ([.ref (gA g 0), .int (nI t)] : List Value).toArray below meth c s.heap [] 0 0 (MQ below (RQ (some (.int (xLow S t)))) ([.ref (gA g 0), .int (nI t)] : List Value).toArray s 0 0 (fun _ => False)) (F0 m 2 ls []) := by
    intro f
    induction f with
    | zero => intro i h; exact absurd h (Nat.not_lt_zero _)
    | succ f ih =>
      intro i hfi hi heq h1 ls hl
      refine lv_iload_n C.1 hb dX0_lowestFallingLevel_2 rfl (lv_at hl 2 rfl) ?_
      refine gX_LEVELS C hb hS dX0_lowestFallingLevel_3 ?_
      refine lv_iload_n C.1 hb dX0_lowestFallingLevel_6 rfl (lv_at hl 1 rfl) ?_
      refine ldX_LEVELS (j := t) C hb hS rfl ht dX0_lowestFallingLevel_7 ?_
      refine lv_icmp_ge (tgt := 40) C.1 hb dX0_lowestFallingLevel_8 (by decide) (fun c35 => ?_) (fun c35 => ?_)
      · have hin : i = levN t := by have := le_nI (a := levN t) (b := i) (by omega) (by omega) c35; omega
        rw [hin] at hl
        refine lv_iconst (v := (-1)) C.1 hb dX0_lowestFallingLevel_40 (by decide) ?_
        exact rdI C hb hret hlk dX0_lowestFallingLevel_41 (by rw [← heq, hin, Nat.sub_self]; rfl)
      · have hlt : i < levN t := nle_nI (a := levN t) (b := i) (by omega) (by omega) c35
        have hd : levN t - i = (levN t - (i + 1)) + 1 := by omega
        rw [hd] at heq
        refine lv_aload_n C.1 hb dX0_lowestFallingLevel_11 rfl (lv_at hl 0 rfl) ?_
        refine gX_factors C hb hP dX0_lowestFallingLevel_12 ?_
        refine lv_iload_n C.1 hb dX0_lowestFallingLevel_15 rfl (lv_at hl 1 rfl) ?_
        refine al_fac (t := t) C hb hP rfl ht dX0_lowestFallingLevel_16 ?_
        refine lv_iload_n C.1 hb dX0_lowestFallingLevel_17 rfl (lv_at hl 2 rfl) ?_
        refine ldX_fac (t := t) (j := i) C hb hP ht rfl (by omega) dX0_lowestFallingLevel_18 ?_
        refine lv_aload_n C.1 hb dX0_lowestFallingLevel_19 rfl (lv_at hl 0 rfl) ?_
        refine gX_factors C hb hP dX0_lowestFallingLevel_20 ?_
        refine lv_iload_n C.1 hb dX0_lowestFallingLevel_23 rfl (lv_at hl 1 rfl) ?_
        refine al_fac (t := t) C hb hP rfl ht dX0_lowestFallingLevel_24 ?_
        refine lv_iload_n C.1 hb dX0_lowestFallingLevel_25 rfl (lv_at hl 2 rfl) ?_
        refine lv_iconst (v := 1) C.1 hb dX0_lowestFallingLevel_26 (by decide) ?_
        refine lv_isub C.1 hb dX0_lowestFallingLevel_27 ?_
        refine ldX_fac (t := t) (j := (i - 1)) C hb hP ht (nI_sub1 h1) (by omega) dX0_lowestFallingLevel_28 ?_
        refine lv_icmp_ge (tgt := 34) C.1 hb dX0_lowestFallingLevel_29 (by decide) (fun c36 => ?_) (fun c36 => ?_)
        · refine lv_iinc (v := nI (i + 1)) (lv' := [(2, .int (nI (i + 1))), (0, .ref (gA g 0)), (1, .int (nI t))]) C.1 hb dX0_lowestFallingLevel_34 hl (k := 2) rfl (nI_1 i) (by decide) rfl (fun ls hl => ?_)
          refine lv_goto (tgt := 2) C.1 hb dX0_lowestFallingLevel_37 (by decide) ?_
          exact ih (i + 1) (by omega) (by omega) ((if_pos c36).symm.trans heq) (by omega) ls (lv_sub hl [1, 2, 0] rfl)
        · refine lv_iload_n C.1 hb dX0_lowestFallingLevel_32 rfl (lv_at hl 2 rfl) ?_
          exact rdI C hb hret hlk dX0_lowestFallingLevel_33 (by rw [← heq]; exact (if_neg c36).symm)
  exact key (levN t - 1 + 1) 1 (by omega) (by omega) rfl (Nat.le_refl 1) ls (lv_sub hl [1, 2, 0] rfl)

set_option maxRecDepth 100000 in
set_option maxHeartbeats 4000000 in
theorem k_X0_groupMean (l : Launch) (g : gG) (S : WS) (n : Nat) (hI : XI n S) (t st : Nat) (ht : t < 3) (hst : st < 4) : Met l yX0_groupMean (wA yX0_groupMean cX0_groupMean 13 (some .int)) ({ frames := 1, cells := 0, slots := 0, locals := 60 }) (PW g S [.ref (gA g 0), .int (nI t), .int (nI st)]) (RQ (some (.int (xMean S n t st)))) 0 0 (fun _ => False) := by
  refine metI (by decide +kernel) (Nat.le_of_ble_eq_true rfl) ?_
  intro p e s m below meth c C hb hml hret hlk hP ls hl
  have C : CW g RX0 p s m ([.ref (gA g 0), .int (nI t), .int (nI st)] : List Value).toArray := C
  have hS : va_S (Ab g) s.heap s.heap [] := va_S.rf
  have hl : lv_has ls 13 [(0, .ref (gA g 0)), (1, .int (nI t)), (2, .int (nI st))] := hl
  have h4 := levN_4 t
  have h3 := levN_3 t
  have hn40 := hI.1
  have hz := xGP_lo S st
  refine lv_lconst (v := 0) C.1 hb dX0_groupMean_0 (by decide) ?_
  refine lv_lstore_n (lv' := [(3, .long 0), (0, .ref (gA g 0)), (1, .int (nI t)), (2, .int (nI st))]) C.1 hb dX0_groupMean_1 rfl hl (by decide) rfl (fun ls hl => ?_)
  refine lv_iconst (v := 0) C.1 hb dX0_groupMean_2 (by decide) ?_
  refine lv_istore (lv' := [(5, .int 0), (3, .long 0), (0, .ref (gA g 0)), (1, .int (nI t)), (2, .int (nI st))]) C.1 hb dX0_groupMean_3 hl (by decide) rfl (fun ls hl => ?_)
  refine lv_lconst (v := 0) C.1 hb dX0_groupMean_5 (by decide) ?_
  refine lv_lstore (lv' := [(6, .long 0), (5, .int 0), (3, .long 0), (0, .ref (gA g 0)), (1, .int (nI t)), (2, .int (nI st))]) C.1 hb dX0_groupMean_6 hl (by decide) rfl (fun ls hl => ?_)
  refine lv_lconst (v := 0) C.1 hb dX0_groupMean_8 (by decide) ?_
  refine lv_lstore (lv' := [(8, .long 0), (6, .long 0), (5, .int 0), (3, .long 0), (0, .ref (gA g 0)), (1, .int (nI t)), (2, .int (nI st))]) C.1 hb dX0_groupMean_9 hl (by decide) rfl (fun ls hl => ?_)
  refine lv_iload_n C.1 hb dX0_groupMean_11 rfl (lv_at hl 6 rfl) ?_
  refine lv_istore (lv' := [(10, .int (nI st)), (8, .long 0), (6, .long 0), (5, .int 0), (3, .long 0), (0, .ref (gA g 0)), (1, .int (nI t)), (2, .int (nI st))]) C.1 hb dX0_groupMean_12 hl (by decide) rfl (fun ls hl => ?_)
  have key : ∀ f i : Nat, levN t - i < f → i ≤ levN t → (st ≤ i) → ∀ ls : Array Slot, lv_has ls 13 [(0, .ref (gA g 0)), (1, .int (nI t)), (2, .int (nI st)), (3, .long (wsum (xGP S st) (fun k => (xFac S t k).toInt64) i)), (5, .int (nI (xCnt (xGP S st) i))), (6, .long (wsum (xGP S st) (fun k => xWt S n t k * (xFac S t k).toInt64) i)), (8, .long (wsum (xGP S st) (xWt S n t) i)), (10, .int (nI i))] → W p l e ({ frames := 1, cells := 0, slots := 0, locals := 60 }) s m ([.ref (gA g 0), .int (nI t), .int (nI st)] : List Value).toArray below meth c s.heap [] 0 0 (MQ below (RQ (some (.int (xMean S n t st)))) ([.ref (gA g 0), .int (nI t), .int (nI st)] : List Value).toArray s 0 0 (fun _ => False)) (F0 m 14 ls []) := by
    intro f
    induction f with
    | zero => intro i h; exact absurd h (Nat.not_lt_zero _)
    | succ f ih =>
      intro i hfi hi h1 ls hl
      refine lv_iload C.1 hb dX0_groupMean_14 (lv_at hl 7 rfl) ?_
      refine gX_LEVELS C hb hS dX0_groupMean_16 ?_
      refine lv_iload_n C.1 hb dX0_groupMean_19 rfl (lv_at hl 1 rfl) ?_
      refine ldX_LEVELS (j := t) C hb hS rfl ht dX0_groupMean_20 ?_
      refine lv_icmp_ge (tgt := 95) C.1 hb dX0_groupMean_21 (by decide) (fun c37 => ?_) (fun c37 => ?_)
      · have hin : i = levN t := by have := le_nI (a := levN t) (b := i) (by omega) (by omega) c37; omega
        rw [hin] at hl
        refine lv_lload C.1 hb dX0_groupMean_95 (lv_at hl 6 rfl) ?_
        refine lv_lconst (v := 0) C.1 hb dX0_groupMean_97 (by decide) ?_
        refine lc_le (tgt := 110) C hb dX0_groupMean_98 dX0_groupMean_99 (by decide) (fun c38 => ?_) (fun c38 => ?_)
        · refine lv_lload_n C.1 hb dX0_groupMean_110 rfl (lv_at hl 3 rfl) ?_
          refine lv_iload C.1 hb dX0_groupMean_111 (lv_at hl 4 rfl) ?_
          refine lv_iconst (v := 1) C.1 hb dX0_groupMean_113 (by decide) ?_
          refine va_mmax C.1 hb (hml.trans hl.1.symm) C.2.1 (C.2.2.1 _ wm_159) (C.2.2.1 _ wm_160) (C.2.2.1 _ wm_80) (C.2.2.1 _ wm_161) (Nat.le_of_ble_eq_true rfl) (Nat.le_of_ble_eq_true rfl) (Nat.zero_le _) (Nat.zero_le _) dX0_groupMean_114 ?_
          refine lv_i2l C.1 hb dX0_groupMean_117 rfl ?_
          refine lv_ldiv C.1 hb dX0_groupMean_118 (mxI_ne0 (by have := xCnt_le (xGP S st) (levN t); omega)) ?_
          refine lv_l2i C.1 hb dX0_groupMean_119 rfl ?_
          exact rdI C hb hret hlk dX0_groupMean_120 (by unfold xMean; rw [if_pos c38]; rfl)
        · refine lv_lload C.1 hb dX0_groupMean_102 (lv_at hl 5 rfl) ?_
          refine lv_lload C.1 hb dX0_groupMean_104 (lv_at hl 6 rfl) ?_
          refine lv_ldiv C.1 hb dX0_groupMean_106 (ne0_nle c38) ?_
          refine lv_goto (tgt := 119) C.1 hb dX0_groupMean_107 (by decide) ?_
          refine lv_l2i C.1 hb dX0_groupMean_119 rfl ?_
          exact rdI C hb hret hlk dX0_groupMean_120 (by unfold xMean; rw [if_neg c38])
      · have hlt : i < levN t := nle_nI (a := levN t) (b := i) (by omega) (by omega) c37
        refine lv_aload_n C.1 hb dX0_groupMean_24 rfl (lv_at hl 0 rfl) ?_
        refine gX_groupStarts C hb hP dX0_groupMean_25 ?_
        refine lv_iload C.1 hb dX0_groupMean_28 (lv_at hl 7 rfl) ?_
        refine ldX_groupStarts (j := i) C hb hP rfl (by omega) dX0_groupMean_30 ?_
        refine lv_iload_n C.1 hb dX0_groupMean_31 rfl (lv_at hl 2 rfl) ?_
        refine lv_icmp_ne (tgt := 89) C.1 hb dX0_groupMean_32 (by decide) (fun c39 => ?_) (fun c39 => ?_)
        · have hp : xGP S st i = false := by simp [xGP, c39]
          refine lv_iinc (v := nI (i + 1)) (lv' := [(10, .int (nI (i + 1))), (0, .ref (gA g 0)), (1, .int (nI t)), (2, .int (nI st)), (3, .long (wsum (xGP S st) (fun k => (xFac S t k).toInt64) i)), (5, .int (nI (xCnt (xGP S st) i))), (6, .long (wsum (xGP S st) (fun k => xWt S n t k * (xFac S t k).toInt64) i)), (8, .long (wsum (xGP S st) (xWt S n t) i))]) C.1 hb dX0_groupMean_89 hl (k := 7) rfl (nI_1 i) (by decide) rfl (fun ls hl => ?_)
          refine lv_goto (tgt := 14) C.1 hb dX0_groupMean_92 (by decide) ?_
          exact ih (i + 1) (by omega) (by omega) (by omega) ls (by rw [wsum_f hp, wsum_f hp, wsum_f hp, xCnt_f hp]; exact lv_sub hl [1, 2, 3, 4, 5, 6, 7, 0] rfl)
        · have hp : xGP S st i = true := by simp [xGP, c39, h1]
          refine lv_aload_n C.1 hb dX0_groupMean_35 rfl (lv_at hl 0 rfl) ?_
          refine lv_aload_n C.1 hb dX0_groupMean_36 rfl (lv_at hl 0 rfl) ?_
          refine gX_exposures C hb hP dX0_groupMean_37 ?_
          refine lv_iload_n C.1 hb dX0_groupMean_40 rfl (lv_at hl 1 rfl) ?_
          refine lv_iload C.1 hb dX0_groupMean_41 (lv_at hl 7 rfl) ?_
          refine run_rd (cRunX (As := [.ref (gA g 9), .int (nI t), .int (nI i)]) (rest := []) C hb (hml.trans hl.1.symm) hP hS rfl (k_X0_levelTotal l g S n hI 0 (by decide) t ht (nI i)) wm_71 wm_72 wm_73 wm_74 wm_12 (n := 3) (by decide +kernel) rfl ⟨rfl, rfl, Nat.le_of_ble_eq_true rfl, Nat.le_of_ble_eq_true rfl⟩ (Nat.le_of_ble_eq_true rfl) rfl ⟨Nat.zero_le _, Nat.zero_le _⟩ dX0_groupMean_43) ?_
          refine lv_lstore (lv' := [(11, .long (xWt S n t i)), (0, .ref (gA g 0)), (1, .int (nI t)), (2, .int (nI st)), (3, .long (wsum (xGP S st) (fun k => (xFac S t k).toInt64) i)), (5, .int (nI (xCnt (xGP S st) i))), (6, .long (wsum (xGP S st) (fun k => xWt S n t k * (xFac S t k).toInt64) i)), (8, .long (wsum (xGP S st) (xWt S n t) i)), (10, .int (nI i))]) C.1 hb dX0_groupMean_46 hl (by decide) rfl (fun ls hl => ?_)
          refine lv_lload_n C.1 hb dX0_groupMean_48 rfl (lv_at hl 4 rfl) ?_
          refine lv_aload_n C.1 hb dX0_groupMean_49 rfl (lv_at hl 1 rfl) ?_
          refine gX_factors C hb hP dX0_groupMean_50 ?_
          refine lv_iload_n C.1 hb dX0_groupMean_53 rfl (lv_at hl 2 rfl) ?_
          refine al_fac (t := t) C hb hP rfl ht dX0_groupMean_54 ?_
          refine lv_iload C.1 hb dX0_groupMean_55 (lv_at hl 8 rfl) ?_
          refine ldX_fac (t := t) (j := i) C hb hP ht rfl (by omega) dX0_groupMean_57 ?_
          refine lv_i2l C.1 hb dX0_groupMean_58 rfl ?_
          refine lv_ladd C.1 hb dX0_groupMean_59 ?_
          refine lv_lstore_n (lv' := [(3, .long ((wsum (xGP S st) (fun k => (xFac S t k).toInt64) i) + (xFac S t i).toInt64)), (11, .long (xWt S n t i)), (0, .ref (gA g 0)), (1, .int (nI t)), (2, .int (nI st)), (5, .int (nI (xCnt (xGP S st) i))), (6, .long (wsum (xGP S st) (fun k => xWt S n t k * (xFac S t k).toInt64) i)), (8, .long (wsum (xGP S st) (xWt S n t) i)), (10, .int (nI i))]) C.1 hb dX0_groupMean_60 rfl hl (by decide) rfl (fun ls hl => ?_)
          refine lv_iinc (v := nI ((xCnt (xGP S st) i) + 1)) (lv' := [(5, .int (nI ((xCnt (xGP S st) i) + 1))), (3, .long ((wsum (xGP S st) (fun k => (xFac S t k).toInt64) i) + (xFac S t i).toInt64)), (11, .long (xWt S n t i)), (0, .ref (gA g 0)), (1, .int (nI t)), (2, .int (nI st)), (6, .long (wsum (xGP S st) (fun k => xWt S n t k * (xFac S t k).toInt64) i)), (8, .long (wsum (xGP S st) (xWt S n t) i)), (10, .int (nI i))]) C.1 hb dX0_groupMean_61 hl (k := 5) rfl (nI_1 (xCnt (xGP S st) i)) (by decide) rfl (fun ls hl => ?_)
          refine lv_lload C.1 hb dX0_groupMean_64 (lv_at hl 6 rfl) ?_
          refine lv_lload C.1 hb dX0_groupMean_66 (lv_at hl 2 rfl) ?_
          refine lv_aload_n C.1 hb dX0_groupMean_68 rfl (lv_at hl 3 rfl) ?_
          refine gX_factors C hb hP dX0_groupMean_69 ?_
          refine lv_iload_n C.1 hb dX0_groupMean_72 rfl (lv_at hl 4 rfl) ?_
          refine al_fac (t := t) C hb hP rfl ht dX0_groupMean_73 ?_
          refine lv_iload C.1 hb dX0_groupMean_74 (lv_at hl 8 rfl) ?_
          refine ldX_fac (t := t) (j := i) C hb hP ht rfl (by omega) dX0_groupMean_76 ?_
          refine lv_i2l C.1 hb dX0_groupMean_77 rfl ?_
          refine lv_lmul C.1 hb dX0_groupMean_78 ?_
          refine lv_ladd C.1 hb dX0_groupMean_79 ?_
          refine lv_lstore (lv' := [(6, .long ((wsum (xGP S st) (fun k => xWt S n t k * (xFac S t k).toInt64) i) + ((xWt S n t i) * (xFac S t i).toInt64))), (5, .int (nI ((xCnt (xGP S st) i) + 1))), (3, .long ((wsum (xGP S st) (fun k => (xFac S t k).toInt64) i) + (xFac S t i).toInt64)), (11, .long (xWt S n t i)), (0, .ref (gA g 0)), (1, .int (nI t)), (2, .int (nI st)), (8, .long (wsum (xGP S st) (xWt S n t) i)), (10, .int (nI i))]) C.1 hb dX0_groupMean_80 hl (by decide) rfl (fun ls hl => ?_)
          refine lv_lload C.1 hb dX0_groupMean_82 (lv_at hl 7 rfl) ?_
          refine lv_lload C.1 hb dX0_groupMean_84 (lv_at hl 3 rfl) ?_
          refine lv_ladd C.1 hb dX0_groupMean_86 ?_
          refine lv_lstore (lv' := [(8, .long ((wsum (xGP S st) (xWt S n t) i) + (xWt S n t i))), (6, .long ((wsum (xGP S st) (fun k => xWt S n t k * (xFac S t k).toInt64) i) + ((xWt S n t i) * (xFac S t i).toInt64))), (5, .int (nI ((xCnt (xGP S st) i) + 1))), (3, .long ((wsum (xGP S st) (fun k => (xFac S t k).toInt64) i) + (xFac S t i).toInt64)), (11, .long (xWt S n t i)), (0, .ref (gA g 0)), (1, .int (nI t)), (2, .int (nI st)), (10, .int (nI i))]) C.1 hb dX0_groupMean_87 hl (by decide) rfl (fun ls hl => ?_)
          refine lv_iinc (v := nI (i + 1)) (lv' := [(10, .int (nI (i + 1))), (8, .long ((wsum (xGP S st) (xWt S n t) i) + (xWt S n t i))), (6, .long ((wsum (xGP S st) (fun k => xWt S n t k * (xFac S t k).toInt64) i) + ((xWt S n t i) * (xFac S t i).toInt64))), (5, .int (nI ((xCnt (xGP S st) i) + 1))), (3, .long ((wsum (xGP S st) (fun k => (xFac S t k).toInt64) i) + (xFac S t i).toInt64)), (11, .long (xWt S n t i)), (0, .ref (gA g 0)), (1, .int (nI t)), (2, .int (nI st))]) C.1 hb dX0_groupMean_89 hl (k := 8) rfl (nI_1 i) (by decide) rfl (fun ls hl => ?_)
          refine lv_goto (tgt := 14) C.1 hb dX0_groupMean_92 (by decide) ?_
          exact ih (i + 1) (by omega) (by omega) (by omega) ls (by rw [wsum_t hp, wsum_t hp, wsum_t hp, xCnt_t hp]; exact lv_sub hl [6, 7, 8, 4, 3, 2, 1, 0] rfl)
  exact key (levN t - st + 1) st (by omega) (by omega) (Nat.le_refl _) ls (by rw [wsum_z hz, wsum_z hz, wsum_z hz, xCnt_z hz]; exact lv_sub hl [5, 6, 7, 4, 3, 2, 1, 0] rfl)

set_option maxRecDepth 100000 in
set_option maxHeartbeats 4000000 in
theorem k_X0_joinToLevelAhead (l : Launch) (g : gG) (S : WS) (n : Nat) (hI : XI n S) (t fl st : Nat) (ht : t < 3) (hf1 : 1 ≤ fl) (hfl : fl < levN t) (hst : xIa S 2 (fl - 1) = nI st) (hst2 : st < fl) : Met l yX0_joinToLevelAhead (wA yX0_joinToLevelAhead cX0_joinToLevelAhead 6 none) ({ frames := 2, cells := 0, slots := 0, locals := 100 }) (PW g S [.ref (gA g 0), .int (nI t), .int (nI fl)]) (WQ g (xJoin S n t fl st) (none)) 0 0 (Ab g) := by
  refine metI (by decide +kernel) (Nat.le_of_ble_eq_true rfl) ?_
  intro p e s m below meth c C hb hml hret hlk hP ls hl
  have C : CW g RX0 p s m ([.ref (gA g 0), .int (nI t), .int (nI fl)] : List Value).toArray := C
  have hS : va_S (Ab g) s.heap s.heap [] := va_S.rf
  have hl : lv_has ls 6 [(0, .ref (gA g 0)), (1, .int (nI t)), (2, .int (nI fl))] := hl
  have h4 := levN_4 t
  have h3 := levN_3 t
  have hn40 := hI.1
  refine lv_aload_n C.1 hb dX0_joinToLevelAhead_0 rfl (lv_at hl 0 rfl) ?_
  refine gX_groupStarts C hb hP dX0_joinToLevelAhead_1 ?_
  refine lv_iload_n C.1 hb dX0_joinToLevelAhead_4 rfl (lv_at hl 2 rfl) ?_
  refine lv_iconst (v := 1) C.1 hb dX0_joinToLevelAhead_5 (by decide) ?_
  refine lv_isub C.1 hb dX0_joinToLevelAhead_6 ?_
  refine ldX_groupStarts (j := (fl - 1)) C hb hP (nI_sub1 hf1) (by omega) dX0_joinToLevelAhead_7 ?_
  refine toI hst ?_
  refine lv_istore_n (lv' := [(3, .int (nI st)), (0, .ref (gA g 0)), (1, .int (nI t)), (2, .int (nI fl))]) C.1 hb dX0_joinToLevelAhead_8 rfl hl (by decide) rfl (fun ls hl => ?_)
  refine lv_iload_n C.1 hb dX0_joinToLevelAhead_9 rfl (lv_at hl 3 rfl) ?_
  refine lv_istore (lv' := [(4, .int (nI fl)), (3, .int (nI st)), (0, .ref (gA g 0)), (1, .int (nI t)), (2, .int (nI fl))]) C.1 hb dX0_joinToLevelAhead_10 hl (by decide) rfl (fun ls hl => ?_)
  have key : ∀ f i : Nat, levN t - i < f → i ≤ levN t → (fl ≤ i) → ∀ (H : Heap) (locs : List Loc), HW g (xsIa S 2 (xJoinG S t fl st i)) H → va_S (Ab g) s.heap H locs → ∀ ls : Array Slot, lv_has ls 6 [(0, .ref (gA g 0)), (1, .int (nI t)), (2, .int (nI fl)), (3, .int (nI st)), (4, .int (nI i))] → W p l e ({ frames := 2, cells := 0, slots := 0, locals := 100 }) s m ([.ref (gA g 0), .int (nI t), .int (nI fl)] : List Value).toArray below meth c H locs 0 0 (MQ below (WQ g (xJoin S n t fl st) (none)) ([.ref (gA g 0), .int (nI t), .int (nI fl)] : List Value).toArray s 0 0 (Ab g)) (F0 m 12 ls []) := by
    intro f
    induction f with
    | zero => intro i h; exact absurd h (Nat.not_lt_zero _)
    | succ f ih =>
      intro i hfi hi h1 H locs hP hS ls hl
      refine lv_iload C.1 hb dX0_joinToLevelAhead_12 (lv_at hl 4 rfl) ?_
      refine gX_LEVELS C hb hS dX0_joinToLevelAhead_14 ?_
      refine lv_iload_n C.1 hb dX0_joinToLevelAhead_17 rfl (lv_at hl 1 rfl) ?_
      refine ldX_LEVELS (j := t) C hb hS rfl ht dX0_joinToLevelAhead_18 ?_
      refine lv_icmp_ge (tgt := 47) C.1 hb dX0_joinToLevelAhead_19 (by decide) (fun c40 => ?_) (fun c40 => ?_)
      · have hin : i = levN t := by have := le_nI (a := levN t) (b := i) (by omega) (by omega) c40; omega
        rw [hin] at hl hP
        refine lv_aload_n C.1 hb dX0_joinToLevelAhead_47 rfl (lv_at hl 0 rfl) ?_
        refine lv_iload_n C.1 hb dX0_joinToLevelAhead_48 rfl (lv_at hl 1 rfl) ?_
        refine lv_iload_n C.1 hb dX0_joinToLevelAhead_49 rfl (lv_at hl 3 rfl) ?_
        refine run_rd (cRunX (As := [.int (nI t), .int (nI st)]) (rest := []) C hb (hml.trans hl.1.symm) hP hS rfl (k_X0_groupMean l g (xJoin1 S t fl st) n (XI_ia 2 _ hI) t st ht (by omega)) wm_213 wm_214 wm_215 wm_216 wm_12 (n := 2) (by decide +kernel) rfl ⟨rfl, rfl, Nat.le_of_ble_eq_true rfl, Nat.le_of_ble_eq_true rfl⟩ (Nat.le_of_ble_eq_true rfl) rfl ⟨Nat.zero_le _, Nat.zero_le _⟩ dX0_joinToLevelAhead_50) ?_
        refine lv_istore (lv' := [(4, .int (xMean (xJoin1 S t fl st) n t st)), (0, .ref (gA g 0)), (1, .int (nI t)), (2, .int (nI fl)), (3, .int (nI st))]) C.1 hb dX0_joinToLevelAhead_53 hl (by decide) rfl (fun ls hl => ?_)
        refine lv_iload_n C.1 hb dX0_joinToLevelAhead_55 rfl (lv_at hl 4 rfl) ?_
        refine lv_istore (lv' := [(5, .int (nI st)), (4, .int (xMean (xJoin1 S t fl st) n t st)), (0, .ref (gA g 0)), (1, .int (nI t)), (2, .int (nI fl)), (3, .int (nI st))]) C.1 hb dX0_joinToLevelAhead_56 hl (by decide) rfl (fun ls hl => ?_)
        have key2 : ∀ f i : Nat, levN t - i < f → i ≤ levN t → (st ≤ i) → ∀ (H : Heap) (locs : List Loc), HW g (xsFac (xJoin1 S t fl st) t (xJoinF (xJoin1 S t fl st) t st (xMean (xJoin1 S t fl st) n t st) i)) H → va_S (Ab g) s.heap H locs → ∀ ls : Array Slot, lv_has ls 6 [(0, .ref (gA g 0)), (1, .int (nI t)), (3, .int (nI st)), (4, .int (xMean (xJoin1 S t fl st) n t st)), (5, .int (nI i))] → W p l e ({ frames := 2, cells := 0, slots := 0, locals := 100 }) s m ([.ref (gA g 0), .int (nI t), .int (nI fl)] : List Value).toArray below meth c H locs 0 0 (MQ below (WQ g (xJoin S n t fl st) (none)) ([.ref (gA g 0), .int (nI t), .int (nI fl)] : List Value).toArray s 0 0 (Ab g)) (F0 m 58 ls []) := by
          intro f
          induction f with
          | zero => intro i h; exact absurd h (Nat.not_lt_zero _)
          | succ f ih =>
            intro i hfi hi h2 H locs hP hS ls hl
            refine lv_iload C.1 hb dX0_joinToLevelAhead_58 (lv_at hl 4 rfl) ?_
            refine gX_LEVELS C hb hS dX0_joinToLevelAhead_60 ?_
            refine lv_iload_n C.1 hb dX0_joinToLevelAhead_63 rfl (lv_at hl 1 rfl) ?_
            refine ldX_LEVELS (j := t) C hb hS rfl ht dX0_joinToLevelAhead_64 ?_
            refine lv_icmp_ge (tgt := 96) C.1 hb dX0_joinToLevelAhead_65 (by decide) (fun c41 => ?_) (fun c41 => ?_)
            · have hin : i = levN t := by have := le_nI (a := levN t) (b := i) (by omega) (by omega) c41; omega
              rw [hin] at hl hP
              exact wrV C hb hret hlk hP hS dX0_joinToLevelAhead_96 rfl
            · have hlt : i < levN t := nle_nI (a := levN t) (b := i) (by omega) (by omega) c41
              refine lv_aload_n C.1 hb dX0_joinToLevelAhead_68 rfl (lv_at hl 0 rfl) ?_
              refine gX_groupStarts C hb hP dX0_joinToLevelAhead_69 ?_
              refine lv_iload C.1 hb dX0_joinToLevelAhead_72 (lv_at hl 4 rfl) ?_
              refine ldX_groupStarts (j := i) C hb hP rfl (by omega) dX0_joinToLevelAhead_74 ?_
              refine lv_iload_n C.1 hb dX0_joinToLevelAhead_75 rfl (lv_at hl 2 rfl) ?_
              refine lv_icmp_ne (tgt := 90) C.1 hb dX0_joinToLevelAhead_76 (by decide) (fun c42 => ?_) (fun c42 => ?_)
              · refine lv_iinc (v := nI (i + 1)) (lv' := [(5, .int (nI (i + 1))), (0, .ref (gA g 0)), (1, .int (nI t)), (3, .int (nI st)), (4, .int (xMean (xJoin1 S t fl st) n t st))]) C.1 hb dX0_joinToLevelAhead_90 hl (k := 4) rfl (nI_1 i) (by decide) rfl (fun ls hl => ?_)
                refine lv_goto (tgt := 58) C.1 hb dX0_joinToLevelAhead_93 (by decide) ?_
                exact ih (i + 1) (by omega) (by omega) (by omega) _ _ (by rw [jf_keep (xJoin1 S t fl st) t st i _ c42]; exact hP) hS ls (lv_sub hl [1, 2, 3, 4, 0] rfl)
              · refine lv_aload_n C.1 hb dX0_joinToLevelAhead_79 rfl (lv_at hl 0 rfl) ?_
                refine gX_factors C hb hP dX0_joinToLevelAhead_80 ?_
                refine lv_iload_n C.1 hb dX0_joinToLevelAhead_83 rfl (lv_at hl 1 rfl) ?_
                refine al_fac (t := t) C hb hP rfl ht dX0_joinToLevelAhead_84 ?_
                refine lv_iload C.1 hb dX0_joinToLevelAhead_85 (lv_at hl 4 rfl) ?_
                refine lv_iload C.1 hb dX0_joinToLevelAhead_87 (lv_at hl 3 rfl) ?_
                refine stX_fac (t := t) (j := i) C hb hP hS ht rfl (by omega) dX0_joinToLevelAhead_89 (fun H locs hP hS => ?_)
                refine lv_iinc (v := nI (i + 1)) (lv' := [(5, .int (nI (i + 1))), (0, .ref (gA g 0)), (1, .int (nI t)), (3, .int (nI st)), (4, .int (xMean (xJoin1 S t fl st) n t st))]) C.1 hb dX0_joinToLevelAhead_90 hl (k := 4) rfl (nI_1 i) (by decide) rfl (fun ls hl => ?_)
                refine lv_goto (tgt := 58) C.1 hb dX0_joinToLevelAhead_93 (by decide) ?_
                exact ih (i + 1) (by omega) (by omega) (by omega) _ _ (by rw [← jf_step (xJoin1 S t fl st) t st i _ h2 c42]; exact hP) hS ls (lv_sub hl [1, 2, 3, 4, 0] rfl)
        exact key2 (levN t - st + 1) st (by omega) (by omega) (Nat.le_refl _) _ _ (by rw [jf_0]; exact hP) hS ls (lv_sub hl [2, 3, 5, 1, 0] rfl)
      · have hlt : i < levN t := nle_nI (a := levN t) (b := i) (by omega) (by omega) c40
        refine lv_aload_n C.1 hb dX0_joinToLevelAhead_22 rfl (lv_at hl 0 rfl) ?_
        refine gX_groupStarts C hb hP dX0_joinToLevelAhead_23 ?_
        refine lv_iload C.1 hb dX0_joinToLevelAhead_26 (lv_at hl 4 rfl) ?_
        refine ldX_groupStarts (j := i) C hb hP rfl (by omega) dX0_joinToLevelAhead_28 ?_
        refine toI (show xIa (xsIa S 2 (xJoinG S t fl st i)) 2 i = xIa S 2 i by rw [ia_at, jg_at]) ?_
        refine lv_iload_n C.1 hb dX0_joinToLevelAhead_29 rfl (lv_at hl 2 rfl) ?_
        refine lv_icmp_ne (tgt := 41) C.1 hb dX0_joinToLevelAhead_30 (by decide) (fun c43 => ?_) (fun c43 => ?_)
        · refine lv_iinc (v := nI (i + 1)) (lv' := [(4, .int (nI (i + 1))), (0, .ref (gA g 0)), (1, .int (nI t)), (2, .int (nI fl)), (3, .int (nI st))]) C.1 hb dX0_joinToLevelAhead_41 hl (k := 4) rfl (nI_1 i) (by decide) rfl (fun ls hl => ?_)
          refine lv_goto (tgt := 12) C.1 hb dX0_joinToLevelAhead_44 (by decide) ?_
          exact ih (i + 1) (by omega) (by omega) (by omega) _ _ (by rw [jg_keep S t fl st i c43]; exact hP) hS ls (lv_sub hl [1, 2, 3, 4, 0] rfl)
        · refine lv_aload_n C.1 hb dX0_joinToLevelAhead_33 rfl (lv_at hl 0 rfl) ?_
          refine gX_groupStarts C hb hP dX0_joinToLevelAhead_34 ?_
          refine lv_iload C.1 hb dX0_joinToLevelAhead_37 (lv_at hl 4 rfl) ?_
          refine lv_iload_n C.1 hb dX0_joinToLevelAhead_39 rfl (lv_at hl 3 rfl) ?_
          refine stX_groupStarts (j := i) C hb hP hS rfl (by omega) dX0_joinToLevelAhead_40 (fun H locs hP hS => ?_)
          refine lv_iinc (v := nI (i + 1)) (lv' := [(4, .int (nI (i + 1))), (0, .ref (gA g 0)), (1, .int (nI t)), (2, .int (nI fl)), (3, .int (nI st))]) C.1 hb dX0_joinToLevelAhead_41 hl (k := 4) rfl (nI_1 i) (by decide) rfl (fun ls hl => ?_)
          refine lv_goto (tgt := 12) C.1 hb dX0_joinToLevelAhead_44 (by decide) ?_
          exact ih (i + 1) (by omega) (by omega) (by omega) _ _ (by rw [← jg_step S t fl st i h1 c43]; exact hP) hS ls (lv_sub hl [1, 2, 3, 4, 0] rfl)
  exact key (levN t - fl + 1) fl (by omega) (by omega) (Nat.le_refl _) _ _ (by rw [jg_0]; exact hP) hS ls (lv_sub hl [2, 3, 4, 1, 0] rfl)

set_option maxRecDepth 100000 in
set_option maxHeartbeats 4000000 in
theorem k_X0_changedSinceBefore (l : Launch) (g : gG) (S : WS) (t : Nat) (ht : t < 3) : Met l yX0_changedSinceBefore (wA yX0_changedSinceBefore cX0_changedSinceBefore 4 (some .int)) ({ frames := 0, cells := 0, slots := 0, locals := 0 }) (PW g S [.ref (gA g 0), .int (nI t)]) (RQ (some (.int (nI (xCnt (xChP S t) (levN t)))))) 0 0 (fun _ => False) := by
  refine metI (by decide +kernel) (Nat.le_of_ble_eq_true rfl) ?_
  intro p e s m below meth c C hb hml hret hlk hP ls hl
  have C : CW g RX0 p s m ([.ref (gA g 0), .int (nI t)] : List Value).toArray := C
  have hS : va_S (Ab g) s.heap s.heap [] := va_S.rf
  have hl : lv_has ls 4 [(0, .ref (gA g 0)), (1, .int (nI t))] := hl
  have h4 := levN_4 t
  refine lv_iconst (v := 0) C.1 hb dX0_changedSinceBefore_0 (by decide) ?_
  refine lv_istore_n (lv' := [(2, .int 0), (0, .ref (gA g 0)), (1, .int (nI t))]) C.1 hb dX0_changedSinceBefore_1 rfl hl (by decide) rfl (fun ls hl => ?_)
  refine lv_iconst (v := 0) C.1 hb dX0_changedSinceBefore_2 (by decide) ?_
  refine lv_istore_n (lv' := [(3, .int 0), (2, .int 0), (0, .ref (gA g 0)), (1, .int (nI t))]) C.1 hb dX0_changedSinceBefore_3 rfl hl (by decide) rfl (fun ls hl => ?_)
  have key : ∀ f i : Nat, levN t - i < f → i ≤ levN t → ∀ ls : Array Slot, lv_has ls 4 [(0, .ref (gA g 0)), (1, .int (nI t)), (2, .int (nI (xCnt (xChP S t) i))), (3, .int (nI i))] → W p l e ({ frames := 0, cells := 0, slots := 0, locals := 0 }) s m ([.ref (gA g 0), .int (nI t)] : List Value).toArray below meth c s.heap [] 0 0 (MQ below (RQ (some (.int (nI (xCnt (xChP S t) (levN t)))))) ([.ref (gA g 0), .int (nI t)] : List Value).toArray s 0 0 (fun _ => False)) (F0 m 4 ls []) := by
    intro f
    induction f with
    | zero => intro i h; exact absurd h (Nat.not_lt_zero _)
    | succ f ih =>
      intro i hfi hi  ls hl
      refine lv_iload_n C.1 hb dX0_changedSinceBefore_4 rfl (lv_at hl 3 rfl) ?_
      refine gX_LEVELS C hb hS dX0_changedSinceBefore_5 ?_
      refine lv_iload_n C.1 hb dX0_changedSinceBefore_8 rfl (lv_at hl 1 rfl) ?_
      refine ldX_LEVELS (j := t) C hb hS rfl ht dX0_changedSinceBefore_9 ?_
      refine lv_icmp_ge (tgt := 39) C.1 hb dX0_changedSinceBefore_10 (by decide) (fun c44 => ?_) (fun c44 => ?_)
      · have hin : i = levN t := by have := le_nI (a := levN t) (b := i) (by omega) (by omega) c44; omega
        rw [hin] at hl
        refine lv_iload_n C.1 hb dX0_changedSinceBefore_39 rfl (lv_at hl 2 rfl) ?_
        exact rdI C hb hret hlk dX0_changedSinceBefore_40 rfl
      · have hlt : i < levN t := nle_nI (a := levN t) (b := i) (by omega) (by omega) c44
        refine lv_aload_n C.1 hb dX0_changedSinceBefore_13 rfl (lv_at hl 0 rfl) ?_
        refine gX_factors C hb hP dX0_changedSinceBefore_14 ?_
        refine lv_iload_n C.1 hb dX0_changedSinceBefore_17 rfl (lv_at hl 1 rfl) ?_
        refine al_fac (t := t) C hb hP rfl ht dX0_changedSinceBefore_18 ?_
        refine lv_iload_n C.1 hb dX0_changedSinceBefore_19 rfl (lv_at hl 3 rfl) ?_
        refine ldX_fac (t := t) (j := i) C hb hP ht rfl (by omega) dX0_changedSinceBefore_20 ?_
        refine lv_aload_n C.1 hb dX0_changedSinceBefore_21 rfl (lv_at hl 0 rfl) ?_
        refine gX_factorsBefore C hb hP dX0_changedSinceBefore_22 ?_
        refine lv_iload_n C.1 hb dX0_changedSinceBefore_25 rfl (lv_at hl 3 rfl) ?_
        refine ldX_factorsBefore (j := i) C hb hP rfl (by omega) dX0_changedSinceBefore_26 ?_
        refine lv_icmp_eq (tgt := 33) C.1 hb dX0_changedSinceBefore_27 (by decide) (fun c45 => ?_) (fun c45 => ?_)
        · refine lv_iinc (v := nI (i + 1)) (lv' := [(3, .int (nI (i + 1))), (0, .ref (gA g 0)), (1, .int (nI t)), (2, .int (nI (xCnt (xChP S t) i)))]) C.1 hb dX0_changedSinceBefore_33 hl (k := 3) rfl (nI_1 i) (by decide) rfl (fun ls hl => ?_)
          refine lv_goto (tgt := 4) C.1 hb dX0_changedSinceBefore_36 (by decide) ?_
          exact ih (i + 1) (by omega) (by omega)  ls (by rw [xCnt_f (show xChP S t i = false by simp [xChP, c45])]; exact lv_sub hl [1, 2, 3, 0] rfl)
        · refine lv_iinc (v := nI ((xCnt (xChP S t) i) + 1)) (lv' := [(2, .int (nI ((xCnt (xChP S t) i) + 1))), (0, .ref (gA g 0)), (1, .int (nI t)), (3, .int (nI i))]) C.1 hb dX0_changedSinceBefore_30 hl (k := 2) rfl (nI_1 (xCnt (xChP S t) i)) (by decide) rfl (fun ls hl => ?_)
          refine lv_iinc (v := nI (i + 1)) (lv' := [(3, .int (nI (i + 1))), (2, .int (nI ((xCnt (xChP S t) i) + 1))), (0, .ref (gA g 0)), (1, .int (nI t))]) C.1 hb dX0_changedSinceBefore_33 hl (k := 3) rfl (nI_1 i) (by decide) rfl (fun ls hl => ?_)
          refine lv_goto (tgt := 4) C.1 hb dX0_changedSinceBefore_36 (by decide) ?_
          exact ih (i + 1) (by omega) (by omega)  ls (by rw [xCnt_t (show xChP S t i = true by simp [xChP, c45])]; exact lv_sub hl [2, 3, 1, 0] rfl)
  exact key (levN t - 0 + 1) 0 (by omega) (by omega)  ls (lv_sub hl [2, 3, 1, 0] rfl)

set_option maxRecDepth 100000 in
set_option maxHeartbeats 4000000 in
theorem k_X0_settle (l : Launch) (g : gG) (S : WS) (n : Nat) (hI : XI n S) : Met l yX0_settle (wA yX0_settle cX0_settle 2 (some .int)) ({ frames := 5, cells := 0, slots := 0, locals := 200 }) (PW g S [.ref (gA g 0)]) (WQ g ((xSettle n 60 1 S).2) (some (.int (nI (xSettle n 60 1 S).1)))) 0 0 (Ab g) := by
  refine metI (by decide +kernel) (Nat.le_of_ble_eq_true rfl) ?_
  intro p e s m below meth c C hb hml hret hlk hP ls hl
  have C : CW g RX0 p s m ([.ref (gA g 0)] : List Value).toArray := C
  have hS : va_S (Ab g) s.heap s.heap [] := va_S.rf
  have hl : lv_has ls 2 [(0, .ref (gA g 0))] := hl
  refine lv_iconst (v := 1) C.1 hb dX0_settle_0 (by decide) ?_
  refine lv_istore_n (lv' := [(1, .int 1), (0, .ref (gA g 0))]) C.1 hb dX0_settle_1 rfl hl (by decide) rfl (fun ls hl => ?_)
  have key : ∀ (f r : Nat) (S1 : WS), r + f = 61 → XI n S1 → xSettle n f r S1 = xSettle n 60 1 S → ∀ (H : Heap) (locs : List Loc), HW g S1 H → va_S (Ab g) s.heap H locs → ∀ ls : Array Slot, lv_has ls 2 [(0, .ref (gA g 0)), (1, .int (nI r))] → W p l e ({ frames := 5, cells := 0, slots := 0, locals := 200 }) s m ([.ref (gA g 0)] : List Value).toArray below meth c H locs 0 0 (MQ below (WQ g ((xSettle n 60 1 S).2) (some (.int (nI (xSettle n 60 1 S).1)))) ([.ref (gA g 0)] : List Value).toArray s 0 0 (Ab g)) (F0 m 2 ls []) := by
    intro f
    induction f with
    | zero =>
      intro r S1 hr1 hI1 he H locs hP hS ls hl
      refine lv_iload_n C.1 hb dX0_settle_2 rfl (lv_at hl 1 rfl) ?_
      refine lv_bipush (v := 60) C.1 hb dX0_settle_3 (by decide) ?_
      refine lv_icmp_gt (tgt := 23) C.1 hb dX0_settle_5 (by decide) (fun c46 => ?_) (fun c46 => ?_)
      · refine lv_bipush (v := 60) C.1 hb dX0_settle_23 (by decide) ?_
        exact wrI C hb hret hlk hP hS dX0_settle_25 (by rw [← he]; rfl) (by rw [← he]; rfl)
      · exact absurd ((nI_ltI (a := 60) (b := r) (by decide) (by omega)).mpr (by omega)) c46
    | succ f ih =>
      intro r S1 hr1 hI1 he H locs hP hS ls hl
      refine lv_iload_n C.1 hb dX0_settle_2 rfl (lv_at hl 1 rfl) ?_
      refine lv_bipush (v := 60) C.1 hb dX0_settle_3 (by decide) ?_
      refine lv_icmp_gt (tgt := 23) C.1 hb dX0_settle_5 (by decide) (fun c47 => ?_) (fun c47 => ?_)
      · exact absurd ((nI_ltI (a := 60) (b := r) (by decide) (by omega)).mp c47) (by omega)
      · refine lv_aload_n C.1 hb dX0_settle_8 rfl (lv_at hl 0 rfl) ?_
        refine run_wr (cRunX (As := []) (rest := []) C hb (hml.trans hl.1.symm) hP hS rfl (k_X0_changedByRound l g S1 n hI1) wm_56 wm_57 wm_58 wm_59 wm_12 (n := 0) (by decide +kernel) rfl ⟨rfl, rfl, Nat.le_of_ble_eq_true rfl, Nat.le_of_ble_eq_true rfl⟩ (Nat.le_of_ble_eq_true rfl) rfl ⟨Nat.zero_le _, Nat.zero_le _⟩ dX0_settle_9) hS (fun H locs hP hS => ?_)
        have hc := xRoundC_le S1 n 3
        refine lv_if_ne (tgt := 17) C.1 hb dX0_settle_12 (by decide) (fun c48 => ?_) (fun c48 => ?_)
        · have hd : ¬ xRoundC S1 n 3 = 0 := fun q => c48 (by rw [q]; rfl)
          refine lv_iinc (v := nI (r + 1)) (lv' := [(1, .int (nI (r + 1))), (0, .ref (gA g 0))]) C.1 hb dX0_settle_17 hl (k := 1) rfl (nI_1 r) (by decide) rfl (fun ls hl => ?_)
          refine lv_goto (tgt := 2) C.1 hb dX0_settle_20 (by decide) ?_
          exact ih (r + 1) (xRound S1 n 3) (by omega) (XI_round hI1 3) ((if_neg hd).symm.trans he) _ _ hP hS ls (lv_sub hl [1, 0] rfl)
        · have hd : xRoundC S1 n 3 = 0 := (nI_eq (b := 0) (by omega) (by decide)).mp c48
          have he2 : (r, xRound S1 n 3) = xSettle n 60 1 S := (if_pos hd).symm.trans he
          refine lv_iload_n C.1 hb dX0_settle_15 rfl (lv_at hl 1 rfl) ?_
          exact wrI C hb hret hlk hP hS dX0_settle_16 (by rw [← he2]) (by rw [← he2])
  exact key 60 1 S rfl hI rfl _ _ hP hS ls (lv_sub hl [1, 0] rfl)

set_option maxRecDepth 100000 in
set_option maxHeartbeats 4000000 in
theorem k_X0_spread (l : Launch) (g : gG) (S : WS) (n : Nat) (hI : XI n S) : Met l yX0_spread (wA yX0_spread cX0_spread 5 (some .int)) ({ frames := 4, cells := 0, slots := 0, locals := 160 }) (PW g S [.ref (gA g 0)]) (WQ g (xSpread S n) (some (.int (xSc (xSpread S n) 4)))) 0 0 (Ab g) := by
  refine metI (by decide +kernel) (Nat.le_of_ble_eq_true rfl) ?_
  intro p e s m below meth c C hb hml hret hlk hP ls hl
  have C : CW g RX0 p s m ([.ref (gA g 0)] : List Value).toArray := C
  have hS : va_S (Ab g) s.heap s.heap [] := va_S.rf
  have hl : lv_has ls 5 [(0, .ref (gA g 0))] := hl
  refine lv_aload_n C.1 hb dX0_spread_0 rfl (lv_at hl 0 rfl) ?_
  refine run_rd (cRunX (As := []) (rest := []) C hb (hml.trans hl.1.symm) hP hS rfl (k_X0_cappedTotal l g S n hI) wm_235 wm_236 wm_237 wm_238 wm_12 (n := 0) (by decide +kernel) rfl ⟨rfl, rfl, Nat.le_of_ble_eq_true rfl, Nat.le_of_ble_eq_true rfl⟩ (Nat.le_of_ble_eq_true rfl) rfl ⟨Nat.zero_le _, Nat.zero_le _⟩ dX0_spread_1) ?_
  refine lv_lstore_n (lv' := [(1, .long (xTot (xIa S 1) (xCapP S) n)), (0, .ref (gA g 0))]) C.1 hb dX0_spread_4 rfl hl (by decide) rfl (fun ls hl => ?_)
  refine lv_lload_n C.1 hb dX0_spread_5 rfl (lv_at hl 0 rfl) ?_
  refine lv_lconst (v := 0) C.1 hb dX0_spread_6 (by decide) ?_
  refine lc_le (tgt := 55) C hb dX0_spread_7 dX0_spread_8 (by decide) (fun c49 => ?_) (fun c49 => ?_)
  · refine lv_aload_n C.1 hb dX0_spread_55 rfl (lv_at hl 1 rfl) ?_
    refine gX_spreadNow C hb hP dX0_spread_56 ?_
    exact wrI C hb hret hlk hP hS dX0_spread_59 (by unfold xSpread; rw [if_pos c49]) (by unfold xSpread; rw [if_pos c49])
  · refine lv_ldc2 (v := 10000) C.1 hb C.2.1 (C.2.2.1 _ wm_89) dX0_spread_11 ?_
    refine lv_aload_n C.1 hb dX0_spread_14 rfl (lv_at hl 1 rfl) ?_
    refine lv_aload_n C.1 hb dX0_spread_15 rfl (lv_at hl 1 rfl) ?_
    refine gX_fittedLosses C hb hP dX0_spread_16 ?_
    refine run_rd (cRunX (As := [.ref (gA g 14)]) (rest := [.long 10000]) C hb (hml.trans hl.1.symm) hP hS rfl (k_X0_total l g S n hI 3 (by decide)) wm_90 wm_91 wm_92 wm_93 wm_12 (n := 1) (by decide +kernel) rfl ⟨rfl, rfl, Nat.le_of_ble_eq_true rfl, Nat.le_of_ble_eq_true rfl⟩ (Nat.le_of_ble_eq_true rfl) rfl ⟨Nat.zero_le _, Nat.zero_le _⟩ dX0_spread_19) ?_
    refine lv_lmul C.1 hb dX0_spread_22 ?_
    refine lv_lload_n C.1 hb dX0_spread_23 rfl (lv_at hl 0 rfl) ?_
    refine lv_ldiv C.1 hb dX0_spread_24 (ne0_nle c49) ?_
    refine lv_ldc2 (v := 1000000) C.1 hb C.2.1 (C.2.2.1 _ wm_234) dX0_spread_25 ?_
    refine va_mmin_long C.1 hb (hml.trans hl.1.symm) C.2.1 (C.2.2.1 _ wm_82) (C.2.2.1 _ wm_83) (C.2.2.1 _ wm_80) (C.2.2.1 _ wm_84) (Nat.le_of_ble_eq_true rfl) (Nat.le_of_ble_eq_true rfl) (Nat.zero_le _) (Nat.zero_le _) dX0_spread_28 ?_
    refine lv_lstore_n (lv' := [(3, .long (mn64 ((10000 * (xTot (xIa S 1) (xLng S 3) n)) / (xTot (xIa S 1) (xCapP S) n)) 1000000)), (1, .long (xTot (xIa S 1) (xCapP S) n)), (0, .ref (gA g 0))]) C.1 hb dX0_spread_31 rfl hl (by decide) rfl (fun ls hl => ?_)
    refine lv_aload_n C.1 hb dX0_spread_32 rfl (lv_at hl 2 rfl) ?_
    refine lv_aload_n C.1 hb dX0_spread_33 rfl (lv_at hl 2 rfl) ?_
    refine gX_spreadNow C hb hP dX0_spread_34 ?_
    refine lv_i2l C.1 hb dX0_spread_37 rfl ?_
    refine lv_lload_n C.1 hb dX0_spread_38 rfl (lv_at hl 0 rfl) ?_
    refine lv_lmul C.1 hb dX0_spread_39 ?_
    refine lv_ldc2 (v := 10000) C.1 hb C.2.1 (C.2.2.1 _ wm_89) dX0_spread_40 ?_
    refine lv_ldiv C.1 hb dX0_spread_43 (by decide) ?_
    refine lv_lconst (v := 1) C.1 hb dX0_spread_44 (by decide) ?_
    refine lv_ldc2 (v := 1000000) C.1 hb C.2.1 (C.2.2.1 _ wm_234) dX0_spread_45 ?_
    refine run_rd (cRunS (As := [.long (((xSc S 4).toInt64 * (mn64 ((10000 * (xTot (xIa S 1) (xLng S 3) n)) / (xTot (xIa S 1) (xCapP S) n)) 1000000)) / 10000), .long 1, .long 1000000]) (rest := [.ref (gA g 0)]) C hb (hml.trans hl.1.symm) hP hS (k_X0_bounded l g S (((xSc S 4).toInt64 * (mn64 ((10000 * (xTot (xIa S 1) (xLng S 3) n)) / (xTot (xIa S 1) (xCapP S) n)) 1000000)) / 10000) 1 1000000) wm_75 wm_76 wm_77 wm_12 (n := 3) (by decide +kernel) rfl ⟨rfl, rfl, Nat.le_of_ble_eq_true rfl, Nat.le_of_ble_eq_true rfl⟩ (Nat.le_of_ble_eq_true rfl) rfl ⟨Nat.zero_le _, Nat.zero_le _⟩ dX0_spread_48) ?_
    refine lv_l2i C.1 hb dX0_spread_51 rfl ?_
    refine pX_spreadNow C hb hP hS dX0_spread_52 (fun H locs hP hS => ?_)
    refine lv_aload_n C.1 hb dX0_spread_55 rfl (lv_at hl 2 rfl) ?_
    refine gX_spreadNow C hb hP dX0_spread_56 ?_
    exact wrI C hb hret hlk hP hS dX0_spread_59 (by unfold xSpread; rw [if_neg c49]; rfl) (by unfold xSpread; rw [if_neg c49]; rfl)

set_option maxRecDepth 100000 in
set_option maxHeartbeats 4000000 in
theorem k_X0_rows (l : Launch) (g : gG) (S : WS) : Met l yX0_rows (wA yX0_rows cX0_rows 1 (some .int)) ({ frames := 0, cells := 0, slots := 0, locals := 0 }) (PW g S [.ref (gA g 0)]) (RQ (some (.int (xSc S 1)))) 0 0 (fun _ => False) := by
  refine metI (by decide +kernel) (Nat.le_of_ble_eq_true rfl) ?_
  intro p e s m below meth c C hb hml hret hlk hP ls hl
  have C : CW g RX0 p s m ([.ref (gA g 0)] : List Value).toArray := C
  have hS : va_S (Ab g) s.heap s.heap [] := va_S.rf
  have hl : lv_has ls 1 [(0, .ref (gA g 0))] := hl
  refine lv_aload_n C.1 hb dX0_rows_0 rfl (lv_at hl 0 rfl) ?_
  refine gX_liveRows C hb hP dX0_rows_1 ?_
  exact rdI C hb hret hlk dX0_rows_4 rfl

set_option maxRecDepth 100000 in
set_option maxHeartbeats 4000000 in
theorem k_X0_base (l : Launch) (g : gG) (S : WS) : Met l yX0_base (wA yX0_base cX0_base 1 (some .long)) ({ frames := 0, cells := 0, slots := 0, locals := 0 }) (PW g S [.ref (gA g 0)]) (RQ (some (.long (xBase S)))) 0 0 (fun _ => False) := by
  refine metI (by decide +kernel) (Nat.le_of_ble_eq_true rfl) ?_
  intro p e s m below meth c C hb hml hret hlk hP ls hl
  have C : CW g RX0 p s m ([.ref (gA g 0)] : List Value).toArray := C
  have hS : va_S (Ab g) s.heap s.heap [] := va_S.rf
  have hl : lv_has ls 1 [(0, .ref (gA g 0))] := hl
  refine lv_aload_n C.1 hb dX0_base_0 rfl (lv_at hl 0 rfl) ?_
  refine gX_baseNow C hb hP dX0_base_1 ?_
  exact rdL C hb hret hlk dX0_base_4 rfl

set_option maxRecDepth 100000 in
set_option maxHeartbeats 4000000 in
theorem k_X0_lost (l : Launch) (g : gG) (S : WS) (n : Nat) (hI : XI n S) : Met l yX0_lost (wA yX0_lost cX0_lost 1 (some .long)) ({ frames := 4, cells := 0, slots := 0, locals := 160 }) (PW g S [.ref (gA g 0)]) (RQ (some (.long (xTot (xIa S 1) (xLng S 3) n - xTot (xIa S 1) (xCapP S) n)))) 0 0 (fun _ => False) := by
  refine metI (by decide +kernel) (Nat.le_of_ble_eq_true rfl) ?_
  intro p e s m below meth c C hb hml hret hlk hP ls hl
  have C : CW g RX0 p s m ([.ref (gA g 0)] : List Value).toArray := C
  have hS : va_S (Ab g) s.heap s.heap [] := va_S.rf
  have hl : lv_has ls 1 [(0, .ref (gA g 0))] := hl
  refine lv_aload_n C.1 hb dX0_lost_0 rfl (lv_at hl 0 rfl) ?_
  refine lv_aload_n C.1 hb dX0_lost_1 rfl (lv_at hl 0 rfl) ?_
  refine gX_fittedLosses C hb hP dX0_lost_2 ?_
  refine run_rd (cRunX (As := [.ref (gA g 14)]) (rest := []) C hb (hml.trans hl.1.symm) hP hS rfl (k_X0_total l g S n hI 3 (by decide)) wm_90 wm_91 wm_92 wm_93 wm_12 (n := 1) (by decide +kernel) rfl ⟨rfl, rfl, Nat.le_of_ble_eq_true rfl, Nat.le_of_ble_eq_true rfl⟩ (Nat.le_of_ble_eq_true rfl) rfl ⟨Nat.zero_le _, Nat.zero_le _⟩ dX0_lost_5) ?_
  refine lv_aload_n C.1 hb dX0_lost_8 rfl (lv_at hl 0 rfl) ?_
  refine run_rd (cRunX (As := []) (rest := [.long (xTot (xIa S 1) (xLng S 3) n)]) C hb (hml.trans hl.1.symm) hP hS rfl (k_X0_cappedTotal l g S n hI) wm_235 wm_236 wm_237 wm_238 wm_12 (n := 0) (by decide +kernel) rfl ⟨rfl, rfl, Nat.le_of_ble_eq_true rfl, Nat.le_of_ble_eq_true rfl⟩ (Nat.le_of_ble_eq_true rfl) rfl ⟨Nat.zero_le _, Nat.zero_le _⟩ dX0_lost_9) ?_
  refine lv_lsub C.1 hb dX0_lost_12 ?_
  exact rdL C hb hret hlk dX0_lost_13 rfl
end
section
/-! methods that throw: the contract tells which, by the numbers -/
def xNames : List String := ["java/lang/RuntimeException", "java/lang/Exception"]
def eIAE : String := "java/lang/IllegalArgumentException"
def eISE : String := "java/lang/IllegalStateException"
def eIOB : String := "java/lang/IndexOutOfBoundsException"
def nwX (E : String) : List Cond := [.castable E E, .declares (Bundle.initS "java/lang/RuntimeException"), .declares (Bundle.initS "java/lang/Exception"), .declares (Bundle.initS Bundle.tN)]
def TQ (g : gG) (S' : WS) (ex : Option String) (v : Option Value) : Array Value → State → Outcome → State → Prop := fun _ st o t => ex = none ∧ o = .returned v ∧ HW g S' t.heap ∧ va_F (Ab g) st t
def TX (g : gG) (S' : WS) (ex : Option String) : String → State → State → Prop := fun E st t => ex = some E ∧ HW g S' t.heap ∧ va_F (Ab g) st t
theorem atI : ∀ w ∈ (vx_atS RX0 78 eIAE xNames).filter goodWord, w ∈ WA := fun w hw => List.mem_append_left _ (List.mem_append_left _ (List.mem_append_right _ hw))
theorem anI : ∀ w ∈ (vx_atS RX0 78 eIAE xNames).filter (fun w => !goodWord w), w ∈ nwX eIAE := by decide +kernel
theorem atS : ∀ w ∈ (vx_atS RX0 92 eISE xNames).filter goodWord, w ∈ WA := fun w hw => List.mem_append_left _ (List.mem_append_right _ hw)
theorem anS : ∀ w ∈ (vx_atS RX0 92 eISE xNames).filter (fun w => !goodWord w), w ∈ nwX eISE := by decide +kernel
theorem atB : ∀ w ∈ (vx_atS RX0 104 eIOB xNames).filter goodWord, w ∈ WA := fun w hw => List.mem_append_right _ hw
theorem anB : ∀ w ∈ (vx_atS RX0 104 eIOB xNames).filter (fun w => !goodWord w), w ∈ nwX eIOB := by decide +kernel
theorem goI : ∀ w ∈ Cond.classLink RX0 74 eIAE :: Cond.initialized eIAE :: vx_atS RX0 78 eIAE xNames, vx_ot w = true := List.all_eq_true.mp (by decide +kernel)
theorem goS : ∀ w ∈ Cond.classLink RX0 88 eISE :: Cond.initialized eISE :: vx_atS RX0 92 eISE xNames, vx_ot w = true := List.all_eq_true.mp (by decide +kernel)
theorem goB : ∀ w ∈ Cond.classLink RX0 100 eIOB :: Cond.initialized eIOB :: vx_atS RX0 104 eIOB xNames, vx_ot w = true := List.all_eq_true.mp (by decide +kernel)
section WTHROW
variable {p : Program} {l : Launch} {e : Env} {R : Room} {s : State} {m : MethodId} {args : Array Value} {below : List Frame} {meth : Method} {c : Code} {H : Heap} {locs : List Loc} {cells slots : Nat} {Q : State → Prop}
variable {cc : ByteArray} {pc : Nat} {ls : Array Slot} {rest st0 : List Value} {g : gG} {S S' : WS} {own : String} {ex : Option String}
theorem metX {y : MethodName} {maxL mc ms : Nat} {ret : Option FieldType} {rm : Room} {As : List Value} {Qc : Array Value → State → Outcome → State → Prop} {XC : String → State → State → Prop} {free : Addr → Prop} (hy : plainName y.cls = true) (hlen : (lg_sl As).length ≤ maxL)
    (body : ∀ p e s m below meth c, CW g y.cls p s m As.toArray → c.code = cc → c.maxLocals = maxL → meth.sig.returnType = ret → meth.locks = false → HW g S s.heap → (∀ x ∈ c.exceptionTable.toList, False) → ∀ ls, lv_has ls maxL (lv_args 0 As) → W p l e rm s m As.toArray below meth c s.heap [] 0 0 (vx_MQ below Qc XC As.toArray s mc ms free) (F0 m 0 ls [])) : vx_Met l y (wA y cc maxL ret) rm (PW g S As) Qc XC mc ms free := by
  refine vx_ofW (cc := cc) (maxL := maxL) (ret := ret) hy rfl ?_
  intro p e s m args below meth c s₁ B hml het hv
  obtain ⟨rfl, hK, hP⟩ := hv
  have hts := atoms_spec (ws := wA y cc maxL ret) B.pre
  rw [lg_entry_eq]
  exact body p e s m below meth c ⟨B.exec, findClass_of_methodNamed B.named, fun w h => hts w (List.mem_cons_of_mem _ h), hK⟩ B.bytes hml B.returns B.notSynchronized hP het _ (lv_entry As hlen)
theorem txI (C : CW g own p s m args) (hb : c.code = cc) (hr : meth.sig.returnType = some .int) (hlk : meth.locks = false) (hP : HW g S H) (hS : va_S (Ab g) s.heap H locs) {v v' : Int32} (hdg : decode cc pc = .ok (.ireturn, 1)) (hv : v' = v) (hE : S = S') (hx : ex = none) : W p l e R s m args below meth c H locs 0 0 (vx_MQ below (TQ g S' ex (some (.int v))) (TX g S' ex) args s 1 6 (Ab g)) (F0 m pc ls [.int v']) := by
  subst hv
  subst hE
  exact W.widen (k := 1) (n := 6) (by omega) (by omega) (vx_ret (W.iret C.1 hb hr (fun t ht _ => ⟨hx, rfl, by rw [ht]; exact hP, hS.F ht⟩) hS.2.2 hdg hlk))
theorem txL (C : CW g own p s m args) (hb : c.code = cc) (hr : meth.sig.returnType = some .long) (hlk : meth.locks = false) (hP : HW g S H) (hS : va_S (Ab g) s.heap H locs) {v v' : Int64} (hdg : decode cc pc = .ok (.lreturn, 1)) (hv : v' = v) (hE : S = S') (hx : ex = none) : W p l e R s m args below meth c H locs 0 0 (vx_MQ below (TQ g S' ex (some (.long v))) (TX g S' ex) args s 1 6 (Ab g)) (F0 m pc ls [.long v']) := by
  subst hv
  subst hE
  exact W.widen (k := 1) (n := 6) (by omega) (by omega) (vx_ret (W.lret C.1 hb hr (fun t ht _ => ⟨hx, rfl, by rw [ht]; exact hP, hS.F ht⟩) hS.2.2 hdg hlk))
theorem HW.grown {H1 : Heap} (hP : HW g S H) (hq : ∀ q : Nat, q < H.size → H1[q]? = H[q]?) : HW g S H1 := ⟨va_P.kept hP.1 (fun k x hx => hq x.1 ((hP.1 k x hx).lt)), hP.2⟩
theorem va_S.grown {A : Nat → Prop} {H1 : Heap} (hS : va_S A s.heap H locs) (hz : H.size ≤ H1.size) (hq : ∀ q : Nat, q < H.size → H1[q]? = H[q]?) : s.heap.size ≤ H1.size ∧ ∀ q : Nat, q < s.heap.size → ¬ A q → H1[q]? = s.heap[q]? :=
  ⟨Nat.le_trans hS.1 hz, fun q h1 h2 => (hq q (Nat.lt_of_lt_of_le h1 hS.1)).trans (hS.2.1 q h1 h2)⟩
theorem xthrow (C : CW g RX0 p s m args) (hb : c.code = cc) (hl0 : l.stackTraces = false) (hlk : meth.locks = false) (hP : HW g S H) (hS : va_S (Ab g) s.heap H locs) (hml : ls.size = c.maxLocals) (het : ∀ x ∈ c.exceptionTable.toList, False) {cls text : String} {ik is ic : Nat} {Qc : Array Value → State → Outcome → State → Prop}
    (hfit : Bundle.fit cls = true) (hk : Cond.classLink RX0 ik cls ∈ WA) (hini : Cond.initialized cls ∈ WA) (hat : ∀ w ∈ (vx_atS RX0 ic cls xNames).filter goodWord, w ∈ WA) (han : ∀ w ∈ (vx_atS RX0 ic cls xNames).filter (fun w => !goodWord w), w ∈ nwX cls) (hex : cls ∈ exsX) (hgood : ∀ w ∈ Cond.classLink RX0 ik cls :: Cond.initialized cls :: vx_atS RX0 ic cls xNames, vx_ot w = true) (hstr : (is, text) ∈ strsX)
    (d0 : decode cc pc = .ok (.new ik, 3)) (d3 : decode cc (pc + 3) = .ok (.dup, 1)) (d4 : decode cc (pc + 4) = .ok (.ldc is, 2)) (d6 : decode cc (pc + 6) = .ok (.invokespecial ic, 3)) (d9 : decode cc (pc + 9) = .ok (.athrow, 1))
    (hR : 5 < R.frames ∧ 82 ≤ R.locals ∧ 1 ≤ R.cells ∧ 6 ≤ R.slots) (hx : ex = some cls) (hE : S = S') : W p l e R s m args below meth c H locs 0 0 (vx_MQ below Qc (TX g S' ex) args s 1 6 (Ab g)) (F0 m pc ls []) := by
  subst hE
  obtain ⟨sa, hsa⟩ := C.2.2.2.2.2.2.2.2.1.1 _ hstr
  exact vx_throwS (names := xNames) (text := text) (sa := sa) C.1 hb hl0 C.2.1 hfit (by decide +kernel) (C.2.2.1 _ hk) (C.2.2.1 _ hini) hsa (vx_hat (B := nwX cls) (fun w hw => C.2.2.1 _ (hat w hw)) han (vx_c (va_Nw.use rfl (C.2.2.2.2.2.2.2.2.1.2.1 _ hex)) (vx_c (va_Nw.use rfl (C.2.2.2.2.2.2.2.2.1.2.2 _ (by decide))) (vx_c (va_Nw.use rfl (C.2.2.2.2.2.2.2.2.1.2.2 _ (by decide))) (vx_c (va_Nw.use rfl (C.2.2.2.2.2.2.2.2.1.2.2 _ (by decide))) vx_n))))) hgood C.2.2.2.2.2.2.1 C.2.2.2.2.2.2.2.1 hS hml d0 d3 d4 d6 d9 (fun x hx => (het x hx).elim) hR.1 (by show 0 + 82 ≤ R.locals; omega) (by omega) (by omega) hlk
    (fun t _ hz hq => ⟨hx, HW.grown hP hq, va_S.grown hS hz hq⟩) hS.2.2 (by omega) (by omega)
theorem xthrowI (C : CW g RX0 p s m args) (hb : c.code = cc) (hl0 : l.stackTraces = false) (hlk : meth.locks = false) (hP : HW g S H) (hS : va_S (Ab g) s.heap H locs) (hml : ls.size = c.maxLocals) (het : ∀ x ∈ c.exceptionTable.toList, False) {text : String} {is : Nat} {Qc : Array Value → State → Outcome → State → Prop} (hstr : (is, text) ∈ strsX)
    (d0 : decode cc pc = .ok (.new 74, 3)) (d3 : decode cc (pc + 3) = .ok (.dup, 1)) (d4 : decode cc (pc + 4) = .ok (.ldc is, 2)) (d6 : decode cc (pc + 6) = .ok (.invokespecial 78, 3)) (d9 : decode cc (pc + 9) = .ok (.athrow, 1))
    (hR : 5 < R.frames ∧ 82 ≤ R.locals ∧ 1 ≤ R.cells ∧ 6 ≤ R.slots) (hx : ex = some eIAE) (hE : S = S') : W p l e R s m args below meth c H locs 0 0 (vx_MQ below Qc (TX g S' ex) args s 1 6 (Ab g)) (F0 m pc ls []) :=
  xthrow C hb hl0 hlk hP hS hml het (by decide +kernel) wm_116 wm_117 atI anI (by decide) goI hstr d0 d3 d4 d6 d9 hR hx hE
theorem xthrowS (C : CW g RX0 p s m args) (hb : c.code = cc) (hl0 : l.stackTraces = false) (hlk : meth.locks = false) (hP : HW g S H) (hS : va_S (Ab g) s.heap H locs) (hml : ls.size = c.maxLocals) (het : ∀ x ∈ c.exceptionTable.toList, False) {text : String} {is : Nat} {Qc : Array Value → State → Outcome → State → Prop} (hstr : (is, text) ∈ strsX)
    (d0 : decode cc pc = .ok (.new 88, 3)) (d3 : decode cc (pc + 3) = .ok (.dup, 1)) (d4 : decode cc (pc + 4) = .ok (.ldc is, 2)) (d6 : decode cc (pc + 6) = .ok (.invokespecial 92, 3)) (d9 : decode cc (pc + 9) = .ok (.athrow, 1))
    (hR : 5 < R.frames ∧ 82 ≤ R.locals ∧ 1 ≤ R.cells ∧ 6 ≤ R.slots) (hx : ex = some eISE) (hE : S = S') : W p l e R s m args below meth c H locs 0 0 (vx_MQ below Qc (TX g S' ex) args s 1 6 (Ab g)) (F0 m pc ls []) :=
  xthrow C hb hl0 hlk hP hS hml het (by decide +kernel) wm_118 wm_119 atS anS (by decide) goS hstr d0 d3 d4 d6 d9 hR hx hE
theorem xthrowB (C : CW g RX0 p s m args) (hb : c.code = cc) (hl0 : l.stackTraces = false) (hlk : meth.locks = false) (hP : HW g S H) (hS : va_S (Ab g) s.heap H locs) (hml : ls.size = c.maxLocals) (het : ∀ x ∈ c.exceptionTable.toList, False) {text : String} {is : Nat} {Qc : Array Value → State → Outcome → State → Prop} (hstr : (is, text) ∈ strsX)
    (d0 : decode cc pc = .ok (.new 100, 3)) (d3 : decode cc (pc + 3) = .ok (.dup, 1)) (d4 : decode cc (pc + 4) = .ok (.ldc is, 2)) (d6 : decode cc (pc + 6) = .ok (.invokespecial 104, 3)) (d9 : decode cc (pc + 9) = .ok (.athrow, 1))
    (hR : 5 < R.frames ∧ 82 ≤ R.locals ∧ 1 ≤ R.cells ∧ 6 ≤ R.slots) (hx : ex = some eIOB) (hE : S = S') : W p l e R s m args below meth c H locs 0 0 (vx_MQ below Qc (TX g S' ex) args s 1 6 (Ab g)) (F0 m pc ls []) :=
  xthrow C hb hl0 hlk hP hS hml het (by decide +kernel) wm_137 wm_138 atB anB (by decide) goB hstr d0 d3 d4 d6 d9 hR hx hE
end WTHROW
end
section
def xWd (S : WS) (r : Nat) : WS := xsSc (xsIa S 1 (upd (xIa S 1) r 0)) 1 (xSc S 1 - 1)
theorem XI_wd {n : Nat} {S : WS} (r : Nat) (h : XI n S) : XI n (xWd S r) := h
def xOldOk (v : Int32) : Bool := decide (v = -1) || xIsWithin v 0 10000000
def xCapOk (v : Int32) : Bool := decide (v = -1) || xIsWithin v 0 1000
def xE_row (S : WS) (r : Int32) : Option String := if xHasRow S r then none else some eIOB
def xE_old (S : WS) (r v : Int32) : Option String := if xHasRow S r then (if xOldOk v then none else some eIAE) else some eIOB
def xR_old (S : WS) (r v : Int32) : WS := if xHasRow S r then (if xOldOk v then xsIa S 0 (upd (xIa S 0) (tN r) v) else S) else S
def xR_wd (S : WS) (n : Nat) (r : Int32) : WS := if xHasRow S r then xRefit (xWd S (tN r)) n else S
def xE_rules (c k : Int32) : Option String := if xIsWithin c 0 1000 then (if xCapOk k then none else some eIAE) else some eIAE
def xR_rules (S : WS) (c k : Int32) : WS := if xIsWithin c 0 1000 then (if xCapOk k then xsSc (xsSc S 2 c) 3 k else S) else S
def xE_fac (t k v : Int32) : Option String := if xHasLevel t k then (if xIsWithin v 100 100000 then none else some eIAE) else some eIOB
def xSetF (S : WS) (t k : Nat) (v : Int32) : WS := xsFac S t (upd (xFac S t) k v)
theorem XI_setF {n : Nat} {S : WS} (t k : Nat) (v : Int32) (h : XI n S) : XI n (xSetF S t k v) := h
def xR_fac (S : WS) (n : Nat) (t k v : Int32) : WS := if xHasLevel t k then (if xIsWithin v 100 100000 then xRefit (xSetF S (tN t) (tN k) v) n else S) else S
def xE_trait (t : Int32) : Option String := if xHasTrait t then none else some eIOB
def xE_level (t k : Int32) : Option String := if xHasLevel t k then none else some eIOB
def xR_pass (S : WS) (n : Nat) (t : Int32) : WS := if xHasTrait t then xPass S n (tN t) else S
def xWorst (S : WS) (n t : Nat) : Nat → Int64
  | 0 => 0
  | k + 1 => mx64 (xWorst S n t k) (ab64 (xLTot (xIa S 1) (xLev S t) (nI k) (xLng S 2) n - xLTot (xIa S 1) (xLev S t) (nI k) (xLng S 3) n))
def xRankF (S : WS) (n : Nat) (q : Int32) : Nat → Nat → Option Nat
  | 0, _ => none
  | d + 1, i => if xIa S 1 i = 0 then xRankF S n q d (i + 1) else if nI (xPlace S i n) = q then some i else xRankF S n q d (i + 1)
def xRank (S : WS) (n : Nat) (q : Int32) : Option Nat := xRankF S n q n 0
def xE_rank (S : WS) (n : Nat) (q : Int32) : Option String := match xRank S n q with
  | none => some eIOB
  | some _ => none
def xAd1 (S : WS) (n : Nat) (a : Int32) : WS := xsLev S 0 (upd (xLev S 0) n a)
def xAd2 (S : WS) (n : Nat) (a b : Int32) : WS := xsLev (xAd1 S n a) 1 (upd (xLev (xAd1 S n a) 1) n b)
def xAd3 (S : WS) (n : Nat) (a b c : Int32) : WS := xsLev (xAd2 S n a b) 2 (upd (xLev (xAd2 S n a b) 2) n c)
def xAd4 (S : WS) (n : Nat) (a b c ex : Int32) : WS := xsLng (xAd3 S n a b c) 0 (vp_updL (xLng (xAd3 S n a b c) 0) n ex.toInt64)
def xAd5 (S : WS) (n : Nat) (a b c ex cl : Int32) : WS := xsLng (xAd4 S n a b c ex) 1 (vp_updL (xLng (xAd4 S n a b c ex) 1) n cl.toInt64)
def xAd6 (S : WS) (n : Nat) (a b c ex cl lo : Int32) : WS := xsLng (xAd5 S n a b c ex cl) 2 (vp_updL (xLng (xAd5 S n a b c ex cl) 2) n lo.toInt64)
def xAd7 (S : WS) (n : Nat) (a b c ex cl lo : Int32) : WS := xsIa (xAd6 S n a b c ex cl lo) 0 (upd (xIa (xAd6 S n a b c ex cl lo) 0) n (-1))
def xAd8 (S : WS) (n : Nat) (a b c ex cl lo : Int32) : WS := xsIa (xAd7 S n a b c ex cl lo) 1 (upd (xIa (xAd7 S n a b c ex cl lo) 1) n 1)
def xAd9 (S : WS) (n : Nat) (a b c ex cl lo : Int32) : WS := xsSc (xAd8 S n a b c ex cl lo) 0 (nI (n + 1))
def xAd (S : WS) (n : Nat) (a b c ex cl lo : Int32) : WS := xsSc (xAd9 S n a b c ex cl lo) 1 (xSc S 1 + 1)
def xAddOk (a b c ex cl lo : Int32) : Bool := xHasLevel 0 a && (xHasLevel 1 b && (xHasLevel 2 c && (xIsWithin ex 1 1000 && (xIsWithin cl 0 1000 && xIsWithin lo 0 1000000))))
def xE_add (S : WS) (a b c ex cl lo : Int32) : Option String := if xAddOk a b c ex cl lo then (if xSc S 0 < 40 then none else some eISE) else some eIAE
def xR_add (S : WS) (n : Nat) (a b c ex cl lo : Int32) : WS := if xAddOk a b c ex cl lo then (if xSc S 0 < 40 then xRefit (xAd S n a b c ex cl lo) (n + 1) else S) else S
theorem xWithin_nI {v : Int32} {hi : Nat} (hh : hi < 2 ^ 31) (h : xIsWithin v 0 (nI hi) = true) : ∃ c : Nat, c ≤ hi ∧ v = nI c := by
  simp only [xIsWithin, Bool.and_eq_true, Bool.not_eq_true', decide_eq_false_iff_not] at h
  obtain ⟨j, hj, e⟩ := nI_of2 (M := nI hi) (nI_toInt hh) h.1 (Int32.not_lt.mp h.2)
  exact ⟨j, hj, e⟩
theorem xAd_XI {n : Nat} {S : WS} (h : XI n S) {a b c ex cl lo : Int32} (hn : n < 40) (hok : xAddOk a b c ex cl lo = true) : XI (n + 1) (xAd S n a b c ex cl lo) := by
  simp only [xAddOk, Bool.and_eq_true] at hok
  obtain ⟨h1, h2, h3, h4, h5, h6⟩ := hok
  have l1 := xHasLevel_ix h1
  have l2 := xHasLevel_ix h2
  have l3 := xHasLevel_ix h3
  obtain ⟨c5, hc5, e5⟩ := xWithin_nI (hi := 1000) (by decide) h5
  obtain ⟨i1, i2, i3, i4, i5⟩ := h
  refine ⟨by omega, rfl, fun t k ht hk => ?_, fun k hk => ?_, i5⟩
  · have q1 := levN_4 (tN 0)
    have q2 := levN_4 (tN 1)
    have q3 := levN_4 (tN 2)
    by_cases e : k = n
    · subst e
      rcases (show t = 0 ∨ t = 1 ∨ t = 2 by omega) with rfl | rfl | rfl
      · exact ⟨tN a, by omega, (pk_us (f := xLev S 0)).trans l1.2.1⟩
      · exact ⟨tN b, by omega, (pk_us (f := xLev S 1)).trans l2.2.1⟩
      · exact ⟨tN c, by omega, (pk_us (f := xLev S 2)).trans l3.2.1⟩
    · obtain ⟨j, hj, ej⟩ := i3 t k ht (by omega)
      rcases (show t = 0 ∨ t = 1 ∨ t = 2 by omega) with rfl | rfl | rfl
      · exact ⟨j, hj, (pk_un (f := xLev S 0) e).trans ej⟩
      · exact ⟨j, hj, (pk_un (f := xLev S 1) e).trans ej⟩
      · exact ⟨j, hj, (pk_un (f := xLev S 2) e).trans ej⟩
  · by_cases e : k = n
    · subst e
      exact ⟨c5, hc5, (pk_uLs (f := xLng S 1)).trans (by rw [e5, nI_l (by omega)])⟩
    · obtain ⟨j, hj, ej⟩ := i4 k (by omega)
      exact ⟨j, hj, (pk_uLn (f := xLng S 1) e).trans ej⟩
end
section
set_option maxRecDepth 100000 in
set_option maxHeartbeats 4000000 in
theorem k_X0_withdraw (l : Launch) (hl0 : l.stackTraces = false) (g : gG) (S : WS) (n : Nat) (hI : XI n S) (r : Int32) : vx_Met l yX0_withdraw (wA yX0_withdraw cX0_withdraw 2 (some .int)) ({ frames := 6, cells := 1, slots := 6, locals := 250 }) (PW g S [.ref (gA g 0), .int r]) (TQ g (xR_wd S n r) (xE_row S r) (some (.int (xSc S 1 - 1)))) (TX g (xR_wd S n r) (xE_row S r)) 1 6 (Ab g) := by
  refine metX (by decide +kernel) (Nat.le_of_ble_eq_true rfl) ?_
  intro p e s m below meth c C hb hml hret hlk hP het ls hl
  have C : CW g RX0 p s m ([.ref (gA g 0), .int r] : List Value).toArray := C
  have hS : va_S (Ab g) s.heap s.heap [] := va_S.rf
  have hl : lv_has ls 2 [(0, .ref (gA g 0)), (1, .int r)] := hl
  refine lv_aload_n C.1 hb dX0_withdraw_0 rfl (lv_at hl 0 rfl) ?_
  refine lv_iload_n C.1 hb dX0_withdraw_1 rfl (lv_at hl 1 rfl) ?_
  refine run_rd (cRunX (As := [.int r]) (rest := []) C hb (hml.trans hl.1.symm) hP hS rfl (k_X0_hasRow l g S n hI r) wm_139 wm_140 wm_141 wm_142 wm_12 (n := 1) (by decide +kernel) rfl ⟨rfl, rfl, Nat.le_of_ble_eq_true rfl, Nat.le_of_ble_eq_true rfl⟩ (Nat.le_of_ble_eq_true rfl) rfl ⟨Nat.zero_le _, Nat.zero_le _⟩ dX0_withdraw_2) ?_
  refine bz_ne (tgt := 18) C hb dX0_withdraw_5 (by decide) (fun c50 => ?_) (fun c50 => ?_)
  · have hx := xHasRow_ix hI.1 hI.2.1 c50
    have hx1 := hx.1.1
    have hx2 := hx.1.2
    have hn40 := hI.1
    refine lv_aload_n C.1 hb dX0_withdraw_18 rfl (lv_at hl 0 rfl) ?_
    refine gX_live C hb hP dX0_withdraw_19 ?_
    refine lv_iload_n C.1 hb dX0_withdraw_22 rfl (lv_at hl 1 rfl) ?_
    refine lv_iconst (v := 0) C.1 hb dX0_withdraw_23 (by decide) ?_
    refine stX_live (j := (tN r)) C hb hP hS hx1 (by omega) (by decide) dX0_withdraw_24 (fun H locs hP hS => ?_)
    refine lv_aload_n C.1 hb dX0_withdraw_25 rfl (lv_at hl 0 rfl) ?_
    refine lv_dup C.1 hb dX0_withdraw_26 rfl ?_
    refine gX_liveRows C hb hP dX0_withdraw_27 ?_
    refine lv_iconst (v := 1) C.1 hb dX0_withdraw_30 (by decide) ?_
    refine lv_isub C.1 hb dX0_withdraw_31 ?_
    refine pX_liveRows C hb hP hS dX0_withdraw_32 (fun H locs hP hS => ?_)
    have hP : HW g (xWd S (tN r)) H := hP
    refine lv_aload_n C.1 hb dX0_withdraw_35 rfl (lv_at hl 0 rfl) ?_
    refine run_wr (cRunX (As := []) (rest := []) C hb (hml.trans hl.1.symm) hP hS rfl (k_X0_refit l g (xWd S (tN r)) n (XI_wd _ hI)) wm_85 wm_86 wm_87 wm_88 wm_12 (n := 0) (by decide +kernel) rfl ⟨rfl, rfl, Nat.le_of_ble_eq_true rfl, Nat.le_of_ble_eq_true rfl⟩ (Nat.le_of_ble_eq_true rfl) rfl ⟨Nat.zero_le _, Nat.zero_le _⟩ dX0_withdraw_36) hS (fun H locs hP hS => ?_)
    refine lv_aload_n C.1 hb dX0_withdraw_39 rfl (lv_at hl 0 rfl) ?_
    refine gX_liveRows C hb hP dX0_withdraw_40 ?_
    exact txI C hb hret hlk hP hS dX0_withdraw_43 rfl (by unfold xR_wd; rw [c50]; rfl) (by unfold xE_row; rw [c50]; rfl)
  · exact xthrowB C hb hl0 hlk hP hS (hl.1.trans hml.symm) het (text := "no such row") (by decide) dX0_withdraw_8 dX0_withdraw_11 dX0_withdraw_12 dX0_withdraw_14 dX0_withdraw_17 ⟨Nat.le_of_ble_eq_true rfl, Nat.le_of_ble_eq_true rfl, Nat.le_of_ble_eq_true rfl, Nat.le_of_ble_eq_true rfl⟩ (by unfold xE_row; rw [c50]; rfl) (by unfold xR_wd; rw [c50]; rfl)

set_option maxRecDepth 100000 in
set_option maxHeartbeats 4000000 in
theorem k_X0_setOld (l : Launch) (hl0 : l.stackTraces = false) (g : gG) (S : WS) (n : Nat) (hI : XI n S) (r v : Int32) : vx_Met l yX0_setOld (wA yX0_setOld cX0_setOld 4 (some .int)) ({ frames := 6, cells := 1, slots := 6, locals := 250 }) (PW g S [.ref (gA g 0), .int r, .int v]) (TQ g (xR_old S r v) (xE_old S r v) (some (.int (xIa S 0 (tN r))))) (TX g (xR_old S r v) (xE_old S r v)) 1 6 (Ab g) := by
  refine metX (by decide +kernel) (Nat.le_of_ble_eq_true rfl) ?_
  intro p e s m below meth c C hb hml hret hlk hP het ls hl
  have C : CW g RX0 p s m ([.ref (gA g 0), .int r, .int v] : List Value).toArray := C
  have hS : va_S (Ab g) s.heap s.heap [] := va_S.rf
  have hl : lv_has ls 4 [(0, .ref (gA g 0)), (1, .int r), (2, .int v)] := hl
  refine lv_aload_n C.1 hb dX0_setOld_0 rfl (lv_at hl 0 rfl) ?_
  refine lv_iload_n C.1 hb dX0_setOld_1 rfl (lv_at hl 1 rfl) ?_
  refine run_rd (cRunX (As := [.int r]) (rest := []) C hb (hml.trans hl.1.symm) hP hS rfl (k_X0_hasRow l g S n hI r) wm_139 wm_140 wm_141 wm_142 wm_12 (n := 1) (by decide +kernel) rfl ⟨rfl, rfl, Nat.le_of_ble_eq_true rfl, Nat.le_of_ble_eq_true rfl⟩ (Nat.le_of_ble_eq_true rfl) rfl ⟨Nat.zero_le _, Nat.zero_le _⟩ dX0_setOld_2) ?_
  refine bz_ne (tgt := 18) C hb dX0_setOld_5 (by decide) (fun c51 => ?_) (fun c51 => ?_)
  · have hx := xHasRow_ix hI.1 hI.2.1 c51
    have hx1 := hx.1.1
    have hx2 := hx.1.2
    have hn40 := hI.1
    refine lv_iload_n C.1 hb dX0_setOld_18 rfl (lv_at hl 2 rfl) ?_
    refine lv_iconst (v := (-1)) C.1 hb dX0_setOld_19 (by decide) ?_
    refine lv_icmp_eq (tgt := 43) C.1 hb dX0_setOld_20 (by decide) (fun c52 => ?_) (fun c52 => ?_)
    · have ho : xOldOk v = true := by simp [xOldOk, c52]
      refine lv_aload_n C.1 hb dX0_setOld_43 rfl (lv_at hl 0 rfl) ?_
      refine gX_oldPremiums C hb hP dX0_setOld_44 ?_
      refine lv_iload_n C.1 hb dX0_setOld_47 rfl (lv_at hl 1 rfl) ?_
      refine ldX_oldPremiums (j := (tN r)) C hb hP hx1 (by omega) dX0_setOld_48 ?_
      refine lv_istore_n (lv' := [(3, .int (xIa S 0 (tN r))), (0, .ref (gA g 0)), (1, .int r), (2, .int v)]) C.1 hb dX0_setOld_49 rfl hl (by decide) rfl (fun ls hl => ?_)
      refine lv_aload_n C.1 hb dX0_setOld_50 rfl (lv_at hl 1 rfl) ?_
      refine gX_oldPremiums C hb hP dX0_setOld_51 ?_
      refine lv_iload_n C.1 hb dX0_setOld_54 rfl (lv_at hl 2 rfl) ?_
      refine lv_iload_n C.1 hb dX0_setOld_55 rfl (lv_at hl 3 rfl) ?_
      refine stX_oldPremiums (j := (tN r)) C hb hP hS hx1 (by omega) dX0_setOld_56 (fun H locs hP hS => ?_)
      refine lv_iload_n C.1 hb dX0_setOld_57 rfl (lv_at hl 0 rfl) ?_
      exact txI C hb hret hlk hP hS dX0_setOld_58 rfl (by unfold xR_old; rw [c51, ho]; rfl) (by unfold xE_old; rw [c51, ho]; rfl)
    · refine lv_iload_n C.1 hb dX0_setOld_23 rfl (lv_at hl 2 rfl) ?_
      refine lv_iconst (v := 0) C.1 hb dX0_setOld_24 (by decide) ?_
      refine lv_ldc (v := 10000000) C.1 hb C.2.1 (C.2.2.1 _ wm_166) dX0_setOld_25 ?_
      refine run_rd (cRunS (As := [.int v, .int 0, .int 10000000]) (rest := []) C hb (hml.trans hl.1.symm) hP hS (k_X0_isWithin l g S v 0 10000000) wm_127 wm_128 wm_129 wm_12 (n := 3) (by decide +kernel) rfl ⟨rfl, rfl, Nat.le_of_ble_eq_true rfl, Nat.le_of_ble_eq_true rfl⟩ (Nat.le_of_ble_eq_true rfl) rfl ⟨Nat.zero_le _, Nat.zero_le _⟩ dX0_setOld_27) ?_
      refine bz_ne (tgt := 43) C hb dX0_setOld_30 (by decide) (fun c53 => ?_) (fun c53 => ?_)
      · have ho : xOldOk v = true := by simp [xOldOk, c53]
        refine lv_aload_n C.1 hb dX0_setOld_43 rfl (lv_at hl 0 rfl) ?_
        refine gX_oldPremiums C hb hP dX0_setOld_44 ?_
        refine lv_iload_n C.1 hb dX0_setOld_47 rfl (lv_at hl 1 rfl) ?_
        refine ldX_oldPremiums (j := (tN r)) C hb hP hx1 (by omega) dX0_setOld_48 ?_
        refine lv_istore_n (lv' := [(3, .int (xIa S 0 (tN r))), (0, .ref (gA g 0)), (1, .int r), (2, .int v)]) C.1 hb dX0_setOld_49 rfl hl (by decide) rfl (fun ls hl => ?_)
        refine lv_aload_n C.1 hb dX0_setOld_50 rfl (lv_at hl 1 rfl) ?_
        refine gX_oldPremiums C hb hP dX0_setOld_51 ?_
        refine lv_iload_n C.1 hb dX0_setOld_54 rfl (lv_at hl 2 rfl) ?_
        refine lv_iload_n C.1 hb dX0_setOld_55 rfl (lv_at hl 3 rfl) ?_
        refine stX_oldPremiums (j := (tN r)) C hb hP hS hx1 (by omega) dX0_setOld_56 (fun H locs hP hS => ?_)
        refine lv_iload_n C.1 hb dX0_setOld_57 rfl (lv_at hl 0 rfl) ?_
        exact txI C hb hret hlk hP hS dX0_setOld_58 rfl (by unfold xR_old; rw [c51, ho]; rfl) (by unfold xE_old; rw [c51, ho]; rfl)
      · have ho : xOldOk v = false := by simp [xOldOk, c52, c53]
        exact xthrowI C hb hl0 hlk hP hS (hl.1.trans hml.symm) het (text := "premium out of range") (by decide) dX0_setOld_33 dX0_setOld_36 dX0_setOld_37 dX0_setOld_39 dX0_setOld_42 ⟨Nat.le_of_ble_eq_true rfl, Nat.le_of_ble_eq_true rfl, Nat.le_of_ble_eq_true rfl, Nat.le_of_ble_eq_true rfl⟩ (by unfold xE_old; rw [c51, ho]; rfl) (by unfold xR_old; rw [c51, ho]; rfl)
  · exact xthrowB C hb hl0 hlk hP hS (hl.1.trans hml.symm) het (text := "no such row") (by decide) dX0_setOld_8 dX0_setOld_11 dX0_setOld_12 dX0_setOld_14 dX0_setOld_17 ⟨Nat.le_of_ble_eq_true rfl, Nat.le_of_ble_eq_true rfl, Nat.le_of_ble_eq_true rfl, Nat.le_of_ble_eq_true rfl⟩ (by unfold xE_old; rw [c51]; rfl) (by unfold xR_old; rw [c51]; rfl)

set_option maxRecDepth 100000 in
set_option maxHeartbeats 4000000 in
theorem k_X0_setRules (l : Launch) (hl0 : l.stackTraces = false) (g : gG) (S : WS) (q k : Int32) : vx_Met l yX0_setRules (wA yX0_setRules cX0_setRules 4 (some .int)) ({ frames := 6, cells := 1, slots := 6, locals := 250 }) (PW g S [.ref (gA g 0), .int q, .int k]) (TQ g (xR_rules S q k) (xE_rules q k) (some (.int (xSc S 2)))) (TX g (xR_rules S q k) (xE_rules q k)) 1 6 (Ab g) := by
  refine metX (by decide +kernel) (Nat.le_of_ble_eq_true rfl) ?_
  intro p e s m below meth c C hb hml hret hlk hP het ls hl
  have C : CW g RX0 p s m ([.ref (gA g 0), .int q, .int k] : List Value).toArray := C
  have hS : va_S (Ab g) s.heap s.heap [] := va_S.rf
  have hl : lv_has ls 4 [(0, .ref (gA g 0)), (1, .int q), (2, .int k)] := hl
  refine lv_iload_n C.1 hb dX0_setRules_0 rfl (lv_at hl 1 rfl) ?_
  refine lv_iconst (v := 0) C.1 hb dX0_setRules_1 (by decide) ?_
  refine lv_sipush (v := 1000) C.1 hb dX0_setRules_2 (by decide) ?_
  refine run_rd (cRunS (As := [.int q, .int 0, .int 1000]) (rest := []) C hb (hml.trans hl.1.symm) hP hS (k_X0_isWithin l g S q 0 1000) wm_127 wm_128 wm_129 wm_12 (n := 3) (by decide +kernel) rfl ⟨rfl, rfl, Nat.le_of_ble_eq_true rfl, Nat.le_of_ble_eq_true rfl⟩ (Nat.le_of_ble_eq_true rfl) rfl ⟨Nat.zero_le _, Nat.zero_le _⟩ dX0_setRules_5) ?_
  refine bz_ne (tgt := 21) C hb dX0_setRules_8 (by decide) (fun c54 => ?_) (fun c54 => ?_)
  · refine lv_iload_n C.1 hb dX0_setRules_21 rfl (lv_at hl 2 rfl) ?_
    refine lv_iconst (v := (-1)) C.1 hb dX0_setRules_22 (by decide) ?_
    refine lv_icmp_eq (tgt := 47) C.1 hb dX0_setRules_23 (by decide) (fun c55 => ?_) (fun c55 => ?_)
    · have ho : xCapOk k = true := by simp [xCapOk, c55]
      refine lv_aload_n C.1 hb dX0_setRules_47 rfl (lv_at hl 0 rfl) ?_
      refine gX_credibility C hb hP dX0_setRules_48 ?_
      refine lv_istore_n (lv' := [(3, .int (xSc S 2)), (0, .ref (gA g 0)), (1, .int q), (2, .int k)]) C.1 hb dX0_setRules_51 rfl hl (by decide) rfl (fun ls hl => ?_)
      refine lv_aload_n C.1 hb dX0_setRules_52 rfl (lv_at hl 1 rfl) ?_
      refine lv_iload_n C.1 hb dX0_setRules_53 rfl (lv_at hl 2 rfl) ?_
      refine pX_credibility C hb hP hS dX0_setRules_54 (fun H locs hP hS => ?_)
      refine lv_aload_n C.1 hb dX0_setRules_57 rfl (lv_at hl 1 rfl) ?_
      refine lv_iload_n C.1 hb dX0_setRules_58 rfl (lv_at hl 3 rfl) ?_
      refine pX_cap C hb hP hS dX0_setRules_59 (fun H locs hP hS => ?_)
      refine lv_iload_n C.1 hb dX0_setRules_62 rfl (lv_at hl 0 rfl) ?_
      exact txI C hb hret hlk hP hS dX0_setRules_63 rfl (by unfold xR_rules; rw [c54, ho]; rfl) (by unfold xE_rules; rw [c54, ho]; rfl)
    · refine lv_iload_n C.1 hb dX0_setRules_26 rfl (lv_at hl 2 rfl) ?_
      refine lv_iconst (v := 0) C.1 hb dX0_setRules_27 (by decide) ?_
      refine lv_sipush (v := 1000) C.1 hb dX0_setRules_28 (by decide) ?_
      refine run_rd (cRunS (As := [.int k, .int 0, .int 1000]) (rest := []) C hb (hml.trans hl.1.symm) hP hS (k_X0_isWithin l g S k 0 1000) wm_127 wm_128 wm_129 wm_12 (n := 3) (by decide +kernel) rfl ⟨rfl, rfl, Nat.le_of_ble_eq_true rfl, Nat.le_of_ble_eq_true rfl⟩ (Nat.le_of_ble_eq_true rfl) rfl ⟨Nat.zero_le _, Nat.zero_le _⟩ dX0_setRules_31) ?_
      refine bz_ne (tgt := 47) C hb dX0_setRules_34 (by decide) (fun c56 => ?_) (fun c56 => ?_)
      · have ho : xCapOk k = true := by simp [xCapOk, c56]
        refine lv_aload_n C.1 hb dX0_setRules_47 rfl (lv_at hl 0 rfl) ?_
        refine gX_credibility C hb hP dX0_setRules_48 ?_
        refine lv_istore_n (lv' := [(3, .int (xSc S 2)), (0, .ref (gA g 0)), (1, .int q), (2, .int k)]) C.1 hb dX0_setRules_51 rfl hl (by decide) rfl (fun ls hl => ?_)
        refine lv_aload_n C.1 hb dX0_setRules_52 rfl (lv_at hl 1 rfl) ?_
        refine lv_iload_n C.1 hb dX0_setRules_53 rfl (lv_at hl 2 rfl) ?_
        refine pX_credibility C hb hP hS dX0_setRules_54 (fun H locs hP hS => ?_)
        refine lv_aload_n C.1 hb dX0_setRules_57 rfl (lv_at hl 1 rfl) ?_
        refine lv_iload_n C.1 hb dX0_setRules_58 rfl (lv_at hl 3 rfl) ?_
        refine pX_cap C hb hP hS dX0_setRules_59 (fun H locs hP hS => ?_)
        refine lv_iload_n C.1 hb dX0_setRules_62 rfl (lv_at hl 0 rfl) ?_
        exact txI C hb hret hlk hP hS dX0_setRules_63 rfl (by unfold xR_rules; rw [c54, ho]; rfl) (by unfold xE_rules; rw [c54, ho]; rfl)
      · have ho : xCapOk k = false := by simp [xCapOk, c55, c56]
        exact xthrowI C hb hl0 hlk hP hS (hl.1.trans hml.symm) het (text := "cap out of range") (by decide) dX0_setRules_37 dX0_setRules_40 dX0_setRules_41 dX0_setRules_43 dX0_setRules_46 ⟨Nat.le_of_ble_eq_true rfl, Nat.le_of_ble_eq_true rfl, Nat.le_of_ble_eq_true rfl, Nat.le_of_ble_eq_true rfl⟩ (by unfold xE_rules; rw [c54, ho]; rfl) (by unfold xR_rules; rw [c54, ho]; rfl)
  · exact xthrowI C hb hl0 hlk hP hS (hl.1.trans hml.symm) het (text := "credibility out of range") (by decide) dX0_setRules_11 dX0_setRules_14 dX0_setRules_15 dX0_setRules_17 dX0_setRules_20 ⟨Nat.le_of_ble_eq_true rfl, Nat.le_of_ble_eq_true rfl, Nat.le_of_ble_eq_true rfl, Nat.le_of_ble_eq_true rfl⟩ (by unfold xE_rules; rw [c54]; rfl) (by unfold xR_rules; rw [c54]; rfl)

set_option maxRecDepth 100000 in
set_option maxHeartbeats 4000000 in
theorem k_X0_setFactor (l : Launch) (hl0 : l.stackTraces = false) (g : gG) (S : WS) (n : Nat) (hI : XI n S) (t k v : Int32) : vx_Met l yX0_setFactor (wA yX0_setFactor cX0_setFactor 5 (some .int)) ({ frames := 6, cells := 1, slots := 6, locals := 250 }) (PW g S [.ref (gA g 0), .int t, .int k, .int v]) (TQ g (xR_fac S n t k v) (xE_fac t k v) (some (.int (xFac S (tN t) (tN k))))) (TX g (xR_fac S n t k v) (xE_fac t k v)) 1 6 (Ab g) := by
  refine metX (by decide +kernel) (Nat.le_of_ble_eq_true rfl) ?_
  intro p e s m below meth c C hb hml hret hlk hP het ls hl
  have C : CW g RX0 p s m ([.ref (gA g 0), .int t, .int k, .int v] : List Value).toArray := C
  have hS : va_S (Ab g) s.heap s.heap [] := va_S.rf
  have hl : lv_has ls 5 [(0, .ref (gA g 0)), (1, .int t), (2, .int k), (3, .int v)] := hl
  refine lv_iload_n C.1 hb dX0_setFactor_0 rfl (lv_at hl 1 rfl) ?_
  refine lv_iload_n C.1 hb dX0_setFactor_1 rfl (lv_at hl 2 rfl) ?_
  refine run_rd (cRunS (As := [.int t, .int k]) (rest := []) C hb (hml.trans hl.1.symm) hP hS (k_X0_hasLevel l g S t k) wm_121 wm_122 wm_123 wm_12 (n := 2) (by decide +kernel) rfl ⟨rfl, rfl, Nat.le_of_ble_eq_true rfl, Nat.le_of_ble_eq_true rfl⟩ (Nat.le_of_ble_eq_true rfl) rfl ⟨Nat.zero_le _, Nat.zero_le _⟩ dX0_setFactor_2) ?_
  refine bz_ne (tgt := 18) C hb dX0_setFactor_5 (by decide) (fun c57 => ?_) (fun c57 => ?_)
  · have hx := xHasLevel_ix c57
    have ht1 := hx.1.1
    have ht2 := hx.1.2
    have hk1 := hx.2.1
    have hk2 := hx.2.2
    have h4 := levN_4 (tN t)
    refine lv_iload_n C.1 hb dX0_setFactor_18 rfl (lv_at hl 3 rfl) ?_
    refine lv_bipush (v := 100) C.1 hb dX0_setFactor_19 (by decide) ?_
    refine lv_ldc (v := 100000) C.1 hb C.2.1 (C.2.2.1 _ wm_182) dX0_setFactor_21 ?_
    refine run_rd (cRunS (As := [.int v, .int 100, .int 100000]) (rest := []) C hb (hml.trans hl.1.symm) hP hS (k_X0_isWithin l g S v 100 100000) wm_127 wm_128 wm_129 wm_12 (n := 3) (by decide +kernel) rfl ⟨rfl, rfl, Nat.le_of_ble_eq_true rfl, Nat.le_of_ble_eq_true rfl⟩ (Nat.le_of_ble_eq_true rfl) rfl ⟨Nat.zero_le _, Nat.zero_le _⟩ dX0_setFactor_23) ?_
    refine bz_ne (tgt := 39) C hb dX0_setFactor_26 (by decide) (fun c58 => ?_) (fun c58 => ?_)
    · refine lv_aload_n C.1 hb dX0_setFactor_39 rfl (lv_at hl 0 rfl) ?_
      refine gX_factors C hb hP dX0_setFactor_40 ?_
      refine lv_iload_n C.1 hb dX0_setFactor_43 rfl (lv_at hl 1 rfl) ?_
      refine al_fac (t := (tN t)) C hb hP ht1 ht2 dX0_setFactor_44 ?_
      refine lv_iload_n C.1 hb dX0_setFactor_45 rfl (lv_at hl 2 rfl) ?_
      refine ldX_fac (t := (tN t)) (j := (tN k)) C hb hP ht2 hk1 (by omega) dX0_setFactor_46 ?_
      refine lv_istore (lv' := [(4, .int (xFac S (tN t) (tN k))), (0, .ref (gA g 0)), (1, .int t), (2, .int k), (3, .int v)]) C.1 hb dX0_setFactor_47 hl (by decide) rfl (fun ls hl => ?_)
      refine lv_aload_n C.1 hb dX0_setFactor_49 rfl (lv_at hl 1 rfl) ?_
      refine gX_factors C hb hP dX0_setFactor_50 ?_
      refine lv_iload_n C.1 hb dX0_setFactor_53 rfl (lv_at hl 2 rfl) ?_
      refine al_fac (t := (tN t)) C hb hP ht1 ht2 dX0_setFactor_54 ?_
      refine lv_iload_n C.1 hb dX0_setFactor_55 rfl (lv_at hl 3 rfl) ?_
      refine lv_iload_n C.1 hb dX0_setFactor_56 rfl (lv_at hl 4 rfl) ?_
      refine stX_fac (t := (tN t)) (j := (tN k)) C hb hP hS ht2 hk1 (by omega) dX0_setFactor_57 (fun H locs hP hS => ?_)
      have hP : HW g (xSetF S (tN t) (tN k) v) H := hP
      refine lv_aload_n C.1 hb dX0_setFactor_58 rfl (lv_at hl 1 rfl) ?_
      refine run_wr (cRunX (As := []) (rest := []) C hb (hml.trans hl.1.symm) hP hS rfl (k_X0_refit l g (xSetF S (tN t) (tN k) v) n (XI_setF _ _ _ hI)) wm_85 wm_86 wm_87 wm_88 wm_12 (n := 0) (by decide +kernel) rfl ⟨rfl, rfl, Nat.le_of_ble_eq_true rfl, Nat.le_of_ble_eq_true rfl⟩ (Nat.le_of_ble_eq_true rfl) rfl ⟨Nat.zero_le _, Nat.zero_le _⟩ dX0_setFactor_59) hS (fun H locs hP hS => ?_)
      refine lv_iload C.1 hb dX0_setFactor_62 (lv_at hl 0 rfl) ?_
      exact txI C hb hret hlk hP hS dX0_setFactor_64 rfl (by unfold xR_fac; rw [c57, c58]; rfl) (by unfold xE_fac; rw [c57, c58]; rfl)
    · exact xthrowI C hb hl0 hlk hP hS (hl.1.trans hml.symm) het (text := "factor out of range") (by decide) dX0_setFactor_29 dX0_setFactor_32 dX0_setFactor_33 dX0_setFactor_35 dX0_setFactor_38 ⟨Nat.le_of_ble_eq_true rfl, Nat.le_of_ble_eq_true rfl, Nat.le_of_ble_eq_true rfl, Nat.le_of_ble_eq_true rfl⟩ (by unfold xE_fac; rw [c57, c58]; rfl) (by unfold xR_fac; rw [c57, c58]; rfl)
  · exact xthrowB C hb hl0 hlk hP hS (hl.1.trans hml.symm) het (text := "no such trait or level") (by decide) dX0_setFactor_8 dX0_setFactor_11 dX0_setFactor_12 dX0_setFactor_14 dX0_setFactor_17 ⟨Nat.le_of_ble_eq_true rfl, Nat.le_of_ble_eq_true rfl, Nat.le_of_ble_eq_true rfl, Nat.le_of_ble_eq_true rfl⟩ (by unfold xE_fac; rw [c57]; rfl) (by unfold xR_fac; rw [c57]; rfl)

set_option maxRecDepth 100000 in
set_option maxHeartbeats 4000000 in
theorem k_X0_pass (l : Launch) (hl0 : l.stackTraces = false) (g : gG) (S : WS) (n : Nat) (hI : XI n S) (t : Int32) : vx_Met l yX0_pass (wA yX0_pass cX0_pass 2 (some .int)) ({ frames := 6, cells := 1, slots := 6, locals := 250 }) (PW g S [.ref (gA g 0), .int t]) (TQ g (xR_pass S n t) (xE_trait t) (some (.int (nI (xPassC S n (tN t)))))) (TX g (xR_pass S n t) (xE_trait t)) 1 6 (Ab g) := by
  refine metX (by decide +kernel) (Nat.le_of_ble_eq_true rfl) ?_
  intro p e s m below meth c C hb hml hret hlk hP het ls hl
  have C : CW g RX0 p s m ([.ref (gA g 0), .int t] : List Value).toArray := C
  have hS : va_S (Ab g) s.heap s.heap [] := va_S.rf
  have hl : lv_has ls 2 [(0, .ref (gA g 0)), (1, .int t)] := hl
  refine lv_iload_n C.1 hb dX0_pass_0 rfl (lv_at hl 1 rfl) ?_
  refine run_rd (cRunS (As := [.int t]) (rest := []) C hb (hml.trans hl.1.symm) hP hS (k_X0_hasTrait l g S t) wm_124 wm_125 wm_126 wm_12 (n := 1) (by decide +kernel) rfl ⟨rfl, rfl, Nat.le_of_ble_eq_true rfl, Nat.le_of_ble_eq_true rfl⟩ (Nat.le_of_ble_eq_true rfl) rfl ⟨Nat.zero_le _, Nat.zero_le _⟩ dX0_pass_1) ?_
  refine bz_ne (tgt := 17) C hb dX0_pass_4 (by decide) (fun c59 => ?_) (fun c59 => ?_)
  · have hx := xHasTrait_ix c59
    have ht1 := hx.1
    have ht2 := hx.2
    refine lv_aload_n C.1 hb dX0_pass_17 rfl (lv_at hl 0 rfl) ?_
    refine lv_iload_n C.1 hb dX0_pass_18 rfl (lv_at hl 1 rfl) ?_
    refine toI ht1 ?_
    refine run_wr (cRunX (As := [.int (nI (tN t))]) (rest := []) C hb (hml.trans hl.1.symm) hP hS rfl (k_X0_passOver l g S n hI (tN t) ht2) wm_60 wm_61 wm_62 wm_63 wm_12 (n := 1) (by decide +kernel) rfl ⟨rfl, rfl, Nat.le_of_ble_eq_true rfl, Nat.le_of_ble_eq_true rfl⟩ (Nat.le_of_ble_eq_true rfl) rfl ⟨Nat.zero_le _, Nat.zero_le _⟩ dX0_pass_19) hS (fun H locs hP hS => ?_)
    exact txI C hb hret hlk hP hS dX0_pass_22 rfl (by unfold xR_pass; rw [c59]; rfl) (by unfold xE_trait; rw [c59]; rfl)
  · exact xthrowB C hb hl0 hlk hP hS (hl.1.trans hml.symm) het (text := "no such trait") (by decide) dX0_pass_7 dX0_pass_10 dX0_pass_11 dX0_pass_13 dX0_pass_16 ⟨Nat.le_of_ble_eq_true rfl, Nat.le_of_ble_eq_true rfl, Nat.le_of_ble_eq_true rfl, Nat.le_of_ble_eq_true rfl⟩ (by unfold xE_trait; rw [c59]; rfl) (by unfold xR_pass; rw [c59]; rfl)

set_option maxRecDepth 100000 in
set_option maxHeartbeats 4000000 in
theorem k_X0_factor (l : Launch) (hl0 : l.stackTraces = false) (g : gG) (S : WS) (t k : Int32) : vx_Met l yX0_factor (wA yX0_factor cX0_factor 3 (some .int)) ({ frames := 6, cells := 1, slots := 6, locals := 250 }) (PW g S [.ref (gA g 0), .int t, .int k]) (TQ g S (xE_level t k) (some (.int (xFac S (tN t) (tN k))))) (TX g S (xE_level t k)) 1 6 (Ab g) := by
  refine metX (by decide +kernel) (Nat.le_of_ble_eq_true rfl) ?_
  intro p e s m below meth c C hb hml hret hlk hP het ls hl
  have C : CW g RX0 p s m ([.ref (gA g 0), .int t, .int k] : List Value).toArray := C
  have hS : va_S (Ab g) s.heap s.heap [] := va_S.rf
  have hl : lv_has ls 3 [(0, .ref (gA g 0)), (1, .int t), (2, .int k)] := hl
  refine lv_iload_n C.1 hb dX0_factor_0 rfl (lv_at hl 1 rfl) ?_
  refine lv_iload_n C.1 hb dX0_factor_1 rfl (lv_at hl 2 rfl) ?_
  refine run_rd (cRunS (As := [.int t, .int k]) (rest := []) C hb (hml.trans hl.1.symm) hP hS (k_X0_hasLevel l g S t k) wm_121 wm_122 wm_123 wm_12 (n := 2) (by decide +kernel) rfl ⟨rfl, rfl, Nat.le_of_ble_eq_true rfl, Nat.le_of_ble_eq_true rfl⟩ (Nat.le_of_ble_eq_true rfl) rfl ⟨Nat.zero_le _, Nat.zero_le _⟩ dX0_factor_2) ?_
  refine bz_ne (tgt := 18) C hb dX0_factor_5 (by decide) (fun c60 => ?_) (fun c60 => ?_)
  · have hx := xHasLevel_ix c60
    have ht1 := hx.1.1
    have ht2 := hx.1.2
    have hk1 := hx.2.1
    have hk2 := hx.2.2
    have h4 := levN_4 (tN t)
    refine lv_aload_n C.1 hb dX0_factor_18 rfl (lv_at hl 0 rfl) ?_
    refine gX_factors C hb hP dX0_factor_19 ?_
    refine lv_iload_n C.1 hb dX0_factor_22 rfl (lv_at hl 1 rfl) ?_
    refine al_fac (t := (tN t)) C hb hP ht1 ht2 dX0_factor_23 ?_
    refine lv_iload_n C.1 hb dX0_factor_24 rfl (lv_at hl 2 rfl) ?_
    refine ldX_fac (t := (tN t)) (j := (tN k)) C hb hP ht2 hk1 (by omega) dX0_factor_25 ?_
    exact txI C hb hret hlk hP hS dX0_factor_26 rfl rfl (by unfold xE_level; rw [c60]; rfl)
  · exact xthrowB C hb hl0 hlk hP hS (hl.1.trans hml.symm) het (text := "no such trait or level") (by decide) dX0_factor_8 dX0_factor_11 dX0_factor_12 dX0_factor_14 dX0_factor_17 ⟨Nat.le_of_ble_eq_true rfl, Nat.le_of_ble_eq_true rfl, Nat.le_of_ble_eq_true rfl, Nat.le_of_ble_eq_true rfl⟩ (by unfold xE_level; rw [c60]; rfl) rfl

set_option maxRecDepth 100000 in
set_option maxHeartbeats 4000000 in
theorem k_X0_fitted (l : Launch) (hl0 : l.stackTraces = false) (g : gG) (S : WS) (n : Nat) (hI : XI n S) (r : Int32) : vx_Met l yX0_fitted (wA yX0_fitted cX0_fitted 2 (some .long)) ({ frames := 6, cells := 1, slots := 6, locals := 250 }) (PW g S [.ref (gA g 0), .int r]) (TQ g S (xE_row S r) (some (.long (xLng S 3 (tN r))))) (TX g S (xE_row S r)) 1 6 (Ab g) := by
  refine metX (by decide +kernel) (Nat.le_of_ble_eq_true rfl) ?_
  intro p e s m below meth c C hb hml hret hlk hP het ls hl
  have C : CW g RX0 p s m ([.ref (gA g 0), .int r] : List Value).toArray := C
  have hS : va_S (Ab g) s.heap s.heap [] := va_S.rf
  have hl : lv_has ls 2 [(0, .ref (gA g 0)), (1, .int r)] := hl
  refine lv_aload_n C.1 hb dX0_fitted_0 rfl (lv_at hl 0 rfl) ?_
  refine lv_iload_n C.1 hb dX0_fitted_1 rfl (lv_at hl 1 rfl) ?_
  refine run_rd (cRunX (As := [.int r]) (rest := []) C hb (hml.trans hl.1.symm) hP hS rfl (k_X0_hasRow l g S n hI r) wm_139 wm_140 wm_141 wm_142 wm_12 (n := 1) (by decide +kernel) rfl ⟨rfl, rfl, Nat.le_of_ble_eq_true rfl, Nat.le_of_ble_eq_true rfl⟩ (Nat.le_of_ble_eq_true rfl) rfl ⟨Nat.zero_le _, Nat.zero_le _⟩ dX0_fitted_2) ?_
  refine bz_ne (tgt := 18) C hb dX0_fitted_5 (by decide) (fun c61 => ?_) (fun c61 => ?_)
  · have hx := xHasRow_ix hI.1 hI.2.1 c61
    have hx1 := hx.1.1
    have hx2 := hx.1.2
    have hn40 := hI.1
    refine lv_aload_n C.1 hb dX0_fitted_18 rfl (lv_at hl 0 rfl) ?_
    refine gX_fittedLosses C hb hP dX0_fitted_19 ?_
    refine lv_iload_n C.1 hb dX0_fitted_22 rfl (lv_at hl 1 rfl) ?_
    refine ldX_fittedLosses (j := (tN r)) C hb hP hx1 (by omega) dX0_fitted_23 ?_
    exact txL C hb hret hlk hP hS dX0_fitted_24 rfl rfl (by unfold xE_row; rw [c61]; rfl)
  · exact xthrowB C hb hl0 hlk hP hS (hl.1.trans hml.symm) het (text := "no such row") (by decide) dX0_fitted_8 dX0_fitted_11 dX0_fitted_12 dX0_fitted_14 dX0_fitted_17 ⟨Nat.le_of_ble_eq_true rfl, Nat.le_of_ble_eq_true rfl, Nat.le_of_ble_eq_true rfl, Nat.le_of_ble_eq_true rfl⟩ (by unfold xE_row; rw [c61]; rfl) rfl

set_option maxRecDepth 100000 in
set_option maxHeartbeats 4000000 in
theorem k_X0_toldSum (l : Launch) (hl0 : l.stackTraces = false) (g : gG) (S : WS) (n : Nat) (hI : XI n S) (t k : Int32) : vx_Met l yX0_toldSum (wA yX0_toldSum cX0_toldSum 3 (some .long)) ({ frames := 6, cells := 1, slots := 6, locals := 250 }) (PW g S [.ref (gA g 0), .int t, .int k]) (TQ g S (xE_level t k) (some (.long (xLTot (xIa S 1) (xLev S (tN t)) k (xLng S 2) n)))) (TX g S (xE_level t k)) 1 6 (Ab g) := by
  refine metX (by decide +kernel) (Nat.le_of_ble_eq_true rfl) ?_
  intro p e s m below meth c C hb hml hret hlk hP het ls hl
  have C : CW g RX0 p s m ([.ref (gA g 0), .int t, .int k] : List Value).toArray := C
  have hS : va_S (Ab g) s.heap s.heap [] := va_S.rf
  have hl : lv_has ls 3 [(0, .ref (gA g 0)), (1, .int t), (2, .int k)] := hl
  refine lv_iload_n C.1 hb dX0_toldSum_0 rfl (lv_at hl 1 rfl) ?_
  refine lv_iload_n C.1 hb dX0_toldSum_1 rfl (lv_at hl 2 rfl) ?_
  refine run_rd (cRunS (As := [.int t, .int k]) (rest := []) C hb (hml.trans hl.1.symm) hP hS (k_X0_hasLevel l g S t k) wm_121 wm_122 wm_123 wm_12 (n := 2) (by decide +kernel) rfl ⟨rfl, rfl, Nat.le_of_ble_eq_true rfl, Nat.le_of_ble_eq_true rfl⟩ (Nat.le_of_ble_eq_true rfl) rfl ⟨Nat.zero_le _, Nat.zero_le _⟩ dX0_toldSum_2) ?_
  refine bz_ne (tgt := 18) C hb dX0_toldSum_5 (by decide) (fun c62 => ?_) (fun c62 => ?_)
  · have hx := xHasLevel_ix c62
    have ht1 := hx.1.1
    have ht2 := hx.1.2
    have hk1 := hx.2.1
    have hk2 := hx.2.2
    have h4 := levN_4 (tN t)
    refine lv_aload_n C.1 hb dX0_toldSum_18 rfl (lv_at hl 0 rfl) ?_
    refine lv_aload_n C.1 hb dX0_toldSum_19 rfl (lv_at hl 0 rfl) ?_
    refine gX_losses C hb hP dX0_toldSum_20 ?_
    refine lv_iload_n C.1 hb dX0_toldSum_23 rfl (lv_at hl 1 rfl) ?_
    refine toI ht1 ?_
    refine lv_iload_n C.1 hb dX0_toldSum_24 rfl (lv_at hl 2 rfl) ?_
    refine run_rd (cRunX (As := [.ref (gA g 11), .int (nI (tN t)), .int k]) (rest := []) C hb (hml.trans hl.1.symm) hP hS rfl (k_X0_levelTotal l g S n hI 2 (by decide) (tN t) ht2 k) wm_71 wm_72 wm_73 wm_74 wm_12 (n := 3) (by decide +kernel) rfl ⟨rfl, rfl, Nat.le_of_ble_eq_true rfl, Nat.le_of_ble_eq_true rfl⟩ (Nat.le_of_ble_eq_true rfl) rfl ⟨Nat.zero_le _, Nat.zero_le _⟩ dX0_toldSum_25) ?_
    exact txL C hb hret hlk hP hS dX0_toldSum_28 rfl rfl (by unfold xE_level; rw [c62]; rfl)
  · exact xthrowB C hb hl0 hlk hP hS (hl.1.trans hml.symm) het (text := "no such trait or level") (by decide) dX0_toldSum_8 dX0_toldSum_11 dX0_toldSum_12 dX0_toldSum_14 dX0_toldSum_17 ⟨Nat.le_of_ble_eq_true rfl, Nat.le_of_ble_eq_true rfl, Nat.le_of_ble_eq_true rfl, Nat.le_of_ble_eq_true rfl⟩ (by unfold xE_level; rw [c62]; rfl) rfl

set_option maxRecDepth 100000 in
set_option maxHeartbeats 4000000 in
theorem k_X0_fittedSum (l : Launch) (hl0 : l.stackTraces = false) (g : gG) (S : WS) (n : Nat) (hI : XI n S) (t k : Int32) : vx_Met l yX0_fittedSum (wA yX0_fittedSum cX0_fittedSum 3 (some .long)) ({ frames := 6, cells := 1, slots := 6, locals := 250 }) (PW g S [.ref (gA g 0), .int t, .int k]) (TQ g S (xE_level t k) (some (.long (xLTot (xIa S 1) (xLev S (tN t)) k (xLng S 3) n)))) (TX g S (xE_level t k)) 1 6 (Ab g) := by
  refine metX (by decide +kernel) (Nat.le_of_ble_eq_true rfl) ?_
  intro p e s m below meth c C hb hml hret hlk hP het ls hl
  have C : CW g RX0 p s m ([.ref (gA g 0), .int t, .int k] : List Value).toArray := C
  have hS : va_S (Ab g) s.heap s.heap [] := va_S.rf
  have hl : lv_has ls 3 [(0, .ref (gA g 0)), (1, .int t), (2, .int k)] := hl
  refine lv_iload_n C.1 hb dX0_fittedSum_0 rfl (lv_at hl 1 rfl) ?_
  refine lv_iload_n C.1 hb dX0_fittedSum_1 rfl (lv_at hl 2 rfl) ?_
  refine run_rd (cRunS (As := [.int t, .int k]) (rest := []) C hb (hml.trans hl.1.symm) hP hS (k_X0_hasLevel l g S t k) wm_121 wm_122 wm_123 wm_12 (n := 2) (by decide +kernel) rfl ⟨rfl, rfl, Nat.le_of_ble_eq_true rfl, Nat.le_of_ble_eq_true rfl⟩ (Nat.le_of_ble_eq_true rfl) rfl ⟨Nat.zero_le _, Nat.zero_le _⟩ dX0_fittedSum_2) ?_
  refine bz_ne (tgt := 18) C hb dX0_fittedSum_5 (by decide) (fun c63 => ?_) (fun c63 => ?_)
  · have hx := xHasLevel_ix c63
    have ht1 := hx.1.1
    have ht2 := hx.1.2
    have hk1 := hx.2.1
    have hk2 := hx.2.2
    have h4 := levN_4 (tN t)
    refine lv_aload_n C.1 hb dX0_fittedSum_18 rfl (lv_at hl 0 rfl) ?_
    refine lv_aload_n C.1 hb dX0_fittedSum_19 rfl (lv_at hl 0 rfl) ?_
    refine gX_fittedLosses C hb hP dX0_fittedSum_20 ?_
    refine lv_iload_n C.1 hb dX0_fittedSum_23 rfl (lv_at hl 1 rfl) ?_
    refine toI ht1 ?_
    refine lv_iload_n C.1 hb dX0_fittedSum_24 rfl (lv_at hl 2 rfl) ?_
    refine run_rd (cRunX (As := [.ref (gA g 14), .int (nI (tN t)), .int k]) (rest := []) C hb (hml.trans hl.1.symm) hP hS rfl (k_X0_levelTotal l g S n hI 3 (by decide) (tN t) ht2 k) wm_71 wm_72 wm_73 wm_74 wm_12 (n := 3) (by decide +kernel) rfl ⟨rfl, rfl, Nat.le_of_ble_eq_true rfl, Nat.le_of_ble_eq_true rfl⟩ (Nat.le_of_ble_eq_true rfl) rfl ⟨Nat.zero_le _, Nat.zero_le _⟩ dX0_fittedSum_25) ?_
    exact txL C hb hret hlk hP hS dX0_fittedSum_28 rfl rfl (by unfold xE_level; rw [c63]; rfl)
  · exact xthrowB C hb hl0 hlk hP hS (hl.1.trans hml.symm) het (text := "no such trait or level") (by decide) dX0_fittedSum_8 dX0_fittedSum_11 dX0_fittedSum_12 dX0_fittedSum_14 dX0_fittedSum_17 ⟨Nat.le_of_ble_eq_true rfl, Nat.le_of_ble_eq_true rfl, Nat.le_of_ble_eq_true rfl, Nat.le_of_ble_eq_true rfl⟩ (by unfold xE_level; rw [c63]; rfl) rfl

set_option maxRecDepth 100000 in
set_option maxHeartbeats 4000000 in
theorem k_X0_worst (l : Launch) (hl0 : l.stackTraces = false) (g : gG) (S : WS) (n : Nat) (hI : XI n S) (t : Int32) : vx_Met l yX0_worst (wA yX0_worst cX0_worst 7 (some .long)) ({ frames := 6, cells := 1, slots := 6, locals := 250 }) (PW g S [.ref (gA g 0), .int t]) (TQ g S (xE_trait t) (some (.long (xWorst S n (tN t) (levN (tN t)))))) (TX g S (xE_trait t)) 1 6 (Ab g) := by
  refine metX (by decide +kernel) (Nat.le_of_ble_eq_true rfl) ?_
  intro p e s m below meth c C hb hml hret hlk hP het ls hl
  have C : CW g RX0 p s m ([.ref (gA g 0), .int t] : List Value).toArray := C
  have hS : va_S (Ab g) s.heap s.heap [] := va_S.rf
  have hl : lv_has ls 7 [(0, .ref (gA g 0)), (1, .int t)] := hl
  refine lv_iload_n C.1 hb dX0_worst_0 rfl (lv_at hl 1 rfl) ?_
  refine run_rd (cRunS (As := [.int t]) (rest := []) C hb (hml.trans hl.1.symm) hP hS (k_X0_hasTrait l g S t) wm_124 wm_125 wm_126 wm_12 (n := 1) (by decide +kernel) rfl ⟨rfl, rfl, Nat.le_of_ble_eq_true rfl, Nat.le_of_ble_eq_true rfl⟩ (Nat.le_of_ble_eq_true rfl) rfl ⟨Nat.zero_le _, Nat.zero_le _⟩ dX0_worst_1) ?_
  refine bz_ne (tgt := 17) C hb dX0_worst_4 (by decide) (fun c64 => ?_) (fun c64 => ?_)
  · have hx := xHasTrait_ix c64
    have ht1 := hx.1
    have ht2 := hx.2
    have h4 := levN_4 (tN t)
    refine lv_lconst (v := 0) C.1 hb dX0_worst_17 (by decide) ?_
    refine lv_lstore_n (lv' := [(2, .long 0), (0, .ref (gA g 0)), (1, .int t)]) C.1 hb dX0_worst_18 rfl hl (by decide) rfl (fun ls hl => ?_)
    refine lv_iconst (v := 0) C.1 hb dX0_worst_19 (by decide) ?_
    refine lv_istore (lv' := [(4, .int 0), (2, .long 0), (0, .ref (gA g 0)), (1, .int t)]) C.1 hb dX0_worst_20 hl (by decide) rfl (fun ls hl => ?_)
    have key : ∀ f i : Nat, levN (tN t) - i < f → i ≤ levN (tN t) → ∀ (H : Heap) (locs : List Loc), HW g S H → va_S (Ab g) s.heap H locs → ∀ ls : Array Slot, lv_has ls 7 [(0, .ref (gA g 0)), (1, .int t), (2, .long (xWorst S n (tN t) i)), (4, .int (nI i))] → W p l e ({ frames := 6, cells := 1, slots := 6, locals := 250 }) s m ([.ref (gA g 0), .int t] : List Value).toArray below meth c H locs 0 0 (vx_MQ below (TQ g S (xE_trait t) (some (.long (xWorst S n (tN t) (levN (tN t)))))) (TX g S (xE_trait t)) ([.ref (gA g 0), .int t] : List Value).toArray s 1 6 (Ab g)) (F0 m 22 ls []) := by
      intro f
      induction f with
      | zero => intro i h; exact absurd h (Nat.not_lt_zero _)
      | succ f ih =>
        intro i hfi hi  H locs hP hS ls hl
        refine lv_iload C.1 hb dX0_worst_22 (lv_at hl 3 rfl) ?_
        refine gX_LEVELS C hb hS dX0_worst_24 ?_
        refine lv_iload_n C.1 hb dX0_worst_27 rfl (lv_at hl 1 rfl) ?_
        refine toI ht1 ?_
        refine ldX_LEVELS (j := (tN t)) C hb hS rfl ht2 dX0_worst_28 ?_
        refine lv_icmp_ge (tgt := 73) C.1 hb dX0_worst_29 (by decide) (fun c65 => ?_) (fun c65 => ?_)
        · have hin : i = levN (tN t) := by have := le_nI (a := levN (tN t)) (b := i) (by omega) (by omega) c65; omega
          rw [hin] at hl
          refine lv_lload_n C.1 hb dX0_worst_73 rfl (lv_at hl 2 rfl) ?_
          exact txL C hb hret hlk hP hS dX0_worst_74 rfl rfl (by unfold xE_trait; rw [c64]; rfl)
        · have hlt : i < levN (tN t) := nle_nI (a := levN (tN t)) (b := i) (by omega) (by omega) c65
          refine lv_aload_n C.1 hb dX0_worst_32 rfl (lv_at hl 0 rfl) ?_
          refine lv_aload_n C.1 hb dX0_worst_33 rfl (lv_at hl 0 rfl) ?_
          refine gX_losses C hb hP dX0_worst_34 ?_
          refine lv_iload_n C.1 hb dX0_worst_37 rfl (lv_at hl 1 rfl) ?_
          refine toI ht1 ?_
          refine lv_iload C.1 hb dX0_worst_38 (lv_at hl 3 rfl) ?_
          refine run_rd (cRunX (As := [.ref (gA g 11), .int (nI (tN t)), .int (nI i)]) (rest := []) C hb (hml.trans hl.1.symm) hP hS rfl (k_X0_levelTotal l g S n hI 2 (by decide) (tN t) ht2 (nI i)) wm_71 wm_72 wm_73 wm_74 wm_12 (n := 3) (by decide +kernel) rfl ⟨rfl, rfl, Nat.le_of_ble_eq_true rfl, Nat.le_of_ble_eq_true rfl⟩ (Nat.le_of_ble_eq_true rfl) rfl ⟨Nat.zero_le _, Nat.zero_le _⟩ dX0_worst_40) ?_
          refine lv_aload_n C.1 hb dX0_worst_43 rfl (lv_at hl 0 rfl) ?_
          refine lv_aload_n C.1 hb dX0_worst_44 rfl (lv_at hl 0 rfl) ?_
          refine gX_fittedLosses C hb hP dX0_worst_45 ?_
          refine lv_iload_n C.1 hb dX0_worst_48 rfl (lv_at hl 1 rfl) ?_
          refine toI ht1 ?_
          refine lv_iload C.1 hb dX0_worst_49 (lv_at hl 3 rfl) ?_
          refine run_rd (cRunX (As := [.ref (gA g 14), .int (nI (tN t)), .int (nI i)]) (rest := [.long (xLTot (xIa S 1) (xLev S (tN t)) (nI i) (xLng S 2) n)]) C hb (hml.trans hl.1.symm) hP hS rfl (k_X0_levelTotal l g S n hI 3 (by decide) (tN t) ht2 (nI i)) wm_71 wm_72 wm_73 wm_74 wm_12 (n := 3) (by decide +kernel) rfl ⟨rfl, rfl, Nat.le_of_ble_eq_true rfl, Nat.le_of_ble_eq_true rfl⟩ (Nat.le_of_ble_eq_true rfl) rfl ⟨Nat.zero_le _, Nat.zero_le _⟩ dX0_worst_51) ?_
          refine lv_lsub C.1 hb dX0_worst_54 ?_
          refine lv_lstore (lv' := [(5, .long ((xLTot (xIa S 1) (xLev S (tN t)) (nI i) (xLng S 2) n) - (xLTot (xIa S 1) (xLev S (tN t)) (nI i) (xLng S 3) n))), (0, .ref (gA g 0)), (1, .int t), (2, .long (xWorst S n (tN t) i)), (4, .int (nI i))]) C.1 hb dX0_worst_55 hl (by decide) rfl (fun ls hl => ?_)
          refine lv_lload_n C.1 hb dX0_worst_57 rfl (lv_at hl 3 rfl) ?_
          refine lv_lload C.1 hb dX0_worst_58 (lv_at hl 0 rfl) ?_
          refine va_mabs_long C.1 hb (hml.trans hl.1.symm) C.2.1 (C.2.2.1 _ wm_262) (C.2.2.1 _ wm_263) (C.2.2.1 _ wm_80) (C.2.2.1 _ wm_264) (Nat.le_of_ble_eq_true rfl) (Nat.le_of_ble_eq_true rfl) (Nat.zero_le _) (Nat.zero_le _) dX0_worst_60 ?_
          refine va_mmax_long C.1 hb (hml.trans hl.1.symm) C.2.1 (C.2.2.1 _ wm_78) (C.2.2.1 _ wm_79) (C.2.2.1 _ wm_80) (C.2.2.1 _ wm_81) (Nat.le_of_ble_eq_true rfl) (Nat.le_of_ble_eq_true rfl) (Nat.zero_le _) (Nat.zero_le _) dX0_worst_63 ?_
          refine lv_lstore_n (lv' := [(2, .long (mx64 (xWorst S n (tN t) i) (ab64 ((xLTot (xIa S 1) (xLev S (tN t)) (nI i) (xLng S 2) n) - (xLTot (xIa S 1) (xLev S (tN t)) (nI i) (xLng S 3) n))))), (5, .long ((xLTot (xIa S 1) (xLev S (tN t)) (nI i) (xLng S 2) n) - (xLTot (xIa S 1) (xLev S (tN t)) (nI i) (xLng S 3) n))), (0, .ref (gA g 0)), (1, .int t), (4, .int (nI i))]) C.1 hb dX0_worst_66 rfl hl (by decide) rfl (fun ls hl => ?_)
          refine lv_iinc (v := nI (i + 1)) (lv' := [(4, .int (nI (i + 1))), (2, .long (mx64 (xWorst S n (tN t) i) (ab64 ((xLTot (xIa S 1) (xLev S (tN t)) (nI i) (xLng S 2) n) - (xLTot (xIa S 1) (xLev S (tN t)) (nI i) (xLng S 3) n))))), (5, .long ((xLTot (xIa S 1) (xLev S (tN t)) (nI i) (xLng S 2) n) - (xLTot (xIa S 1) (xLev S (tN t)) (nI i) (xLng S 3) n))), (0, .ref (gA g 0)), (1, .int t)]) C.1 hb dX0_worst_67 hl (k := 4) rfl (nI_1 i) (by decide) rfl (fun ls hl => ?_)
          refine lv_goto (tgt := 22) C.1 hb dX0_worst_70 (by decide) ?_
          exact ih (i + 1) (by omega) (by omega)  _ _ hP hS ls (lv_sub hl [3, 4, 1, 0] rfl)
    exact key (levN (tN t) - 0 + 1) 0 (by omega) (by omega)  _ _ hP hS ls (lv_sub hl [2, 3, 1, 0] rfl)
  · exact xthrowB C hb hl0 hlk hP hS (hl.1.trans hml.symm) het (text := "no such trait") (by decide) dX0_worst_7 dX0_worst_10 dX0_worst_11 dX0_worst_13 dX0_worst_16 ⟨Nat.le_of_ble_eq_true rfl, Nat.le_of_ble_eq_true rfl, Nat.le_of_ble_eq_true rfl, Nat.le_of_ble_eq_true rfl⟩ (by unfold xE_trait; rw [c64]; rfl) rfl

set_option maxRecDepth 100000 in
set_option maxHeartbeats 4000000 in
theorem k_X0_premium (l : Launch) (hl0 : l.stackTraces = false) (g : gG) (S : WS) (n : Nat) (hI : XI n S) (r : Int32) : vx_Met l yX0_premium (wA yX0_premium cX0_premium 2 (some .long)) ({ frames := 6, cells := 1, slots := 6, locals := 250 }) (PW g S [.ref (gA g 0), .int r]) (TQ g S (xE_row S r) (some (.long (xNewP S (tN r))))) (TX g S (xE_row S r)) 1 6 (Ab g) := by
  refine metX (by decide +kernel) (Nat.le_of_ble_eq_true rfl) ?_
  intro p e s m below meth c C hb hml hret hlk hP het ls hl
  have C : CW g RX0 p s m ([.ref (gA g 0), .int r] : List Value).toArray := C
  have hS : va_S (Ab g) s.heap s.heap [] := va_S.rf
  have hl : lv_has ls 2 [(0, .ref (gA g 0)), (1, .int r)] := hl
  refine lv_aload_n C.1 hb dX0_premium_0 rfl (lv_at hl 0 rfl) ?_
  refine lv_iload_n C.1 hb dX0_premium_1 rfl (lv_at hl 1 rfl) ?_
  refine run_rd (cRunX (As := [.int r]) (rest := []) C hb (hml.trans hl.1.symm) hP hS rfl (k_X0_hasRow l g S n hI r) wm_139 wm_140 wm_141 wm_142 wm_12 (n := 1) (by decide +kernel) rfl ⟨rfl, rfl, Nat.le_of_ble_eq_true rfl, Nat.le_of_ble_eq_true rfl⟩ (Nat.le_of_ble_eq_true rfl) rfl ⟨Nat.zero_le _, Nat.zero_le _⟩ dX0_premium_2) ?_
  refine bz_ne (tgt := 18) C hb dX0_premium_5 (by decide) (fun c66 => ?_) (fun c66 => ?_)
  · have hx := xHasRow_ix hI.1 hI.2.1 c66
    have hx1 := hx.1.1
    have hx2 := hx.1.2
    have hn40 := hI.1
    refine lv_aload_n C.1 hb dX0_premium_18 rfl (lv_at hl 0 rfl) ?_
    refine lv_iload_n C.1 hb dX0_premium_19 rfl (lv_at hl 1 rfl) ?_
    refine toI hx1 ?_
    refine run_rd (cRunX (As := [.int (nI (tN r))]) (rest := []) C hb (hml.trans hl.1.symm) hP hS rfl (k_X0_newPremium l g S (tN r) (by omega)) wm_147 wm_148 wm_149 wm_150 wm_12 (n := 1) (by decide +kernel) rfl ⟨rfl, rfl, Nat.le_of_ble_eq_true rfl, Nat.le_of_ble_eq_true rfl⟩ (Nat.le_of_ble_eq_true rfl) rfl ⟨Nat.zero_le _, Nat.zero_le _⟩ dX0_premium_20) ?_
    exact txL C hb hret hlk hP hS dX0_premium_23 rfl rfl (by unfold xE_row; rw [c66]; rfl)
  · exact xthrowB C hb hl0 hlk hP hS (hl.1.trans hml.symm) het (text := "no such row") (by decide) dX0_premium_8 dX0_premium_11 dX0_premium_12 dX0_premium_14 dX0_premium_17 ⟨Nat.le_of_ble_eq_true rfl, Nat.le_of_ble_eq_true rfl, Nat.le_of_ble_eq_true rfl, Nat.le_of_ble_eq_true rfl⟩ (by unfold xE_row; rw [c66]; rfl) rfl

set_option maxRecDepth 100000 in
set_option maxHeartbeats 4000000 in
theorem k_X0_capped (l : Launch) (hl0 : l.stackTraces = false) (g : gG) (S : WS) (n : Nat) (hI : XI n S) (r : Int32) : vx_Met l yX0_capped (wA yX0_capped cX0_capped 2 (some .long)) ({ frames := 6, cells := 1, slots := 6, locals := 250 }) (PW g S [.ref (gA g 0), .int r]) (TQ g S (xE_row S r) (some (.long (xCapP S (tN r))))) (TX g S (xE_row S r)) 1 6 (Ab g) := by
  refine metX (by decide +kernel) (Nat.le_of_ble_eq_true rfl) ?_
  intro p e s m below meth c C hb hml hret hlk hP het ls hl
  have C : CW g RX0 p s m ([.ref (gA g 0), .int r] : List Value).toArray := C
  have hS : va_S (Ab g) s.heap s.heap [] := va_S.rf
  have hl : lv_has ls 2 [(0, .ref (gA g 0)), (1, .int r)] := hl
  refine lv_aload_n C.1 hb dX0_capped_0 rfl (lv_at hl 0 rfl) ?_
  refine lv_iload_n C.1 hb dX0_capped_1 rfl (lv_at hl 1 rfl) ?_
  refine run_rd (cRunX (As := [.int r]) (rest := []) C hb (hml.trans hl.1.symm) hP hS rfl (k_X0_hasRow l g S n hI r) wm_139 wm_140 wm_141 wm_142 wm_12 (n := 1) (by decide +kernel) rfl ⟨rfl, rfl, Nat.le_of_ble_eq_true rfl, Nat.le_of_ble_eq_true rfl⟩ (Nat.le_of_ble_eq_true rfl) rfl ⟨Nat.zero_le _, Nat.zero_le _⟩ dX0_capped_2) ?_
  refine bz_ne (tgt := 18) C hb dX0_capped_5 (by decide) (fun c67 => ?_) (fun c67 => ?_)
  · have hx := xHasRow_ix hI.1 hI.2.1 c67
    have hx1 := hx.1.1
    have hx2 := hx.1.2
    have hn40 := hI.1
    refine lv_aload_n C.1 hb dX0_capped_18 rfl (lv_at hl 0 rfl) ?_
    refine lv_iload_n C.1 hb dX0_capped_19 rfl (lv_at hl 1 rfl) ?_
    refine toI hx1 ?_
    refine run_rd (cRunX (As := [.int (nI (tN r))]) (rest := []) C hb (hml.trans hl.1.symm) hP hS rfl (k_X0_cappedPremium l g S (tN r) (by omega)) wm_155 wm_156 wm_157 wm_158 wm_12 (n := 1) (by decide +kernel) rfl ⟨rfl, rfl, Nat.le_of_ble_eq_true rfl, Nat.le_of_ble_eq_true rfl⟩ (Nat.le_of_ble_eq_true rfl) rfl ⟨Nat.zero_le _, Nat.zero_le _⟩ dX0_capped_20) ?_
    exact txL C hb hret hlk hP hS dX0_capped_23 rfl rfl (by unfold xE_row; rw [c67]; rfl)
  · exact xthrowB C hb hl0 hlk hP hS (hl.1.trans hml.symm) het (text := "no such row") (by decide) dX0_capped_8 dX0_capped_11 dX0_capped_12 dX0_capped_14 dX0_capped_17 ⟨Nat.le_of_ble_eq_true rfl, Nat.le_of_ble_eq_true rfl, Nat.le_of_ble_eq_true rfl, Nat.le_of_ble_eq_true rfl⟩ (by unfold xE_row; rw [c67]; rfl) rfl

set_option maxRecDepth 100000 in
set_option maxHeartbeats 4000000 in
theorem k_X0_rankedAt (l : Launch) (hl0 : l.stackTraces = false) (g : gG) (S : WS) (n : Nat) (hI : XI n S) (q : Int32) : vx_Met l yX0_rankedAt (wA yX0_rankedAt cX0_rankedAt 3 (some .int)) ({ frames := 6, cells := 1, slots := 6, locals := 250 }) (PW g S [.ref (gA g 0), .int q]) (TQ g S (xE_rank S n q) (some (.int (nI ((xRank S n q).getD 0))))) (TX g S (xE_rank S n q)) 1 6 (Ab g) := by
  refine metX (by decide +kernel) (Nat.le_of_ble_eq_true rfl) ?_
  intro p e s m below meth c C hb hml hret hlk hP het ls hl
  have C : CW g RX0 p s m ([.ref (gA g 0), .int q] : List Value).toArray := C
  have hS : va_S (Ab g) s.heap s.heap [] := va_S.rf
  have hl : lv_has ls 3 [(0, .ref (gA g 0)), (1, .int q)] := hl
  refine lv_iconst (v := 0) C.1 hb dX0_rankedAt_0 (by decide) ?_
  refine lv_istore_n (lv' := [(2, .int 0), (0, .ref (gA g 0)), (1, .int q)]) C.1 hb dX0_rankedAt_1 rfl hl (by decide) rfl (fun ls hl => ?_)
  have key : ∀ f i : Nat, n - i < f → i ≤ n → (xRankF S n q (n - i) i = xRank S n q) → ∀ (H : Heap) (locs : List Loc), HW g S H → va_S (Ab g) s.heap H locs → ∀ ls : Array Slot, lv_has ls 3 [(0, .ref (gA g 0)), (1, .int q), (2, .int (nI i))] → W p l e ({ frames := 6, cells := 1, slots := 6, locals := 250 }) s m ([.ref (gA g 0), .int q] : List Value).toArray below meth c H locs 0 0 (vx_MQ below (TQ g S (xE_rank S n q) (some (.int (nI ((xRank S n q).getD 0))))) (TX g S (xE_rank S n q)) ([.ref (gA g 0), .int q] : List Value).toArray s 1 6 (Ab g)) (F0 m 2 ls []) := by
    intro f
    induction f with
    | zero => intro i h; exact absurd h (Nat.not_lt_zero _)
    | succ f ih =>
      intro i hfi hi heq H locs hP hS ls hl
      refine lv_iload_n C.1 hb dX0_rankedAt_2 rfl (lv_at hl 2 rfl) ?_
      refine lv_aload_n C.1 hb dX0_rankedAt_3 rfl (lv_at hl 0 rfl) ?_
      refine gX_addedRows C hb hP dX0_rankedAt_4 ?_
      refine lv_icmp_ge (tgt := 36) C.1 hb dX0_rankedAt_7 (by decide) (fun c68 => ?_) (fun c68 => ?_)
      · have hin : i = n := by have := le_nI (a := n) (b := i) (by have := hI.1; omega) (by have := hI.1; omega) (by rw [← hI.2.1]; exact c68); omega
        rw [hin] at hl
        have he : xRank S n q = none := by rw [← heq, hin, Nat.sub_self]; rfl
        exact xthrowB C hb hl0 hlk hP hS (hl.1.trans hml.symm) het (text := "no such place") (by decide) dX0_rankedAt_36 dX0_rankedAt_39 dX0_rankedAt_40 dX0_rankedAt_42 dX0_rankedAt_45 ⟨Nat.le_of_ble_eq_true rfl, Nat.le_of_ble_eq_true rfl, Nat.le_of_ble_eq_true rfl, Nat.le_of_ble_eq_true rfl⟩ (by unfold xE_rank; rw [he]) rfl
      · have hlt : i < n := nle_nI (a := n) (b := i) (by have := hI.1; omega) (by have := hI.1; omega) (by rw [← hI.2.1]; exact c68)
        have hn40 := hI.1
        have hd : n - i = (n - (i + 1)) + 1 := by omega
        rw [hd] at heq
        refine lv_aload_n C.1 hb dX0_rankedAt_10 rfl (lv_at hl 0 rfl) ?_
        refine gX_live C hb hP dX0_rankedAt_11 ?_
        refine lv_iload_n C.1 hb dX0_rankedAt_14 rfl (lv_at hl 2 rfl) ?_
        refine ldX_live (j := i) C hb hP rfl (by omega) dX0_rankedAt_15 ?_
        refine lv_if_eq (tgt := 30) C.1 hb dX0_rankedAt_16 (by decide) (fun c69 => ?_) (fun c69 => ?_)
        · refine lv_iinc (v := nI (i + 1)) (lv' := [(2, .int (nI (i + 1))), (0, .ref (gA g 0)), (1, .int q)]) C.1 hb dX0_rankedAt_30 hl (k := 2) rfl (nI_1 i) (by decide) rfl (fun ls hl => ?_)
          refine lv_goto (tgt := 2) C.1 hb dX0_rankedAt_33 (by decide) ?_
          exact ih (i + 1) (by omega) (by omega) ((if_pos c69).symm.trans heq) _ _ hP hS ls (lv_sub hl [1, 2, 0] rfl)
        · refine lv_aload_n C.1 hb dX0_rankedAt_19 rfl (lv_at hl 0 rfl) ?_
          refine lv_iload_n C.1 hb dX0_rankedAt_20 rfl (lv_at hl 2 rfl) ?_
          refine run_rd (cRunX (As := [.int (nI i)]) (rest := []) C hb (hml.trans hl.1.symm) hP hS rfl (k_X0_placeOf l g S n hI i (by omega)) wm_272 wm_273 wm_274 wm_275 wm_12 (n := 1) (by decide +kernel) rfl ⟨rfl, rfl, Nat.le_of_ble_eq_true rfl, Nat.le_of_ble_eq_true rfl⟩ (Nat.le_of_ble_eq_true rfl) rfl ⟨Nat.zero_le _, Nat.zero_le _⟩ dX0_rankedAt_21) ?_
          refine lv_iload_n C.1 hb dX0_rankedAt_24 rfl (lv_at hl 1 rfl) ?_
          refine lv_icmp_ne (tgt := 30) C.1 hb dX0_rankedAt_25 (by decide) (fun c70 => ?_) (fun c70 => ?_)
          · refine lv_iinc (v := nI (i + 1)) (lv' := [(2, .int (nI (i + 1))), (0, .ref (gA g 0)), (1, .int q)]) C.1 hb dX0_rankedAt_30 hl (k := 2) rfl (nI_1 i) (by decide) rfl (fun ls hl => ?_)
            refine lv_goto (tgt := 2) C.1 hb dX0_rankedAt_33 (by decide) ?_
            exact ih (i + 1) (by omega) (by omega) (((if_neg c69).trans (if_neg c70)).symm.trans heq) _ _ hP hS ls (lv_sub hl [1, 2, 0] rfl)
          · have he : xRank S n q = some i := heq.symm.trans ((if_neg c69).trans (if_pos c70))
            refine lv_iload_n C.1 hb dX0_rankedAt_28 rfl (lv_at hl 2 rfl) ?_
            exact txI C hb hret hlk hP hS dX0_rankedAt_29 (by rw [he]; rfl) rfl (by unfold xE_rank; rw [he])
  exact key (n - 0 + 1) 0 (by omega) (by omega) rfl _ _ hP hS ls (lv_sub hl [1, 2, 0] rfl)

set_option maxRecDepth 100000 in
set_option maxHeartbeats 4000000 in
theorem k_X0_add (l : Launch) (hl0 : l.stackTraces = false) (g : gG) (S : WS) (n : Nat) (hI : XI n S) (a b q ex cl lo : Int32) : vx_Met l yX0_add (wA yX0_add cX0_add 8 (some .int)) ({ frames := 6, cells := 1, slots := 6, locals := 250 }) (PW g S [.ref (gA g 0), .int a, .int b, .int q, .int ex, .int cl, .int lo]) (TQ g (xR_add S n a b q ex cl lo) (xE_add S a b q ex cl lo) (some (.int (nI n)))) (TX g (xR_add S n a b q ex cl lo) (xE_add S a b q ex cl lo)) 1 6 (Ab g) := by
  refine metX (by decide +kernel) (Nat.le_of_ble_eq_true rfl) ?_
  intro p e s m below meth c C hb hml hret hlk hP het ls hl
  have C : CW g RX0 p s m ([.ref (gA g 0), .int a, .int b, .int q, .int ex, .int cl, .int lo] : List Value).toArray := C
  have hS : va_S (Ab g) s.heap s.heap [] := va_S.rf
  have hl : lv_has ls 8 [(0, .ref (gA g 0)), (1, .int a), (2, .int b), (3, .int q), (4, .int ex), (5, .int cl), (6, .int lo)] := hl
  refine lv_iconst (v := 0) C.1 hb dX0_add_0 (by decide) ?_
  refine lv_iload_n C.1 hb dX0_add_1 rfl (lv_at hl 1 rfl) ?_
  refine run_rd (cRunS (As := [.int 0, .int a]) (rest := []) C hb (hml.trans hl.1.symm) hP hS (k_X0_hasLevel l g S 0 a) wm_121 wm_122 wm_123 wm_12 (n := 2) (by decide +kernel) rfl ⟨rfl, rfl, Nat.le_of_ble_eq_true rfl, Nat.le_of_ble_eq_true rfl⟩ (Nat.le_of_ble_eq_true rfl) rfl ⟨Nat.zero_le _, Nat.zero_le _⟩ dX0_add_2) ?_
  refine bz_eq (tgt := 24) C hb dX0_add_5 (by decide) (fun c71 => ?_) (fun c71 => ?_)
  · have ho : xAddOk a b q ex cl lo = false := by simp [xAddOk, c71]
    exact xthrowI C hb hl0 hlk hP hS (hl.1.trans hml.symm) het (text := "no such level") (by decide) dX0_add_24 dX0_add_27 dX0_add_28 dX0_add_30 dX0_add_33 ⟨Nat.le_of_ble_eq_true rfl, Nat.le_of_ble_eq_true rfl, Nat.le_of_ble_eq_true rfl, Nat.le_of_ble_eq_true rfl⟩ (by unfold xE_add; rw [ho]; rfl) (by unfold xR_add; rw [ho]; rfl)
  · refine lv_iconst (v := 1) C.1 hb dX0_add_8 (by decide) ?_
    refine lv_iload_n C.1 hb dX0_add_9 rfl (lv_at hl 2 rfl) ?_
    refine run_rd (cRunS (As := [.int 1, .int b]) (rest := []) C hb (hml.trans hl.1.symm) hP hS (k_X0_hasLevel l g S 1 b) wm_121 wm_122 wm_123 wm_12 (n := 2) (by decide +kernel) rfl ⟨rfl, rfl, Nat.le_of_ble_eq_true rfl, Nat.le_of_ble_eq_true rfl⟩ (Nat.le_of_ble_eq_true rfl) rfl ⟨Nat.zero_le _, Nat.zero_le _⟩ dX0_add_10) ?_
    refine bz_eq (tgt := 24) C hb dX0_add_13 (by decide) (fun c72 => ?_) (fun c72 => ?_)
    · have ho : xAddOk a b q ex cl lo = false := by simp [xAddOk, c72]
      exact xthrowI C hb hl0 hlk hP hS (hl.1.trans hml.symm) het (text := "no such level") (by decide) dX0_add_24 dX0_add_27 dX0_add_28 dX0_add_30 dX0_add_33 ⟨Nat.le_of_ble_eq_true rfl, Nat.le_of_ble_eq_true rfl, Nat.le_of_ble_eq_true rfl, Nat.le_of_ble_eq_true rfl⟩ (by unfold xE_add; rw [ho]; rfl) (by unfold xR_add; rw [ho]; rfl)
    · refine lv_iconst (v := 2) C.1 hb dX0_add_16 (by decide) ?_
      refine lv_iload_n C.1 hb dX0_add_17 rfl (lv_at hl 3 rfl) ?_
      refine run_rd (cRunS (As := [.int 2, .int q]) (rest := []) C hb (hml.trans hl.1.symm) hP hS (k_X0_hasLevel l g S 2 q) wm_121 wm_122 wm_123 wm_12 (n := 2) (by decide +kernel) rfl ⟨rfl, rfl, Nat.le_of_ble_eq_true rfl, Nat.le_of_ble_eq_true rfl⟩ (Nat.le_of_ble_eq_true rfl) rfl ⟨Nat.zero_le _, Nat.zero_le _⟩ dX0_add_18) ?_
      refine bz_ne (tgt := 34) C hb dX0_add_21 (by decide) (fun c73 => ?_) (fun c73 => ?_)
      · refine lv_iload C.1 hb dX0_add_34 (lv_at hl 4 rfl) ?_
        refine lv_iconst (v := 1) C.1 hb dX0_add_36 (by decide) ?_
        refine lv_sipush (v := 1000) C.1 hb dX0_add_37 (by decide) ?_
        refine run_rd (cRunS (As := [.int ex, .int 1, .int 1000]) (rest := []) C hb (hml.trans hl.1.symm) hP hS (k_X0_isWithin l g S ex 1 1000) wm_127 wm_128 wm_129 wm_12 (n := 3) (by decide +kernel) rfl ⟨rfl, rfl, Nat.le_of_ble_eq_true rfl, Nat.le_of_ble_eq_true rfl⟩ (Nat.le_of_ble_eq_true rfl) rfl ⟨Nat.zero_le _, Nat.zero_le _⟩ dX0_add_40) ?_
        refine bz_eq (tgt := 69) C hb dX0_add_43 (by decide) (fun c74 => ?_) (fun c74 => ?_)
        · have ho : xAddOk a b q ex cl lo = false := by simp [xAddOk, c74]
          exact xthrowI C hb hl0 hlk hP hS (hl.1.trans hml.symm) het (text := "exposure, claims or loss out of range") (by decide) dX0_add_69 dX0_add_72 dX0_add_73 dX0_add_75 dX0_add_78 ⟨Nat.le_of_ble_eq_true rfl, Nat.le_of_ble_eq_true rfl, Nat.le_of_ble_eq_true rfl, Nat.le_of_ble_eq_true rfl⟩ (by unfold xE_add; rw [ho]; rfl) (by unfold xR_add; rw [ho]; rfl)
        · refine lv_iload C.1 hb dX0_add_46 (lv_at hl 5 rfl) ?_
          refine lv_iconst (v := 0) C.1 hb dX0_add_48 (by decide) ?_
          refine lv_sipush (v := 1000) C.1 hb dX0_add_49 (by decide) ?_
          refine run_rd (cRunS (As := [.int cl, .int 0, .int 1000]) (rest := []) C hb (hml.trans hl.1.symm) hP hS (k_X0_isWithin l g S cl 0 1000) wm_127 wm_128 wm_129 wm_12 (n := 3) (by decide +kernel) rfl ⟨rfl, rfl, Nat.le_of_ble_eq_true rfl, Nat.le_of_ble_eq_true rfl⟩ (Nat.le_of_ble_eq_true rfl) rfl ⟨Nat.zero_le _, Nat.zero_le _⟩ dX0_add_52) ?_
          refine bz_eq (tgt := 69) C hb dX0_add_55 (by decide) (fun c75 => ?_) (fun c75 => ?_)
          · have ho : xAddOk a b q ex cl lo = false := by simp [xAddOk, c75]
            exact xthrowI C hb hl0 hlk hP hS (hl.1.trans hml.symm) het (text := "exposure, claims or loss out of range") (by decide) dX0_add_69 dX0_add_72 dX0_add_73 dX0_add_75 dX0_add_78 ⟨Nat.le_of_ble_eq_true rfl, Nat.le_of_ble_eq_true rfl, Nat.le_of_ble_eq_true rfl, Nat.le_of_ble_eq_true rfl⟩ (by unfold xE_add; rw [ho]; rfl) (by unfold xR_add; rw [ho]; rfl)
          · refine lv_iload C.1 hb dX0_add_58 (lv_at hl 6 rfl) ?_
            refine lv_iconst (v := 0) C.1 hb dX0_add_60 (by decide) ?_
            refine lv_ldc (v := 1000000) C.1 hb C.2.1 (C.2.2.1 _ wm_120) dX0_add_61 ?_
            refine run_rd (cRunS (As := [.int lo, .int 0, .int 1000000]) (rest := []) C hb (hml.trans hl.1.symm) hP hS (k_X0_isWithin l g S lo 0 1000000) wm_127 wm_128 wm_129 wm_12 (n := 3) (by decide +kernel) rfl ⟨rfl, rfl, Nat.le_of_ble_eq_true rfl, Nat.le_of_ble_eq_true rfl⟩ (Nat.le_of_ble_eq_true rfl) rfl ⟨Nat.zero_le _, Nat.zero_le _⟩ dX0_add_63) ?_
            refine bz_ne (tgt := 79) C hb dX0_add_66 (by decide) (fun c76 => ?_) (fun c76 => ?_)
            · have ho : xAddOk a b q ex cl lo = true := by simp [xAddOk, c71, c72, c73, c74, c75, c76]
              refine lv_aload_n C.1 hb dX0_add_79 rfl (lv_at hl 0 rfl) ?_
              refine gX_addedRows C hb hP dX0_add_80 ?_
              refine toI hI.2.1 ?_
              refine lv_bipush (v := 40) C.1 hb dX0_add_83 (by decide) ?_
              refine lv_icmp_lt (tgt := 98) C.1 hb dX0_add_85 (by decide) (fun c77 => ?_) (fun c77 => ?_)
              · have hlt : n < 40 := (nI_ltI (a := n) (b := 40) (by have := hI.1; omega) (by decide)).mp c77
                have hd : xSc S 0 < 40 := by rw [hI.2.1]; exact c77
                refine lv_aload_n C.1 hb dX0_add_98 rfl (lv_at hl 0 rfl) ?_
                refine gX_addedRows C hb hP dX0_add_99 ?_
                refine toI hI.2.1 ?_
                refine lv_istore (lv' := [(7, .int (nI n)), (0, .ref (gA g 0)), (1, .int a), (2, .int b), (3, .int q), (4, .int ex), (5, .int cl), (6, .int lo)]) C.1 hb dX0_add_102 hl (by decide) rfl (fun ls hl => ?_)
                refine lv_aload_n C.1 hb dX0_add_104 rfl (lv_at hl 1 rfl) ?_
                refine gX_rowLevels C hb hP dX0_add_105 ?_
                refine lv_iconst (v := 0) C.1 hb dX0_add_108 (by decide) ?_
                refine al_lev (t := 0) C hb hP (by decide) (by decide) dX0_add_109 ?_
                refine lv_iload C.1 hb dX0_add_110 (lv_at hl 0 rfl) ?_
                refine lv_iload_n C.1 hb dX0_add_112 rfl (lv_at hl 2 rfl) ?_
                refine stX_lev (t := 0) (j := n) C hb hP hS (by decide) rfl (by omega) dX0_add_113 (fun H locs hP hS => ?_)
                have hP : HW g (xAd1 S n a) H := hP
                refine lv_aload_n C.1 hb dX0_add_114 rfl (lv_at hl 1 rfl) ?_
                refine gX_rowLevels C hb hP dX0_add_115 ?_
                refine lv_iconst (v := 1) C.1 hb dX0_add_118 (by decide) ?_
                refine al_lev (t := 1) C hb hP (by decide) (by decide) dX0_add_119 ?_
                refine lv_iload C.1 hb dX0_add_120 (lv_at hl 0 rfl) ?_
                refine lv_iload_n C.1 hb dX0_add_122 rfl (lv_at hl 3 rfl) ?_
                refine stX_lev (t := 1) (j := n) C hb hP hS (by decide) rfl (by omega) dX0_add_123 (fun H locs hP hS => ?_)
                have hP : HW g (xAd2 S n a b) H := hP
                refine lv_aload_n C.1 hb dX0_add_124 rfl (lv_at hl 1 rfl) ?_
                refine gX_rowLevels C hb hP dX0_add_125 ?_
                refine lv_iconst (v := 2) C.1 hb dX0_add_128 (by decide) ?_
                refine al_lev (t := 2) C hb hP (by decide) (by decide) dX0_add_129 ?_
                refine lv_iload C.1 hb dX0_add_130 (lv_at hl 0 rfl) ?_
                refine lv_iload_n C.1 hb dX0_add_132 rfl (lv_at hl 4 rfl) ?_
                refine stX_lev (t := 2) (j := n) C hb hP hS (by decide) rfl (by omega) dX0_add_133 (fun H locs hP hS => ?_)
                have hP : HW g (xAd3 S n a b q) H := hP
                refine lv_aload_n C.1 hb dX0_add_134 rfl (lv_at hl 1 rfl) ?_
                refine gX_exposures C hb hP dX0_add_135 ?_
                refine lv_iload C.1 hb dX0_add_138 (lv_at hl 0 rfl) ?_
                refine lv_iload C.1 hb dX0_add_140 (lv_at hl 5 rfl) ?_
                refine lv_i2l C.1 hb dX0_add_142 rfl ?_
                refine stX_exposures (j := n) C hb hP hS rfl (by omega) dX0_add_143 (fun H locs hP hS => ?_)
                have hP : HW g (xAd4 S n a b q ex) H := hP
                refine lv_aload_n C.1 hb dX0_add_144 rfl (lv_at hl 1 rfl) ?_
                refine gX_claims C hb hP dX0_add_145 ?_
                refine lv_iload C.1 hb dX0_add_148 (lv_at hl 0 rfl) ?_
                refine lv_iload C.1 hb dX0_add_150 (lv_at hl 6 rfl) ?_
                refine lv_i2l C.1 hb dX0_add_152 rfl ?_
                refine stX_claims (j := n) C hb hP hS rfl (by omega) dX0_add_153 (fun H locs hP hS => ?_)
                have hP : HW g (xAd5 S n a b q ex cl) H := hP
                refine lv_aload_n C.1 hb dX0_add_154 rfl (lv_at hl 1 rfl) ?_
                refine gX_losses C hb hP dX0_add_155 ?_
                refine lv_iload C.1 hb dX0_add_158 (lv_at hl 0 rfl) ?_
                refine lv_iload C.1 hb dX0_add_160 (lv_at hl 7 rfl) ?_
                refine lv_i2l C.1 hb dX0_add_162 rfl ?_
                refine stX_losses (j := n) C hb hP hS rfl (by omega) dX0_add_163 (fun H locs hP hS => ?_)
                have hP : HW g (xAd6 S n a b q ex cl lo) H := hP
                refine lv_aload_n C.1 hb dX0_add_164 rfl (lv_at hl 1 rfl) ?_
                refine gX_oldPremiums C hb hP dX0_add_165 ?_
                refine lv_iload C.1 hb dX0_add_168 (lv_at hl 0 rfl) ?_
                refine lv_iconst (v := (-1)) C.1 hb dX0_add_170 (by decide) ?_
                refine stX_oldPremiums (j := n) C hb hP hS rfl (by omega) dX0_add_171 (fun H locs hP hS => ?_)
                have hP : HW g (xAd7 S n a b q ex cl lo) H := hP
                refine lv_aload_n C.1 hb dX0_add_172 rfl (lv_at hl 1 rfl) ?_
                refine gX_live C hb hP dX0_add_173 ?_
                refine lv_iload C.1 hb dX0_add_176 (lv_at hl 0 rfl) ?_
                refine lv_iconst (v := 1) C.1 hb dX0_add_178 (by decide) ?_
                refine stX_live (j := n) C hb hP hS rfl (by omega) (by decide) dX0_add_179 (fun H locs hP hS => ?_)
                have hP : HW g (xAd8 S n a b q ex cl lo) H := hP
                refine lv_aload_n C.1 hb dX0_add_180 rfl (lv_at hl 1 rfl) ?_
                refine lv_dup C.1 hb dX0_add_181 rfl ?_
                refine gX_addedRows C hb hP dX0_add_182 ?_
                refine lv_iconst (v := 1) C.1 hb dX0_add_185 (by decide) ?_
                refine lv_iadd C.1 hb dX0_add_186 ?_
                refine toI (show xSc (xAd8 S n a b q ex cl lo) 0 + 1 = nI (n + 1) by rw [show xSc (xAd8 S n a b q ex cl lo) 0 = nI n from hI.2.1]; exact nI_1 n) ?_
                refine pX_addedRows C hb hP hS dX0_add_187 (fun H locs hP hS => ?_)
                have hP : HW g (xAd9 S n a b q ex cl lo) H := hP
                refine lv_aload_n C.1 hb dX0_add_190 rfl (lv_at hl 1 rfl) ?_
                refine lv_dup C.1 hb dX0_add_191 rfl ?_
                refine gX_liveRows C hb hP dX0_add_192 ?_
                refine lv_iconst (v := 1) C.1 hb dX0_add_195 (by decide) ?_
                refine lv_iadd C.1 hb dX0_add_196 ?_
                refine pX_liveRows C hb hP hS dX0_add_197 (fun H locs hP hS => ?_)
                have hP : HW g (xAd S n a b q ex cl lo) H := hP
                refine lv_aload_n C.1 hb dX0_add_200 rfl (lv_at hl 1 rfl) ?_
                refine run_wr (cRunX (As := []) (rest := []) C hb (hml.trans hl.1.symm) hP hS rfl (k_X0_refit l g (xAd S n a b q ex cl lo) (n + 1) (xAd_XI hI hlt ho)) wm_85 wm_86 wm_87 wm_88 wm_12 (n := 0) (by decide +kernel) rfl ⟨rfl, rfl, Nat.le_of_ble_eq_true rfl, Nat.le_of_ble_eq_true rfl⟩ (Nat.le_of_ble_eq_true rfl) rfl ⟨Nat.zero_le _, Nat.zero_le _⟩ dX0_add_201) hS (fun H locs hP hS => ?_)
                refine lv_iload C.1 hb dX0_add_204 (lv_at hl 0 rfl) ?_
                exact txI C hb hret hlk hP hS dX0_add_206 rfl (by unfold xR_add; rw [ho, if_pos rfl, if_pos hd]) (by unfold xE_add; rw [ho, if_pos rfl, if_pos hd])
              · have hd : ¬ xSc S 0 < 40 := by rw [hI.2.1]; exact c77
                exact xthrowS C hb hl0 hlk hP hS (hl.1.trans hml.symm) het (text := "no room for another row") (by decide) dX0_add_88 dX0_add_91 dX0_add_92 dX0_add_94 dX0_add_97 ⟨Nat.le_of_ble_eq_true rfl, Nat.le_of_ble_eq_true rfl, Nat.le_of_ble_eq_true rfl, Nat.le_of_ble_eq_true rfl⟩ (by unfold xE_add; rw [ho, if_pos rfl, if_neg hd]) (by unfold xR_add; rw [ho, if_pos rfl, if_neg hd])
            · have ho : xAddOk a b q ex cl lo = false := by simp [xAddOk, c76]
              exact xthrowI C hb hl0 hlk hP hS (hl.1.trans hml.symm) het (text := "exposure, claims or loss out of range") (by decide) dX0_add_69 dX0_add_72 dX0_add_73 dX0_add_75 dX0_add_78 ⟨Nat.le_of_ble_eq_true rfl, Nat.le_of_ble_eq_true rfl, Nat.le_of_ble_eq_true rfl, Nat.le_of_ble_eq_true rfl⟩ (by unfold xE_add; rw [ho]; rfl) (by unfold xR_add; rw [ho]; rfl)
      · have ho : xAddOk a b q ex cl lo = false := by simp [xAddOk, c73]
        exact xthrowI C hb hl0 hlk hP hS (hl.1.trans hml.symm) het (text := "no such level") (by decide) dX0_add_24 dX0_add_27 dX0_add_28 dX0_add_30 dX0_add_33 ⟨Nat.le_of_ble_eq_true rfl, Nat.le_of_ble_eq_true rfl, Nat.le_of_ble_eq_true rfl, Nat.le_of_ble_eq_true rfl⟩ (by unfold xE_add; rw [ho]; rfl) (by unfold xR_add; rw [ho]; rfl)
end
section
/-! smoothing: groups of levels, each told by its first level -/
def JI (J F : Nat → Int32) (L : Nat) : Prop := ∀ k : Nat, k < L → J k = nI k ∨ (0 < k ∧ J k = J (k - 1) ∧ F k = F (k - 1))
theorem JI_st {J F : Nat → Int32} {L : Nat} (h : JI J F L) : ∀ k : Nat, k < L → ∃ s : Nat, s ≤ k ∧ J k = nI s ∧ J s = nI s
  | 0, hk => by
    rcases h 0 hk with e | e
    · exact ⟨0, Nat.le_refl 0, e, e⟩
    · exact absurd e.1 (Nat.lt_irrefl 0)
  | k + 1, hk => by
    rcases h (k + 1) hk with e | ⟨-, e, -⟩
    · exact ⟨k + 1, Nat.le_refl _, e, e⟩
    · obtain ⟨s, h1, h2, h3⟩ := JI_st h k (by omega)
      exact ⟨s, by omega, e.trans h2, h3⟩
theorem JI_fall {J F : Nat → Int32} {L k : Nat} (h : JI J F L) (hk : k < L) (hf : ¬ F (k - 1) ≤ F k) : J k = nI k := by
  rcases h k hk with e | ⟨-, -, e2⟩
  · exact e
  · exact absurd (by rw [e2]; exact Int32.le_refl _) hf
theorem JI_new {J F J' F' : Nat → Int32} {L fl s : Nat} {v : Int32} (hL : L ≤ 40) (h : JI J F L) (h0 : 0 < fl) (h1 : fl < L) (hfl : J fl = nI fl) (hs : J (fl - 1) = nI s) (hss : s < fl)
    (hJ : ∀ k, k < L → J' k = if J k = nI s ∨ J k = nI fl then nI s else J k) (hF : ∀ k, k < L → F' k = if J k = nI s ∨ J k = nI fl then v else F k) : JI J' F' L := by
  intro k hk
  rcases h k hk with e | ⟨e0, e1, e2⟩
  · by_cases hks : k = s
    · left
      rw [hJ k hk, if_pos (Or.inl (by rw [e, hks])), hks]
    · by_cases hkf : k = fl
      · right
        subst hkf
        refine ⟨h0, ?_, ?_⟩
        · rw [hJ k hk, hJ (k - 1) (by omega), if_pos (Or.inr hfl), if_pos (Or.inl hs)]
        · rw [hF k hk, hF (k - 1) (by omega), if_pos (Or.inr hfl), if_pos (Or.inl hs)]
      · left
        rw [hJ k hk, if_neg, e]
        rintro (q | q)
        · rw [e] at q
          exact hks ((nI_eq (by omega) (by omega)).mp q)
        · rw [e] at q
          exact hkf ((nI_eq (by omega) (by omega)).mp q)
  · right
    refine ⟨e0, ?_, ?_⟩
    · rw [hJ k hk, hJ (k - 1) (by omega), e1]
    · rw [hF k hk, hF (k - 1) (by omega), e1, e2]
theorem xCnt_le2 {p q : Nat → Bool} : ∀ L : Nat, (∀ k, k < L → p k = true → q k = true) → xCnt p L ≤ xCnt q L
  | 0, _ => Nat.le_refl 0
  | k + 1, h => by
    have ih := xCnt_le2 k (fun i hi => h i (by omega))
    have hk := h k (by omega)
    cases hp : p k
    · rw [xCnt_f hp]
      cases hq : q k
      · rw [xCnt_f hq]; exact ih
      · rw [xCnt_t hq]; omega
    · rw [xCnt_t hp, xCnt_t (hk hp)]; omega
theorem xCnt_lt2 {p q : Nat → Bool} : ∀ L : Nat, (∀ k, k < L → p k = true → q k = true) → ∀ f, f < L → p f = false → q f = true → xCnt p L < xCnt q L
  | 0, _, f, hf, _, _ => absurd hf (Nat.not_lt_zero f)
  | k + 1, h, f, hf, h1, h2 => by
    by_cases e : f = k
    · subst e
      have ih := xCnt_le2 f (fun i hi => h i (by omega))
      rw [xCnt_f h1, xCnt_t h2]
      omega
    · have ih := xCnt_lt2 k (fun i hi => h i (by omega)) f (by omega) h1 h2
      have hk := h k (by omega)
      cases hp : p k
      · rw [xCnt_f hp]
        cases hq : q k
        · rw [xCnt_f hq]; exact ih
        · rw [xCnt_t hq]; omega
      · rw [xCnt_t hp, xCnt_t (hk hp)]; omega
theorem xCnt_pos {p : Nat → Bool} (h : p 0 = true) : ∀ L : Nat, 0 < L → 0 < xCnt p L
  | 0, h => absurd h (Nat.lt_irrefl 0)
  | 1, _ => by rw [xCnt_t h]; omega
  | k + 2, _ => by
    have ih := xCnt_pos h (k + 1) (by omega)
    cases hp : p (k + 1)
    · rw [xCnt_f hp]; exact ih
    · rw [xCnt_t hp]; omega
theorem xCnt_some {p : Nat → Bool} : ∀ (L f : Nat), f < L → p f = true → 0 < xCnt p L
  | 0, f, h, _ => absurd h (Nat.not_lt_zero f)
  | k + 1, f, h, hp => by
    by_cases e : f = k
    · subst e; rw [xCnt_t hp]; omega
    · have ih := xCnt_some k f (by omega) hp
      cases hq : p k
      · rw [xCnt_f hq]; exact ih
      · rw [xCnt_t hq]; omega
def jCnt (J : Nat → Int32) (L : Nat) : Nat := xCnt (fun k => decide (J k = nI k)) L
theorem jCnt_new {J J' F : Nat → Int32} {L fl s : Nat} (hL : L ≤ 40) (h : JI J F L) (h1 : fl < L) (hfl : J fl = nI fl) (hs : J (fl - 1) = nI s) (hs2 : J s = nI s) (hss : s < fl)
    (hJ : ∀ k, k < L → J' k = if J k = nI s ∨ J k = nI fl then nI s else J k) : jCnt J' L < jCnt J L := by
  refine xCnt_lt2 L (fun k hk q => ?_) fl h1 ?_ (decide_eq_true hfl)
  · have q2 := of_decide_eq_true q
    rw [hJ k hk] at q2
    by_cases c : J k = nI s ∨ J k = nI fl
    · rw [if_pos c] at q2
      have e : s = k := (nI_eq (by omega) (by omega)).mp q2
      exact decide_eq_true (by rw [← e]; exact hs2)
    · rw [if_neg c] at q2
      exact decide_eq_true q2
  · refine decide_eq_false (fun q => ?_)
    rw [hJ fl h1, if_pos (Or.inr hfl)] at q
    have e : s = fl := (nI_eq (by omega) (by omega)).mp q
    omega
theorem JI_0 {J F : Nat → Int32} {L : Nat} (h : JI J F L) (hL : 0 < L) : J 0 = nI 0 := by
  rcases h 0 hL with e | e
  · exact e
  · exact absurd e.1 (Nat.lt_irrefl 0)
theorem jCnt_pos {J F : Nat → Int32} {L : Nat} (h : JI J F L) (hL : 0 < L) : 0 < jCnt J L := xCnt_pos (decide_eq_true (JI_0 h hL)) L hL
theorem JI_init (G F : Nat → Int32) (L : Nat) : JI (fil nI G L) F L := fun _ hk => Or.inl (fil_lo hk)
theorem xLowF_cases (F : Nat → Int32) : ∀ d i : Nat, xLowF F d i = -1 ∨ ∃ k : Nat, i ≤ k ∧ k < i + d ∧ xLowF F d i = nI k ∧ ¬ F (k - 1) ≤ F k
  | 0, _ => Or.inl rfl
  | d + 1, i => by
    by_cases c : F (i - 1) ≤ F i
    · have e : xLowF F (d + 1) i = xLowF F d (i + 1) := if_pos c
      rw [e]
      rcases xLowF_cases F d (i + 1) with h | ⟨k, h1, h2, h3⟩
      · exact Or.inl h
      · exact Or.inr ⟨k, by omega, by omega, h3⟩
    · exact Or.inr ⟨i, Nat.le_refl i, by omega, if_neg c, c⟩
theorem nI_ne_m1 {k : Nat} (h : k < 2 ^ 31) : ¬ nI k = -1 := fun q => by
  have := nI_pos h
  rw [q] at this
  exact this (by decide)
/-- the class's -/
theorem xLow_cases {S : WS} {t : Nat} (h : ¬ xLow S t = -1) : xLow S t = nI (tN (xLow S t)) ∧ 1 ≤ tN (xLow S t) ∧ tN (xLow S t) < levN t ∧ ¬ xFac S t (tN (xLow S t) - 1) ≤ xFac S t (tN (xLow S t)) := by
  have h3 := levN_3 t
  have h4 := levN_4 t
  rcases xLowF_cases (xFac S t) (levN t - 1) 1 with e | ⟨k, h1, h2, e, h5⟩
  · exact absurd e h
  · have e2 : xLow S t = nI k := e
    rw [e2, tN_nI (by omega)]
    exact ⟨rfl, h1, by omega, h5⟩
def xJst (S : WS) (t : Nat) : Nat := tN (xIa S 2 (tN (xLow S t) - 1))
def xSmF (n t : Nat) : Nat → WS → WS
  | 0, S => S
  | d + 1, S => if xLow S t = -1 then S else xSmF n t d (xJoin S n t (tN (xLow S t)) (xJst S t))
def xJI (S : WS) (t : Nat) : Prop := JI (xIa S 2) (xFac S t) (levN t)
theorem xJst_ok {S : WS} {t : Nat} (h : xJI S t) (hl : ¬ xLow S t = -1) : xIa S 2 (tN (xLow S t) - 1) = nI (xJst S t) ∧ xJst S t < tN (xLow S t) ∧ xIa S 2 (xJst S t) = nI (xJst S t) := by
  obtain ⟨h1, h2, h3, h4⟩ := xLow_cases hl
  have q4 := levN_4 t
  obtain ⟨s, e1, e2, e3⟩ := JI_st h (tN (xLow S t) - 1) (by omega)
  have e : xJst S t = s := by
    unfold xJst
    rw [e2, tN_nI (by omega)]
  rw [e]
  exact ⟨e2, by omega, e3⟩
theorem xJoin_J {S : WS} {n t fl st k : Nat} (h : xJI S t) (hfl : fl < levN t) (hk : k < levN t) : xIa (xJoin S n t fl st) 2 k = if xIa S 2 k = nI st ∨ xIa S 2 k = nI fl then nI st else xIa S 2 k := by
  have q4 := levN_4 t
  have e : xIa (xJoin S n t fl st) 2 k = xJoinG S t fl st (levN t) k := congrFun (ia_at S 2 (xJoinG S t fl st (levN t))) k
  rw [e]
  unfold xJoinG
  obtain ⟨s, e1, e2, -⟩ := JI_st h k hk
  by_cases c : xIa S 2 k = nI fl
  · have hs : s = fl := (nI_eq (by omega) (by omega)).mp (e2.symm.trans c)
    rw [if_pos ⟨by omega, hk, c⟩, if_pos (Or.inr c)]
  · rw [if_neg (fun q => c q.2.2)]
    by_cases c2 : xIa S 2 k = nI st
    · rw [if_pos (Or.inl c2), c2]
    · rw [if_neg (fun q => q.elim c2 c)]
theorem xJoin_F {S : WS} {n t fl st k : Nat} (h : xJI S t) (hfl : fl < levN t) (hst : st < fl) (hk : k < levN t) : xFac (xJoin S n t fl st) t k = if xIa S 2 k = nI st ∨ xIa S 2 k = nI fl then xMean (xJoin1 S t fl st) n t st else xFac S t k := by
  have q4 := levN_4 t
  have e : xFac (xJoin S n t fl st) t k = xJoinF (xJoin1 S t fl st) t st (xMean (xJoin1 S t fl st) n t st) (levN t) k := congrFun (fac_at (xJoin1 S t fl st) t _) k
  have e5 : xIa (xJoin1 S t fl st) 2 k = if xIa S 2 k = nI st ∨ xIa S 2 k = nI fl then nI st else xIa S 2 k := xJoin_J (n := n) h hfl hk
  rw [e]
  unfold xJoinF
  obtain ⟨s, e1, e2, -⟩ := JI_st h k hk
  by_cases c : xIa S 2 k = nI st ∨ xIa S 2 k = nI fl
  · rw [if_pos c] at e5
    have hsk : st ≤ k := by
      rcases c with c | c
      · have hs : s = st := (nI_eq (by omega) (by omega)).mp (e2.symm.trans c)
        omega
      · have hs : s = fl := (nI_eq (by omega) (by omega)).mp (e2.symm.trans c)
        omega
    rw [if_pos ⟨hsk, hk, e5⟩, if_pos c]
  · rw [if_neg c] at e5
    rw [if_neg (fun q => c (Or.inl (e5.symm.trans q.2.2))), if_neg c]
    rfl
theorem xJI_join {S : WS} {n t : Nat} (h : xJI S t) (hl : ¬ xLow S t = -1) : xJI (xJoin S n t (tN (xLow S t)) (xJst S t)) t := by
  obtain ⟨h1, h2, h3, h4⟩ := xLow_cases hl
  obtain ⟨g1, g2, g3⟩ := xJst_ok h hl
  have q4 := levN_4 t
  exact JI_new (by omega) h (by omega) h3 (JI_fall h h3 h4) g1 g2 (fun k hk => xJoin_J h h3 hk) (fun k hk => xJoin_F h h3 g2 hk)
theorem xJc_join {S : WS} {n t : Nat} (h : xJI S t) (hl : ¬ xLow S t = -1) : jCnt (xIa (xJoin S n t (tN (xLow S t)) (xJst S t)) 2) (levN t) < jCnt (xIa S 2) (levN t) := by
  obtain ⟨h1, h2, h3, h4⟩ := xLow_cases hl
  obtain ⟨g1, g2, g3⟩ := xJst_ok h hl
  have q4 := levN_4 t
  exact jCnt_new (by omega) h h3 (JI_fall h h3 h4) g1 g3 g2 (fun k hk => xJoin_J h h3 hk)
theorem XI_join {n : Nat} {S : WS} (t fl st : Nat) (h : XI n S) : XI n (xJoin S n t fl st) := h
theorem ia_32 (S : WS) (A B A' B' : Nat → Int32) : xsIa (xsIa (xsIa (xsIa S 3 A) 2 B) 3 A') 2 B' = xsIa (xsIa S 3 A') 2 B' := by
  have h : va_up (va_up (va_up (va_up S.1.2.2.2.1 3 A) 2 B) 3 A') 2 B' = va_up (va_up S.1.2.2.2.1 3 A') 2 B' := by
    funext j
    unfold va_up
    by_cases h2 : j = 2
    · rw [if_pos h2, if_pos h2]
    · rw [if_neg h2, if_neg h2]
      by_cases h3 : j = 3
      · rw [if_pos h3, if_pos h3, if_neg h2]
      · rw [if_neg h3, if_neg h2, if_neg h3, if_neg h3]
  show ((_, _, _, va_up (va_up (va_up (va_up S.1.2.2.2.1 3 A) 2 B) 3 A') 2 B', _), _) = _
  rw [h]
def xSm0 (S : WS) (t i : Nat) : WS := xsIa (xsIa S 3 (fil (xFac S t) (xIa S 3) i)) 2 (fil nI (xIa S 2) i)
theorem xSm0_0 (S : WS) (t : Nat) : xSm0 S t 0 = S := by
  unfold xSm0
  rw [fil_0, fil_0, ia_self]
  exact ia_self S 2
theorem xSm0_s (S : WS) (t i : Nat) : xsIa (xsIa (xSm0 S t i) 3 (upd (xIa (xSm0 S t i) 3) i (xFac S t i))) 2 (upd (xIa (xsIa (xSm0 S t i) 3 (upd (xIa (xSm0 S t i) 3) i (xFac S t i))) 2) i (nI i)) = xSm0 S t (i + 1) := by
  have e1 : xIa (xSm0 S t i) 3 = fil (xFac S t) (xIa S 3) i := ia_at S 3 _
  have e2 : xIa (xsIa (xSm0 S t i) 3 (upd (fil (xFac S t) (xIa S 3) i) i (xFac S t i))) 2 = fil nI (xIa S 2) i := ia_at (xsIa S 3 (fil (xFac S t) (xIa S 3) i)) 2 (fil nI (xIa S 2) i)
  rw [e1, e2, fil_sI, fil_sI]
  exact ia_32 S _ _ _ _
theorem xJI_0 (S : WS) (t : Nat) : xJI (xSm0 S t (levN t)) t := by
  unfold xJI
  have e : xIa (xSm0 S t (levN t)) 2 = fil nI (xIa S 2) (levN t) := ia_at _ 2 _
  rw [e]
  exact JI_init _ _ _
theorem XI_sm0 {n : Nat} {S : WS} (t i : Nat) (h : XI n S) : XI n (xSm0 S t i) := h
def xSmS (S : WS) (n t : Nat) : WS := xRefit (xSmF n t (levN t) (xSm0 S t (levN t))) n
def xR_smooth (S : WS) (n : Nat) (t : Int32) : WS := if xHasTrait t then xSmS S n (tN t) else S
def xV_smooth (S : WS) (n : Nat) (t : Nat) : Nat := xCnt (xChP (xSmS S n t) t) (levN t)
end
section
set_option maxRecDepth 100000 in
set_option maxHeartbeats 4000000 in
theorem k_X0_smooth (l : Launch) (hl0 : l.stackTraces = false) (g : gG) (S : WS) (n : Nat) (hI : XI n S) (t : Int32) : vx_Met l yX0_smooth (wA yX0_smooth cX0_smooth 4 (some .int)) ({ frames := 6, cells := 1, slots := 6, locals := 250 }) (PW g S [.ref (gA g 0), .int t]) (TQ g (xR_smooth S n t) (xE_trait t) (some (.int (nI (xV_smooth S n (tN t)))))) (TX g (xR_smooth S n t) (xE_trait t)) 1 6 (Ab g) := by
  refine metX (by decide +kernel) (Nat.le_of_ble_eq_true rfl) ?_
  intro p e s m below meth c C hb hml hret hlk hP het ls hl
  have C : CW g RX0 p s m ([.ref (gA g 0), .int t] : List Value).toArray := C
  have hS : va_S (Ab g) s.heap s.heap [] := va_S.rf
  have hl : lv_has ls 4 [(0, .ref (gA g 0)), (1, .int t)] := hl
  refine lv_iload_n C.1 hb dX0_smooth_0 rfl (lv_at hl 1 rfl) ?_
  refine run_rd (cRunS (As := [.int t]) (rest := []) C hb (hml.trans hl.1.symm) hP hS (k_X0_hasTrait l g S t) wm_124 wm_125 wm_126 wm_12 (n := 1) (by decide +kernel) rfl ⟨rfl, rfl, Nat.le_of_ble_eq_true rfl, Nat.le_of_ble_eq_true rfl⟩ (Nat.le_of_ble_eq_true rfl) rfl ⟨Nat.zero_le _, Nat.zero_le _⟩ dX0_smooth_1) ?_
  refine bz_ne (tgt := 17) C hb dX0_smooth_4 (by decide) (fun c78 => ?_) (fun c78 => ?_)
  · have hx := xHasTrait_ix c78
    have ht1 := hx.1
    have ht2 := hx.2
    have h4 := levN_4 (tN t)
    have h3 := levN_3 (tN t)
    refine lv_iconst (v := 0) C.1 hb dX0_smooth_17 (by decide) ?_
    refine lv_istore_n (lv' := [(2, .int 0), (0, .ref (gA g 0)), (1, .int t)]) C.1 hb dX0_smooth_18 rfl hl (by decide) rfl (fun ls hl => ?_)
    have key : ∀ f i : Nat, levN (tN t) - i < f → i ≤ levN (tN t) → ∀ (H : Heap) (locs : List Loc), HW g (xSm0 S (tN t) i) H → va_S (Ab g) s.heap H locs → ∀ ls : Array Slot, lv_has ls 4 [(0, .ref (gA g 0)), (1, .int t), (2, .int (nI i))] → W p l e ({ frames := 6, cells := 1, slots := 6, locals := 250 }) s m ([.ref (gA g 0), .int t] : List Value).toArray below meth c H locs 0 0 (vx_MQ below (TQ g (xR_smooth S n t) (xE_trait t) (some (.int (nI (xV_smooth S n (tN t)))))) (TX g (xR_smooth S n t) (xE_trait t)) ([.ref (gA g 0), .int t] : List Value).toArray s 1 6 (Ab g)) (F0 m 19 ls []) := by
      intro f
      induction f with
      | zero => intro i h; exact absurd h (Nat.not_lt_zero _)
      | succ f ih =>
        intro i hfi hi  H locs hP hS ls hl
        refine lv_iload_n C.1 hb dX0_smooth_19 rfl (lv_at hl 2 rfl) ?_
        refine gX_LEVELS C hb hS dX0_smooth_20 ?_
        refine lv_iload_n C.1 hb dX0_smooth_23 rfl (lv_at hl 1 rfl) ?_
        refine toI ht1 ?_
        refine ldX_LEVELS (j := (tN t)) C hb hS rfl ht2 dX0_smooth_24 ?_
        refine lv_icmp_ge (tgt := 55) C.1 hb dX0_smooth_25 (by decide) (fun c79 => ?_) (fun c79 => ?_)
        · have hin : i = levN (tN t) := by have := le_nI (a := levN (tN t)) (b := i) (by omega) (by omega) c79; omega
          rw [hin] at hl hP
          refine lv_iconst (v := 0) C.1 hb dX0_smooth_55 (by decide) ?_
          refine lv_istore_n (lv' := [(2, .int 0), (0, .ref (gA g 0)), (1, .int t)]) C.1 hb dX0_smooth_56 rfl hl (by decide) rfl (fun ls hl => ?_)
          have key2 : ∀ (f i : Nat) (S2 : WS), i + f = levN (tN t) → XI n S2 → xJI S2 (tN t) → xSmF n (tN t) f S2 = xSmF n (tN t) (levN (tN t)) (xSm0 S (tN t) (levN (tN t))) → ∀ (H : Heap) (locs : List Loc), HW g S2 H → va_S (Ab g) s.heap H locs → ∀ ls : Array Slot, lv_has ls 4 [(0, .ref (gA g 0)), (1, .int t), (2, .int (nI i))] → W p l e ({ frames := 6, cells := 1, slots := 6, locals := 250 }) s m ([.ref (gA g 0), .int t] : List Value).toArray below meth c H locs 0 0 (vx_MQ below (TQ g (xR_smooth S n t) (xE_trait t) (some (.int (nI (xV_smooth S n (tN t)))))) (TX g (xR_smooth S n t) (xE_trait t)) ([.ref (gA g 0), .int t] : List Value).toArray s 1 6 (Ab g)) (F0 m 57 ls []) := by
            intro f
            induction f with
            | zero =>
              intro i S2 hi2 hI2 hJ2 he H locs hP hS ls hl
              refine lv_iload_n C.1 hb dX0_smooth_57 rfl (lv_at hl 2 rfl) ?_
              refine gX_LEVELS C hb hS dX0_smooth_58 ?_
              refine lv_iload_n C.1 hb dX0_smooth_61 rfl (lv_at hl 1 rfl) ?_
              refine toI ht1 ?_
              refine ldX_LEVELS (j := (tN t)) C hb hS rfl ht2 dX0_smooth_62 ?_
              refine lv_icmp_ge (tgt := 92) C.1 hb dX0_smooth_63 (by decide) (fun c80 => ?_) (fun c80 => ?_)
              · have he2 : S2 = xSmF n (tN t) (levN (tN t)) (xSm0 S (tN t) (levN (tN t))) := he
                have hIE : XI n (xSmF n (tN t) (levN (tN t)) (xSm0 S (tN t) (levN (tN t)))) := by rw [← he2]; exact hI2
                rw [he2] at hP
                refine lv_aload_n C.1 hb dX0_smooth_92 rfl (lv_at hl 0 rfl) ?_
                refine run_wr (cRunX (As := []) (rest := []) C hb (hml.trans hl.1.symm) hP hS rfl (k_X0_refit l g (xSmF n (tN t) (levN (tN t)) (xSm0 S (tN t) (levN (tN t)))) n hIE) wm_85 wm_86 wm_87 wm_88 wm_12 (n := 0) (by decide +kernel) rfl ⟨rfl, rfl, Nat.le_of_ble_eq_true rfl, Nat.le_of_ble_eq_true rfl⟩ (Nat.le_of_ble_eq_true rfl) rfl ⟨Nat.zero_le _, Nat.zero_le _⟩ dX0_smooth_93) hS (fun H locs hP hS => ?_)
                have hP : HW g (xSmS S n (tN t)) H := hP
                refine lv_aload_n C.1 hb dX0_smooth_96 rfl (lv_at hl 0 rfl) ?_
                refine lv_iload_n C.1 hb dX0_smooth_97 rfl (lv_at hl 1 rfl) ?_
                refine toI ht1 ?_
                refine run_rd (cRunX (As := [.int (nI (tN t))]) (rest := []) C hb (hml.trans hl.1.symm) hP hS rfl (k_X0_changedSinceBefore l g (xSmS S n (tN t)) (tN t) ht2) wm_217 wm_218 wm_219 wm_220 wm_12 (n := 1) (by decide +kernel) rfl ⟨rfl, rfl, Nat.le_of_ble_eq_true rfl, Nat.le_of_ble_eq_true rfl⟩ (Nat.le_of_ble_eq_true rfl) rfl ⟨Nat.zero_le _, Nat.zero_le _⟩ dX0_smooth_98) ?_
                exact txI C hb hret hlk hP hS dX0_smooth_101 rfl (by unfold xR_smooth; rw [c78]; rfl) (by unfold xE_trait; rw [c78]; rfl)
              · exact absurd ((nI_leI (a := levN (tN t)) (b := i) (by omega) (by omega)).mpr (by omega)) c80
            | succ f ih2 =>
              intro i S2 hi2 hI2 hJ2 he H locs hP hS ls hl
              refine lv_iload_n C.1 hb dX0_smooth_57 rfl (lv_at hl 2 rfl) ?_
              refine gX_LEVELS C hb hS dX0_smooth_58 ?_
              refine lv_iload_n C.1 hb dX0_smooth_61 rfl (lv_at hl 1 rfl) ?_
              refine toI ht1 ?_
              refine ldX_LEVELS (j := (tN t)) C hb hS rfl ht2 dX0_smooth_62 ?_
              refine lv_icmp_ge (tgt := 92) C.1 hb dX0_smooth_63 (by decide) (fun c81 => ?_) (fun c81 => ?_)
              · exact absurd ((nI_leI (a := levN (tN t)) (b := i) (by omega) (by omega)).mp c81) (by omega)
              · refine lv_aload_n C.1 hb dX0_smooth_66 rfl (lv_at hl 0 rfl) ?_
                refine lv_iload_n C.1 hb dX0_smooth_67 rfl (lv_at hl 1 rfl) ?_
                refine toI ht1 ?_
                refine run_rd (cRunX (As := [.int (nI (tN t))]) (rest := []) C hb (hml.trans hl.1.symm) hP hS rfl (k_X0_lowestFallingLevel l g S2 (tN t) ht2) wm_205 wm_206 wm_207 wm_208 wm_12 (n := 1) (by decide +kernel) rfl ⟨rfl, rfl, Nat.le_of_ble_eq_true rfl, Nat.le_of_ble_eq_true rfl⟩ (Nat.le_of_ble_eq_true rfl) rfl ⟨Nat.zero_le _, Nat.zero_le _⟩ dX0_smooth_68) ?_
                refine lv_istore_n (lv' := [(3, .int (xLow S2 (tN t))), (0, .ref (gA g 0)), (1, .int t), (2, .int (nI i))]) C.1 hb dX0_smooth_71 rfl hl (by decide) rfl (fun ls hl => ?_)
                refine lv_iload_n C.1 hb dX0_smooth_72 rfl (lv_at hl 0 rfl) ?_
                refine lv_iconst (v := (-1)) C.1 hb dX0_smooth_73 (by decide) ?_
                refine lv_icmp_ne (tgt := 80) C.1 hb dX0_smooth_74 (by decide) (fun c82 => ?_) (fun c82 => ?_)
                · obtain ⟨hw1, hw2, hw3, hw4⟩ := xLow_cases c82
                  obtain ⟨hj1, hj2, hj3⟩ := xJst_ok hJ2 c82
                  refine lv_aload_n C.1 hb dX0_smooth_80 rfl (lv_at hl 1 rfl) ?_
                  refine lv_iload_n C.1 hb dX0_smooth_81 rfl (lv_at hl 2 rfl) ?_
                  refine toI ht1 ?_
                  refine lv_iload_n C.1 hb dX0_smooth_82 rfl (lv_at hl 0 rfl) ?_
                  refine toI hw1 ?_
                  refine run_wr (cRunX (As := [.int (nI (tN t)), .int (nI (tN (xLow S2 (tN t))))]) (rest := []) C hb (hml.trans hl.1.symm) hP hS rfl (k_X0_joinToLevelAhead l g S2 n hI2 (tN t) (tN (xLow S2 (tN t))) (xJst S2 (tN t)) ht2 hw2 hw3 hj1 hj2) wm_209 wm_210 wm_211 wm_212 wm_12 (n := 2) (by decide +kernel) rfl ⟨rfl, rfl, Nat.le_of_ble_eq_true rfl, Nat.le_of_ble_eq_true rfl⟩ (Nat.le_of_ble_eq_true rfl) rfl ⟨Nat.zero_le _, Nat.zero_le _⟩ dX0_smooth_83) hS (fun H locs hP hS => ?_)
                  refine lv_iinc (v := nI (i + 1)) (lv' := [(2, .int (nI (i + 1))), (3, .int (xLow S2 (tN t))), (0, .ref (gA g 0)), (1, .int t)]) C.1 hb dX0_smooth_86 hl (k := 3) rfl (nI_1 i) (by decide) rfl (fun ls hl => ?_)
                  refine lv_goto (tgt := 57) C.1 hb dX0_smooth_89 (by decide) ?_
                  exact ih2 (i + 1) _ (by omega) (XI_join (tN t) _ _ hI2) (xJI_join hJ2 c82) ((if_neg c82).symm.trans he) _ _ hP hS ls (lv_sub hl [2, 3, 0] rfl)
                · have he2 : S2 = xSmF n (tN t) (levN (tN t)) (xSm0 S (tN t) (levN (tN t))) := (if_pos c82).symm.trans he
                  have hIE : XI n (xSmF n (tN t) (levN (tN t)) (xSm0 S (tN t) (levN (tN t)))) := by rw [← he2]; exact hI2
                  rw [he2] at hP
                  refine lv_goto (tgt := 92) C.1 hb dX0_smooth_77 (by decide) ?_
                  refine lv_aload_n C.1 hb dX0_smooth_92 rfl (lv_at hl 1 rfl) ?_
                  refine run_wr (cRunX (As := []) (rest := []) C hb (hml.trans hl.1.symm) hP hS rfl (k_X0_refit l g (xSmF n (tN t) (levN (tN t)) (xSm0 S (tN t) (levN (tN t)))) n hIE) wm_85 wm_86 wm_87 wm_88 wm_12 (n := 0) (by decide +kernel) rfl ⟨rfl, rfl, Nat.le_of_ble_eq_true rfl, Nat.le_of_ble_eq_true rfl⟩ (Nat.le_of_ble_eq_true rfl) rfl ⟨Nat.zero_le _, Nat.zero_le _⟩ dX0_smooth_93) hS (fun H locs hP hS => ?_)
                  have hP : HW g (xSmS S n (tN t)) H := hP
                  refine lv_aload_n C.1 hb dX0_smooth_96 rfl (lv_at hl 1 rfl) ?_
                  refine lv_iload_n C.1 hb dX0_smooth_97 rfl (lv_at hl 2 rfl) ?_
                  refine toI ht1 ?_
                  refine run_rd (cRunX (As := [.int (nI (tN t))]) (rest := []) C hb (hml.trans hl.1.symm) hP hS rfl (k_X0_changedSinceBefore l g (xSmS S n (tN t)) (tN t) ht2) wm_217 wm_218 wm_219 wm_220 wm_12 (n := 1) (by decide +kernel) rfl ⟨rfl, rfl, Nat.le_of_ble_eq_true rfl, Nat.le_of_ble_eq_true rfl⟩ (Nat.le_of_ble_eq_true rfl) rfl ⟨Nat.zero_le _, Nat.zero_le _⟩ dX0_smooth_98) ?_
                  exact txI C hb hret hlk hP hS dX0_smooth_101 rfl (by unfold xR_smooth; rw [c78]; rfl) (by unfold xE_trait; rw [c78]; rfl)
          exact key2 (levN (tN t)) 0 (xSm0 S (tN t) (levN (tN t))) (by omega) (XI_sm0 (tN t) _ hI) (xJI_0 S (tN t)) rfl _ _ hP hS ls (lv_sub hl [1, 2, 0] rfl)
        · have hlt : i < levN (tN t) := nle_nI (a := levN (tN t)) (b := i) (by omega) (by omega) c79
          refine lv_aload_n C.1 hb dX0_smooth_28 rfl (lv_at hl 0 rfl) ?_
          refine gX_factorsBefore C hb hP dX0_smooth_29 ?_
          refine lv_iload_n C.1 hb dX0_smooth_32 rfl (lv_at hl 2 rfl) ?_
          refine lv_aload_n C.1 hb dX0_smooth_33 rfl (lv_at hl 0 rfl) ?_
          refine gX_factors C hb hP dX0_smooth_34 ?_
          refine lv_iload_n C.1 hb dX0_smooth_37 rfl (lv_at hl 1 rfl) ?_
          refine toI ht1 ?_
          refine al_fac (t := (tN t)) C hb hP rfl ht2 dX0_smooth_38 ?_
          refine lv_iload_n C.1 hb dX0_smooth_39 rfl (lv_at hl 2 rfl) ?_
          refine ldX_fac (t := (tN t)) (j := i) C hb hP ht2 rfl (by omega) dX0_smooth_40 ?_
          refine toI (show _ = xFac S (tN t) i from rfl) ?_
          refine stX_factorsBefore (j := i) C hb hP hS rfl (by omega) dX0_smooth_41 (fun H locs hP hS => ?_)
          refine lv_aload_n C.1 hb dX0_smooth_42 rfl (lv_at hl 0 rfl) ?_
          refine gX_groupStarts C hb hP dX0_smooth_43 ?_
          refine lv_iload_n C.1 hb dX0_smooth_46 rfl (lv_at hl 2 rfl) ?_
          refine lv_iload_n C.1 hb dX0_smooth_47 rfl (lv_at hl 2 rfl) ?_
          refine stX_groupStarts (j := i) C hb hP hS rfl (by omega) dX0_smooth_48 (fun H locs hP hS => ?_)
          refine lv_iinc (v := nI (i + 1)) (lv' := [(2, .int (nI (i + 1))), (0, .ref (gA g 0)), (1, .int t)]) C.1 hb dX0_smooth_49 hl (k := 2) rfl (nI_1 i) (by decide) rfl (fun ls hl => ?_)
          refine lv_goto (tgt := 19) C.1 hb dX0_smooth_52 (by decide) ?_
          exact ih (i + 1) (by omega) (by omega)  _ _ (by rw [← xSm0_s S (tN t) i]; exact hP) hS ls (lv_sub hl [1, 2, 0] rfl)
    exact key (levN (tN t) - 0 + 1) 0 (by omega) (by omega)  _ _ (by rw [xSm0_0]; exact hP) hS ls (lv_sub hl [1, 2, 0] rfl)
  · exact xthrowB C hb hl0 hlk hP hS (hl.1.trans hml.symm) het (text := "no such trait") (by decide) dX0_smooth_7 dX0_smooth_10 dX0_smooth_11 dX0_smooth_13 dX0_smooth_16 ⟨Nat.le_of_ble_eq_true rfl, Nat.le_of_ble_eq_true rfl, Nat.le_of_ble_eq_true rfl, Nat.le_of_ble_eq_true rfl⟩ (by unfold xE_trait; rw [c78]; rfl) (by unfold xR_smooth; rw [c78]; rfl)
end
section
/-! what the constructors make -/
theorem va_AOA.moved {ty : FieldType} {u U : State} (hvm : u.vm.Alike U.vm) (h : va_AOA ty u) : va_AOA ty U := arrayOver_alikeB hvm h
abbrev tysT (T : Nat → ClassId) : List (ClassId × FieldType) := [(T 0, .int), (T 1, .long), (T 2, .boolean), (T 3, .array .int)]
/-- the cells of a new object of the class -/
def xCells (T : Nat → ClassId) (a : Nat → Nat) (S : WS) : va_W := [
  (a 0, .inr (0, [.ref (a 1), .ref (a 2), .ref (a 9), .ref (a 10), .ref (a 11), .ref (a 12), .ref (a 13), .int (xSc S 0), .int (xSc S 1), .int (xSc S 2), .int (xSc S 3), .int (xSc S 4), .long (xBase S), .ref (a 14), .ref (a 15), .ref (a 16)])),
  (a 1, .inl (T 3, 3, .inr (.inr (.inr (.inr (fun i => some (a (3 + i)))))))),
  (a 2, .inl (T 3, 3, .inr (.inr (.inr (.inr (fun i => some (a (6 + i)))))))),
  (a 3, .inl (T 0, 4, .inl (xFac S 0))), (a 4, .inl (T 0, 4, .inl (xFac S 1))), (a 5, .inl (T 0, 4, .inl (xFac S 2))),
  (a 6, .inl (T 0, 40, .inl (xLev S 0))), (a 7, .inl (T 0, 40, .inl (xLev S 1))), (a 8, .inl (T 0, 40, .inl (xLev S 2))),
  (a 9, .inl (T 1, 40, .inr (.inl (xLng S 0)))), (a 10, .inl (T 1, 40, .inr (.inl (xLng S 1)))), (a 11, .inl (T 1, 40, .inr (.inl (xLng S 2)))),
  (a 12, .inl (T 0, 40, .inl (xIa S 0))), (a 13, .inl (T 2, 40, .inl (xIa S 1))), (a 14, .inl (T 1, 40, .inr (.inl (xLng S 3)))),
  (a 15, .inl (T 0, 4, .inl (xIa S 2))), (a 16, .inl (T 0, 4, .inl (xIa S 3)))]
/-- the numbers at the start -/
def XS0 : XS := (fun _ => fil (fun _ => 10000) (fun _ => 0) 4, fun _ _ => 0, fun _ _ => 0, fun _ _ => 0, fun k => if k = 3 then -1 else if k = 4 then 10000 else 0, 0)
def WS0 : WS := (XS0, fun _ _ => 0, [])
theorem inner_new (c : ClassId) (K : Nat) : Jvm.Free.Multi.innerC c K (defaultValue .int) = vp_cell c (K, .inl (fun _ => 0)) := arrV_new c K (.int 0)
end
section
theorem pl3 (r : Nat → Nat) (e0 e : va_E) : va_pl (([] : List Nat) ++ (List.range 3).map r) (vr_up (fun _ => e0) ((List.range 3).map r) e) = [(r 0, e), (r 1, e), (r 2, e)] := by
  show [(r 0, vr_up (fun _ => e0) [r 0, r 1, r 2] e (r 0)), (r 1, vr_up (fun _ => e0) [r 0, r 1, r 2] e (r 1)), (r 2, vr_up (fun _ => e0) [r 0, r 1, r 2] e (r 2))] = _
  rw [vr_up_in (by simp), vr_up_in (by simp), vr_up_in (by simp)]
set_option maxRecDepth 100000 in
set_option maxHeartbeats 4000000 in
theorem k_fill (l : Launch) (D : va_G) (T : Nat → ClassId) (b sz : Nat) (v : Int32) (f : Nat → Int32) : Met l yJ7_fill_53178 (wA yJ7_fill_53178 cJ7_fill_53178 4 none) { frames := 0, cells := 0, slots := 0, locals := 0 } (va_Pc [.ref b, .int v] (fun U => U.heap.size = sz ∧ va_P D vwCl [(b, .inl (T 0, 4, .inl f))] U.heap ∧ va_K D vwCl (tysT T) U ∧ va_D (fun _ => True) [(b, .inl (T 0, 4, .inl f))])) (va_Qv (fun _ : Unit => True) (fun _ t => va_P D vwCl [(b, .inl (T 0, 4, .inl (fil (fun _ => v) f 4)))] t.heap ∧ va_K D vwCl (tysT T) t ∧ va_D (va_A [(b, .inl (T 0, 4, .inl f))] sz) [(b, .inl (T 0, 4, .inl (fil (fun _ => v) f 4)))]) (va_A [(b, .inl (T 0, 4, .inl f))] sz)) 0 0 (va_A [(b, .inl (T 0, 4, .inl f))] sz) := by
  refine Met.ofW (cc := cJ7_fill_53178) (maxL := 4) (ret := none) (by decide) rfl ?_
  intro p e s m args below meth c s₁ B hml hv
  obtain ⟨rfl, hsz, hP, hK, hD0⟩ := hv
  have hx := B.exec
  have hb := B.bytes
  have hret := B.returns
  have hts0 := atoms_spec (ws := wA yJ7_fill_53178 cJ7_fill_53178 4 none) B.pre
  have hts : ∀ w ∈ WA, w.before _ s = true := fun w h => hts0 w (List.mem_cons_of_mem _ h)
  have hown : s.vm.findClass RJ7 = some m.cls := findClass_of_methodNamed B.named
  have hlocks := B.notSynchronized
  have hin : meth.name = "fill" := (name_of_methodNamed B.named B.method).1
  subst hsz
  have hD := hD0.self (sz := s.heap.size)
  generalize hAe : va_A [(b, .inl (T 0, 4, .inl f))] s.heap.size = A at hD ⊢
  have hA : ∀ q : Nat, s.heap.size ≤ q → A q := fun q h => by rw [← hAe]; exact Or.inr h
  have hS : va_S A s.heap s.heap [] := va_S.rf
  have hP : va_P D vwCl [(b, .inl (T 0, 4, .inl f))] s.heap := hP
  have hl := lv_entry ([.ref b, .int v]) (n := 4) (Nat.le_of_ble_eq_true rfl)
  rw [lg_entry_eq]
  generalize (lg_sl ([.ref b, .int v]) ++ List.replicate (4 - (lg_sl ([.ref b, .int v])).length) Slot.unset).toArray = ls at hl ⊢
  have hl : lv_has ls 4 [(0, .ref b), (1, .int v)] := hl
  refine lv_iconst (v := 0) hx hb dJ7_fill_53178_0 (by decide) ?_
  refine lv_istore_n (lv' := [(2, .int 0), (0, .ref b), (1, .int v)]) hx hb dJ7_fill_53178_1 rfl hl (by decide) rfl (fun ls hl => ?_)
  refine lv_aload_n hx hb dJ7_fill_53178_2 rfl (lv_at hl 1 rfl) ?_
  refine va_alen (v := 4) hx hb hK hP 0 0 rfl rfl rfl dJ7_fill_53178_3 ?_
  refine lv_istore_n (lv' := [(3, .int 4), (2, .int 0), (0, .ref b), (1, .int v)]) hx hb dJ7_fill_53178_4 rfl hl (by decide) rfl (fun ls hl => ?_)
  have key : ∀ n i : Nat, 4 - i < n → i ≤ 4 → ∀ (H : Heap) (locs : List Loc), va_P D vwCl [(b, .inl (T 0, 4, .inl (fil (fun _ => v) f i)))] H → va_D A [(b, .inl (T 0, 4, .inl (fil (fun _ => v) f i)))] → va_S A s.heap H locs → ∀ ls : Array Slot, lv_has ls 4 [(3, .int 4), (2, .int (nI i)), (0, .ref b), (1, .int v)] → W p l e { frames := 0, cells := 0, slots := 0, locals := 0 } s m ([.ref b, .int v] : List Value).toArray below meth c H locs 0 0 (MQ below (va_Qv (fun _ : Unit => True) (fun _ t => va_P D vwCl [(b, .inl (T 0, 4, .inl (fil (fun _ => v) f 4)))] t.heap ∧ va_K D vwCl (tysT T) t ∧ va_D A [(b, .inl (T 0, 4, .inl (fil (fun _ => v) f 4)))]) A) ([.ref b, .int v] : List Value).toArray s 0 0 A) (F0 m 5 ls []) := by
    intro n
    induction n with
    | zero => intro i h; exact absurd h (Nat.not_lt_zero _)
    | succ n ih =>
      intro i hf hi H locs hP hD hS ls hl
      refine lv_iload_n hx hb dJ7_fill_53178_5 rfl (lv_at hl 1 rfl) ?_
      refine lv_iload_n hx hb dJ7_fill_53178_6 rfl (lv_at hl 0 rfl) ?_
      refine lv_icmp_ge (tgt := 20) hx hb dJ7_fill_53178_7 (by decide) (fun c1 => ?_) (fun c1 => ?_)
      · have hin4 : i = 4 := by have := le_nI (a := 4) (b := i) (by decide) (by omega) c1; omega
        subst hin4
        exact W.vret hx hb hret (fun t ht hW => ⟨⟨(), rfl, trivial, by rw [ht]; exact hP, va_K.moved hW.alike hK, hD⟩, hS.F ht⟩) hS.2.2 dJ7_fill_53178_20
      · have hlt : i < 4 := nle_nI (a := 4) (b := i) (by decide) (by omega) c1
        refine lv_aload_n hx hb dJ7_fill_53178_10 rfl (lv_at hl 2 rfl) ?_
        refine lv_iload_n hx hb dJ7_fill_53178_11 rfl (lv_at hl 1 rfl) ?_
        refine lv_iload_n hx hb dJ7_fill_53178_12 rfl (lv_at hl 3 rfl) ?_
        refine va_iast (D := D) hx hb hK hP hD hS 0 0 rfl rfl (vp_in_nI hlt (by decide)) dJ7_fill_53178_13 (fun H locs hP hD hS => ?_)
        have ef : upd (fil (fun _ => v) f i) (nI i).toNatClampNeg v = fil (fun _ => v) f (i + 1) := by
          rw [nI_clamp (by omega)]
          exact fil_sI (fun _ => v) f i
        rw [ef] at hP hD
        refine lv_iinc (v := nI (i + 1)) (lv' := [(2, .int (nI (i + 1))), (3, .int 4), (0, .ref b), (1, .int v)]) hx hb dJ7_fill_53178_14 hl (k := 1) rfl (nI_1 i) (by decide) rfl (fun ls hl => ?_)
        refine lv_goto (tgt := 5) hx hb dJ7_fill_53178_17 (by decide) ?_
        exact ih (i + 1) (by omega) (by omega) _ _ hP hD hS ls (lv_sub hl [1, 0, 2, 3] rfl)
  exact key 5 0 (by omega) (by omega) _ _ (by rw [fil_0]; exact hP) (by rw [fil_0]; exact hD) hS ls hl
theorem va_P.recell {D : va_G} {cl : List vw_C} {H : Heap} {ws : va_W} (h : va_P D cl ws H) (k : Nat) {q n : Nat} {cA : ClassId} {f f' : Nat → Option Nat} (hk : ws[k]? = some (q, .inl (cA, n, .inr (.inr (.inr (.inr f)))))) (hf : ∀ j, j < n → f j = f' j) : va_P D cl (ws.set k (q, .inl (cA, n, .inr (.inr (.inr (.inr f')))))) H := by
  intro i x hx
  by_cases e : i = k
  · subst e
    have hl : i < ws.length := (List.getElem?_eq_some_iff.mp hk).1
    rw [List.getElem?_set_self hl] at hx
    cases hx
    have h1 := h i _ hk
    show H[q]? = some (arrV cA n (fun j => va_rf (f' j)))
    have h2 : H[q]? = some (arrV cA n (fun j => va_rf (f j))) := h1
    rw [h2]
    refine congrArg some ?_
    show ({ cls := cA, slots := Array.ofFn (n := n) fun i => va_rf (f i), vm := .none } : Cell) = { cls := cA, slots := Array.ofFn (n := n) fun i => va_rf (f' i), vm := .none }
    have h3 : (fun i : Fin n => va_rf (f i)) = fun i : Fin n => va_rf (f' i) := funext fun i => by rw [hf i.1 i.2]
    rw [h3]
  · rw [List.getElem?_set_ne (Ne.symm e)] at hx
    exact h i x hx
theorem va_D.recell {A : Nat → Prop} {ws : va_W} (h : va_D A ws) (k : Nat) {q n : Nat} {cA : ClassId} {f f' : Nat → Option Nat} (hk : ws[k]? = some (q, .inl (cA, n, .inr (.inr (.inr (.inr f)))))) : va_D A (ws.set k (q, .inl (cA, n, .inr (.inr (.inr (.inr f')))))) := h.set hk
set_option maxRecDepth 100000 in
set_option maxHeartbeats 4000000 in
theorem k_X0_init (l : Launch) (D : va_G) (T : Nat → ClassId) (h0 sz : Nat) : Met l yX0_init (wA yX0_init cX0_init 2 none) { frames := 1, cells := 16, slots := 386, locals := 60 } (va_Pc [.ref h0] (fun U => U.heap.size = sz ∧ va_P D vwCl [(h0, .inr (0, [.null, .null, .null, .null, .null, .null, .null, .int 0, .int 0, .int 0, .int 0, .int 0, .long 0, .null, .null, .null]))] U.heap ∧ va_K D vwCl (tysT T) U ∧ va_AOA .int U ∧ va_D (fun _ => True) [(h0, .inr (0, [.null, .null, .null, .null, .null, .null, .null, .int 0, .int 0, .int 0, .int 0, .int 0, .long 0, .null, .null, .null]))])) (va_Qv (fun a : Nat → Nat => a 0 = h0) (fun a t => va_P D vwCl (xCells T a WS0) t.heap ∧ va_K D vwCl (tysT T) t ∧ va_D (va_A [(h0, .inr (0, [.null, .null, .null, .null, .null, .null, .null, .int 0, .int 0, .int 0, .int 0, .int 0, .long 0, .null, .null, .null]))] sz) (xCells T a WS0)) (va_A [(h0, .inr (0, [.null, .null, .null, .null, .null, .null, .null, .int 0, .int 0, .int 0, .int 0, .int 0, .long 0, .null, .null, .null]))] sz)) 16 386 (va_A [(h0, .inr (0, [.null, .null, .null, .null, .null, .null, .null, .int 0, .int 0, .int 0, .int 0, .int 0, .long 0, .null, .null, .null]))] sz) := by
  refine Met.ofW (cc := cX0_init) (maxL := 2) (ret := none) (by decide) rfl ?_
  intro p e s m args below meth c s₁ B hml hv
  obtain ⟨rfl, hsz, hP, hK, hAO, hD0⟩ := hv
  have hx := B.exec
  have hb := B.bytes
  have hret := B.returns
  have hts0 := atoms_spec (ws := wA yX0_init cX0_init 2 none) B.pre
  have hts : ∀ w ∈ WA, w.before _ s = true := fun w h => hts0 w (List.mem_cons_of_mem _ h)
  have hown : s.vm.findClass RX0 = some m.cls := findClass_of_methodNamed B.named
  have hlocks := B.notSynchronized
  have hin : meth.name = "<init>" := (name_of_methodNamed B.named B.method).1
  subst hsz
  have hD := hD0.self (sz := s.heap.size)
  generalize hAe : va_A [(h0, .inr (0, [.null, .null, .null, .null, .null, .null, .null, .int 0, .int 0, .int 0, .int 0, .int 0, .long 0, .null, .null, .null]))] s.heap.size = A at hD ⊢
  have hA : ∀ q : Nat, s.heap.size ≤ q → A q := fun q h => by rw [← hAe]; exact Or.inr h
  have hS : va_S A s.heap s.heap [] := va_S.rf
  have hP : va_P D vwCl [(h0, .inr (0, [.null, .null, .null, .null, .null, .null, .null, .int 0, .int 0, .int 0, .int 0, .int 0, .long 0, .null, .null, .null]))] s.heap := hP
  have hl := lv_entry ([.ref h0]) (n := 2) (Nat.le_of_ble_eq_true rfl)
  rw [lg_entry_eq]
  generalize (lg_sl ([.ref h0]) ++ List.replicate (2 - (lg_sl ([.ref h0])).length) Slot.unset).toArray = ls at hl ⊢
  have hl : lv_has ls 2 [(0, .ref h0)] := hl
  refine lv_aload_n hx hb dX0_init_0 rfl (lv_at hl 0 rfl) ?_
  refine W.objInit hx hb hown (hts _ wm_18) (hts _ wm_19) (hts _ wm_20) rfl (by rw [hml]; exact hl.1) rfl dX0_init_1 (Nat.le_of_ble_eq_true rfl) (Nat.le_of_ble_eq_true rfl) ?_
  refine W.eq (g2 := F0 m 4 ls []) rfl ?_
  refine lv_aload_n hx hb dX0_init_4 rfl (lv_at hl 0 rfl) ?_
  refine lv_iconst (v := 3) hx hb dX0_init_5 (by decide) ?_
  refine lv_iconst (v := 4) hx hb dX0_init_6 (by decide) ?_
  refine va_mna (X := [(h0, .inr (0, [.null, .null, .null, .null, .null, .null, .null, .int 0, .int 0, .int 0, .int 0, .int 0, .long 0, .null, .null, .null]))]) (L := []) (f := fun _ => .inl (0, (0, .inl (fun _ => 0)))) (ty := .int) (cy := T 0) (N' := 3) (K' := 4) (z := (4, .inl (fun _ => 0))) hx hb hown (hts _ wm_21) hAO (hts _ wm_13) (hK.2 0 _ rfl).2 hK hP hD hS hA (by decide) (by decide) (by decide) (by decide) (Nat.le_of_ble_eq_true rfl) (Nat.le_of_ble_eq_true rfl) (Nat.le_of_ble_eq_true rfl) rfl rfl (Nat.le_of_ble_eq_true rfl) (Nat.le_of_ble_eq_true rfl) (fun c => inner_new c 4) dX0_init_7 (fun q7 r7 cA H hri _ hK2 hP hD hS => ?_)
  have ec : cA = T 3 := ra_same hK2 4 3 rfl rfl (fun _ _ => rfl)
  subst ec
  have ew : va_pl (([] : List Nat) ++ (List.range 3).map r7) (vr_up (fun _ => .inl (0, (0, .inl (fun _ => 0)))) ((List.range 3).map r7) (.inl (T 0, (4, .inl (fun _ => 0))))) = [(r7 0, .inl (T 0, 4, .inl (fun _ => 0))), (r7 1, .inl (T 0, 4, .inl (fun _ => 0))), (r7 2, .inl (T 0, 4, .inl (fun _ => 0)))] := pl3 r7 _ _
  rw [ew] at hP hD
  have hP : va_P D vwCl [(h0, .inr (0, [.null, .null, .null, .null, .null, .null, .null, .int 0, .int 0, .int 0, .int 0, .int 0, .long 0, .null, .null, .null])), (q7, .inl (T 3, 3, .inr (.inr (.inr (.inr (fun i => if i < 3 then some (r7 i) else none)))))), (r7 0, .inl (T 0, 4, .inl (fun _ => 0))), (r7 1, .inl (T 0, 4, .inl (fun _ => 0))), (r7 2, .inl (T 0, 4, .inl (fun _ => 0)))] H := hP
  have hD : va_D A [(h0, .inr (0, [.null, .null, .null, .null, .null, .null, .null, .int 0, .int 0, .int 0, .int 0, .int 0, .long 0, .null, .null, .null])), (q7, .inl (T 3, 3, .inr (.inr (.inr (.inr (fun i => if i < 3 then some (r7 i) else none)))))), (r7 0, .inl (T 0, 4, .inl (fun _ => 0))), (r7 1, .inl (T 0, 4, .inl (fun _ => 0))), (r7 2, .inl (T 0, 4, .inl (fun _ => 0)))] := hD
  refine W.widen (k := 4) (n := 15) (Nat.le_of_ble_eq_true rfl) (Nat.le_of_ble_eq_true rfl) ?_
  refine va_putF (D := D) (ci := 0) (v := .ref q7) (ty := (tyX0 0)) (C := RX0) (T := TX0) (N := 16) hx hb hts inlX0 tyX0 tyX0_ok nmX0 hown hK hP hD hS 0 rfl rfl 0 (by decide) (hts _ wm_22) (fun _ h9 => h9) rfl hin rfl (by decide +kernel) rfl rfl (Nat.le_of_ble_eq_true rfl) dX0_init_11 (fun H locs hP hD hS => ?_)
  have hP : va_P D vwCl [(h0, .inr (0, [.ref q7, .null, .null, .null, .null, .null, .null, .int 0, .int 0, .int 0, .int 0, .int 0, .long 0, .null, .null, .null])), (q7, .inl (T 3, 3, .inr (.inr (.inr (.inr (fun i => if i < 3 then some (r7 i) else none)))))), (r7 0, .inl (T 0, 4, .inl (fun _ => 0))), (r7 1, .inl (T 0, 4, .inl (fun _ => 0))), (r7 2, .inl (T 0, 4, .inl (fun _ => 0)))] H := hP
  have hD : va_D A [(h0, .inr (0, [.ref q7, .null, .null, .null, .null, .null, .null, .int 0, .int 0, .int 0, .int 0, .int 0, .long 0, .null, .null, .null])), (q7, .inl (T 3, 3, .inr (.inr (.inr (.inr (fun i => if i < 3 then some (r7 i) else none)))))), (r7 0, .inl (T 0, 4, .inl (fun _ => 0))), (r7 1, .inl (T 0, 4, .inl (fun _ => 0))), (r7 2, .inl (T 0, 4, .inl (fun _ => 0)))] := hD
  refine lv_aload_n hx hb dX0_init_14 rfl (lv_at hl 0 rfl) ?_
  refine lv_iconst (v := 3) hx hb dX0_init_15 (by decide) ?_
  refine lv_bipush (v := 40) hx hb dX0_init_16 (by decide) ?_
  refine va_mna (X := [(h0, .inr (0, [.ref q7, .null, .null, .null, .null, .null, .null, .int 0, .int 0, .int 0, .int 0, .int 0, .long 0, .null, .null, .null])), (q7, .inl (T 3, 3, .inr (.inr (.inr (.inr (fun i => if i < 3 then some (r7 i) else none)))))), (r7 0, .inl (T 0, 4, .inl (fun _ => 0))), (r7 1, .inl (T 0, 4, .inl (fun _ => 0))), (r7 2, .inl (T 0, 4, .inl (fun _ => 0)))]) (L := []) (f := fun _ => .inl (0, (0, .inl (fun _ => 0)))) (ty := .int) (cy := T 0) (N' := 3) (K' := 40) (z := (40, .inl (fun _ => 0))) hx hb hown (hts _ wm_21) hAO (hts _ wm_13) (hK.2 0 _ rfl).2 hK hP hD hS hA (by decide) (by decide) (by decide) (by decide) (Nat.le_of_ble_eq_true rfl) (Nat.le_of_ble_eq_true rfl) (Nat.le_of_ble_eq_true rfl) rfl rfl (Nat.le_of_ble_eq_true rfl) (Nat.le_of_ble_eq_true rfl) (fun c => inner_new c 40) dX0_init_18 (fun q18 r18 cA H hri _ hK2 hP hD hS => ?_)
  have ec : cA = T 3 := ra_same hK2 4 3 rfl rfl (fun _ _ => rfl)
  subst ec
  have ew : va_pl (([] : List Nat) ++ (List.range 3).map r18) (vr_up (fun _ => .inl (0, (0, .inl (fun _ => 0)))) ((List.range 3).map r18) (.inl (T 0, (40, .inl (fun _ => 0))))) = [(r18 0, .inl (T 0, 40, .inl (fun _ => 0))), (r18 1, .inl (T 0, 40, .inl (fun _ => 0))), (r18 2, .inl (T 0, 40, .inl (fun _ => 0)))] := pl3 r18 _ _
  rw [ew] at hP hD
  have hP : va_P D vwCl [(h0, .inr (0, [.ref q7, .null, .null, .null, .null, .null, .null, .int 0, .int 0, .int 0, .int 0, .int 0, .long 0, .null, .null, .null])), (q7, .inl (T 3, 3, .inr (.inr (.inr (.inr (fun i => if i < 3 then some (r7 i) else none)))))), (r7 0, .inl (T 0, 4, .inl (fun _ => 0))), (r7 1, .inl (T 0, 4, .inl (fun _ => 0))), (r7 2, .inl (T 0, 4, .inl (fun _ => 0))), (q18, .inl (T 3, 3, .inr (.inr (.inr (.inr (fun i => if i < 3 then some (r18 i) else none)))))), (r18 0, .inl (T 0, 40, .inl (fun _ => 0))), (r18 1, .inl (T 0, 40, .inl (fun _ => 0))), (r18 2, .inl (T 0, 40, .inl (fun _ => 0)))] H := hP
  have hD : va_D A [(h0, .inr (0, [.ref q7, .null, .null, .null, .null, .null, .null, .int 0, .int 0, .int 0, .int 0, .int 0, .long 0, .null, .null, .null])), (q7, .inl (T 3, 3, .inr (.inr (.inr (.inr (fun i => if i < 3 then some (r7 i) else none)))))), (r7 0, .inl (T 0, 4, .inl (fun _ => 0))), (r7 1, .inl (T 0, 4, .inl (fun _ => 0))), (r7 2, .inl (T 0, 4, .inl (fun _ => 0))), (q18, .inl (T 3, 3, .inr (.inr (.inr (.inr (fun i => if i < 3 then some (r18 i) else none)))))), (r18 0, .inl (T 0, 40, .inl (fun _ => 0))), (r18 1, .inl (T 0, 40, .inl (fun _ => 0))), (r18 2, .inl (T 0, 40, .inl (fun _ => 0)))] := hD
  refine W.widen (k := 8) (n := 138) (Nat.le_of_ble_eq_true rfl) (Nat.le_of_ble_eq_true rfl) ?_
  refine va_putF (D := D) (ci := 0) (v := .ref q18) (ty := (tyX0 1)) (C := RX0) (T := TX0) (N := 16) hx hb hts inlX0 tyX0 tyX0_ok nmX0 hown hK hP hD hS 0 rfl rfl 1 (by decide) (hts _ wm_23) (fun _ h9 => h9) rfl hin rfl (by decide +kernel) rfl rfl (Nat.le_of_ble_eq_true rfl) dX0_init_22 (fun H locs hP hD hS => ?_)
  have hP : va_P D vwCl [(h0, .inr (0, [.ref q7, .ref q18, .null, .null, .null, .null, .null, .int 0, .int 0, .int 0, .int 0, .int 0, .long 0, .null, .null, .null])), (q7, .inl (T 3, 3, .inr (.inr (.inr (.inr (fun i => if i < 3 then some (r7 i) else none)))))), (r7 0, .inl (T 0, 4, .inl (fun _ => 0))), (r7 1, .inl (T 0, 4, .inl (fun _ => 0))), (r7 2, .inl (T 0, 4, .inl (fun _ => 0))), (q18, .inl (T 3, 3, .inr (.inr (.inr (.inr (fun i => if i < 3 then some (r18 i) else none)))))), (r18 0, .inl (T 0, 40, .inl (fun _ => 0))), (r18 1, .inl (T 0, 40, .inl (fun _ => 0))), (r18 2, .inl (T 0, 40, .inl (fun _ => 0)))] H := hP
  have hD : va_D A [(h0, .inr (0, [.ref q7, .ref q18, .null, .null, .null, .null, .null, .int 0, .int 0, .int 0, .int 0, .int 0, .long 0, .null, .null, .null])), (q7, .inl (T 3, 3, .inr (.inr (.inr (.inr (fun i => if i < 3 then some (r7 i) else none)))))), (r7 0, .inl (T 0, 4, .inl (fun _ => 0))), (r7 1, .inl (T 0, 4, .inl (fun _ => 0))), (r7 2, .inl (T 0, 4, .inl (fun _ => 0))), (q18, .inl (T 3, 3, .inr (.inr (.inr (.inr (fun i => if i < 3 then some (r18 i) else none)))))), (r18 0, .inl (T 0, 40, .inl (fun _ => 0))), (r18 1, .inl (T 0, 40, .inl (fun _ => 0))), (r18 2, .inl (T 0, 40, .inl (fun _ => 0)))] := hD
  refine lv_aload_n hx hb dX0_init_25 rfl (lv_at hl 0 rfl) ?_
  refine lv_bipush (v := 40) hx hb dX0_init_26 (by decide) ?_
  refine va_newa (atype := .long) (ty := .long) (N' := 40) (a0 := (40, .inr (.inl (fun _ => 0)))) hx hb (hts _ wm_24) rfl hK hP hD hS hA (fun _ => rfl) (by decide) (by decide) (Nat.le_of_ble_eq_true rfl) (Nat.le_of_ble_eq_true rfl) (Nat.le_of_ble_eq_true rfl) dX0_init_28 (fun q28 cA H hK2 hP hD hS => ?_)
  have ec : cA = T 1 := ra_same hK2 4 1 rfl rfl (fun _ _ => rfl)
  subst ec
  have hP : va_P D vwCl [(h0, .inr (0, [.ref q7, .ref q18, .null, .null, .null, .null, .null, .int 0, .int 0, .int 0, .int 0, .int 0, .long 0, .null, .null, .null])), (q7, .inl (T 3, 3, .inr (.inr (.inr (.inr (fun i => if i < 3 then some (r7 i) else none)))))), (r7 0, .inl (T 0, 4, .inl (fun _ => 0))), (r7 1, .inl (T 0, 4, .inl (fun _ => 0))), (r7 2, .inl (T 0, 4, .inl (fun _ => 0))), (q18, .inl (T 3, 3, .inr (.inr (.inr (.inr (fun i => if i < 3 then some (r18 i) else none)))))), (r18 0, .inl (T 0, 40, .inl (fun _ => 0))), (r18 1, .inl (T 0, 40, .inl (fun _ => 0))), (r18 2, .inl (T 0, 40, .inl (fun _ => 0))), (q28, .inl (T 1, 40, .inr (.inl (fun _ => 0))))] H := hP
  have hD : va_D A [(h0, .inr (0, [.ref q7, .ref q18, .null, .null, .null, .null, .null, .int 0, .int 0, .int 0, .int 0, .int 0, .long 0, .null, .null, .null])), (q7, .inl (T 3, 3, .inr (.inr (.inr (.inr (fun i => if i < 3 then some (r7 i) else none)))))), (r7 0, .inl (T 0, 4, .inl (fun _ => 0))), (r7 1, .inl (T 0, 4, .inl (fun _ => 0))), (r7 2, .inl (T 0, 4, .inl (fun _ => 0))), (q18, .inl (T 3, 3, .inr (.inr (.inr (.inr (fun i => if i < 3 then some (r18 i) else none)))))), (r18 0, .inl (T 0, 40, .inl (fun _ => 0))), (r18 1, .inl (T 0, 40, .inl (fun _ => 0))), (r18 2, .inl (T 0, 40, .inl (fun _ => 0))), (q28, .inl (T 1, 40, .inr (.inl (fun _ => 0))))] := hD
  refine W.widen (k := 9) (n := 178) (Nat.le_of_ble_eq_true rfl) (Nat.le_of_ble_eq_true rfl) ?_
  refine va_putF (D := D) (ci := 0) (v := .ref q28) (ty := (tyX0 2)) (C := RX0) (T := TX0) (N := 16) hx hb hts inlX0 tyX0 tyX0_ok nmX0 hown hK hP hD hS 0 rfl rfl 2 (by decide) (hts _ wm_25) (fun _ h9 => h9) rfl hin rfl (by decide +kernel) rfl rfl (Nat.le_of_ble_eq_true rfl) dX0_init_30 (fun H locs hP hD hS => ?_)
  have hP : va_P D vwCl [(h0, .inr (0, [.ref q7, .ref q18, .ref q28, .null, .null, .null, .null, .int 0, .int 0, .int 0, .int 0, .int 0, .long 0, .null, .null, .null])), (q7, .inl (T 3, 3, .inr (.inr (.inr (.inr (fun i => if i < 3 then some (r7 i) else none)))))), (r7 0, .inl (T 0, 4, .inl (fun _ => 0))), (r7 1, .inl (T 0, 4, .inl (fun _ => 0))), (r7 2, .inl (T 0, 4, .inl (fun _ => 0))), (q18, .inl (T 3, 3, .inr (.inr (.inr (.inr (fun i => if i < 3 then some (r18 i) else none)))))), (r18 0, .inl (T 0, 40, .inl (fun _ => 0))), (r18 1, .inl (T 0, 40, .inl (fun _ => 0))), (r18 2, .inl (T 0, 40, .inl (fun _ => 0))), (q28, .inl (T 1, 40, .inr (.inl (fun _ => 0))))] H := hP
  have hD : va_D A [(h0, .inr (0, [.ref q7, .ref q18, .ref q28, .null, .null, .null, .null, .int 0, .int 0, .int 0, .int 0, .int 0, .long 0, .null, .null, .null])), (q7, .inl (T 3, 3, .inr (.inr (.inr (.inr (fun i => if i < 3 then some (r7 i) else none)))))), (r7 0, .inl (T 0, 4, .inl (fun _ => 0))), (r7 1, .inl (T 0, 4, .inl (fun _ => 0))), (r7 2, .inl (T 0, 4, .inl (fun _ => 0))), (q18, .inl (T 3, 3, .inr (.inr (.inr (.inr (fun i => if i < 3 then some (r18 i) else none)))))), (r18 0, .inl (T 0, 40, .inl (fun _ => 0))), (r18 1, .inl (T 0, 40, .inl (fun _ => 0))), (r18 2, .inl (T 0, 40, .inl (fun _ => 0))), (q28, .inl (T 1, 40, .inr (.inl (fun _ => 0))))] := hD
  refine lv_aload_n hx hb dX0_init_33 rfl (lv_at hl 0 rfl) ?_
  refine lv_bipush (v := 40) hx hb dX0_init_34 (by decide) ?_
  refine va_newa (atype := .long) (ty := .long) (N' := 40) (a0 := (40, .inr (.inl (fun _ => 0)))) hx hb (hts _ wm_24) rfl hK hP hD hS hA (fun _ => rfl) (by decide) (by decide) (Nat.le_of_ble_eq_true rfl) (Nat.le_of_ble_eq_true rfl) (Nat.le_of_ble_eq_true rfl) dX0_init_36 (fun q36 cA H hK2 hP hD hS => ?_)
  have ec : cA = T 1 := ra_same hK2 4 1 rfl rfl (fun _ _ => rfl)
  subst ec
  have hP : va_P D vwCl [(h0, .inr (0, [.ref q7, .ref q18, .ref q28, .null, .null, .null, .null, .int 0, .int 0, .int 0, .int 0, .int 0, .long 0, .null, .null, .null])), (q7, .inl (T 3, 3, .inr (.inr (.inr (.inr (fun i => if i < 3 then some (r7 i) else none)))))), (r7 0, .inl (T 0, 4, .inl (fun _ => 0))), (r7 1, .inl (T 0, 4, .inl (fun _ => 0))), (r7 2, .inl (T 0, 4, .inl (fun _ => 0))), (q18, .inl (T 3, 3, .inr (.inr (.inr (.inr (fun i => if i < 3 then some (r18 i) else none)))))), (r18 0, .inl (T 0, 40, .inl (fun _ => 0))), (r18 1, .inl (T 0, 40, .inl (fun _ => 0))), (r18 2, .inl (T 0, 40, .inl (fun _ => 0))), (q28, .inl (T 1, 40, .inr (.inl (fun _ => 0)))), (q36, .inl (T 1, 40, .inr (.inl (fun _ => 0))))] H := hP
  have hD : va_D A [(h0, .inr (0, [.ref q7, .ref q18, .ref q28, .null, .null, .null, .null, .int 0, .int 0, .int 0, .int 0, .int 0, .long 0, .null, .null, .null])), (q7, .inl (T 3, 3, .inr (.inr (.inr (.inr (fun i => if i < 3 then some (r7 i) else none)))))), (r7 0, .inl (T 0, 4, .inl (fun _ => 0))), (r7 1, .inl (T 0, 4, .inl (fun _ => 0))), (r7 2, .inl (T 0, 4, .inl (fun _ => 0))), (q18, .inl (T 3, 3, .inr (.inr (.inr (.inr (fun i => if i < 3 then some (r18 i) else none)))))), (r18 0, .inl (T 0, 40, .inl (fun _ => 0))), (r18 1, .inl (T 0, 40, .inl (fun _ => 0))), (r18 2, .inl (T 0, 40, .inl (fun _ => 0))), (q28, .inl (T 1, 40, .inr (.inl (fun _ => 0)))), (q36, .inl (T 1, 40, .inr (.inl (fun _ => 0))))] := hD
  refine W.widen (k := 10) (n := 218) (Nat.le_of_ble_eq_true rfl) (Nat.le_of_ble_eq_true rfl) ?_
  refine va_putF (D := D) (ci := 0) (v := .ref q36) (ty := (tyX0 3)) (C := RX0) (T := TX0) (N := 16) hx hb hts inlX0 tyX0 tyX0_ok nmX0 hown hK hP hD hS 0 rfl rfl 3 (by decide) (hts _ wm_26) (fun _ h9 => h9) rfl hin rfl (by decide +kernel) rfl rfl (Nat.le_of_ble_eq_true rfl) dX0_init_38 (fun H locs hP hD hS => ?_)
  have hP : va_P D vwCl [(h0, .inr (0, [.ref q7, .ref q18, .ref q28, .ref q36, .null, .null, .null, .int 0, .int 0, .int 0, .int 0, .int 0, .long 0, .null, .null, .null])), (q7, .inl (T 3, 3, .inr (.inr (.inr (.inr (fun i => if i < 3 then some (r7 i) else none)))))), (r7 0, .inl (T 0, 4, .inl (fun _ => 0))), (r7 1, .inl (T 0, 4, .inl (fun _ => 0))), (r7 2, .inl (T 0, 4, .inl (fun _ => 0))), (q18, .inl (T 3, 3, .inr (.inr (.inr (.inr (fun i => if i < 3 then some (r18 i) else none)))))), (r18 0, .inl (T 0, 40, .inl (fun _ => 0))), (r18 1, .inl (T 0, 40, .inl (fun _ => 0))), (r18 2, .inl (T 0, 40, .inl (fun _ => 0))), (q28, .inl (T 1, 40, .inr (.inl (fun _ => 0)))), (q36, .inl (T 1, 40, .inr (.inl (fun _ => 0))))] H := hP
  have hD : va_D A [(h0, .inr (0, [.ref q7, .ref q18, .ref q28, .ref q36, .null, .null, .null, .int 0, .int 0, .int 0, .int 0, .int 0, .long 0, .null, .null, .null])), (q7, .inl (T 3, 3, .inr (.inr (.inr (.inr (fun i => if i < 3 then some (r7 i) else none)))))), (r7 0, .inl (T 0, 4, .inl (fun _ => 0))), (r7 1, .inl (T 0, 4, .inl (fun _ => 0))), (r7 2, .inl (T 0, 4, .inl (fun _ => 0))), (q18, .inl (T 3, 3, .inr (.inr (.inr (.inr (fun i => if i < 3 then some (r18 i) else none)))))), (r18 0, .inl (T 0, 40, .inl (fun _ => 0))), (r18 1, .inl (T 0, 40, .inl (fun _ => 0))), (r18 2, .inl (T 0, 40, .inl (fun _ => 0))), (q28, .inl (T 1, 40, .inr (.inl (fun _ => 0)))), (q36, .inl (T 1, 40, .inr (.inl (fun _ => 0))))] := hD
  refine lv_aload_n hx hb dX0_init_41 rfl (lv_at hl 0 rfl) ?_
  refine lv_bipush (v := 40) hx hb dX0_init_42 (by decide) ?_
  refine va_newa (atype := .long) (ty := .long) (N' := 40) (a0 := (40, .inr (.inl (fun _ => 0)))) hx hb (hts _ wm_24) rfl hK hP hD hS hA (fun _ => rfl) (by decide) (by decide) (Nat.le_of_ble_eq_true rfl) (Nat.le_of_ble_eq_true rfl) (Nat.le_of_ble_eq_true rfl) dX0_init_44 (fun q44 cA H hK2 hP hD hS => ?_)
  have ec : cA = T 1 := ra_same hK2 4 1 rfl rfl (fun _ _ => rfl)
  subst ec
  have hP : va_P D vwCl [(h0, .inr (0, [.ref q7, .ref q18, .ref q28, .ref q36, .null, .null, .null, .int 0, .int 0, .int 0, .int 0, .int 0, .long 0, .null, .null, .null])), (q7, .inl (T 3, 3, .inr (.inr (.inr (.inr (fun i => if i < 3 then some (r7 i) else none)))))), (r7 0, .inl (T 0, 4, .inl (fun _ => 0))), (r7 1, .inl (T 0, 4, .inl (fun _ => 0))), (r7 2, .inl (T 0, 4, .inl (fun _ => 0))), (q18, .inl (T 3, 3, .inr (.inr (.inr (.inr (fun i => if i < 3 then some (r18 i) else none)))))), (r18 0, .inl (T 0, 40, .inl (fun _ => 0))), (r18 1, .inl (T 0, 40, .inl (fun _ => 0))), (r18 2, .inl (T 0, 40, .inl (fun _ => 0))), (q28, .inl (T 1, 40, .inr (.inl (fun _ => 0)))), (q36, .inl (T 1, 40, .inr (.inl (fun _ => 0)))), (q44, .inl (T 1, 40, .inr (.inl (fun _ => 0))))] H := hP
  have hD : va_D A [(h0, .inr (0, [.ref q7, .ref q18, .ref q28, .ref q36, .null, .null, .null, .int 0, .int 0, .int 0, .int 0, .int 0, .long 0, .null, .null, .null])), (q7, .inl (T 3, 3, .inr (.inr (.inr (.inr (fun i => if i < 3 then some (r7 i) else none)))))), (r7 0, .inl (T 0, 4, .inl (fun _ => 0))), (r7 1, .inl (T 0, 4, .inl (fun _ => 0))), (r7 2, .inl (T 0, 4, .inl (fun _ => 0))), (q18, .inl (T 3, 3, .inr (.inr (.inr (.inr (fun i => if i < 3 then some (r18 i) else none)))))), (r18 0, .inl (T 0, 40, .inl (fun _ => 0))), (r18 1, .inl (T 0, 40, .inl (fun _ => 0))), (r18 2, .inl (T 0, 40, .inl (fun _ => 0))), (q28, .inl (T 1, 40, .inr (.inl (fun _ => 0)))), (q36, .inl (T 1, 40, .inr (.inl (fun _ => 0)))), (q44, .inl (T 1, 40, .inr (.inl (fun _ => 0))))] := hD
  refine W.widen (k := 11) (n := 258) (Nat.le_of_ble_eq_true rfl) (Nat.le_of_ble_eq_true rfl) ?_
  refine va_putF (D := D) (ci := 0) (v := .ref q44) (ty := (tyX0 4)) (C := RX0) (T := TX0) (N := 16) hx hb hts inlX0 tyX0 tyX0_ok nmX0 hown hK hP hD hS 0 rfl rfl 4 (by decide) (hts _ wm_27) (fun _ h9 => h9) rfl hin rfl (by decide +kernel) rfl rfl (Nat.le_of_ble_eq_true rfl) dX0_init_46 (fun H locs hP hD hS => ?_)
  have hP : va_P D vwCl [(h0, .inr (0, [.ref q7, .ref q18, .ref q28, .ref q36, .ref q44, .null, .null, .int 0, .int 0, .int 0, .int 0, .int 0, .long 0, .null, .null, .null])), (q7, .inl (T 3, 3, .inr (.inr (.inr (.inr (fun i => if i < 3 then some (r7 i) else none)))))), (r7 0, .inl (T 0, 4, .inl (fun _ => 0))), (r7 1, .inl (T 0, 4, .inl (fun _ => 0))), (r7 2, .inl (T 0, 4, .inl (fun _ => 0))), (q18, .inl (T 3, 3, .inr (.inr (.inr (.inr (fun i => if i < 3 then some (r18 i) else none)))))), (r18 0, .inl (T 0, 40, .inl (fun _ => 0))), (r18 1, .inl (T 0, 40, .inl (fun _ => 0))), (r18 2, .inl (T 0, 40, .inl (fun _ => 0))), (q28, .inl (T 1, 40, .inr (.inl (fun _ => 0)))), (q36, .inl (T 1, 40, .inr (.inl (fun _ => 0)))), (q44, .inl (T 1, 40, .inr (.inl (fun _ => 0))))] H := hP
  have hD : va_D A [(h0, .inr (0, [.ref q7, .ref q18, .ref q28, .ref q36, .ref q44, .null, .null, .int 0, .int 0, .int 0, .int 0, .int 0, .long 0, .null, .null, .null])), (q7, .inl (T 3, 3, .inr (.inr (.inr (.inr (fun i => if i < 3 then some (r7 i) else none)))))), (r7 0, .inl (T 0, 4, .inl (fun _ => 0))), (r7 1, .inl (T 0, 4, .inl (fun _ => 0))), (r7 2, .inl (T 0, 4, .inl (fun _ => 0))), (q18, .inl (T 3, 3, .inr (.inr (.inr (.inr (fun i => if i < 3 then some (r18 i) else none)))))), (r18 0, .inl (T 0, 40, .inl (fun _ => 0))), (r18 1, .inl (T 0, 40, .inl (fun _ => 0))), (r18 2, .inl (T 0, 40, .inl (fun _ => 0))), (q28, .inl (T 1, 40, .inr (.inl (fun _ => 0)))), (q36, .inl (T 1, 40, .inr (.inl (fun _ => 0)))), (q44, .inl (T 1, 40, .inr (.inl (fun _ => 0))))] := hD
  refine lv_aload_n hx hb dX0_init_49 rfl (lv_at hl 0 rfl) ?_
  refine lv_bipush (v := 40) hx hb dX0_init_50 (by decide) ?_
  refine va_newa (atype := .int) (ty := .int) (N' := 40) (a0 := (40, .inl (fun _ => 0))) hx hb (hts _ wm_13) rfl hK hP hD hS hA (fun _ => rfl) (by decide) (by decide) (Nat.le_of_ble_eq_true rfl) (Nat.le_of_ble_eq_true rfl) (Nat.le_of_ble_eq_true rfl) dX0_init_52 (fun q52 cA H hK2 hP hD hS => ?_)
  have ec : cA = T 0 := ra_same hK2 4 0 rfl rfl (fun _ _ => rfl)
  subst ec
  have hP : va_P D vwCl [(h0, .inr (0, [.ref q7, .ref q18, .ref q28, .ref q36, .ref q44, .null, .null, .int 0, .int 0, .int 0, .int 0, .int 0, .long 0, .null, .null, .null])), (q7, .inl (T 3, 3, .inr (.inr (.inr (.inr (fun i => if i < 3 then some (r7 i) else none)))))), (r7 0, .inl (T 0, 4, .inl (fun _ => 0))), (r7 1, .inl (T 0, 4, .inl (fun _ => 0))), (r7 2, .inl (T 0, 4, .inl (fun _ => 0))), (q18, .inl (T 3, 3, .inr (.inr (.inr (.inr (fun i => if i < 3 then some (r18 i) else none)))))), (r18 0, .inl (T 0, 40, .inl (fun _ => 0))), (r18 1, .inl (T 0, 40, .inl (fun _ => 0))), (r18 2, .inl (T 0, 40, .inl (fun _ => 0))), (q28, .inl (T 1, 40, .inr (.inl (fun _ => 0)))), (q36, .inl (T 1, 40, .inr (.inl (fun _ => 0)))), (q44, .inl (T 1, 40, .inr (.inl (fun _ => 0)))), (q52, .inl (T 0, 40, .inl (fun _ => 0)))] H := hP
  have hD : va_D A [(h0, .inr (0, [.ref q7, .ref q18, .ref q28, .ref q36, .ref q44, .null, .null, .int 0, .int 0, .int 0, .int 0, .int 0, .long 0, .null, .null, .null])), (q7, .inl (T 3, 3, .inr (.inr (.inr (.inr (fun i => if i < 3 then some (r7 i) else none)))))), (r7 0, .inl (T 0, 4, .inl (fun _ => 0))), (r7 1, .inl (T 0, 4, .inl (fun _ => 0))), (r7 2, .inl (T 0, 4, .inl (fun _ => 0))), (q18, .inl (T 3, 3, .inr (.inr (.inr (.inr (fun i => if i < 3 then some (r18 i) else none)))))), (r18 0, .inl (T 0, 40, .inl (fun _ => 0))), (r18 1, .inl (T 0, 40, .inl (fun _ => 0))), (r18 2, .inl (T 0, 40, .inl (fun _ => 0))), (q28, .inl (T 1, 40, .inr (.inl (fun _ => 0)))), (q36, .inl (T 1, 40, .inr (.inl (fun _ => 0)))), (q44, .inl (T 1, 40, .inr (.inl (fun _ => 0)))), (q52, .inl (T 0, 40, .inl (fun _ => 0)))] := hD
  refine W.widen (k := 12) (n := 298) (Nat.le_of_ble_eq_true rfl) (Nat.le_of_ble_eq_true rfl) ?_
  refine va_putF (D := D) (ci := 0) (v := .ref q52) (ty := (tyX0 5)) (C := RX0) (T := TX0) (N := 16) hx hb hts inlX0 tyX0 tyX0_ok nmX0 hown hK hP hD hS 0 rfl rfl 5 (by decide) (hts _ wm_28) (fun _ h9 => h9) rfl hin rfl (by decide +kernel) rfl rfl (Nat.le_of_ble_eq_true rfl) dX0_init_54 (fun H locs hP hD hS => ?_)
  have hP : va_P D vwCl [(h0, .inr (0, [.ref q7, .ref q18, .ref q28, .ref q36, .ref q44, .ref q52, .null, .int 0, .int 0, .int 0, .int 0, .int 0, .long 0, .null, .null, .null])), (q7, .inl (T 3, 3, .inr (.inr (.inr (.inr (fun i => if i < 3 then some (r7 i) else none)))))), (r7 0, .inl (T 0, 4, .inl (fun _ => 0))), (r7 1, .inl (T 0, 4, .inl (fun _ => 0))), (r7 2, .inl (T 0, 4, .inl (fun _ => 0))), (q18, .inl (T 3, 3, .inr (.inr (.inr (.inr (fun i => if i < 3 then some (r18 i) else none)))))), (r18 0, .inl (T 0, 40, .inl (fun _ => 0))), (r18 1, .inl (T 0, 40, .inl (fun _ => 0))), (r18 2, .inl (T 0, 40, .inl (fun _ => 0))), (q28, .inl (T 1, 40, .inr (.inl (fun _ => 0)))), (q36, .inl (T 1, 40, .inr (.inl (fun _ => 0)))), (q44, .inl (T 1, 40, .inr (.inl (fun _ => 0)))), (q52, .inl (T 0, 40, .inl (fun _ => 0)))] H := hP
  have hD : va_D A [(h0, .inr (0, [.ref q7, .ref q18, .ref q28, .ref q36, .ref q44, .ref q52, .null, .int 0, .int 0, .int 0, .int 0, .int 0, .long 0, .null, .null, .null])), (q7, .inl (T 3, 3, .inr (.inr (.inr (.inr (fun i => if i < 3 then some (r7 i) else none)))))), (r7 0, .inl (T 0, 4, .inl (fun _ => 0))), (r7 1, .inl (T 0, 4, .inl (fun _ => 0))), (r7 2, .inl (T 0, 4, .inl (fun _ => 0))), (q18, .inl (T 3, 3, .inr (.inr (.inr (.inr (fun i => if i < 3 then some (r18 i) else none)))))), (r18 0, .inl (T 0, 40, .inl (fun _ => 0))), (r18 1, .inl (T 0, 40, .inl (fun _ => 0))), (r18 2, .inl (T 0, 40, .inl (fun _ => 0))), (q28, .inl (T 1, 40, .inr (.inl (fun _ => 0)))), (q36, .inl (T 1, 40, .inr (.inl (fun _ => 0)))), (q44, .inl (T 1, 40, .inr (.inl (fun _ => 0)))), (q52, .inl (T 0, 40, .inl (fun _ => 0)))] := hD
  refine lv_aload_n hx hb dX0_init_57 rfl (lv_at hl 0 rfl) ?_
  refine lv_bipush (v := 40) hx hb dX0_init_58 (by decide) ?_
  refine va_newa (atype := .boolean) (ty := .boolean) (N' := 40) (a0 := (40, .inl (fun _ => 0))) hx hb (hts _ wm_29) rfl hK hP hD hS hA (fun _ => rfl) (by decide) (by decide) (Nat.le_of_ble_eq_true rfl) (Nat.le_of_ble_eq_true rfl) (Nat.le_of_ble_eq_true rfl) dX0_init_60 (fun q60 cA H hK2 hP hD hS => ?_)
  have ec : cA = T 2 := ra_same hK2 4 2 rfl rfl (fun _ _ => rfl)
  subst ec
  have hP : va_P D vwCl [(h0, .inr (0, [.ref q7, .ref q18, .ref q28, .ref q36, .ref q44, .ref q52, .null, .int 0, .int 0, .int 0, .int 0, .int 0, .long 0, .null, .null, .null])), (q7, .inl (T 3, 3, .inr (.inr (.inr (.inr (fun i => if i < 3 then some (r7 i) else none)))))), (r7 0, .inl (T 0, 4, .inl (fun _ => 0))), (r7 1, .inl (T 0, 4, .inl (fun _ => 0))), (r7 2, .inl (T 0, 4, .inl (fun _ => 0))), (q18, .inl (T 3, 3, .inr (.inr (.inr (.inr (fun i => if i < 3 then some (r18 i) else none)))))), (r18 0, .inl (T 0, 40, .inl (fun _ => 0))), (r18 1, .inl (T 0, 40, .inl (fun _ => 0))), (r18 2, .inl (T 0, 40, .inl (fun _ => 0))), (q28, .inl (T 1, 40, .inr (.inl (fun _ => 0)))), (q36, .inl (T 1, 40, .inr (.inl (fun _ => 0)))), (q44, .inl (T 1, 40, .inr (.inl (fun _ => 0)))), (q52, .inl (T 0, 40, .inl (fun _ => 0))), (q60, .inl (T 2, 40, .inl (fun _ => 0)))] H := hP
  have hD : va_D A [(h0, .inr (0, [.ref q7, .ref q18, .ref q28, .ref q36, .ref q44, .ref q52, .null, .int 0, .int 0, .int 0, .int 0, .int 0, .long 0, .null, .null, .null])), (q7, .inl (T 3, 3, .inr (.inr (.inr (.inr (fun i => if i < 3 then some (r7 i) else none)))))), (r7 0, .inl (T 0, 4, .inl (fun _ => 0))), (r7 1, .inl (T 0, 4, .inl (fun _ => 0))), (r7 2, .inl (T 0, 4, .inl (fun _ => 0))), (q18, .inl (T 3, 3, .inr (.inr (.inr (.inr (fun i => if i < 3 then some (r18 i) else none)))))), (r18 0, .inl (T 0, 40, .inl (fun _ => 0))), (r18 1, .inl (T 0, 40, .inl (fun _ => 0))), (r18 2, .inl (T 0, 40, .inl (fun _ => 0))), (q28, .inl (T 1, 40, .inr (.inl (fun _ => 0)))), (q36, .inl (T 1, 40, .inr (.inl (fun _ => 0)))), (q44, .inl (T 1, 40, .inr (.inl (fun _ => 0)))), (q52, .inl (T 0, 40, .inl (fun _ => 0))), (q60, .inl (T 2, 40, .inl (fun _ => 0)))] := hD
  refine W.widen (k := 13) (n := 338) (Nat.le_of_ble_eq_true rfl) (Nat.le_of_ble_eq_true rfl) ?_
  refine va_putF (D := D) (ci := 0) (v := .ref q60) (ty := (tyX0 6)) (C := RX0) (T := TX0) (N := 16) hx hb hts inlX0 tyX0 tyX0_ok nmX0 hown hK hP hD hS 0 rfl rfl 6 (by decide) (hts _ wm_30) (fun _ h9 => h9) rfl hin rfl (by decide +kernel) rfl rfl (Nat.le_of_ble_eq_true rfl) dX0_init_62 (fun H locs hP hD hS => ?_)
  have hP : va_P D vwCl [(h0, .inr (0, [.ref q7, .ref q18, .ref q28, .ref q36, .ref q44, .ref q52, .ref q60, .int 0, .int 0, .int 0, .int 0, .int 0, .long 0, .null, .null, .null])), (q7, .inl (T 3, 3, .inr (.inr (.inr (.inr (fun i => if i < 3 then some (r7 i) else none)))))), (r7 0, .inl (T 0, 4, .inl (fun _ => 0))), (r7 1, .inl (T 0, 4, .inl (fun _ => 0))), (r7 2, .inl (T 0, 4, .inl (fun _ => 0))), (q18, .inl (T 3, 3, .inr (.inr (.inr (.inr (fun i => if i < 3 then some (r18 i) else none)))))), (r18 0, .inl (T 0, 40, .inl (fun _ => 0))), (r18 1, .inl (T 0, 40, .inl (fun _ => 0))), (r18 2, .inl (T 0, 40, .inl (fun _ => 0))), (q28, .inl (T 1, 40, .inr (.inl (fun _ => 0)))), (q36, .inl (T 1, 40, .inr (.inl (fun _ => 0)))), (q44, .inl (T 1, 40, .inr (.inl (fun _ => 0)))), (q52, .inl (T 0, 40, .inl (fun _ => 0))), (q60, .inl (T 2, 40, .inl (fun _ => 0)))] H := hP
  have hD : va_D A [(h0, .inr (0, [.ref q7, .ref q18, .ref q28, .ref q36, .ref q44, .ref q52, .ref q60, .int 0, .int 0, .int 0, .int 0, .int 0, .long 0, .null, .null, .null])), (q7, .inl (T 3, 3, .inr (.inr (.inr (.inr (fun i => if i < 3 then some (r7 i) else none)))))), (r7 0, .inl (T 0, 4, .inl (fun _ => 0))), (r7 1, .inl (T 0, 4, .inl (fun _ => 0))), (r7 2, .inl (T 0, 4, .inl (fun _ => 0))), (q18, .inl (T 3, 3, .inr (.inr (.inr (.inr (fun i => if i < 3 then some (r18 i) else none)))))), (r18 0, .inl (T 0, 40, .inl (fun _ => 0))), (r18 1, .inl (T 0, 40, .inl (fun _ => 0))), (r18 2, .inl (T 0, 40, .inl (fun _ => 0))), (q28, .inl (T 1, 40, .inr (.inl (fun _ => 0)))), (q36, .inl (T 1, 40, .inr (.inl (fun _ => 0)))), (q44, .inl (T 1, 40, .inr (.inl (fun _ => 0)))), (q52, .inl (T 0, 40, .inl (fun _ => 0))), (q60, .inl (T 2, 40, .inl (fun _ => 0)))] := hD
  refine lv_aload_n hx hb dX0_init_65 rfl (lv_at hl 0 rfl) ?_
  refine lv_iconst (v := 0) hx hb dX0_init_66 (by decide) ?_
  refine va_put (D := D) (ci := 0) (v := .int 0) (ty := .int) (C := RX0) (T := TX0) (N := 16) hx hb hts inlX0 tyX0 tyX0_ok nmX0 hown hK hP hD hS 0 rfl rfl 7 (by decide) (hts _ wm_31) (fun _ h9 => h9) rfl (by decide +kernel) rfl rfl (Nat.le_of_ble_eq_true rfl) dX0_init_67 (fun H locs hP hD hS => ?_)
  have hP : va_P D vwCl [(h0, .inr (0, [.ref q7, .ref q18, .ref q28, .ref q36, .ref q44, .ref q52, .ref q60, .int 0, .int 0, .int 0, .int 0, .int 0, .long 0, .null, .null, .null])), (q7, .inl (T 3, 3, .inr (.inr (.inr (.inr (fun i => if i < 3 then some (r7 i) else none)))))), (r7 0, .inl (T 0, 4, .inl (fun _ => 0))), (r7 1, .inl (T 0, 4, .inl (fun _ => 0))), (r7 2, .inl (T 0, 4, .inl (fun _ => 0))), (q18, .inl (T 3, 3, .inr (.inr (.inr (.inr (fun i => if i < 3 then some (r18 i) else none)))))), (r18 0, .inl (T 0, 40, .inl (fun _ => 0))), (r18 1, .inl (T 0, 40, .inl (fun _ => 0))), (r18 2, .inl (T 0, 40, .inl (fun _ => 0))), (q28, .inl (T 1, 40, .inr (.inl (fun _ => 0)))), (q36, .inl (T 1, 40, .inr (.inl (fun _ => 0)))), (q44, .inl (T 1, 40, .inr (.inl (fun _ => 0)))), (q52, .inl (T 0, 40, .inl (fun _ => 0))), (q60, .inl (T 2, 40, .inl (fun _ => 0)))] H := hP
  have hD : va_D A [(h0, .inr (0, [.ref q7, .ref q18, .ref q28, .ref q36, .ref q44, .ref q52, .ref q60, .int 0, .int 0, .int 0, .int 0, .int 0, .long 0, .null, .null, .null])), (q7, .inl (T 3, 3, .inr (.inr (.inr (.inr (fun i => if i < 3 then some (r7 i) else none)))))), (r7 0, .inl (T 0, 4, .inl (fun _ => 0))), (r7 1, .inl (T 0, 4, .inl (fun _ => 0))), (r7 2, .inl (T 0, 4, .inl (fun _ => 0))), (q18, .inl (T 3, 3, .inr (.inr (.inr (.inr (fun i => if i < 3 then some (r18 i) else none)))))), (r18 0, .inl (T 0, 40, .inl (fun _ => 0))), (r18 1, .inl (T 0, 40, .inl (fun _ => 0))), (r18 2, .inl (T 0, 40, .inl (fun _ => 0))), (q28, .inl (T 1, 40, .inr (.inl (fun _ => 0)))), (q36, .inl (T 1, 40, .inr (.inl (fun _ => 0)))), (q44, .inl (T 1, 40, .inr (.inl (fun _ => 0)))), (q52, .inl (T 0, 40, .inl (fun _ => 0))), (q60, .inl (T 2, 40, .inl (fun _ => 0)))] := hD
  refine lv_aload_n hx hb dX0_init_70 rfl (lv_at hl 0 rfl) ?_
  refine lv_iconst (v := 0) hx hb dX0_init_71 (by decide) ?_
  refine va_put (D := D) (ci := 0) (v := .int 0) (ty := .int) (C := RX0) (T := TX0) (N := 16) hx hb hts inlX0 tyX0 tyX0_ok nmX0 hown hK hP hD hS 0 rfl rfl 8 (by decide) (hts _ wm_32) (fun _ h9 => h9) rfl (by decide +kernel) rfl rfl (Nat.le_of_ble_eq_true rfl) dX0_init_72 (fun H locs hP hD hS => ?_)
  have hP : va_P D vwCl [(h0, .inr (0, [.ref q7, .ref q18, .ref q28, .ref q36, .ref q44, .ref q52, .ref q60, .int 0, .int 0, .int 0, .int 0, .int 0, .long 0, .null, .null, .null])), (q7, .inl (T 3, 3, .inr (.inr (.inr (.inr (fun i => if i < 3 then some (r7 i) else none)))))), (r7 0, .inl (T 0, 4, .inl (fun _ => 0))), (r7 1, .inl (T 0, 4, .inl (fun _ => 0))), (r7 2, .inl (T 0, 4, .inl (fun _ => 0))), (q18, .inl (T 3, 3, .inr (.inr (.inr (.inr (fun i => if i < 3 then some (r18 i) else none)))))), (r18 0, .inl (T 0, 40, .inl (fun _ => 0))), (r18 1, .inl (T 0, 40, .inl (fun _ => 0))), (r18 2, .inl (T 0, 40, .inl (fun _ => 0))), (q28, .inl (T 1, 40, .inr (.inl (fun _ => 0)))), (q36, .inl (T 1, 40, .inr (.inl (fun _ => 0)))), (q44, .inl (T 1, 40, .inr (.inl (fun _ => 0)))), (q52, .inl (T 0, 40, .inl (fun _ => 0))), (q60, .inl (T 2, 40, .inl (fun _ => 0)))] H := hP
  have hD : va_D A [(h0, .inr (0, [.ref q7, .ref q18, .ref q28, .ref q36, .ref q44, .ref q52, .ref q60, .int 0, .int 0, .int 0, .int 0, .int 0, .long 0, .null, .null, .null])), (q7, .inl (T 3, 3, .inr (.inr (.inr (.inr (fun i => if i < 3 then some (r7 i) else none)))))), (r7 0, .inl (T 0, 4, .inl (fun _ => 0))), (r7 1, .inl (T 0, 4, .inl (fun _ => 0))), (r7 2, .inl (T 0, 4, .inl (fun _ => 0))), (q18, .inl (T 3, 3, .inr (.inr (.inr (.inr (fun i => if i < 3 then some (r18 i) else none)))))), (r18 0, .inl (T 0, 40, .inl (fun _ => 0))), (r18 1, .inl (T 0, 40, .inl (fun _ => 0))), (r18 2, .inl (T 0, 40, .inl (fun _ => 0))), (q28, .inl (T 1, 40, .inr (.inl (fun _ => 0)))), (q36, .inl (T 1, 40, .inr (.inl (fun _ => 0)))), (q44, .inl (T 1, 40, .inr (.inl (fun _ => 0)))), (q52, .inl (T 0, 40, .inl (fun _ => 0))), (q60, .inl (T 2, 40, .inl (fun _ => 0)))] := hD
  refine lv_aload_n hx hb dX0_init_75 rfl (lv_at hl 0 rfl) ?_
  refine lv_iconst (v := 0) hx hb dX0_init_76 (by decide) ?_
  refine va_put (D := D) (ci := 0) (v := .int 0) (ty := .int) (C := RX0) (T := TX0) (N := 16) hx hb hts inlX0 tyX0 tyX0_ok nmX0 hown hK hP hD hS 0 rfl rfl 9 (by decide) (hts _ wm_33) (fun _ h9 => h9) rfl (by decide +kernel) rfl rfl (Nat.le_of_ble_eq_true rfl) dX0_init_77 (fun H locs hP hD hS => ?_)
  have hP : va_P D vwCl [(h0, .inr (0, [.ref q7, .ref q18, .ref q28, .ref q36, .ref q44, .ref q52, .ref q60, .int 0, .int 0, .int 0, .int 0, .int 0, .long 0, .null, .null, .null])), (q7, .inl (T 3, 3, .inr (.inr (.inr (.inr (fun i => if i < 3 then some (r7 i) else none)))))), (r7 0, .inl (T 0, 4, .inl (fun _ => 0))), (r7 1, .inl (T 0, 4, .inl (fun _ => 0))), (r7 2, .inl (T 0, 4, .inl (fun _ => 0))), (q18, .inl (T 3, 3, .inr (.inr (.inr (.inr (fun i => if i < 3 then some (r18 i) else none)))))), (r18 0, .inl (T 0, 40, .inl (fun _ => 0))), (r18 1, .inl (T 0, 40, .inl (fun _ => 0))), (r18 2, .inl (T 0, 40, .inl (fun _ => 0))), (q28, .inl (T 1, 40, .inr (.inl (fun _ => 0)))), (q36, .inl (T 1, 40, .inr (.inl (fun _ => 0)))), (q44, .inl (T 1, 40, .inr (.inl (fun _ => 0)))), (q52, .inl (T 0, 40, .inl (fun _ => 0))), (q60, .inl (T 2, 40, .inl (fun _ => 0)))] H := hP
  have hD : va_D A [(h0, .inr (0, [.ref q7, .ref q18, .ref q28, .ref q36, .ref q44, .ref q52, .ref q60, .int 0, .int 0, .int 0, .int 0, .int 0, .long 0, .null, .null, .null])), (q7, .inl (T 3, 3, .inr (.inr (.inr (.inr (fun i => if i < 3 then some (r7 i) else none)))))), (r7 0, .inl (T 0, 4, .inl (fun _ => 0))), (r7 1, .inl (T 0, 4, .inl (fun _ => 0))), (r7 2, .inl (T 0, 4, .inl (fun _ => 0))), (q18, .inl (T 3, 3, .inr (.inr (.inr (.inr (fun i => if i < 3 then some (r18 i) else none)))))), (r18 0, .inl (T 0, 40, .inl (fun _ => 0))), (r18 1, .inl (T 0, 40, .inl (fun _ => 0))), (r18 2, .inl (T 0, 40, .inl (fun _ => 0))), (q28, .inl (T 1, 40, .inr (.inl (fun _ => 0)))), (q36, .inl (T 1, 40, .inr (.inl (fun _ => 0)))), (q44, .inl (T 1, 40, .inr (.inl (fun _ => 0)))), (q52, .inl (T 0, 40, .inl (fun _ => 0))), (q60, .inl (T 2, 40, .inl (fun _ => 0)))] := hD
  refine lv_aload_n hx hb dX0_init_80 rfl (lv_at hl 0 rfl) ?_
  refine lv_iconst (v := (-1)) hx hb dX0_init_81 (by decide) ?_
  refine va_put (D := D) (ci := 0) (v := .int (-1)) (ty := .int) (C := RX0) (T := TX0) (N := 16) hx hb hts inlX0 tyX0 tyX0_ok nmX0 hown hK hP hD hS 0 rfl rfl 10 (by decide) (hts _ wm_34) (fun _ h9 => h9) rfl (by decide +kernel) rfl rfl (Nat.le_of_ble_eq_true rfl) dX0_init_82 (fun H locs hP hD hS => ?_)
  have hP : va_P D vwCl [(h0, .inr (0, [.ref q7, .ref q18, .ref q28, .ref q36, .ref q44, .ref q52, .ref q60, .int 0, .int 0, .int 0, .int (-1), .int 0, .long 0, .null, .null, .null])), (q7, .inl (T 3, 3, .inr (.inr (.inr (.inr (fun i => if i < 3 then some (r7 i) else none)))))), (r7 0, .inl (T 0, 4, .inl (fun _ => 0))), (r7 1, .inl (T 0, 4, .inl (fun _ => 0))), (r7 2, .inl (T 0, 4, .inl (fun _ => 0))), (q18, .inl (T 3, 3, .inr (.inr (.inr (.inr (fun i => if i < 3 then some (r18 i) else none)))))), (r18 0, .inl (T 0, 40, .inl (fun _ => 0))), (r18 1, .inl (T 0, 40, .inl (fun _ => 0))), (r18 2, .inl (T 0, 40, .inl (fun _ => 0))), (q28, .inl (T 1, 40, .inr (.inl (fun _ => 0)))), (q36, .inl (T 1, 40, .inr (.inl (fun _ => 0)))), (q44, .inl (T 1, 40, .inr (.inl (fun _ => 0)))), (q52, .inl (T 0, 40, .inl (fun _ => 0))), (q60, .inl (T 2, 40, .inl (fun _ => 0)))] H := hP
  have hD : va_D A [(h0, .inr (0, [.ref q7, .ref q18, .ref q28, .ref q36, .ref q44, .ref q52, .ref q60, .int 0, .int 0, .int 0, .int (-1), .int 0, .long 0, .null, .null, .null])), (q7, .inl (T 3, 3, .inr (.inr (.inr (.inr (fun i => if i < 3 then some (r7 i) else none)))))), (r7 0, .inl (T 0, 4, .inl (fun _ => 0))), (r7 1, .inl (T 0, 4, .inl (fun _ => 0))), (r7 2, .inl (T 0, 4, .inl (fun _ => 0))), (q18, .inl (T 3, 3, .inr (.inr (.inr (.inr (fun i => if i < 3 then some (r18 i) else none)))))), (r18 0, .inl (T 0, 40, .inl (fun _ => 0))), (r18 1, .inl (T 0, 40, .inl (fun _ => 0))), (r18 2, .inl (T 0, 40, .inl (fun _ => 0))), (q28, .inl (T 1, 40, .inr (.inl (fun _ => 0)))), (q36, .inl (T 1, 40, .inr (.inl (fun _ => 0)))), (q44, .inl (T 1, 40, .inr (.inl (fun _ => 0)))), (q52, .inl (T 0, 40, .inl (fun _ => 0))), (q60, .inl (T 2, 40, .inl (fun _ => 0)))] := hD
  refine lv_aload_n hx hb dX0_init_85 rfl (lv_at hl 0 rfl) ?_
  refine lv_sipush (v := 10000) hx hb dX0_init_86 (by decide) ?_
  refine va_put (D := D) (ci := 0) (v := .int 10000) (ty := .int) (C := RX0) (T := TX0) (N := 16) hx hb hts inlX0 tyX0 tyX0_ok nmX0 hown hK hP hD hS 0 rfl rfl 11 (by decide) (hts _ wm_35) (fun _ h9 => h9) rfl (by decide +kernel) rfl rfl (Nat.le_of_ble_eq_true rfl) dX0_init_89 (fun H locs hP hD hS => ?_)
  have hP : va_P D vwCl [(h0, .inr (0, [.ref q7, .ref q18, .ref q28, .ref q36, .ref q44, .ref q52, .ref q60, .int 0, .int 0, .int 0, .int (-1), .int 10000, .long 0, .null, .null, .null])), (q7, .inl (T 3, 3, .inr (.inr (.inr (.inr (fun i => if i < 3 then some (r7 i) else none)))))), (r7 0, .inl (T 0, 4, .inl (fun _ => 0))), (r7 1, .inl (T 0, 4, .inl (fun _ => 0))), (r7 2, .inl (T 0, 4, .inl (fun _ => 0))), (q18, .inl (T 3, 3, .inr (.inr (.inr (.inr (fun i => if i < 3 then some (r18 i) else none)))))), (r18 0, .inl (T 0, 40, .inl (fun _ => 0))), (r18 1, .inl (T 0, 40, .inl (fun _ => 0))), (r18 2, .inl (T 0, 40, .inl (fun _ => 0))), (q28, .inl (T 1, 40, .inr (.inl (fun _ => 0)))), (q36, .inl (T 1, 40, .inr (.inl (fun _ => 0)))), (q44, .inl (T 1, 40, .inr (.inl (fun _ => 0)))), (q52, .inl (T 0, 40, .inl (fun _ => 0))), (q60, .inl (T 2, 40, .inl (fun _ => 0)))] H := hP
  have hD : va_D A [(h0, .inr (0, [.ref q7, .ref q18, .ref q28, .ref q36, .ref q44, .ref q52, .ref q60, .int 0, .int 0, .int 0, .int (-1), .int 10000, .long 0, .null, .null, .null])), (q7, .inl (T 3, 3, .inr (.inr (.inr (.inr (fun i => if i < 3 then some (r7 i) else none)))))), (r7 0, .inl (T 0, 4, .inl (fun _ => 0))), (r7 1, .inl (T 0, 4, .inl (fun _ => 0))), (r7 2, .inl (T 0, 4, .inl (fun _ => 0))), (q18, .inl (T 3, 3, .inr (.inr (.inr (.inr (fun i => if i < 3 then some (r18 i) else none)))))), (r18 0, .inl (T 0, 40, .inl (fun _ => 0))), (r18 1, .inl (T 0, 40, .inl (fun _ => 0))), (r18 2, .inl (T 0, 40, .inl (fun _ => 0))), (q28, .inl (T 1, 40, .inr (.inl (fun _ => 0)))), (q36, .inl (T 1, 40, .inr (.inl (fun _ => 0)))), (q44, .inl (T 1, 40, .inr (.inl (fun _ => 0)))), (q52, .inl (T 0, 40, .inl (fun _ => 0))), (q60, .inl (T 2, 40, .inl (fun _ => 0)))] := hD
  refine lv_aload_n hx hb dX0_init_92 rfl (lv_at hl 0 rfl) ?_
  refine lv_lconst (v := 0) hx hb dX0_init_93 (by decide) ?_
  refine va_put (D := D) (ci := 0) (v := .long 0) (ty := .long) (C := RX0) (T := TX0) (N := 16) hx hb hts inlX0 tyX0 tyX0_ok nmX0 hown hK hP hD hS 0 rfl rfl 12 (by decide) (hts _ wm_36) (fun _ h9 => h9) rfl (by decide +kernel) rfl rfl (Nat.le_of_ble_eq_true rfl) dX0_init_94 (fun H locs hP hD hS => ?_)
  have hP : va_P D vwCl [(h0, .inr (0, [.ref q7, .ref q18, .ref q28, .ref q36, .ref q44, .ref q52, .ref q60, .int 0, .int 0, .int 0, .int (-1), .int 10000, .long 0, .null, .null, .null])), (q7, .inl (T 3, 3, .inr (.inr (.inr (.inr (fun i => if i < 3 then some (r7 i) else none)))))), (r7 0, .inl (T 0, 4, .inl (fun _ => 0))), (r7 1, .inl (T 0, 4, .inl (fun _ => 0))), (r7 2, .inl (T 0, 4, .inl (fun _ => 0))), (q18, .inl (T 3, 3, .inr (.inr (.inr (.inr (fun i => if i < 3 then some (r18 i) else none)))))), (r18 0, .inl (T 0, 40, .inl (fun _ => 0))), (r18 1, .inl (T 0, 40, .inl (fun _ => 0))), (r18 2, .inl (T 0, 40, .inl (fun _ => 0))), (q28, .inl (T 1, 40, .inr (.inl (fun _ => 0)))), (q36, .inl (T 1, 40, .inr (.inl (fun _ => 0)))), (q44, .inl (T 1, 40, .inr (.inl (fun _ => 0)))), (q52, .inl (T 0, 40, .inl (fun _ => 0))), (q60, .inl (T 2, 40, .inl (fun _ => 0)))] H := hP
  have hD : va_D A [(h0, .inr (0, [.ref q7, .ref q18, .ref q28, .ref q36, .ref q44, .ref q52, .ref q60, .int 0, .int 0, .int 0, .int (-1), .int 10000, .long 0, .null, .null, .null])), (q7, .inl (T 3, 3, .inr (.inr (.inr (.inr (fun i => if i < 3 then some (r7 i) else none)))))), (r7 0, .inl (T 0, 4, .inl (fun _ => 0))), (r7 1, .inl (T 0, 4, .inl (fun _ => 0))), (r7 2, .inl (T 0, 4, .inl (fun _ => 0))), (q18, .inl (T 3, 3, .inr (.inr (.inr (.inr (fun i => if i < 3 then some (r18 i) else none)))))), (r18 0, .inl (T 0, 40, .inl (fun _ => 0))), (r18 1, .inl (T 0, 40, .inl (fun _ => 0))), (r18 2, .inl (T 0, 40, .inl (fun _ => 0))), (q28, .inl (T 1, 40, .inr (.inl (fun _ => 0)))), (q36, .inl (T 1, 40, .inr (.inl (fun _ => 0)))), (q44, .inl (T 1, 40, .inr (.inl (fun _ => 0)))), (q52, .inl (T 0, 40, .inl (fun _ => 0))), (q60, .inl (T 2, 40, .inl (fun _ => 0)))] := hD
  refine lv_aload_n hx hb dX0_init_97 rfl (lv_at hl 0 rfl) ?_
  refine lv_bipush (v := 40) hx hb dX0_init_98 (by decide) ?_
  refine va_newa (atype := .long) (ty := .long) (N' := 40) (a0 := (40, .inr (.inl (fun _ => 0)))) hx hb (hts _ wm_24) rfl hK hP hD hS hA (fun _ => rfl) (by decide) (by decide) (Nat.le_of_ble_eq_true rfl) (Nat.le_of_ble_eq_true rfl) (Nat.le_of_ble_eq_true rfl) dX0_init_100 (fun q100 cA H hK2 hP hD hS => ?_)
  have ec : cA = T 1 := ra_same hK2 4 1 rfl rfl (fun _ _ => rfl)
  subst ec
  have hP : va_P D vwCl [(h0, .inr (0, [.ref q7, .ref q18, .ref q28, .ref q36, .ref q44, .ref q52, .ref q60, .int 0, .int 0, .int 0, .int (-1), .int 10000, .long 0, .null, .null, .null])), (q7, .inl (T 3, 3, .inr (.inr (.inr (.inr (fun i => if i < 3 then some (r7 i) else none)))))), (r7 0, .inl (T 0, 4, .inl (fun _ => 0))), (r7 1, .inl (T 0, 4, .inl (fun _ => 0))), (r7 2, .inl (T 0, 4, .inl (fun _ => 0))), (q18, .inl (T 3, 3, .inr (.inr (.inr (.inr (fun i => if i < 3 then some (r18 i) else none)))))), (r18 0, .inl (T 0, 40, .inl (fun _ => 0))), (r18 1, .inl (T 0, 40, .inl (fun _ => 0))), (r18 2, .inl (T 0, 40, .inl (fun _ => 0))), (q28, .inl (T 1, 40, .inr (.inl (fun _ => 0)))), (q36, .inl (T 1, 40, .inr (.inl (fun _ => 0)))), (q44, .inl (T 1, 40, .inr (.inl (fun _ => 0)))), (q52, .inl (T 0, 40, .inl (fun _ => 0))), (q60, .inl (T 2, 40, .inl (fun _ => 0))), (q100, .inl (T 1, 40, .inr (.inl (fun _ => 0))))] H := hP
  have hD : va_D A [(h0, .inr (0, [.ref q7, .ref q18, .ref q28, .ref q36, .ref q44, .ref q52, .ref q60, .int 0, .int 0, .int 0, .int (-1), .int 10000, .long 0, .null, .null, .null])), (q7, .inl (T 3, 3, .inr (.inr (.inr (.inr (fun i => if i < 3 then some (r7 i) else none)))))), (r7 0, .inl (T 0, 4, .inl (fun _ => 0))), (r7 1, .inl (T 0, 4, .inl (fun _ => 0))), (r7 2, .inl (T 0, 4, .inl (fun _ => 0))), (q18, .inl (T 3, 3, .inr (.inr (.inr (.inr (fun i => if i < 3 then some (r18 i) else none)))))), (r18 0, .inl (T 0, 40, .inl (fun _ => 0))), (r18 1, .inl (T 0, 40, .inl (fun _ => 0))), (r18 2, .inl (T 0, 40, .inl (fun _ => 0))), (q28, .inl (T 1, 40, .inr (.inl (fun _ => 0)))), (q36, .inl (T 1, 40, .inr (.inl (fun _ => 0)))), (q44, .inl (T 1, 40, .inr (.inl (fun _ => 0)))), (q52, .inl (T 0, 40, .inl (fun _ => 0))), (q60, .inl (T 2, 40, .inl (fun _ => 0))), (q100, .inl (T 1, 40, .inr (.inl (fun _ => 0))))] := hD
  refine W.widen (k := 14) (n := 378) (Nat.le_of_ble_eq_true rfl) (Nat.le_of_ble_eq_true rfl) ?_
  refine va_putF (D := D) (ci := 0) (v := .ref q100) (ty := (tyX0 13)) (C := RX0) (T := TX0) (N := 16) hx hb hts inlX0 tyX0 tyX0_ok nmX0 hown hK hP hD hS 0 rfl rfl 13 (by decide) (hts _ wm_37) (fun _ h9 => h9) rfl hin rfl (by decide +kernel) rfl rfl (Nat.le_of_ble_eq_true rfl) dX0_init_102 (fun H locs hP hD hS => ?_)
  have hP : va_P D vwCl [(h0, .inr (0, [.ref q7, .ref q18, .ref q28, .ref q36, .ref q44, .ref q52, .ref q60, .int 0, .int 0, .int 0, .int (-1), .int 10000, .long 0, .ref q100, .null, .null])), (q7, .inl (T 3, 3, .inr (.inr (.inr (.inr (fun i => if i < 3 then some (r7 i) else none)))))), (r7 0, .inl (T 0, 4, .inl (fun _ => 0))), (r7 1, .inl (T 0, 4, .inl (fun _ => 0))), (r7 2, .inl (T 0, 4, .inl (fun _ => 0))), (q18, .inl (T 3, 3, .inr (.inr (.inr (.inr (fun i => if i < 3 then some (r18 i) else none)))))), (r18 0, .inl (T 0, 40, .inl (fun _ => 0))), (r18 1, .inl (T 0, 40, .inl (fun _ => 0))), (r18 2, .inl (T 0, 40, .inl (fun _ => 0))), (q28, .inl (T 1, 40, .inr (.inl (fun _ => 0)))), (q36, .inl (T 1, 40, .inr (.inl (fun _ => 0)))), (q44, .inl (T 1, 40, .inr (.inl (fun _ => 0)))), (q52, .inl (T 0, 40, .inl (fun _ => 0))), (q60, .inl (T 2, 40, .inl (fun _ => 0))), (q100, .inl (T 1, 40, .inr (.inl (fun _ => 0))))] H := hP
  have hD : va_D A [(h0, .inr (0, [.ref q7, .ref q18, .ref q28, .ref q36, .ref q44, .ref q52, .ref q60, .int 0, .int 0, .int 0, .int (-1), .int 10000, .long 0, .ref q100, .null, .null])), (q7, .inl (T 3, 3, .inr (.inr (.inr (.inr (fun i => if i < 3 then some (r7 i) else none)))))), (r7 0, .inl (T 0, 4, .inl (fun _ => 0))), (r7 1, .inl (T 0, 4, .inl (fun _ => 0))), (r7 2, .inl (T 0, 4, .inl (fun _ => 0))), (q18, .inl (T 3, 3, .inr (.inr (.inr (.inr (fun i => if i < 3 then some (r18 i) else none)))))), (r18 0, .inl (T 0, 40, .inl (fun _ => 0))), (r18 1, .inl (T 0, 40, .inl (fun _ => 0))), (r18 2, .inl (T 0, 40, .inl (fun _ => 0))), (q28, .inl (T 1, 40, .inr (.inl (fun _ => 0)))), (q36, .inl (T 1, 40, .inr (.inl (fun _ => 0)))), (q44, .inl (T 1, 40, .inr (.inl (fun _ => 0)))), (q52, .inl (T 0, 40, .inl (fun _ => 0))), (q60, .inl (T 2, 40, .inl (fun _ => 0))), (q100, .inl (T 1, 40, .inr (.inl (fun _ => 0))))] := hD
  refine lv_aload_n hx hb dX0_init_105 rfl (lv_at hl 0 rfl) ?_
  refine lv_iconst (v := 4) hx hb dX0_init_106 (by decide) ?_
  refine va_newa (atype := .int) (ty := .int) (N' := 4) (a0 := (4, .inl (fun _ => 0))) hx hb (hts _ wm_13) rfl hK hP hD hS hA (fun _ => rfl) (by decide) (by decide) (Nat.le_of_ble_eq_true rfl) (Nat.le_of_ble_eq_true rfl) (Nat.le_of_ble_eq_true rfl) dX0_init_107 (fun q107 cA H hK2 hP hD hS => ?_)
  have ec : cA = T 0 := ra_same hK2 4 0 rfl rfl (fun _ _ => rfl)
  subst ec
  have hP : va_P D vwCl [(h0, .inr (0, [.ref q7, .ref q18, .ref q28, .ref q36, .ref q44, .ref q52, .ref q60, .int 0, .int 0, .int 0, .int (-1), .int 10000, .long 0, .ref q100, .null, .null])), (q7, .inl (T 3, 3, .inr (.inr (.inr (.inr (fun i => if i < 3 then some (r7 i) else none)))))), (r7 0, .inl (T 0, 4, .inl (fun _ => 0))), (r7 1, .inl (T 0, 4, .inl (fun _ => 0))), (r7 2, .inl (T 0, 4, .inl (fun _ => 0))), (q18, .inl (T 3, 3, .inr (.inr (.inr (.inr (fun i => if i < 3 then some (r18 i) else none)))))), (r18 0, .inl (T 0, 40, .inl (fun _ => 0))), (r18 1, .inl (T 0, 40, .inl (fun _ => 0))), (r18 2, .inl (T 0, 40, .inl (fun _ => 0))), (q28, .inl (T 1, 40, .inr (.inl (fun _ => 0)))), (q36, .inl (T 1, 40, .inr (.inl (fun _ => 0)))), (q44, .inl (T 1, 40, .inr (.inl (fun _ => 0)))), (q52, .inl (T 0, 40, .inl (fun _ => 0))), (q60, .inl (T 2, 40, .inl (fun _ => 0))), (q100, .inl (T 1, 40, .inr (.inl (fun _ => 0)))), (q107, .inl (T 0, 4, .inl (fun _ => 0)))] H := hP
  have hD : va_D A [(h0, .inr (0, [.ref q7, .ref q18, .ref q28, .ref q36, .ref q44, .ref q52, .ref q60, .int 0, .int 0, .int 0, .int (-1), .int 10000, .long 0, .ref q100, .null, .null])), (q7, .inl (T 3, 3, .inr (.inr (.inr (.inr (fun i => if i < 3 then some (r7 i) else none)))))), (r7 0, .inl (T 0, 4, .inl (fun _ => 0))), (r7 1, .inl (T 0, 4, .inl (fun _ => 0))), (r7 2, .inl (T 0, 4, .inl (fun _ => 0))), (q18, .inl (T 3, 3, .inr (.inr (.inr (.inr (fun i => if i < 3 then some (r18 i) else none)))))), (r18 0, .inl (T 0, 40, .inl (fun _ => 0))), (r18 1, .inl (T 0, 40, .inl (fun _ => 0))), (r18 2, .inl (T 0, 40, .inl (fun _ => 0))), (q28, .inl (T 1, 40, .inr (.inl (fun _ => 0)))), (q36, .inl (T 1, 40, .inr (.inl (fun _ => 0)))), (q44, .inl (T 1, 40, .inr (.inl (fun _ => 0)))), (q52, .inl (T 0, 40, .inl (fun _ => 0))), (q60, .inl (T 2, 40, .inl (fun _ => 0))), (q100, .inl (T 1, 40, .inr (.inl (fun _ => 0)))), (q107, .inl (T 0, 4, .inl (fun _ => 0)))] := hD
  refine W.widen (k := 15) (n := 382) (Nat.le_of_ble_eq_true rfl) (Nat.le_of_ble_eq_true rfl) ?_
  refine va_putF (D := D) (ci := 0) (v := .ref q107) (ty := (tyX0 14)) (C := RX0) (T := TX0) (N := 16) hx hb hts inlX0 tyX0 tyX0_ok nmX0 hown hK hP hD hS 0 rfl rfl 14 (by decide) (hts _ wm_38) (fun _ h9 => h9) rfl hin rfl (by decide +kernel) rfl rfl (Nat.le_of_ble_eq_true rfl) dX0_init_109 (fun H locs hP hD hS => ?_)
  have hP : va_P D vwCl [(h0, .inr (0, [.ref q7, .ref q18, .ref q28, .ref q36, .ref q44, .ref q52, .ref q60, .int 0, .int 0, .int 0, .int (-1), .int 10000, .long 0, .ref q100, .ref q107, .null])), (q7, .inl (T 3, 3, .inr (.inr (.inr (.inr (fun i => if i < 3 then some (r7 i) else none)))))), (r7 0, .inl (T 0, 4, .inl (fun _ => 0))), (r7 1, .inl (T 0, 4, .inl (fun _ => 0))), (r7 2, .inl (T 0, 4, .inl (fun _ => 0))), (q18, .inl (T 3, 3, .inr (.inr (.inr (.inr (fun i => if i < 3 then some (r18 i) else none)))))), (r18 0, .inl (T 0, 40, .inl (fun _ => 0))), (r18 1, .inl (T 0, 40, .inl (fun _ => 0))), (r18 2, .inl (T 0, 40, .inl (fun _ => 0))), (q28, .inl (T 1, 40, .inr (.inl (fun _ => 0)))), (q36, .inl (T 1, 40, .inr (.inl (fun _ => 0)))), (q44, .inl (T 1, 40, .inr (.inl (fun _ => 0)))), (q52, .inl (T 0, 40, .inl (fun _ => 0))), (q60, .inl (T 2, 40, .inl (fun _ => 0))), (q100, .inl (T 1, 40, .inr (.inl (fun _ => 0)))), (q107, .inl (T 0, 4, .inl (fun _ => 0)))] H := hP
  have hD : va_D A [(h0, .inr (0, [.ref q7, .ref q18, .ref q28, .ref q36, .ref q44, .ref q52, .ref q60, .int 0, .int 0, .int 0, .int (-1), .int 10000, .long 0, .ref q100, .ref q107, .null])), (q7, .inl (T 3, 3, .inr (.inr (.inr (.inr (fun i => if i < 3 then some (r7 i) else none)))))), (r7 0, .inl (T 0, 4, .inl (fun _ => 0))), (r7 1, .inl (T 0, 4, .inl (fun _ => 0))), (r7 2, .inl (T 0, 4, .inl (fun _ => 0))), (q18, .inl (T 3, 3, .inr (.inr (.inr (.inr (fun i => if i < 3 then some (r18 i) else none)))))), (r18 0, .inl (T 0, 40, .inl (fun _ => 0))), (r18 1, .inl (T 0, 40, .inl (fun _ => 0))), (r18 2, .inl (T 0, 40, .inl (fun _ => 0))), (q28, .inl (T 1, 40, .inr (.inl (fun _ => 0)))), (q36, .inl (T 1, 40, .inr (.inl (fun _ => 0)))), (q44, .inl (T 1, 40, .inr (.inl (fun _ => 0)))), (q52, .inl (T 0, 40, .inl (fun _ => 0))), (q60, .inl (T 2, 40, .inl (fun _ => 0))), (q100, .inl (T 1, 40, .inr (.inl (fun _ => 0)))), (q107, .inl (T 0, 4, .inl (fun _ => 0)))] := hD
  refine lv_aload_n hx hb dX0_init_112 rfl (lv_at hl 0 rfl) ?_
  refine lv_iconst (v := 4) hx hb dX0_init_113 (by decide) ?_
  refine va_newa (atype := .int) (ty := .int) (N' := 4) (a0 := (4, .inl (fun _ => 0))) hx hb (hts _ wm_13) rfl hK hP hD hS hA (fun _ => rfl) (by decide) (by decide) (Nat.le_of_ble_eq_true rfl) (Nat.le_of_ble_eq_true rfl) (Nat.le_of_ble_eq_true rfl) dX0_init_114 (fun q114 cA H hK2 hP hD hS => ?_)
  have ec : cA = T 0 := ra_same hK2 4 0 rfl rfl (fun _ _ => rfl)
  subst ec
  have hP : va_P D vwCl [(h0, .inr (0, [.ref q7, .ref q18, .ref q28, .ref q36, .ref q44, .ref q52, .ref q60, .int 0, .int 0, .int 0, .int (-1), .int 10000, .long 0, .ref q100, .ref q107, .null])), (q7, .inl (T 3, 3, .inr (.inr (.inr (.inr (fun i => if i < 3 then some (r7 i) else none)))))), (r7 0, .inl (T 0, 4, .inl (fun _ => 0))), (r7 1, .inl (T 0, 4, .inl (fun _ => 0))), (r7 2, .inl (T 0, 4, .inl (fun _ => 0))), (q18, .inl (T 3, 3, .inr (.inr (.inr (.inr (fun i => if i < 3 then some (r18 i) else none)))))), (r18 0, .inl (T 0, 40, .inl (fun _ => 0))), (r18 1, .inl (T 0, 40, .inl (fun _ => 0))), (r18 2, .inl (T 0, 40, .inl (fun _ => 0))), (q28, .inl (T 1, 40, .inr (.inl (fun _ => 0)))), (q36, .inl (T 1, 40, .inr (.inl (fun _ => 0)))), (q44, .inl (T 1, 40, .inr (.inl (fun _ => 0)))), (q52, .inl (T 0, 40, .inl (fun _ => 0))), (q60, .inl (T 2, 40, .inl (fun _ => 0))), (q100, .inl (T 1, 40, .inr (.inl (fun _ => 0)))), (q107, .inl (T 0, 4, .inl (fun _ => 0))), (q114, .inl (T 0, 4, .inl (fun _ => 0)))] H := hP
  have hD : va_D A [(h0, .inr (0, [.ref q7, .ref q18, .ref q28, .ref q36, .ref q44, .ref q52, .ref q60, .int 0, .int 0, .int 0, .int (-1), .int 10000, .long 0, .ref q100, .ref q107, .null])), (q7, .inl (T 3, 3, .inr (.inr (.inr (.inr (fun i => if i < 3 then some (r7 i) else none)))))), (r7 0, .inl (T 0, 4, .inl (fun _ => 0))), (r7 1, .inl (T 0, 4, .inl (fun _ => 0))), (r7 2, .inl (T 0, 4, .inl (fun _ => 0))), (q18, .inl (T 3, 3, .inr (.inr (.inr (.inr (fun i => if i < 3 then some (r18 i) else none)))))), (r18 0, .inl (T 0, 40, .inl (fun _ => 0))), (r18 1, .inl (T 0, 40, .inl (fun _ => 0))), (r18 2, .inl (T 0, 40, .inl (fun _ => 0))), (q28, .inl (T 1, 40, .inr (.inl (fun _ => 0)))), (q36, .inl (T 1, 40, .inr (.inl (fun _ => 0)))), (q44, .inl (T 1, 40, .inr (.inl (fun _ => 0)))), (q52, .inl (T 0, 40, .inl (fun _ => 0))), (q60, .inl (T 2, 40, .inl (fun _ => 0))), (q100, .inl (T 1, 40, .inr (.inl (fun _ => 0)))), (q107, .inl (T 0, 4, .inl (fun _ => 0))), (q114, .inl (T 0, 4, .inl (fun _ => 0)))] := hD
  refine W.widen (k := 16) (n := 386) (Nat.le_of_ble_eq_true rfl) (Nat.le_of_ble_eq_true rfl) ?_
  refine va_putF (D := D) (ci := 0) (v := .ref q114) (ty := (tyX0 15)) (C := RX0) (T := TX0) (N := 16) hx hb hts inlX0 tyX0 tyX0_ok nmX0 hown hK hP hD hS 0 rfl rfl 15 (by decide) (hts _ wm_39) (fun _ h9 => h9) rfl hin rfl (by decide +kernel) rfl rfl (Nat.le_of_ble_eq_true rfl) dX0_init_116 (fun H locs hP hD hS => ?_)
  have hP : va_P D vwCl [(h0, .inr (0, [.ref q7, .ref q18, .ref q28, .ref q36, .ref q44, .ref q52, .ref q60, .int 0, .int 0, .int 0, .int (-1), .int 10000, .long 0, .ref q100, .ref q107, .ref q114])), (q7, .inl (T 3, 3, .inr (.inr (.inr (.inr (fun i => if i < 3 then some (r7 i) else none)))))), (r7 0, .inl (T 0, 4, .inl (fun _ => 0))), (r7 1, .inl (T 0, 4, .inl (fun _ => 0))), (r7 2, .inl (T 0, 4, .inl (fun _ => 0))), (q18, .inl (T 3, 3, .inr (.inr (.inr (.inr (fun i => if i < 3 then some (r18 i) else none)))))), (r18 0, .inl (T 0, 40, .inl (fun _ => 0))), (r18 1, .inl (T 0, 40, .inl (fun _ => 0))), (r18 2, .inl (T 0, 40, .inl (fun _ => 0))), (q28, .inl (T 1, 40, .inr (.inl (fun _ => 0)))), (q36, .inl (T 1, 40, .inr (.inl (fun _ => 0)))), (q44, .inl (T 1, 40, .inr (.inl (fun _ => 0)))), (q52, .inl (T 0, 40, .inl (fun _ => 0))), (q60, .inl (T 2, 40, .inl (fun _ => 0))), (q100, .inl (T 1, 40, .inr (.inl (fun _ => 0)))), (q107, .inl (T 0, 4, .inl (fun _ => 0))), (q114, .inl (T 0, 4, .inl (fun _ => 0)))] H := hP
  have hD : va_D A [(h0, .inr (0, [.ref q7, .ref q18, .ref q28, .ref q36, .ref q44, .ref q52, .ref q60, .int 0, .int 0, .int 0, .int (-1), .int 10000, .long 0, .ref q100, .ref q107, .ref q114])), (q7, .inl (T 3, 3, .inr (.inr (.inr (.inr (fun i => if i < 3 then some (r7 i) else none)))))), (r7 0, .inl (T 0, 4, .inl (fun _ => 0))), (r7 1, .inl (T 0, 4, .inl (fun _ => 0))), (r7 2, .inl (T 0, 4, .inl (fun _ => 0))), (q18, .inl (T 3, 3, .inr (.inr (.inr (.inr (fun i => if i < 3 then some (r18 i) else none)))))), (r18 0, .inl (T 0, 40, .inl (fun _ => 0))), (r18 1, .inl (T 0, 40, .inl (fun _ => 0))), (r18 2, .inl (T 0, 40, .inl (fun _ => 0))), (q28, .inl (T 1, 40, .inr (.inl (fun _ => 0)))), (q36, .inl (T 1, 40, .inr (.inl (fun _ => 0)))), (q44, .inl (T 1, 40, .inr (.inl (fun _ => 0)))), (q52, .inl (T 0, 40, .inl (fun _ => 0))), (q60, .inl (T 2, 40, .inl (fun _ => 0))), (q100, .inl (T 1, 40, .inr (.inl (fun _ => 0)))), (q107, .inl (T 0, 4, .inl (fun _ => 0))), (q114, .inl (T 0, 4, .inl (fun _ => 0)))] := hD
  refine lv_iconst (v := 0) hx hb dX0_init_119 (by decide) ?_
  refine lv_istore_n (lv' := [(1, .int 0), (0, .ref h0)]) hx hb dX0_init_120 rfl hl (by decide) rfl (fun ls hl => ?_)
  refine lv_iload_n hx hb dX0_init_121 rfl (lv_at hl 0 rfl) ?_
  refine lv_iconst (v := 3) hx hb dX0_init_122 (by decide) ?_
  refine lv_icmp_ge (tgt := 144) hx hb dX0_init_123 (by decide) (fun c1 => absurd c1 (by decide)) (fun _ => ?_)
  refine lv_aload_n hx hb dX0_init_126 rfl (lv_at hl 1 rfl) ?_
  refine va_get (D := D) (ci := 0) (v := .ref q7) (C := RX0) (T := TX0) (N := 16) hx hb hts inlX0 hown hK hP 0 rfl rfl 0 (by decide) (hts _ wm_22) (fun _ h9 => h9) rfl dX0_init_127 ?_
  refine lv_iload_n hx hb dX0_init_130 rfl (lv_at hl 0 rfl) ?_
  refine W.aald (v := .ref (r7 0)) (ty := .array .int) hx hb (hP 1 _ rfl) ((hK.2 3 _ rfl).1 3 (fun j => va_rf (if j < 3 then some (r7 j) else none))) rfl (fun q => by cases q) (by show ¬ ((0 : Int32) < 0 ∨ (arrV _ _ _).slots.size ≤ _); rw [arrV_size]; show ¬ ((0 : Int32) < 0 ∨ 3 ≤ (0 : Int32).toNatClampNeg); decide) (by show (arrV _ _ _).slots[_]? = _; rw [arrV_read _ _ (show (0 : Int32).toNatClampNeg < 3 by decide)]; rfl) rfl rfl dX0_init_131 ?_
  refine W.eq (g2 := F0 m 132 ls [.ref (r7 0)]) rfl ?_
  refine lv_sipush (v := 10000) hx hb dX0_init_132 (by decide) ?_
  have hPc := hP.sub (ws' := [(r7 0, .inl (T 0, 4, .inl (fun _ => 0)))]) [2] rfl
  have hDc := hD.sub (ws' := [(r7 0, .inl (T 0, 4, .inl (fun _ => 0)))]) [2] (by decide) rfl
  have hFc := va_free (wc := [(r7 0, .inl (T 0, 4, .inl (fun _ => 0)))]) hD hS hA [2] rfl
  refine va_callv (va_runS (As := [.ref (r7 0), .int 10000]) (rest := []) ⟨hx, hb, hml.trans hl.1.symm, hown, hts⟩ (k_fill l D T (r7 0) H.size 10000 (fun _ => 0)) ⟨callB_of 2 hts (wA_in wm_43) rfl rfl rfl (hts _ wm_42) (hts _ wm_40) (by decide +kernel) ⟨Nat.le_of_ble_eq_true rfl, Nat.le_of_ble_eq_true rfl⟩, hts _ wm_41⟩ ⟨fun a U g mk q => by obtain ⟨q0, q1, qP, qK, qD⟩ := q; exact ⟨q0, q1, qP, va_K.moved (u := U) (U := U.calling g mk a) (Vm.Alike.refl U.vm) qK, qD⟩, fun U hU hW => ⟨rfl, by rw [hU], by rw [hU]; exact hPc, va_K.moved hW.alike hK, hDc.weaken (fun _ _ _ _ => trivial)⟩⟩ rfl rfl rfl rfl (lv_room (Nat.le_of_ble_eq_true rfl)) dX0_init_135 ⟨Nat.le_of_ble_eq_true rfl, Nat.le_of_ble_eq_true rfl⟩) hS (fun q _ h => hFc q h) hFc (fun u t H1 locs ht hvm hw hB hz1 hk1 hS => ?_)
  obtain ⟨hP1, hK1, hD1⟩ := hB
  rw [ht] at hP1
  obtain ⟨hP, hD⟩ := va_join (wr := [(h0, .inr (0, [.ref q7, .ref q18, .ref q28, .ref q36, .ref q44, .ref q52, .ref q60, .int 0, .int 0, .int 0, .int (-1), .int 10000, .long 0, .ref q100, .ref q107, .ref q114])), (q7, .inl (T 3, 3, .inr (.inr (.inr (.inr (fun i => if i < 3 then some (r7 i) else none)))))), (r7 1, .inl (T 0, 4, .inl (fun _ => 0))), (r7 2, .inl (T 0, 4, .inl (fun _ => 0))), (q18, .inl (T 3, 3, .inr (.inr (.inr (.inr (fun i => if i < 3 then some (r18 i) else none)))))), (r18 0, .inl (T 0, 40, .inl (fun _ => 0))), (r18 1, .inl (T 0, 40, .inl (fun _ => 0))), (r18 2, .inl (T 0, 40, .inl (fun _ => 0))), (q28, .inl (T 1, 40, .inr (.inl (fun _ => 0)))), (q36, .inl (T 1, 40, .inr (.inl (fun _ => 0)))), (q44, .inl (T 1, 40, .inr (.inl (fun _ => 0)))), (q52, .inl (T 0, 40, .inl (fun _ => 0))), (q60, .inl (T 2, 40, .inl (fun _ => 0))), (q100, .inl (T 1, 40, .inr (.inl (fun _ => 0)))), (q107, .inl (T 0, 4, .inl (fun _ => 0))), (q114, .inl (T 0, 4, .inl (fun _ => 0)))]) (w1 := [(r7 0, .inl (T 0, 4, .inl (fil (fun _ => 10000) (fun _ => 0) 4)))]) hP hD [2] [0, 1, 3, 4, 5, 6, 7, 8, 9, 10, 11, 12, 13, 14, 15, 16] rfl rfl (by decide) (by decide) hk1 hFc hP1 hD1
  generalize H1 = H at hP hS ⊢
  have hP := hP.sub (ws' := [(h0, .inr (0, [.ref q7, .ref q18, .ref q28, .ref q36, .ref q44, .ref q52, .ref q60, .int 0, .int 0, .int 0, .int (-1), .int 10000, .long 0, .ref q100, .ref q107, .ref q114])), (q7, .inl (T 3, 3, .inr (.inr (.inr (.inr (fun i => if i < 3 then some (r7 i) else none)))))), (r7 0, .inl (T 0, 4, .inl (fil (fun _ => 10000) (fun _ => 0) 4))), (r7 1, .inl (T 0, 4, .inl (fun _ => 0))), (r7 2, .inl (T 0, 4, .inl (fun _ => 0))), (q18, .inl (T 3, 3, .inr (.inr (.inr (.inr (fun i => if i < 3 then some (r18 i) else none)))))), (r18 0, .inl (T 0, 40, .inl (fun _ => 0))), (r18 1, .inl (T 0, 40, .inl (fun _ => 0))), (r18 2, .inl (T 0, 40, .inl (fun _ => 0))), (q28, .inl (T 1, 40, .inr (.inl (fun _ => 0)))), (q36, .inl (T 1, 40, .inr (.inl (fun _ => 0)))), (q44, .inl (T 1, 40, .inr (.inl (fun _ => 0)))), (q52, .inl (T 0, 40, .inl (fun _ => 0))), (q60, .inl (T 2, 40, .inl (fun _ => 0))), (q100, .inl (T 1, 40, .inr (.inl (fun _ => 0)))), (q107, .inl (T 0, 4, .inl (fun _ => 0))), (q114, .inl (T 0, 4, .inl (fun _ => 0)))]) [0, 1, 16, 2, 3, 4, 5, 6, 7, 8, 9, 10, 11, 12, 13, 14, 15] rfl
  have hD := hD.sub (ws' := [(h0, .inr (0, [.ref q7, .ref q18, .ref q28, .ref q36, .ref q44, .ref q52, .ref q60, .int 0, .int 0, .int 0, .int (-1), .int 10000, .long 0, .ref q100, .ref q107, .ref q114])), (q7, .inl (T 3, 3, .inr (.inr (.inr (.inr (fun i => if i < 3 then some (r7 i) else none)))))), (r7 0, .inl (T 0, 4, .inl (fil (fun _ => 10000) (fun _ => 0) 4))), (r7 1, .inl (T 0, 4, .inl (fun _ => 0))), (r7 2, .inl (T 0, 4, .inl (fun _ => 0))), (q18, .inl (T 3, 3, .inr (.inr (.inr (.inr (fun i => if i < 3 then some (r18 i) else none)))))), (r18 0, .inl (T 0, 40, .inl (fun _ => 0))), (r18 1, .inl (T 0, 40, .inl (fun _ => 0))), (r18 2, .inl (T 0, 40, .inl (fun _ => 0))), (q28, .inl (T 1, 40, .inr (.inl (fun _ => 0)))), (q36, .inl (T 1, 40, .inr (.inl (fun _ => 0)))), (q44, .inl (T 1, 40, .inr (.inl (fun _ => 0)))), (q52, .inl (T 0, 40, .inl (fun _ => 0))), (q60, .inl (T 2, 40, .inl (fun _ => 0))), (q100, .inl (T 1, 40, .inr (.inl (fun _ => 0)))), (q107, .inl (T 0, 4, .inl (fun _ => 0))), (q114, .inl (T 0, 4, .inl (fun _ => 0)))]) [0, 1, 16, 2, 3, 4, 5, 6, 7, 8, 9, 10, 11, 12, 13, 14, 15] (by decide) rfl
  refine W.widen (k := 16) (n := 386) (Nat.le_of_ble_eq_true rfl) (Nat.le_of_ble_eq_true rfl) ?_
  refine lv_iinc (v := 1) (lv' := [(1, .int 1), (0, .ref h0)]) hx hb dX0_init_138 hl (k := 0) rfl (by decide) (by decide) rfl (fun ls hl => ?_)
  refine lv_goto (tgt := 121) hx hb dX0_init_141 (by decide) ?_
  refine lv_iload_n hx hb dX0_init_121 rfl (lv_at hl 0 rfl) ?_
  refine lv_iconst (v := 3) hx hb dX0_init_122 (by decide) ?_
  refine lv_icmp_ge (tgt := 144) hx hb dX0_init_123 (by decide) (fun c1 => absurd c1 (by decide)) (fun _ => ?_)
  refine lv_aload_n hx hb dX0_init_126 rfl (lv_at hl 1 rfl) ?_
  refine va_get (D := D) (ci := 0) (v := .ref q7) (C := RX0) (T := TX0) (N := 16) hx hb hts inlX0 hown hK hP 0 rfl rfl 0 (by decide) (hts _ wm_22) (fun _ h9 => h9) rfl dX0_init_127 ?_
  refine lv_iload_n hx hb dX0_init_130 rfl (lv_at hl 0 rfl) ?_
  refine W.aald (v := .ref (r7 1)) (ty := .array .int) hx hb (hP 1 _ rfl) ((hK.2 3 _ rfl).1 3 (fun j => va_rf (if j < 3 then some (r7 j) else none))) rfl (fun q => by cases q) (by show ¬ ((1 : Int32) < 0 ∨ (arrV _ _ _).slots.size ≤ _); rw [arrV_size]; show ¬ ((1 : Int32) < 0 ∨ 3 ≤ (1 : Int32).toNatClampNeg); decide) (by show (arrV _ _ _).slots[_]? = _; rw [arrV_read _ _ (show (1 : Int32).toNatClampNeg < 3 by decide)]; rfl) rfl rfl dX0_init_131 ?_
  refine W.eq (g2 := F0 m 132 ls [.ref (r7 1)]) rfl ?_
  refine lv_sipush (v := 10000) hx hb dX0_init_132 (by decide) ?_
  have hPc := hP.sub (ws' := [(r7 1, .inl (T 0, 4, .inl (fun _ => 0)))]) [3] rfl
  have hDc := hD.sub (ws' := [(r7 1, .inl (T 0, 4, .inl (fun _ => 0)))]) [3] (by decide) rfl
  have hFc := va_free (wc := [(r7 1, .inl (T 0, 4, .inl (fun _ => 0)))]) hD hS hA [3] rfl
  refine va_callv (va_runS (As := [.ref (r7 1), .int 10000]) (rest := []) ⟨hx, hb, hml.trans hl.1.symm, hown, hts⟩ (k_fill l D T (r7 1) H.size 10000 (fun _ => 0)) ⟨callB_of 2 hts (wA_in wm_43) rfl rfl rfl (hts _ wm_42) (hts _ wm_40) (by decide +kernel) ⟨Nat.le_of_ble_eq_true rfl, Nat.le_of_ble_eq_true rfl⟩, hts _ wm_41⟩ ⟨fun a U g mk q => by obtain ⟨q0, q1, qP, qK, qD⟩ := q; exact ⟨q0, q1, qP, va_K.moved (u := U) (U := U.calling g mk a) (Vm.Alike.refl U.vm) qK, qD⟩, fun U hU hW => ⟨rfl, by rw [hU], by rw [hU]; exact hPc, va_K.moved hW.alike hK, hDc.weaken (fun _ _ _ _ => trivial)⟩⟩ rfl rfl rfl rfl (lv_room (Nat.le_of_ble_eq_true rfl)) dX0_init_135 ⟨Nat.le_of_ble_eq_true rfl, Nat.le_of_ble_eq_true rfl⟩) hS (fun q _ h => hFc q h) hFc (fun u t H1 locs ht hvm hw hB hz1 hk1 hS => ?_)
  obtain ⟨hP1, hK1, hD1⟩ := hB
  rw [ht] at hP1
  obtain ⟨hP, hD⟩ := va_join (wr := [(h0, .inr (0, [.ref q7, .ref q18, .ref q28, .ref q36, .ref q44, .ref q52, .ref q60, .int 0, .int 0, .int 0, .int (-1), .int 10000, .long 0, .ref q100, .ref q107, .ref q114])), (q7, .inl (T 3, 3, .inr (.inr (.inr (.inr (fun i => if i < 3 then some (r7 i) else none)))))), (r7 0, .inl (T 0, 4, .inl (fil (fun _ => 10000) (fun _ => 0) 4))), (r7 2, .inl (T 0, 4, .inl (fun _ => 0))), (q18, .inl (T 3, 3, .inr (.inr (.inr (.inr (fun i => if i < 3 then some (r18 i) else none)))))), (r18 0, .inl (T 0, 40, .inl (fun _ => 0))), (r18 1, .inl (T 0, 40, .inl (fun _ => 0))), (r18 2, .inl (T 0, 40, .inl (fun _ => 0))), (q28, .inl (T 1, 40, .inr (.inl (fun _ => 0)))), (q36, .inl (T 1, 40, .inr (.inl (fun _ => 0)))), (q44, .inl (T 1, 40, .inr (.inl (fun _ => 0)))), (q52, .inl (T 0, 40, .inl (fun _ => 0))), (q60, .inl (T 2, 40, .inl (fun _ => 0))), (q100, .inl (T 1, 40, .inr (.inl (fun _ => 0)))), (q107, .inl (T 0, 4, .inl (fun _ => 0))), (q114, .inl (T 0, 4, .inl (fun _ => 0)))]) (w1 := [(r7 1, .inl (T 0, 4, .inl (fil (fun _ => 10000) (fun _ => 0) 4)))]) hP hD [3] [0, 1, 2, 4, 5, 6, 7, 8, 9, 10, 11, 12, 13, 14, 15, 16] rfl rfl (by decide) (by decide) hk1 hFc hP1 hD1
  generalize H1 = H at hP hS ⊢
  have hP := hP.sub (ws' := [(h0, .inr (0, [.ref q7, .ref q18, .ref q28, .ref q36, .ref q44, .ref q52, .ref q60, .int 0, .int 0, .int 0, .int (-1), .int 10000, .long 0, .ref q100, .ref q107, .ref q114])), (q7, .inl (T 3, 3, .inr (.inr (.inr (.inr (fun i => if i < 3 then some (r7 i) else none)))))), (r7 0, .inl (T 0, 4, .inl (fil (fun _ => 10000) (fun _ => 0) 4))), (r7 1, .inl (T 0, 4, .inl (fil (fun _ => 10000) (fun _ => 0) 4))), (r7 2, .inl (T 0, 4, .inl (fun _ => 0))), (q18, .inl (T 3, 3, .inr (.inr (.inr (.inr (fun i => if i < 3 then some (r18 i) else none)))))), (r18 0, .inl (T 0, 40, .inl (fun _ => 0))), (r18 1, .inl (T 0, 40, .inl (fun _ => 0))), (r18 2, .inl (T 0, 40, .inl (fun _ => 0))), (q28, .inl (T 1, 40, .inr (.inl (fun _ => 0)))), (q36, .inl (T 1, 40, .inr (.inl (fun _ => 0)))), (q44, .inl (T 1, 40, .inr (.inl (fun _ => 0)))), (q52, .inl (T 0, 40, .inl (fun _ => 0))), (q60, .inl (T 2, 40, .inl (fun _ => 0))), (q100, .inl (T 1, 40, .inr (.inl (fun _ => 0)))), (q107, .inl (T 0, 4, .inl (fun _ => 0))), (q114, .inl (T 0, 4, .inl (fun _ => 0)))]) [0, 1, 2, 16, 3, 4, 5, 6, 7, 8, 9, 10, 11, 12, 13, 14, 15] rfl
  have hD := hD.sub (ws' := [(h0, .inr (0, [.ref q7, .ref q18, .ref q28, .ref q36, .ref q44, .ref q52, .ref q60, .int 0, .int 0, .int 0, .int (-1), .int 10000, .long 0, .ref q100, .ref q107, .ref q114])), (q7, .inl (T 3, 3, .inr (.inr (.inr (.inr (fun i => if i < 3 then some (r7 i) else none)))))), (r7 0, .inl (T 0, 4, .inl (fil (fun _ => 10000) (fun _ => 0) 4))), (r7 1, .inl (T 0, 4, .inl (fil (fun _ => 10000) (fun _ => 0) 4))), (r7 2, .inl (T 0, 4, .inl (fun _ => 0))), (q18, .inl (T 3, 3, .inr (.inr (.inr (.inr (fun i => if i < 3 then some (r18 i) else none)))))), (r18 0, .inl (T 0, 40, .inl (fun _ => 0))), (r18 1, .inl (T 0, 40, .inl (fun _ => 0))), (r18 2, .inl (T 0, 40, .inl (fun _ => 0))), (q28, .inl (T 1, 40, .inr (.inl (fun _ => 0)))), (q36, .inl (T 1, 40, .inr (.inl (fun _ => 0)))), (q44, .inl (T 1, 40, .inr (.inl (fun _ => 0)))), (q52, .inl (T 0, 40, .inl (fun _ => 0))), (q60, .inl (T 2, 40, .inl (fun _ => 0))), (q100, .inl (T 1, 40, .inr (.inl (fun _ => 0)))), (q107, .inl (T 0, 4, .inl (fun _ => 0))), (q114, .inl (T 0, 4, .inl (fun _ => 0)))]) [0, 1, 2, 16, 3, 4, 5, 6, 7, 8, 9, 10, 11, 12, 13, 14, 15] (by decide) rfl
  refine W.widen (k := 16) (n := 386) (Nat.le_of_ble_eq_true rfl) (Nat.le_of_ble_eq_true rfl) ?_
  refine lv_iinc (v := 2) (lv' := [(1, .int 2), (0, .ref h0)]) hx hb dX0_init_138 hl (k := 0) rfl (by decide) (by decide) rfl (fun ls hl => ?_)
  refine lv_goto (tgt := 121) hx hb dX0_init_141 (by decide) ?_
  refine lv_iload_n hx hb dX0_init_121 rfl (lv_at hl 0 rfl) ?_
  refine lv_iconst (v := 3) hx hb dX0_init_122 (by decide) ?_
  refine lv_icmp_ge (tgt := 144) hx hb dX0_init_123 (by decide) (fun c1 => absurd c1 (by decide)) (fun _ => ?_)
  refine lv_aload_n hx hb dX0_init_126 rfl (lv_at hl 1 rfl) ?_
  refine va_get (D := D) (ci := 0) (v := .ref q7) (C := RX0) (T := TX0) (N := 16) hx hb hts inlX0 hown hK hP 0 rfl rfl 0 (by decide) (hts _ wm_22) (fun _ h9 => h9) rfl dX0_init_127 ?_
  refine lv_iload_n hx hb dX0_init_130 rfl (lv_at hl 0 rfl) ?_
  refine W.aald (v := .ref (r7 2)) (ty := .array .int) hx hb (hP 1 _ rfl) ((hK.2 3 _ rfl).1 3 (fun j => va_rf (if j < 3 then some (r7 j) else none))) rfl (fun q => by cases q) (by show ¬ ((2 : Int32) < 0 ∨ (arrV _ _ _).slots.size ≤ _); rw [arrV_size]; show ¬ ((2 : Int32) < 0 ∨ 3 ≤ (2 : Int32).toNatClampNeg); decide) (by show (arrV _ _ _).slots[_]? = _; rw [arrV_read _ _ (show (2 : Int32).toNatClampNeg < 3 by decide)]; rfl) rfl rfl dX0_init_131 ?_
  refine W.eq (g2 := F0 m 132 ls [.ref (r7 2)]) rfl ?_
  refine lv_sipush (v := 10000) hx hb dX0_init_132 (by decide) ?_
  have hPc := hP.sub (ws' := [(r7 2, .inl (T 0, 4, .inl (fun _ => 0)))]) [4] rfl
  have hDc := hD.sub (ws' := [(r7 2, .inl (T 0, 4, .inl (fun _ => 0)))]) [4] (by decide) rfl
  have hFc := va_free (wc := [(r7 2, .inl (T 0, 4, .inl (fun _ => 0)))]) hD hS hA [4] rfl
  refine va_callv (va_runS (As := [.ref (r7 2), .int 10000]) (rest := []) ⟨hx, hb, hml.trans hl.1.symm, hown, hts⟩ (k_fill l D T (r7 2) H.size 10000 (fun _ => 0)) ⟨callB_of 2 hts (wA_in wm_43) rfl rfl rfl (hts _ wm_42) (hts _ wm_40) (by decide +kernel) ⟨Nat.le_of_ble_eq_true rfl, Nat.le_of_ble_eq_true rfl⟩, hts _ wm_41⟩ ⟨fun a U g mk q => by obtain ⟨q0, q1, qP, qK, qD⟩ := q; exact ⟨q0, q1, qP, va_K.moved (u := U) (U := U.calling g mk a) (Vm.Alike.refl U.vm) qK, qD⟩, fun U hU hW => ⟨rfl, by rw [hU], by rw [hU]; exact hPc, va_K.moved hW.alike hK, hDc.weaken (fun _ _ _ _ => trivial)⟩⟩ rfl rfl rfl rfl (lv_room (Nat.le_of_ble_eq_true rfl)) dX0_init_135 ⟨Nat.le_of_ble_eq_true rfl, Nat.le_of_ble_eq_true rfl⟩) hS (fun q _ h => hFc q h) hFc (fun u t H1 locs ht hvm hw hB hz1 hk1 hS => ?_)
  obtain ⟨hP1, hK1, hD1⟩ := hB
  rw [ht] at hP1
  obtain ⟨hP, hD⟩ := va_join (wr := [(h0, .inr (0, [.ref q7, .ref q18, .ref q28, .ref q36, .ref q44, .ref q52, .ref q60, .int 0, .int 0, .int 0, .int (-1), .int 10000, .long 0, .ref q100, .ref q107, .ref q114])), (q7, .inl (T 3, 3, .inr (.inr (.inr (.inr (fun i => if i < 3 then some (r7 i) else none)))))), (r7 0, .inl (T 0, 4, .inl (fil (fun _ => 10000) (fun _ => 0) 4))), (r7 1, .inl (T 0, 4, .inl (fil (fun _ => 10000) (fun _ => 0) 4))), (q18, .inl (T 3, 3, .inr (.inr (.inr (.inr (fun i => if i < 3 then some (r18 i) else none)))))), (r18 0, .inl (T 0, 40, .inl (fun _ => 0))), (r18 1, .inl (T 0, 40, .inl (fun _ => 0))), (r18 2, .inl (T 0, 40, .inl (fun _ => 0))), (q28, .inl (T 1, 40, .inr (.inl (fun _ => 0)))), (q36, .inl (T 1, 40, .inr (.inl (fun _ => 0)))), (q44, .inl (T 1, 40, .inr (.inl (fun _ => 0)))), (q52, .inl (T 0, 40, .inl (fun _ => 0))), (q60, .inl (T 2, 40, .inl (fun _ => 0))), (q100, .inl (T 1, 40, .inr (.inl (fun _ => 0)))), (q107, .inl (T 0, 4, .inl (fun _ => 0))), (q114, .inl (T 0, 4, .inl (fun _ => 0)))]) (w1 := [(r7 2, .inl (T 0, 4, .inl (fil (fun _ => 10000) (fun _ => 0) 4)))]) hP hD [4] [0, 1, 2, 3, 5, 6, 7, 8, 9, 10, 11, 12, 13, 14, 15, 16] rfl rfl (by decide) (by decide) hk1 hFc hP1 hD1
  generalize H1 = H at hP hS ⊢
  have hP := hP.sub (ws' := [(h0, .inr (0, [.ref q7, .ref q18, .ref q28, .ref q36, .ref q44, .ref q52, .ref q60, .int 0, .int 0, .int 0, .int (-1), .int 10000, .long 0, .ref q100, .ref q107, .ref q114])), (q7, .inl (T 3, 3, .inr (.inr (.inr (.inr (fun i => if i < 3 then some (r7 i) else none)))))), (r7 0, .inl (T 0, 4, .inl (fil (fun _ => 10000) (fun _ => 0) 4))), (r7 1, .inl (T 0, 4, .inl (fil (fun _ => 10000) (fun _ => 0) 4))), (r7 2, .inl (T 0, 4, .inl (fil (fun _ => 10000) (fun _ => 0) 4))), (q18, .inl (T 3, 3, .inr (.inr (.inr (.inr (fun i => if i < 3 then some (r18 i) else none)))))), (r18 0, .inl (T 0, 40, .inl (fun _ => 0))), (r18 1, .inl (T 0, 40, .inl (fun _ => 0))), (r18 2, .inl (T 0, 40, .inl (fun _ => 0))), (q28, .inl (T 1, 40, .inr (.inl (fun _ => 0)))), (q36, .inl (T 1, 40, .inr (.inl (fun _ => 0)))), (q44, .inl (T 1, 40, .inr (.inl (fun _ => 0)))), (q52, .inl (T 0, 40, .inl (fun _ => 0))), (q60, .inl (T 2, 40, .inl (fun _ => 0))), (q100, .inl (T 1, 40, .inr (.inl (fun _ => 0)))), (q107, .inl (T 0, 4, .inl (fun _ => 0))), (q114, .inl (T 0, 4, .inl (fun _ => 0)))]) [0, 1, 2, 3, 16, 4, 5, 6, 7, 8, 9, 10, 11, 12, 13, 14, 15] rfl
  have hD := hD.sub (ws' := [(h0, .inr (0, [.ref q7, .ref q18, .ref q28, .ref q36, .ref q44, .ref q52, .ref q60, .int 0, .int 0, .int 0, .int (-1), .int 10000, .long 0, .ref q100, .ref q107, .ref q114])), (q7, .inl (T 3, 3, .inr (.inr (.inr (.inr (fun i => if i < 3 then some (r7 i) else none)))))), (r7 0, .inl (T 0, 4, .inl (fil (fun _ => 10000) (fun _ => 0) 4))), (r7 1, .inl (T 0, 4, .inl (fil (fun _ => 10000) (fun _ => 0) 4))), (r7 2, .inl (T 0, 4, .inl (fil (fun _ => 10000) (fun _ => 0) 4))), (q18, .inl (T 3, 3, .inr (.inr (.inr (.inr (fun i => if i < 3 then some (r18 i) else none)))))), (r18 0, .inl (T 0, 40, .inl (fun _ => 0))), (r18 1, .inl (T 0, 40, .inl (fun _ => 0))), (r18 2, .inl (T 0, 40, .inl (fun _ => 0))), (q28, .inl (T 1, 40, .inr (.inl (fun _ => 0)))), (q36, .inl (T 1, 40, .inr (.inl (fun _ => 0)))), (q44, .inl (T 1, 40, .inr (.inl (fun _ => 0)))), (q52, .inl (T 0, 40, .inl (fun _ => 0))), (q60, .inl (T 2, 40, .inl (fun _ => 0))), (q100, .inl (T 1, 40, .inr (.inl (fun _ => 0)))), (q107, .inl (T 0, 4, .inl (fun _ => 0))), (q114, .inl (T 0, 4, .inl (fun _ => 0)))]) [0, 1, 2, 3, 16, 4, 5, 6, 7, 8, 9, 10, 11, 12, 13, 14, 15] (by decide) rfl
  refine W.widen (k := 16) (n := 386) (Nat.le_of_ble_eq_true rfl) (Nat.le_of_ble_eq_true rfl) ?_
  refine lv_iinc (v := 3) (lv' := [(1, .int 3), (0, .ref h0)]) hx hb dX0_init_138 hl (k := 0) rfl (by decide) (by decide) rfl (fun ls hl => ?_)
  refine lv_goto (tgt := 121) hx hb dX0_init_141 (by decide) ?_
  refine lv_iload_n hx hb dX0_init_121 rfl (lv_at hl 0 rfl) ?_
  refine lv_iconst (v := 3) hx hb dX0_init_122 (by decide) ?_
  refine lv_icmp_ge (tgt := 144) hx hb dX0_init_123 (by decide) (fun _ => ?_) (fun c1 => absurd (by decide) c1)
  obtain ⟨a, ha⟩ : ∃ a : Nat → Nat, a = fun i => ([h0, q7, q18, r7 0, r7 1, r7 2, r18 0, r18 1, r18 2, q28, q36, q44, q52, q60, q100, q107, q114] : List Nat).getD i 0 := ⟨_, rfl⟩
  have hP8 := hP.sub (ws' := [(h0, .inr (0, [.ref q7, .ref q18, .ref q28, .ref q36, .ref q44, .ref q52, .ref q60, .int 0, .int 0, .int 0, .int (-1), .int 10000, .long 0, .ref q100, .ref q107, .ref q114])), (q7, .inl (T 3, 3, .inr (.inr (.inr (.inr (fun i => if i < 3 then some (r7 i) else none)))))), (q18, .inl (T 3, 3, .inr (.inr (.inr (.inr (fun i => if i < 3 then some (r18 i) else none)))))), (r7 0, .inl (T 0, 4, .inl (fil (fun _ => 10000) (fun _ => 0) 4))), (r7 1, .inl (T 0, 4, .inl (fil (fun _ => 10000) (fun _ => 0) 4))), (r7 2, .inl (T 0, 4, .inl (fil (fun _ => 10000) (fun _ => 0) 4))), (r18 0, .inl (T 0, 40, .inl (fun _ => 0))), (r18 1, .inl (T 0, 40, .inl (fun _ => 0))), (r18 2, .inl (T 0, 40, .inl (fun _ => 0))), (q28, .inl (T 1, 40, .inr (.inl (fun _ => 0)))), (q36, .inl (T 1, 40, .inr (.inl (fun _ => 0)))), (q44, .inl (T 1, 40, .inr (.inl (fun _ => 0)))), (q52, .inl (T 0, 40, .inl (fun _ => 0))), (q60, .inl (T 2, 40, .inl (fun _ => 0))), (q100, .inl (T 1, 40, .inr (.inl (fun _ => 0)))), (q107, .inl (T 0, 4, .inl (fun _ => 0))), (q114, .inl (T 0, 4, .inl (fun _ => 0)))]) [0, 1, 5, 2, 3, 4, 6, 7, 8, 9, 10, 11, 12, 13, 14, 15, 16] rfl
  have hD8 := hD.sub (ws' := [(h0, .inr (0, [.ref q7, .ref q18, .ref q28, .ref q36, .ref q44, .ref q52, .ref q60, .int 0, .int 0, .int 0, .int (-1), .int 10000, .long 0, .ref q100, .ref q107, .ref q114])), (q7, .inl (T 3, 3, .inr (.inr (.inr (.inr (fun i => if i < 3 then some (r7 i) else none)))))), (q18, .inl (T 3, 3, .inr (.inr (.inr (.inr (fun i => if i < 3 then some (r18 i) else none)))))), (r7 0, .inl (T 0, 4, .inl (fil (fun _ => 10000) (fun _ => 0) 4))), (r7 1, .inl (T 0, 4, .inl (fil (fun _ => 10000) (fun _ => 0) 4))), (r7 2, .inl (T 0, 4, .inl (fil (fun _ => 10000) (fun _ => 0) 4))), (r18 0, .inl (T 0, 40, .inl (fun _ => 0))), (r18 1, .inl (T 0, 40, .inl (fun _ => 0))), (r18 2, .inl (T 0, 40, .inl (fun _ => 0))), (q28, .inl (T 1, 40, .inr (.inl (fun _ => 0)))), (q36, .inl (T 1, 40, .inr (.inl (fun _ => 0)))), (q44, .inl (T 1, 40, .inr (.inl (fun _ => 0)))), (q52, .inl (T 0, 40, .inl (fun _ => 0))), (q60, .inl (T 2, 40, .inl (fun _ => 0))), (q100, .inl (T 1, 40, .inr (.inl (fun _ => 0)))), (q107, .inl (T 0, 4, .inl (fun _ => 0))), (q114, .inl (T 0, 4, .inl (fun _ => 0)))]) [0, 1, 5, 2, 3, 4, 6, 7, 8, 9, 10, 11, 12, 13, 14, 15, 16] (by decide) rfl
  have hP8 := va_P.recell hP8 1 rfl (f' := fun i => some (a (3 + i))) (fun j hj => by rcases (show j = 0 ∨ j = 1 ∨ j = 2 by omega) with rfl | rfl | rfl <;> (rw [ha]; rfl))
  have hD8 := va_D.recell hD8 1 rfl (f' := fun i => some (a (3 + i)))
  have hP8 := va_P.recell hP8 2 rfl (f' := fun i => some (a (6 + i))) (fun j hj => by rcases (show j = 0 ∨ j = 1 ∨ j = 2 by omega) with rfl | rfl | rfl <;> (rw [ha]; rfl))
  have hD8 := va_D.recell hD8 2 rfl (f' := fun i => some (a (6 + i)))
  have hP9 : va_P D vwCl (xCells T a WS0) H := by rw [ha] at hP8 ⊢; exact hP8
  have hD9 : va_D A (xCells T a WS0) := by rw [ha] at hD8 ⊢; exact hD8
  exact W.vret hx hb hret (fun t ht hW => ⟨⟨a, rfl, by rw [ha]; rfl, by rw [ht]; exact hP9, va_K.moved hW.alike hK, hD9⟩, hS.F ht⟩) hS.2.2 dX0_init_144
end
section
/-! the law's arrays against the class's numbers -/
theorem ix3 (k t : Nat) : (3 : Int32) * nI k + nI t = nI (3 * k + t) := by
  show nI 3 * nI k + nI t = _
  rw [pk_mul, nI_add]
theorem ix4 (t k : Nat) : (4 : Int32) * nI t + nI k = nI (4 * t + k) := by
  show nI 4 * nI t + nI k = _
  rw [pk_mul, nI_add]
theorem ix2 (t k : Nat) : (2 : Int32) * nI t + nI k = nI (2 * t + k) := by
  show nI 2 * nI t + nI k = _
  rw [pk_mul, nI_add]
def fraw (L : Nat) (xs : Nat → Int32) (k : Nat) : Int32 := if L = 0 then 181 * nI k + 157 else xs (k % L) ^^^ (156007 * nI k)
def fV (L : Nat) (xs : Nat → Int32) (k b : Nat) : Nat := (fraw L xs k).toBitVec.toNat % 2 ^ 31 % b
theorem fV_lt (L : Nat) (xs : Nat → Int32) (k : Nat) {b : Nat} (hb : 0 < b) : fV L xs k b < b := Nat.mod_lt _ hb
def xLiv (T : WS) : Nat → Bool := fun k => !decide (xIa T 1 k = 0)
def NB (M : Nat) (x : Int32) : Prop := ∃ c : Nat, c ≤ M ∧ x = nI c
def NL (M : Nat) (x : Int64) : Prop := ∃ c : Nat, c ≤ M ∧ x = lN c
/-- the class's numbers as the law's calls leave them -/
def LN (n : Nat) (T : WS) : Prop := XI n T ∧ n ≤ 12 ∧ (∀ t k, t < 3 → k < n → ∃ j : Nat, j < levN t ∧ xLev T t k = nI j) ∧
  (∀ k, k < n → (xIa T 1 k = 0 ∨ xIa T 1 k = 1) ∧ (∃ x : Nat, 1 ≤ x ∧ x ≤ 1000 ∧ xLng T 0 k = lN x) ∧ NL 1000000 (xLng T 2 k) ∧ (xIa T 0 k = -1 ∨ NB 10000000 (xIa T 0 k))) ∧
  (∀ t k, t < 3 → k < levN t → ∃ f : Nat, 100 ≤ f ∧ f ≤ 100000 ∧ xFac T t k = nI f) ∧ (xSc T 3 = -1 ∨ NB 1000 (xSc T 3)) ∧ (∃ s : Nat, 1 ≤ s ∧ s ≤ 1000000 ∧ xSc T 4 = nI s) ∧
  xSc T 1 = nI (xCnt (xLiv T) n) ∧ xBase T = xBase1 T n ∧ ∀ k, k < n → xLng T 3 k = xFit T k
/-- the law's arrays hold them -/
def LL (n : Nat) (T S : WS) : Prop := lA S 7 0 = nI n ∧ (∀ k, k < n → lA S 5 k = if xIa T 1 k = 0 then 1 else 0) ∧ (∀ t k, t < 3 → k < n → lA S 0 (3 * k + t) = xLev T t k) ∧
  (∀ k, k < n → (lA S 1 k).toInt64 = xLng T 0 k ∧ (lA S 2 k).toInt64 = xLng T 1 k ∧ (lA S 3 k).toInt64 = xLng T 2 k ∧ lA S 4 k = xIa T 0 k) ∧
  (∀ t k, t < 3 → k < levN t → lA S 6 (4 * t + k) = xFac T t k) ∧ lA S 7 1 = xSc T 2 ∧ lA S 7 2 = xSc T 3 ∧ lA S 7 3 = xSc T 4
def LR (n : Nat) (T S : WS) : Prop := LN n T ∧ LL n T S
section REL
variable {n : Nat} {T S : WS}
theorem lr_n (h : LR n T S) : n ≤ 12 := h.1.2.1
theorem lr_m0 (h : LR n T S) : lA S 7 0 = nI n := h.2.1
theorem lr_g1 (h : LR n T S) {k : Nat} (hk : k < n) (hg : lA S 5 k = 1) : xIa T 1 k = 0 := by
  have e := h.2.2.1 k hk
  by_cases c : xIa T 1 k = 0
  · exact c
  · rw [if_neg c, hg] at e; exact absurd e (by decide)
theorem lr_g0 (h : LR n T S) {k : Nat} (hk : k < n) (hg : ¬ lA S 5 k = 1) : ¬ xIa T 1 k = 0 := fun c => hg ((h.2.2.1 k hk).trans (if_pos c))
theorem lr_z0 (h : LR n T S) {k : Nat} (hk : k < n) (hg : lA S 5 k = 0) : ¬ xIa T 1 k = 0 := lr_g0 h hk (by rw [hg]; decide)
theorem lr_z1 (h : LR n T S) {k : Nat} (hk : k < n) (hg : ¬ lA S 5 k = 0) : xIa T 1 k = 0 := by
  by_cases c : xIa T 1 k = 0
  · exact c
  · exact absurd ((h.2.2.1 k hk).trans (if_neg c)) hg
theorem lr_lev (h : LR n T S) {t k : Nat} (ht : t < 3) (hk : k < n) : xLev T t k = nI (tN (xLev T t k)) ∧ tN (xLev T t k) < levN t := by
  obtain ⟨j, hj, e⟩ := h.1.2.2.1 t k ht hk
  have h4 := levN_4 t
  rw [e, tN_nI (by omega)]
  exact ⟨rfl, hj⟩
theorem lr_l (h : LR n T S) {t k : Nat} (ht : t < 3) (hk : k < n) : lA S 0 (3 * k + t) = nI (tN (xLev T t k)) := (h.2.2.2.1 t k ht hk).trans (lr_lev h ht hk).1
theorem lr_f (h : LR n T S) {t k : Nat} (ht : t < 3) (hk : k < levN t) : lA S 6 (4 * t + k) = xFac T t k := h.2.2.2.2.2.1 t k ht hk
theorem lr_x (h : LR n T S) {k : Nat} (hk : k < n) : (lA S 1 k).toInt64 = xLng T 0 k := (h.2.2.2.2.1 k hk).1
theorem lr_c (h : LR n T S) {k : Nat} (hk : k < n) : (lA S 2 k).toInt64 = xLng T 1 k := (h.2.2.2.2.1 k hk).2.1
theorem lr_d (h : LR n T S) {k : Nat} (hk : k < n) : (lA S 3 k).toInt64 = xLng T 2 k := (h.2.2.2.2.1 k hk).2.2.1
theorem lr_o (h : LR n T S) {k : Nat} (hk : k < n) : lA S 4 k = xIa T 0 k := (h.2.2.2.2.1 k hk).2.2.2
theorem lr_m1 (h : LR n T S) : lA S 7 1 = xSc T 2 := h.2.2.2.2.2.2.1
theorem lr_m2 (h : LR n T S) : lA S 7 2 = xSc T 3 := h.2.2.2.2.2.2.2.1
theorem lr_m3 (h : LR n T S) : lA S 7 3 = xSc T 4 := h.2.2.2.2.2.2.2.2
theorem lr_base (h : LR n T S) : xBase T = xBase1 T n := h.1.2.2.2.2.2.2.2.2.1
theorem lr_fit (h : LR n T S) {k : Nat} (hk : k < n) : xLng T 3 k = xFit T k := h.1.2.2.2.2.2.2.2.2.2 k hk
/-- a level's factor, as the law reads it for a row -/
theorem lr_fl (h : LR n T S) {t k : Nat} (ht : t < 3) (hk : k < n) : lA S 6 (4 * t + tN (xLev T t k)) = xFac T t (tN (xLev T t k)) := lr_f h ht (lr_lev h ht hk).2
theorem lr_fit0 (h : LR n T S) {k : Nat} (hk : k < n) : xBase T * (lA S 1 k).toInt64 / 10000 = xFitN T k 0 := by
  rw [lr_x h hk, Int64.mul_comm]
  rfl
theorem xTot_cong {lv : Nat → Int32} {f g : Nat → Int64} : ∀ m : Nat, (∀ k, k < m → ¬ lv k = 0 → f k = g k) → xTot lv f m = xTot lv g m
  | 0, _ => rfl
  | m + 1, hf => by
    have ih := xTot_cong m (fun k hk => hf k (by omega))
    by_cases c : lv m = 0
    · rw [xTot_z c, xTot_z c, ih]
    · rw [xTot_n c, xTot_n c, ih, hf m (by omega) c]
theorem xLTot_cong {live lv : Nat → Int32} {q : Int32} {f g : Nat → Int64} : ∀ m : Nat, (∀ k, k < m → ¬ live k = 0 → f k = g k) → xLTot live lv q f m = xLTot live lv q g m
  | 0, _ => rfl
  | m + 1, hf => by
    have ih := xLTot_cong (lv := lv) (q := q) m (fun k hk => hf k (by omega))
    by_cases c : live m = 0
    · rw [xLTot_z c, xLTot_z c, ih]
    · by_cases d : lv m = q
      · rw [xLTot_q c d, xLTot_q c d, ih, hf m (by omega) c]
      · rw [xLTot_o c d, xLTot_o c d, ih]
theorem xTot_small {lv : Nat → Int32} {f : Nat → Int64} {B : Nat} : ∀ m : Nat, (∀ k, k < m → ¬ lv k = 0 → NL B (f k)) → ∃ c : Nat, c ≤ m * B ∧ xTot lv f m = lN c
  | 0, _ => ⟨0, Nat.zero_le _, rfl⟩
  | m + 1, h => by
    obtain ⟨c, hc, e⟩ := xTot_small m (fun k hk => h k (by omega))
    have e3 : (m + 1) * B = m * B + B := Nat.succ_mul m B
    by_cases q : lv m = 0
    · exact ⟨c, by omega, by rw [xTot_z q]; exact e⟩
    · obtain ⟨d, hd, e2⟩ := h m (by omega) q
      exact ⟨c + d, by omega, by rw [xTot_n q, e, e2, lN_add]⟩
theorem xLTot_sm {live lv : Nat → Int32} {q : Int32} {f : Nat → Int64} {B : Nat} : ∀ m : Nat, (∀ k, k < m → ¬ live k = 0 → NL B (f k)) → ∃ c : Nat, c ≤ m * B ∧ xLTot live lv q f m = lN c
  | 0, _ => ⟨0, Nat.zero_le _, rfl⟩
  | m + 1, h => by
    obtain ⟨c, hc, e⟩ := xLTot_sm (lv := lv) (q := q) m (fun k hk => h k (by omega))
    have e3 : (m + 1) * B = m * B + B := Nat.succ_mul m B
    by_cases q1 : live m = 0
    · exact ⟨c, by omega, by rw [xLTot_z q1]; exact e⟩
    · obtain ⟨d, hd, e2⟩ := h m (by omega) q1
      by_cases q2 : lv m = q
      · exact ⟨c + d, by omega, by rw [xLTot_q q1 q2, e, e2, lN_add]⟩
      · exact ⟨c, by omega, by rw [xLTot_o q1 q2]; exact e⟩
theorem xTot_ge {lv : Nat → Int32} {f : Nat → Int64} {B : Nat} : ∀ m : Nat, (∀ k, k < m → ¬ lv k = 0 → NL B (f k)) → ∀ k x, k < m → ¬ lv k = 0 → f k = lN x → x < 2 ^ 63 → m * B < 2 ^ 63 → ∃ c : Nat, x ≤ c ∧ c ≤ m * B ∧ xTot lv f m = lN c
  | 0, _, k, _, hk, _, _, _, _ => absurd hk (Nat.not_lt_zero k)
  | m + 1, h, k, x, hk, hl, hx, hx2, hb => by
    have e3 : (m + 1) * B = m * B + B := Nat.succ_mul m B
    by_cases e : k = m
    · subst e
      obtain ⟨c, hc, e1⟩ := xTot_small k (fun i hi => h i (by omega))
      obtain ⟨d, hd, e2⟩ := h k (by omega) hl
      have e4 : d = x := by
        have h1 := pk_lT (n := d) (by omega)
        have h2 := pk_lT (n := x) hx2
        rw [← e2, hx, h2] at h1
        omega
      exact ⟨c + d, by omega, by omega, by rw [xTot_n hl, e1, e2, lN_add]⟩
    · obtain ⟨c, hc1, hc2, e1⟩ := xTot_ge m (fun i hi => h i (by omega)) k x (by omega) hl hx hx2 (by omega)
      by_cases q : lv m = 0
      · exact ⟨c, hc1, by omega, by rw [xTot_z q]; exact e1⟩
      · obtain ⟨d, hd, e2⟩ := h m (by omega) q
        exact ⟨c + d, by omega, by omega, by rw [xTot_n q, e1, e2, lN_add]⟩
theorem ln_exp (h : LN n T) {k : Nat} (hk : k < n) : NL 1000 (xLng T 0 k) := by
  obtain ⟨x, h1, h2, e⟩ := (h.2.2.2.1 k hk).2.1
  exact ⟨x, h2, e⟩
theorem lN_le0 {c : Nat} (hc : c < 2 ^ 31) : lN c ≤ 0 ↔ c = 0 := by
  have := lN_le (a := c) (b := 0) hc (by decide)
  constructor
  · intro q; have := this.mp q; omega
  · intro q; exact this.mpr (by omega)
theorem lN_z {c : Nat} (hc : c < 2 ^ 31) : lN c = 0 ↔ c = 0 := lN_eq (a := c) (b := 0) hc (by decide)
/-- the law's base: 0 at an exposure of 0, which isn't negative -/
theorem lr_b1 (h : LN n T) (hz : xTot (xIa T 1) (xLng T 0) n = 0) : (0 : Int64) = xBase1 T n := by
  unfold xBase1
  rw [hz, if_pos (by decide)]
theorem lr_b2 (h : LN n T) (hz : ¬ xTot (xIa T 1) (xLng T 0) n = 0) : xTot (xIa T 1) (xLng T 2) n * 10000 / xTot (xIa T 1) (xLng T 0) n = xBase1 T n := by
  obtain ⟨c, hc, e⟩ := xTot_small (lv := xIa T 1) (f := xLng T 0) (B := 1000) n (fun k hk _ => ln_exp h hk)
  have hn := h.2.1
  have hb : c ≤ 12000 := by have : n * 1000 ≤ 12 * 1000 := Nat.mul_le_mul_right _ hn; omega
  unfold xBase1
  rw [if_neg, Int64.mul_comm]
  intro q
  rw [e] at q hz
  exact hz ((lN_z (by omega)).mpr ((lN_le0 (by omega)).mp q))
theorem i64_100 (c : Nat) (h : c ≤ 1000) : (100 : Int64) + lN c = lN (100 + c) := by
  show lN 100 + lN c = _
  rw [lN_add]
/-- the law's bounds of a premium -/
theorem lcap_low {c o : Nat} (hc : c ≤ 1000) (ho : o ≤ 10000000) : (lN o * (mxI (100 - nI c) 0).toInt64 / 100) = if 100 < c then 0 else lN ((100 - c) * o / 100) := by
  have e : (100 - nI c).toInt = 100 - (c : Int) := by
    rw [Int32.toInt_sub, nI_toInt (by omega), show (100 : Int32).toInt = 100 from by decide]
    exact Int.bmod_eq_of_le (by omega) (by omega)
  have h1 : (100 - nI c) < 0 ↔ 100 < c := by
    rw [Int32.lt_iff_toInt_lt, e, show (0 : Int32).toInt = 0 from by decide]
    omega
  unfold mxI
  by_cases q : 100 < c
  · rw [if_pos (h1.mpr q), if_pos q]
    show lN o * lN 0 / lN 100 = lN 0
    rw [lN_mul, Nat.mul_zero, pk_lDiv (by decide) (by decide) (by decide)]
  · rw [if_neg (fun r => q (h1.mp r)), if_neg q]
    have e2 : (100 : Int32) - nI c = nI (100 - c) := pk_sub (a := 100) (b := c) (by omega)
    have hm : o * (100 - c) ≤ 10000000 * 100 := Nat.mul_le_mul ho (by omega)
    rw [e2, nI_l (by omega), lN_mul]
    show lN _ / lN 100 = _
    rw [pk_lDiv (by omega) (by decide) (by decide), Nat.mul_comm]
theorem lcap_high {c o : Nat} (hc : c ≤ 1000) (ho : o ≤ 10000000) : (lN o * (100 + nI c).toInt64 / 100) = lN ((100 + c) * o / 100) := by
  have e2 : (100 : Int32) + nI c = nI (100 + c) := nI_add 100 c
  have hm : o * (100 + c) ≤ 10000000 * 1100 := Nat.mul_le_mul ho (by omega)
  rw [e2, nI_l (by omega), lN_mul]
  show lN _ / lN 100 = _
  rw [pk_lDiv (by omega) (by decide) (by decide), Nat.mul_comm]
theorem mnmx {p a b : Int64} (h : a ≤ b) : xBnd p a b = if p < a then a else if b < p then b else p := by
  unfold xBnd mx64 mn64
  have hba : ¬ b < a := Int64.not_lt.mpr h
  by_cases c : p < a
  · have d : ¬ a < p := fun q => Int64.lt_irrefl (Int64.lt_trans c q)
    rw [if_neg d, if_neg hba, if_pos c]
  · rw [if_neg c]
    by_cases d : a < p
    · rw [if_pos d]
    · have e : a = p := Int64.le_antisymm (Int64.not_lt.mp c) (Int64.not_lt.mp d)
      rw [if_neg d, e]
def capLo (T : WS) (r : Nat) : Int64 := (xIa T 0 r).toInt64 * (mxI (100 - xSc T 3) 0).toInt64 / 100
def capHi (T : WS) (r : Nat) : Int64 := (xIa T 0 r).toInt64 * (100 + xSc T 3).toInt64 / 100
theorem lr_cap0 (h : LR n T S) (hm : ¬ lA S 7 2 < 0) : ∃ c : Nat, c ≤ 1000 ∧ xSc T 3 = nI c := by
  rcases h.1.2.2.2.2.2.1 with e | e
  · rw [lr_m2 h, e] at hm; exact absurd (by decide) hm
  · exact e
theorem lr_old0 (h : LR n T S) {r : Nat} (hr : r < n) (hm : ¬ lA S 4 r < 0) : ∃ c : Nat, c ≤ 10000000 ∧ xIa T 0 r = nI c := by
  rcases (h.1.2.2.2.1 r hr).2.2.2 with e | e
  · rw [lr_o h hr, e] at hm; exact absurd (by decide) hm
  · exact e
theorem lr_capA (h : LR n T S) {r : Nat} (hm : lA S 7 2 < 0) : xNewP T r = xCapP T r := by
  rw [lr_m2 h] at hm
  rcases h.1.2.2.2.2.2.1 with e | ⟨c, hc, e⟩
  · unfold xCapP; rw [if_pos e]
  · rw [e] at hm; exact absurd hm (nI_pos (by omega))
theorem lr_capB (h : LR n T S) {r : Nat} (hr : r < n) (hm : lA S 4 r < 0) : xNewP T r = xCapP T r := by
  rw [lr_o h hr] at hm
  rcases (h.1.2.2.2.1 r hr).2.2.2 with e | ⟨c, hc, e⟩
  · unfold xCapP
    by_cases q : xSc T 3 = -1
    · rw [if_pos q]
    · rw [if_neg q, if_pos e]
  · rw [e] at hm; exact absurd hm (nI_pos (by omega))
theorem lr_cLz (h : LR n T S) {r : Nat} (hr : r < n) (hm : ¬ lA S 7 2 < 0) (ho : ¬ lA S 4 r < 0) (hc : ¬ lA S 7 2 ≤ 100) : (0 : Int64) = capLo T r := by
  obtain ⟨c, hc1, e⟩ := lr_cap0 h hm
  obtain ⟨o, ho1, e2⟩ := lr_old0 h hr ho
  rw [lr_m2 h, e] at hc
  unfold capLo
  have q : 100 < c := Nat.lt_of_not_le (fun q => hc ((nI_leI (a := c) (b := 100) (by omega) (by decide)).mpr q))
  rw [e, e2, nI_l (by omega), lcap_low hc1 ho1, if_pos q]
theorem lr_cLe (h : LR n T S) {r : Nat} (hr : r < n) (hm : ¬ lA S 7 2 < 0) (ho : ¬ lA S 4 r < 0) (hc : lA S 7 2 ≤ 100) : (100 - (lA S 7 2).toInt64) * (lA S 4 r).toInt64 / 100 = capLo T r := by
  obtain ⟨c, hc1, e⟩ := lr_cap0 h hm
  obtain ⟨o, ho1, e2⟩ := lr_old0 h hr ho
  rw [lr_m2 h, e] at hc
  unfold capLo
  have q : c ≤ 100 := (nI_leI (a := c) (b := 100) (by omega) (by decide)).mp hc
  rw [lr_m2 h, lr_o h hr, e, e2, nI_l (n := o) (by omega), lcap_low hc1 ho1, if_neg (by omega), nI_l (by omega)]
  have hm2 : (100 - c) * o ≤ 100 * 10000000 := Nat.mul_le_mul (by omega) ho1
  show (lN 100 - lN c) * lN o / lN 100 = _
  rw [lN_sub q, lN_mul, pk_lDiv (by omega) (by decide) (by decide)]
theorem lr_cHi (h : LR n T S) {r : Nat} (hr : r < n) (hm : ¬ lA S 7 2 < 0) (ho : ¬ lA S 4 r < 0) : (100 + (lA S 7 2).toInt64) * (lA S 4 r).toInt64 / 100 = capHi T r := by
  obtain ⟨c, hc1, e⟩ := lr_cap0 h hm
  obtain ⟨o, ho1, e2⟩ := lr_old0 h hr ho
  unfold capHi
  rw [lr_m2 h, lr_o h hr, e, e2, nI_l (n := o) (by omega), lcap_high hc1 ho1, nI_l (by omega), i64_100 c hc1, lN_mul]
  have hm2 : (100 + c) * o ≤ 1100 * 10000000 := Nat.mul_le_mul (by omega) ho1
  show lN _ / lN 100 = _
  rw [pk_lDiv (by omega) (by decide) (by decide)]
theorem lr_capC (h : LR n T S) {r : Nat} (hr : r < n) (hm : ¬ lA S 7 2 < 0) (ho : ¬ lA S 4 r < 0) : xCapP T r = if xNewP T r < capLo T r then capLo T r else if capHi T r < xNewP T r then capHi T r else xNewP T r := by
  obtain ⟨c, hc1, e⟩ := lr_cap0 h hm
  obtain ⟨o, ho1, e2⟩ := lr_old0 h hr ho
  have h1 : ¬ xSc T 3 = -1 := by rw [e]; intro q; have := nI_pos (n := c) (by omega); rw [q] at this; exact absurd (by decide) this
  have h2 : ¬ xIa T 0 r = -1 := by rw [e2]; intro q; have := nI_pos (n := o) (by omega); rw [q] at this; exact absurd (by decide) this
  rw [← mnmx]
  · unfold xCapP; rw [if_neg h1, if_neg h2]; rfl
  · unfold capLo capHi
    rw [e, e2, nI_l (n := o) (by omega), lcap_low hc1 ho1, lcap_high hc1 ho1]
    have hm2 : (100 - c) * o ≤ (100 + c) * o := Nat.mul_le_mul_right _ (by omega)
    have hm3 : (100 + c) * o ≤ 1100 * 10000000 := Nat.mul_le_mul (by omega) ho1
    have hm4 := Nat.div_le_div_right (c := 100) hm2
    by_cases q : 100 < c
    · rw [if_pos q]; exact (pk_lLE (a := 0) (by decide) (by omega)).mpr (Nat.zero_le _)
    · rw [if_neg q]; exact (pk_lLE (by omega) (by omega)).mpr hm4
theorem lr_newp (h : LR n T S) {r : Nat} (hr : r < n) : xFit T r * (lA S 7 3).toInt64 / 10000 = xNewP T r := by
  unfold xNewP
  rw [lr_m3 h, lr_fit h hr]
end REL
end
section
set_option maxRecDepth 100000 in
set_option maxHeartbeats 4000000 in
theorem k_L_from (l : Launch) (g : gG) (S : WS) (k b : Nat) (hk : k < 1000) (hb0 : 0 < b) (hb1 : b < 2 ^ 31) : Met l yL_from (wA yL_from cL_from 4 (some .int)) ({ frames := 0, cells := 0, slots := 0, locals := 0 }) (PW g S [.ref (gB g), .int (nI k), .int (nI b)]) (RQ (some (.int (nI (fV (gN g) (gX g) k b))))) 0 0 (fun _ => False) := by
  refine metI (by decide +kernel) (Nat.le_of_ble_eq_true rfl) ?_
  intro p e s m below meth c C hb hml hret hlk hP ls hl
  have C : CW g RL p s m ([.ref (gB g), .int (nI k), .int (nI b)] : List Value).toArray := C
  have hS : va_S (Ab g) s.heap s.heap [] := va_S.rf
  have hl : lv_has ls 4 [(0, .ref (gB g)), (1, .int (nI k)), (2, .int (nI b))] := hl
  obtain ⟨hX, hbl, hbA, hN⟩ := C.2.2.2.2.2.2.2.2.2
  refine lv_aload_n C.1 hb dL_from_0 rfl (lv_at hl 0 rfl) ?_
  refine va_slen C.1 hb hX hbl hbA hS dL_from_1 ?_
  refine lv_if_ne (tgt := 17) C.1 hb dL_from_2 (by decide) (fun c83 => ?_) (fun c83 => ?_)
  · have hz : ¬ gN g = 0 := fun q => c83 (by rw [q]; rfl)
    refine lv_aload_n C.1 hb dL_from_17 rfl (lv_at hl 0 rfl) ?_
    refine lv_iload_n C.1 hb dL_from_18 rfl (lv_at hl 1 rfl) ?_
    refine lv_aload_n C.1 hb dL_from_19 rfl (lv_at hl 0 rfl) ?_
    refine va_slen C.1 hb hX hbl hbA hS dL_from_20 ?_
    refine lv_irem C.1 hb dL_from_21 (nI_ne0 (by omega) (by omega)) ?_
    refine toI (pk_rem (a := k) (d := (gN g)) (by omega) (by omega) (by omega)) ?_
    have hlt : k % gN g < gN g := Nat.mod_lt _ (by omega)
    refine va_sld C.1 hb hX hbl hbA hS (vp_in_nI hlt (by omega)) dL_from_22 ?_
    rw [nI_clamp (by omega)]
    refine lv_ldc (v := 156007) C.1 hb C.2.1 (C.2.2.1 _ wm_101) dL_from_23 ?_
    refine lv_iload_n C.1 hb dL_from_25 rfl (lv_at hl 1 rfl) ?_
    refine lv_imul C.1 hb dL_from_26 ?_
    refine lv_ixor C.1 hb dL_from_27 ?_
    refine toI (show _ = fraw (gN g) (gX g) k from (if_neg hz).symm) ?_
    refine lv_istore_n (lv' := [(3, .int (fraw (gN g) (gX g) k)), (0, .ref (gB g)), (1, .int (nI k)), (2, .int (nI b))]) C.1 hb dL_from_28 rfl hl (by decide) rfl (fun ls hl => ?_)
    refine lv_iload_n C.1 hb dL_from_29 rfl (lv_at hl 0 rfl) ?_
    refine lv_ldc (v := 2147483647) C.1 hb C.2.1 (C.2.2.1 _ wm_102) dL_from_30 ?_
    refine lv_iand C.1 hb dL_from_32 ?_
    refine toI (pk_and (fraw (gN g) (gX g) k) (m := 2147483647) 31 (by decide)) ?_
    refine lv_iload_n C.1 hb dL_from_33 rfl (lv_at hl 3 rfl) ?_
    refine lv_irem C.1 hb dL_from_34 (nI_ne0 hb0 hb1) ?_
    refine toI (pk_rem (a := ((fraw (gN g) (gX g) k).toBitVec.toNat % 2 ^ 31)) (d := b) (by omega) hb0 hb1) ?_
    exact rdI C hb hret hlk dL_from_35 rfl
  · have hz : gN g = 0 := (nI_eq (a := gN g) (b := 0) (by omega) (by decide)).mp c83
    refine lv_sipush (v := 181) C.1 hb dL_from_5 (by decide) ?_
    refine lv_iload_n C.1 hb dL_from_8 rfl (lv_at hl 1 rfl) ?_
    refine lv_imul C.1 hb dL_from_9 ?_
    refine lv_sipush (v := 157) C.1 hb dL_from_10 (by decide) ?_
    refine lv_iadd C.1 hb dL_from_13 ?_
    refine lv_goto (tgt := 28) C.1 hb dL_from_14 (by decide) ?_
    refine toI (show _ = fraw (gN g) (gX g) k from (if_pos hz).symm) ?_
    refine lv_istore_n (lv' := [(3, .int (fraw (gN g) (gX g) k)), (0, .ref (gB g)), (1, .int (nI k)), (2, .int (nI b))]) C.1 hb dL_from_28 rfl hl (by decide) rfl (fun ls hl => ?_)
    refine lv_iload_n C.1 hb dL_from_29 rfl (lv_at hl 0 rfl) ?_
    refine lv_ldc (v := 2147483647) C.1 hb C.2.1 (C.2.2.1 _ wm_102) dL_from_30 ?_
    refine lv_iand C.1 hb dL_from_32 ?_
    refine toI (pk_and (fraw (gN g) (gX g) k) (m := 2147483647) 31 (by decide)) ?_
    refine lv_iload_n C.1 hb dL_from_33 rfl (lv_at hl 3 rfl) ?_
    refine lv_irem C.1 hb dL_from_34 (nI_ne0 hb0 hb1) ?_
    refine toI (pk_rem (a := ((fraw (gN g) (gX g) k).toBitVec.toNat % 2 ^ 31)) (d := b) (by omega) hb0 hb1) ?_
    exact rdI C hb hret hlk dL_from_35 rfl

set_option maxRecDepth 100000 in
set_option maxHeartbeats 4000000 in
theorem k_L_many (l : Launch) (g : gG) (S : WS) (t : Nat) (ht : t < 3) : Met l yL_many (wA yL_many cL_many 1 (some .int)) ({ frames := 0, cells := 0, slots := 0, locals := 0 }) (PW g S [.int (nI t)]) (RQ (some (.int (nI (levN t))))) 0 0 (fun _ => False) := by
  refine metI (by decide +kernel) (Nat.le_of_ble_eq_true rfl) ?_
  intro p e s m below meth c C hb hml hret hlk hP ls hl
  have C : CW g RL p s m ([.int (nI t)] : List Value).toArray := C
  have hS : va_S (Ab g) s.heap s.heap [] := va_S.rf
  have hl : lv_has ls 1 [(0, .int (nI t))] := hl
  refine lv_iload_n C.1 hb dL_many_0 rfl (lv_at hl 0 rfl) ?_
  refine lv_iconst (v := 1) C.1 hb dL_many_1 (by decide) ?_
  refine lv_icmp_ne (tgt := 9) C.1 hb dL_many_2 (by decide) (fun c84 => ?_) (fun c84 => ?_)
  · refine lv_iconst (v := 4) C.1 hb dL_many_9 (by decide) ?_
    exact rdI C hb hret hlk dL_many_10 (by rw [show levN t = 4 from if_neg (fun q => c84 (by rw [q]; rfl))]; rfl)
  · refine lv_iconst (v := 3) C.1 hb dL_many_5 (by decide) ?_
    refine lv_goto (tgt := 10) C.1 hb dL_many_6 (by decide) ?_
    exact rdI C hb hret hlk dL_many_10 (by rw [show levN t = 3 from if_pos ((nI_eq (a := t) (b := 1) (by omega) (by decide)).mp c84)]; rfl)

set_option maxRecDepth 100000 in
set_option maxHeartbeats 4000000 in
theorem k_L_base (l : Launch) (g : gG) (S : WS) (n : Nat) (T : WS) (hR : LR n T S) : Met l yL_base (wA yL_base cL_base 9 (some .long)) ({ frames := 0, cells := 0, slots := 0, locals := 0 }) (PW g S [.ref (gA g 18), .ref (gA g 20), .ref (gA g 22), .ref (gA g 24)]) (RQ (some (.long (xBase1 T n)))) 0 0 (fun _ => False) := by
  refine metI (by decide +kernel) (Nat.le_of_ble_eq_true rfl) ?_
  intro p e s m below meth c C hb hml hret hlk hP ls hl
  have C : CW g RL p s m ([.ref (gA g 18), .ref (gA g 20), .ref (gA g 22), .ref (gA g 24)] : List Value).toArray := C
  have hS : va_S (Ab g) s.heap s.heap [] := va_S.rf
  have hl : lv_has ls 9 [(0, .ref (gA g 18)), (1, .ref (gA g 20)), (2, .ref (gA g 22)), (3, .ref (gA g 24))] := hl
  have hn12 := lr_n hR
  refine lv_lconst (v := 0) C.1 hb dL_base_0 (by decide) ?_
  refine lv_lstore (lv' := [(4, .long 0), (0, .ref (gA g 18)), (1, .ref (gA g 20)), (2, .ref (gA g 22)), (3, .ref (gA g 24))]) C.1 hb dL_base_1 hl (by decide) rfl (fun ls hl => ?_)
  refine lv_lconst (v := 0) C.1 hb dL_base_3 (by decide) ?_
  refine lv_lstore (lv' := [(6, .long 0), (4, .long 0), (0, .ref (gA g 18)), (1, .ref (gA g 20)), (2, .ref (gA g 22)), (3, .ref (gA g 24))]) C.1 hb dL_base_4 hl (by decide) rfl (fun ls hl => ?_)
  refine lv_iconst (v := 0) C.1 hb dL_base_6 (by decide) ?_
  refine lv_istore (lv' := [(8, .int 0), (6, .long 0), (4, .long 0), (0, .ref (gA g 18)), (1, .ref (gA g 20)), (2, .ref (gA g 22)), (3, .ref (gA g 24))]) C.1 hb dL_base_7 hl (by decide) rfl (fun ls hl => ?_)
  have key : ∀ f i : Nat, n - i < f → i ≤ n → ∀ ls : Array Slot, lv_has ls 9 [(0, .ref (gA g 18)), (1, .ref (gA g 20)), (2, .ref (gA g 22)), (3, .ref (gA g 24)), (4, .long (xTot (xIa T 1) (xLng T 2) i)), (6, .long (xTot (xIa T 1) (xLng T 0) i)), (8, .int (nI i))] → W p l e ({ frames := 0, cells := 0, slots := 0, locals := 0 }) s m ([.ref (gA g 18), .ref (gA g 20), .ref (gA g 22), .ref (gA g 24)] : List Value).toArray below meth c s.heap [] 0 0 (MQ below (RQ (some (.long (xBase1 T n)))) ([.ref (gA g 18), .ref (gA g 20), .ref (gA g 22), .ref (gA g 24)] : List Value).toArray s 0 0 (fun _ => False)) (F0 m 9 ls []) := by
    intro f
    induction f with
    | zero => intro i h; exact absurd h (Nat.not_lt_zero _)
    | succ f ih =>
      intro i hfi hi  ls hl
      refine lv_iload C.1 hb dL_base_9 (lv_at hl 6 rfl) ?_
      refine lv_aload_n C.1 hb dL_base_11 rfl (lv_at hl 3 rfl) ?_
      refine lv_iconst (v := 0) C.1 hb dL_base_12 (by decide) ?_
      refine ldA_m (j := 0) C hb hP (by decide) (by decide) dL_base_13 ?_
      refine toI (lr_m0 hR) ?_
      refine lv_icmp_ge (tgt := 67) C.1 hb dL_base_14 (by decide) (fun c85 => ?_) (fun c85 => ?_)
      · have hin : i = n := by have := le_nI (a := n) (b := i) (by omega) (by omega) c85; omega
        rw [hin] at hl
        refine lv_lload C.1 hb dL_base_67 (lv_at hl 5 rfl) ?_
        refine lv_lconst (v := 0) C.1 hb dL_base_69 (by decide) ?_
        refine lc_ne (tgt := 78) C hb dL_base_70 dL_base_71 (by decide) (fun c86 => ?_) (fun c86 => ?_)
        · refine lv_lload C.1 hb dL_base_78 (lv_at hl 4 rfl) ?_
          refine lv_ldc2 (v := 10000) C.1 hb C.2.1 (C.2.2.1 _ wm_110) dL_base_80 ?_
          refine lv_lmul C.1 hb dL_base_83 ?_
          refine lv_lload C.1 hb dL_base_84 (lv_at hl 5 rfl) ?_
          refine lv_ldiv C.1 hb dL_base_86 c86 ?_
          exact rdL C hb hret hlk dL_base_87 (lr_b2 hR.1 c86)
        · refine lv_lconst (v := 0) C.1 hb dL_base_74 (by decide) ?_
          refine lv_goto (tgt := 87) C.1 hb dL_base_75 (by decide) ?_
          exact rdL C hb hret hlk dL_base_87 (lr_b1 hR.1 c86)
      · have hlt : i < n := nle_nI (a := n) (b := i) (by omega) (by omega) c85
        refine lv_lload C.1 hb dL_base_17 (lv_at hl 4 rfl) ?_
        refine lv_aload_n C.1 hb dL_base_19 rfl (lv_at hl 2 rfl) ?_
        refine lv_iload C.1 hb dL_base_20 (lv_at hl 6 rfl) ?_
        refine ldA_g (j := i) C hb hP rfl (by omega) dL_base_22 ?_
        refine lv_iconst (v := 1) C.1 hb dL_base_23 (by decide) ?_
        refine lv_icmp_ne (tgt := 31) C.1 hb dL_base_24 (by decide) (fun c87 => ?_) (fun c87 => ?_)
        · have hv := lr_g0 hR hlt c87
          refine lv_aload_n C.1 hb dL_base_31 rfl (lv_at hl 1 rfl) ?_
          refine lv_iload C.1 hb dL_base_32 (lv_at hl 6 rfl) ?_
          refine ldA_d (j := i) C hb hP rfl (by omega) dL_base_34 ?_
          refine lv_i2l C.1 hb dL_base_35 rfl ?_
          refine toL (lr_d hR hlt) ?_
          refine lv_ladd C.1 hb dL_base_36 ?_
          refine lv_lstore (lv' := [(4, .long ((xTot (xIa T 1) (xLng T 2) i) + (xLng T 2 i))), (0, .ref (gA g 18)), (1, .ref (gA g 20)), (2, .ref (gA g 22)), (3, .ref (gA g 24)), (6, .long (xTot (xIa T 1) (xLng T 0) i)), (8, .int (nI i))]) C.1 hb dL_base_37 hl (by decide) rfl (fun ls hl => ?_)
          refine lv_lload C.1 hb dL_base_39 (lv_at hl 5 rfl) ?_
          refine lv_aload_n C.1 hb dL_base_41 rfl (lv_at hl 3 rfl) ?_
          refine lv_iload C.1 hb dL_base_42 (lv_at hl 6 rfl) ?_
          refine ldA_g (j := i) C hb hP rfl (by omega) dL_base_44 ?_
          refine lv_iconst (v := 1) C.1 hb dL_base_45 (by decide) ?_
          refine lv_icmp_ne (tgt := 53) C.1 hb dL_base_46 (by decide) (fun _ => ?_) (fun c9 => absurd c9 c87)
          refine lv_aload_n C.1 hb dL_base_53 rfl (lv_at hl 1 rfl) ?_
          refine lv_iload C.1 hb dL_base_54 (lv_at hl 6 rfl) ?_
          refine ldA_x (j := i) C hb hP rfl (by omega) dL_base_56 ?_
          refine lv_i2l C.1 hb dL_base_57 rfl ?_
          refine toL (lr_x hR hlt) ?_
          refine lv_ladd C.1 hb dL_base_58 ?_
          refine lv_lstore (lv' := [(6, .long ((xTot (xIa T 1) (xLng T 0) i) + (xLng T 0 i))), (4, .long ((xTot (xIa T 1) (xLng T 2) i) + (xLng T 2 i))), (0, .ref (gA g 18)), (1, .ref (gA g 20)), (2, .ref (gA g 22)), (3, .ref (gA g 24)), (8, .int (nI i))]) C.1 hb dL_base_59 hl (by decide) rfl (fun ls hl => ?_)
          refine lv_iinc (v := nI (i + 1)) (lv' := [(8, .int (nI (i + 1))), (6, .long ((xTot (xIa T 1) (xLng T 0) i) + (xLng T 0 i))), (4, .long ((xTot (xIa T 1) (xLng T 2) i) + (xLng T 2 i))), (0, .ref (gA g 18)), (1, .ref (gA g 20)), (2, .ref (gA g 22)), (3, .ref (gA g 24))]) C.1 hb dL_base_61 hl (k := 6) rfl (nI_1 i) (by decide) rfl (fun ls hl => ?_)
          refine lv_goto (tgt := 9) C.1 hb dL_base_64 (by decide) ?_
          exact ih (i + 1) (by omega) (by omega)  ls (by rw [xTot_n hv, xTot_n hv]; exact lv_sub hl [3, 4, 5, 6, 2, 1, 0] rfl)
        · have hv := lr_g1 hR hlt c87
          refine lv_lconst (v := 0) C.1 hb dL_base_27 (by decide) ?_
          refine lv_goto (tgt := 36) C.1 hb dL_base_28 (by decide) ?_
          refine lv_ladd C.1 hb dL_base_36 ?_
          refine toL (Int64.add_zero _) ?_
          refine lv_lstore (lv' := [(4, .long (xTot (xIa T 1) (xLng T 2) i)), (0, .ref (gA g 18)), (1, .ref (gA g 20)), (2, .ref (gA g 22)), (3, .ref (gA g 24)), (6, .long (xTot (xIa T 1) (xLng T 0) i)), (8, .int (nI i))]) C.1 hb dL_base_37 hl (by decide) rfl (fun ls hl => ?_)
          refine lv_lload C.1 hb dL_base_39 (lv_at hl 5 rfl) ?_
          refine lv_aload_n C.1 hb dL_base_41 rfl (lv_at hl 3 rfl) ?_
          refine lv_iload C.1 hb dL_base_42 (lv_at hl 6 rfl) ?_
          refine ldA_g (j := i) C hb hP rfl (by omega) dL_base_44 ?_
          refine lv_iconst (v := 1) C.1 hb dL_base_45 (by decide) ?_
          refine lv_icmp_ne (tgt := 53) C.1 hb dL_base_46 (by decide) (fun c9 => absurd c87 c9) (fun _ => ?_)
          refine lv_lconst (v := 0) C.1 hb dL_base_49 (by decide) ?_
          refine lv_goto (tgt := 58) C.1 hb dL_base_50 (by decide) ?_
          refine lv_ladd C.1 hb dL_base_58 ?_
          refine toL (Int64.add_zero _) ?_
          refine lv_lstore (lv' := [(6, .long (xTot (xIa T 1) (xLng T 0) i)), (4, .long (xTot (xIa T 1) (xLng T 2) i)), (0, .ref (gA g 18)), (1, .ref (gA g 20)), (2, .ref (gA g 22)), (3, .ref (gA g 24)), (8, .int (nI i))]) C.1 hb dL_base_59 hl (by decide) rfl (fun ls hl => ?_)
          refine lv_iinc (v := nI (i + 1)) (lv' := [(8, .int (nI (i + 1))), (6, .long (xTot (xIa T 1) (xLng T 0) i)), (4, .long (xTot (xIa T 1) (xLng T 2) i)), (0, .ref (gA g 18)), (1, .ref (gA g 20)), (2, .ref (gA g 22)), (3, .ref (gA g 24))]) C.1 hb dL_base_61 hl (k := 6) rfl (nI_1 i) (by decide) rfl (fun ls hl => ?_)
          refine lv_goto (tgt := 9) C.1 hb dL_base_64 (by decide) ?_
          exact ih (i + 1) (by omega) (by omega)  ls (by rw [xTot_z hv, xTot_z hv]; exact lv_sub hl [3, 4, 5, 6, 2, 1, 0] rfl)
  exact key (n - 0 + 1) 0 (by omega) (by omega)  ls (lv_sub hl [3, 4, 5, 6, 2, 1, 0] rfl)

set_option maxRecDepth 100000 in
set_option maxHeartbeats 4000000 in
theorem k_L_fitted (l : Launch) (g : gG) (S : WS) (n : Nat) (T : WS) (hR : LR n T S) (r : Nat) (hr : r < n) : Met l yL_fitted (wA yL_fitted cL_fitted 12 (some .long)) ({ frames := 0, cells := 0, slots := 0, locals := 0 }) (PW g S [.ref (gA g 17), .ref (gA g 18), .ref (gA g 23), .int (nI r), .long (xBase T)]) (RQ (some (.long (xFit T r)))) 0 0 (fun _ => False) := by
  refine metI (by decide +kernel) (Nat.le_of_ble_eq_true rfl) ?_
  intro p e s m below meth c C hb hml hret hlk hP ls hl
  have C : CW g RL p s m ([.ref (gA g 17), .ref (gA g 18), .ref (gA g 23), .int (nI r), .long (xBase T)] : List Value).toArray := C
  have hS : va_S (Ab g) s.heap s.heap [] := va_S.rf
  have hl : lv_has ls 12 [(0, .ref (gA g 17)), (1, .ref (gA g 18)), (2, .ref (gA g 23)), (3, .int (nI r)), (4, .long (xBase T))] := hl
  have hn12 := lr_n hR
  have hl0 := lr_lev hR (t := 0) (k := r) (by decide) hr
  have hl1 := lr_lev hR (t := 1) (k := r) (by decide) hr
  have hl2 := lr_lev hR (t := 2) (k := r) (by decide) hr
  refine lv_lload C.1 hb dL_fitted_0 (lv_at hl 4 rfl) ?_
  refine lv_aload_n C.1 hb dL_fitted_2 rfl (lv_at hl 1 rfl) ?_
  refine lv_iload_n C.1 hb dL_fitted_3 rfl (lv_at hl 3 rfl) ?_
  refine ldA_x (j := r) C hb hP rfl (by omega) dL_fitted_4 ?_
  refine lv_i2l C.1 hb dL_fitted_5 rfl ?_
  refine lv_lmul C.1 hb dL_fitted_6 ?_
  refine lv_ldc2 (v := 10000) C.1 hb C.2.1 (C.2.2.1 _ wm_110) dL_fitted_7 ?_
  refine lv_ldiv C.1 hb dL_fitted_10 (by decide) ?_
  refine toL (lr_fit0 hR hr) ?_
  refine lv_lstore (lv' := [(6, .long (xFitN T r 0)), (0, .ref (gA g 17)), (1, .ref (gA g 18)), (2, .ref (gA g 23)), (3, .int (nI r)), (4, .long (xBase T))]) C.1 hb dL_fitted_11 hl (by decide) rfl (fun ls hl => ?_)
  refine lv_lload C.1 hb dL_fitted_13 (lv_at hl 0 rfl) ?_
  refine lv_aload_n C.1 hb dL_fitted_15 rfl (lv_at hl 3 rfl) ?_
  refine lv_aload_n C.1 hb dL_fitted_16 rfl (lv_at hl 1 rfl) ?_
  refine lv_iconst (v := 3) C.1 hb dL_fitted_17 (by decide) ?_
  refine lv_iload_n C.1 hb dL_fitted_18 rfl (lv_at hl 4 rfl) ?_
  refine lv_imul C.1 hb dL_fitted_19 ?_
  refine ldA_l (j := (3 * r)) C hb hP (pk_mul 3 r) (by omega) dL_fitted_20 ?_
  refine toI (lr_l hR (t := 0) (by decide) hr) ?_
  refine ldA_f (j := (tN (xLev T 0 r))) C hb hP rfl (by have := levN_4 0; omega) dL_fitted_21 ?_
  refine toI ((congrArg (lA S 6) (by omega : tN (xLev T 0 r) = 4 * 0 + tN (xLev T 0 r))).trans (lr_fl hR (t := 0) (by decide) hr)) ?_
  refine lv_i2l C.1 hb dL_fitted_22 rfl ?_
  refine lv_lmul C.1 hb dL_fitted_23 ?_
  refine lv_ldc2 (v := 10000) C.1 hb C.2.1 (C.2.2.1 _ wm_110) dL_fitted_24 ?_
  refine lv_ldiv C.1 hb dL_fitted_27 (by decide) ?_
  refine toL rfl ?_
  refine lv_lstore (lv' := [(8, .long (xFitN T r 1)), (6, .long (xFitN T r 0)), (0, .ref (gA g 17)), (1, .ref (gA g 18)), (2, .ref (gA g 23)), (3, .int (nI r)), (4, .long (xBase T))]) C.1 hb dL_fitted_28 hl (by decide) rfl (fun ls hl => ?_)
  refine lv_lload C.1 hb dL_fitted_30 (lv_at hl 0 rfl) ?_
  refine lv_aload_n C.1 hb dL_fitted_32 rfl (lv_at hl 4 rfl) ?_
  refine lv_iconst (v := 4) C.1 hb dL_fitted_33 (by decide) ?_
  refine lv_aload_n C.1 hb dL_fitted_34 rfl (lv_at hl 2 rfl) ?_
  refine lv_iconst (v := 3) C.1 hb dL_fitted_35 (by decide) ?_
  refine lv_iload_n C.1 hb dL_fitted_36 rfl (lv_at hl 5 rfl) ?_
  refine lv_imul C.1 hb dL_fitted_37 ?_
  refine lv_iconst (v := 1) C.1 hb dL_fitted_38 (by decide) ?_
  refine lv_iadd C.1 hb dL_fitted_39 ?_
  refine ldA_l (j := (3 * r + 1)) C hb hP (ix3 r 1) (by omega) dL_fitted_40 ?_
  refine toI (lr_l hR (t := 1) (by decide) hr) ?_
  refine lv_iadd C.1 hb dL_fitted_41 ?_
  refine ldA_f (j := (4 + tN (xLev T 1 r))) C hb hP (nI_add 4 _) (by have := levN_4 1; omega) dL_fitted_42 ?_
  refine toI (lr_fl hR (t := 1) (by decide) hr) ?_
  refine lv_i2l C.1 hb dL_fitted_43 rfl ?_
  refine lv_lmul C.1 hb dL_fitted_44 ?_
  refine lv_ldc2 (v := 10000) C.1 hb C.2.1 (C.2.2.1 _ wm_110) dL_fitted_45 ?_
  refine lv_ldiv C.1 hb dL_fitted_48 (by decide) ?_
  refine toL rfl ?_
  refine lv_lstore (lv' := [(10, .long (xFitN T r 2)), (8, .long (xFitN T r 1)), (6, .long (xFitN T r 0)), (0, .ref (gA g 17)), (1, .ref (gA g 18)), (2, .ref (gA g 23)), (3, .int (nI r)), (4, .long (xBase T))]) C.1 hb dL_fitted_49 hl (by decide) rfl (fun ls hl => ?_)
  refine lv_lload C.1 hb dL_fitted_51 (lv_at hl 0 rfl) ?_
  refine lv_aload_n C.1 hb dL_fitted_53 rfl (lv_at hl 5 rfl) ?_
  refine lv_bipush (v := 8) C.1 hb dL_fitted_54 (by decide) ?_
  refine lv_aload_n C.1 hb dL_fitted_56 rfl (lv_at hl 3 rfl) ?_
  refine lv_iconst (v := 3) C.1 hb dL_fitted_57 (by decide) ?_
  refine lv_iload_n C.1 hb dL_fitted_58 rfl (lv_at hl 6 rfl) ?_
  refine lv_imul C.1 hb dL_fitted_59 ?_
  refine lv_iconst (v := 2) C.1 hb dL_fitted_60 (by decide) ?_
  refine lv_iadd C.1 hb dL_fitted_61 ?_
  refine ldA_l (j := (3 * r + 2)) C hb hP (ix3 r 2) (by omega) dL_fitted_62 ?_
  refine toI (lr_l hR (t := 2) (by decide) hr) ?_
  refine lv_iadd C.1 hb dL_fitted_63 ?_
  refine ldA_f (j := (8 + tN (xLev T 2 r))) C hb hP (nI_add 8 _) (by have := levN_4 2; omega) dL_fitted_64 ?_
  refine toI (lr_fl hR (t := 2) (by decide) hr) ?_
  refine lv_i2l C.1 hb dL_fitted_65 rfl ?_
  refine lv_lmul C.1 hb dL_fitted_66 ?_
  refine lv_ldc2 (v := 10000) C.1 hb C.2.1 (C.2.2.1 _ wm_110) dL_fitted_67 ?_
  refine lv_ldiv C.1 hb dL_fitted_70 (by decide) ?_
  refine toL rfl ?_
  exact rdL C hb hret hlk dL_fitted_71 rfl

set_option maxRecDepth 100000 in
set_option maxHeartbeats 4000000 in
theorem k_L_sum0 (l : Launch) (g : gG) (S : WS) (n : Nat) (T : WS) (hR : LR n T S) (t k : Nat) (ht : t < 3) (hk : k < levN t) : Met l yL_sum (wA yL_sum cL_sum 16 (some .long)) ({ frames := 1, cells := 0, slots := 0, locals := 40 }) (PW g S [.ref (gA g 17), .ref (gA g 18), .ref (gA g 19), .ref (gA g 20), .ref (gA g 22), .ref (gA g 23), .ref (gA g 24), .int 0, .int (nI t), .int (nI k)]) (RQ (some (.long (xLTot (xIa T 1) (xLev T t) (nI k) (xLng T 2) n)))) 0 0 (fun _ => False) := by
  refine metI (by decide +kernel) (Nat.le_of_ble_eq_true rfl) ?_
  intro p e s m below meth c C hb hml hret hlk hP ls hl
  have C : CW g RL p s m ([.ref (gA g 17), .ref (gA g 18), .ref (gA g 19), .ref (gA g 20), .ref (gA g 22), .ref (gA g 23), .ref (gA g 24), .int 0, .int (nI t), .int (nI k)] : List Value).toArray := C
  have hS : va_S (Ab g) s.heap s.heap [] := va_S.rf
  have hl : lv_has ls 16 [(0, .ref (gA g 17)), (1, .ref (gA g 18)), (2, .ref (gA g 19)), (3, .ref (gA g 20)), (4, .ref (gA g 22)), (5, .ref (gA g 23)), (6, .ref (gA g 24)), (7, .int 0), (8, .int (nI t)), (9, .int (nI k))] := hl
  have hn12 := lr_n hR
  refine lv_aload_n C.1 hb dL_sum_0 rfl (lv_at hl 1 rfl) ?_
  refine lv_aload_n C.1 hb dL_sum_1 rfl (lv_at hl 3 rfl) ?_
  refine lv_aload C.1 hb dL_sum_2 (lv_at hl 4 rfl) ?_
  refine lv_aload C.1 hb dL_sum_4 (lv_at hl 6 rfl) ?_
  refine run_rd (cRunS (As := [.ref (gA g 18), .ref (gA g 20), .ref (gA g 22), .ref (gA g 24)]) (rest := []) C hb (hml.trans hl.1.symm) hP hS (k_L_base l g S n T hR) wm_195 wm_196 wm_197 wm_2 (n := 4) (by decide +kernel) rfl ⟨rfl, rfl, Nat.le_of_ble_eq_true rfl, Nat.le_of_ble_eq_true rfl⟩ (Nat.le_of_ble_eq_true rfl) rfl ⟨Nat.zero_le _, Nat.zero_le _⟩ dL_sum_6) ?_
  refine toL (lr_base hR).symm ?_
  refine lv_lstore (lv' := [(10, .long (xBase T)), (0, .ref (gA g 17)), (1, .ref (gA g 18)), (2, .ref (gA g 19)), (3, .ref (gA g 20)), (4, .ref (gA g 22)), (5, .ref (gA g 23)), (6, .ref (gA g 24)), (7, .int 0), (8, .int (nI t)), (9, .int (nI k))]) C.1 hb dL_sum_9 hl (by decide) rfl (fun ls hl => ?_)
  refine lv_lconst (v := 0) C.1 hb dL_sum_11 (by decide) ?_
  refine lv_lstore (lv' := [(12, .long 0), (10, .long (xBase T)), (0, .ref (gA g 17)), (1, .ref (gA g 18)), (2, .ref (gA g 19)), (3, .ref (gA g 20)), (4, .ref (gA g 22)), (5, .ref (gA g 23)), (6, .ref (gA g 24)), (7, .int 0), (8, .int (nI t)), (9, .int (nI k))]) C.1 hb dL_sum_12 hl (by decide) rfl (fun ls hl => ?_)
  refine lv_iconst (v := 0) C.1 hb dL_sum_14 (by decide) ?_
  refine lv_istore (lv' := [(14, .int 0), (12, .long 0), (10, .long (xBase T)), (0, .ref (gA g 17)), (1, .ref (gA g 18)), (2, .ref (gA g 19)), (3, .ref (gA g 20)), (4, .ref (gA g 22)), (5, .ref (gA g 23)), (6, .ref (gA g 24)), (7, .int 0), (8, .int (nI t)), (9, .int (nI k))]) C.1 hb dL_sum_15 hl (by decide) rfl (fun ls hl => ?_)
  have key : ∀ f i : Nat, n - i < f → i ≤ n → ∀ ls : Array Slot, lv_has ls 16 [(0, .ref (gA g 17)), (1, .ref (gA g 18)), (2, .ref (gA g 19)), (3, .ref (gA g 20)), (4, .ref (gA g 22)), (5, .ref (gA g 23)), (6, .ref (gA g 24)), (7, .int 0), (8, .int (nI t)), (9, .int (nI k)), (10, .long (xBase T)), (12, .long (xLTot (xIa T 1) (xLev T t) (nI k) (xLng T 2) i)), (14, .int (nI i))] → W p l e ({ frames := 1, cells := 0, slots := 0, locals := 40 }) s m ([.ref (gA g 17), .ref (gA g 18), .ref (gA g 19), .ref (gA g 20), .ref (gA g 22), .ref (gA g 23), .ref (gA g 24), .int 0, .int (nI t), .int (nI k)] : List Value).toArray below meth c s.heap [] 0 0 (MQ below (RQ (some (.long (xLTot (xIa T 1) (xLev T t) (nI k) (xLng T 2) n)))) ([.ref (gA g 17), .ref (gA g 18), .ref (gA g 19), .ref (gA g 20), .ref (gA g 22), .ref (gA g 23), .ref (gA g 24), .int 0, .int (nI t), .int (nI k)] : List Value).toArray s 0 0 (fun _ => False)) (F0 m 17 ls []) := by
    intro f
    induction f with
    | zero => intro i h; exact absurd h (Nat.not_lt_zero _)
    | succ f ih =>
      intro i hfi hi  ls hl
      refine lv_iload C.1 hb dL_sum_17 (lv_at hl 12 rfl) ?_
      refine lv_aload C.1 hb dL_sum_19 (lv_at hl 6 rfl) ?_
      refine lv_iconst (v := 0) C.1 hb dL_sum_21 (by decide) ?_
      refine ldA_m (j := 0) C hb hP (by decide) (by decide) dL_sum_22 ?_
      refine toI (lr_m0 hR) ?_
      refine lv_icmp_ge (tgt := 137) C.1 hb dL_sum_23 (by decide) (fun c88 => ?_) (fun c88 => ?_)
      · have hin : i = n := by have := le_nI (a := n) (b := i) (by omega) (by omega) c88; omega
        rw [hin] at hl
        refine lv_lload C.1 hb dL_sum_137 (lv_at hl 11 rfl) ?_
        exact rdL C hb hret hlk dL_sum_139 rfl
      · have hlt : i < n := nle_nI (a := n) (b := i) (by omega) (by omega) c88
        refine lv_aload C.1 hb dL_sum_26 (lv_at hl 4 rfl) ?_
        refine lv_iload C.1 hb dL_sum_28 (lv_at hl 12 rfl) ?_
        refine ldA_g (j := i) C hb hP rfl (by omega) dL_sum_30 ?_
        refine lv_if_ne (tgt := 52) C.1 hb dL_sum_31 (by decide) (fun c89 => ?_) (fun c89 => ?_)
        · have hv := lr_z1 hR hlt c89
          refine lv_iconst (v := 0) C.1 hb dL_sum_52 (by decide) ?_
          refine lv_istore (lv' := [(15, .int 0), (0, .ref (gA g 17)), (1, .ref (gA g 18)), (2, .ref (gA g 19)), (3, .ref (gA g 20)), (4, .ref (gA g 22)), (5, .ref (gA g 23)), (6, .ref (gA g 24)), (7, .int 0), (8, .int (nI t)), (9, .int (nI k)), (10, .long (xBase T)), (12, .long (xLTot (xIa T 1) (xLev T t) (nI k) (xLng T 2) i)), (14, .int (nI i))]) C.1 hb dL_sum_53 hl (by decide) rfl (fun ls hl => ?_)
          refine lv_lload C.1 hb dL_sum_55 (lv_at hl 12 rfl) ?_
          refine lv_iload C.1 hb dL_sum_57 (lv_at hl 0 rfl) ?_
          refine lv_if_ne (tgt := 66) C.1 hb dL_sum_59 (by decide) (fun c9 => absurd (by decide) c9) (fun _ => ?_)
          refine lv_lconst (v := 0) C.1 hb dL_sum_62 (by decide) ?_
          refine lv_goto (tgt := 128) C.1 hb dL_sum_63 (by decide) ?_
          refine lv_ladd C.1 hb dL_sum_128 ?_
          refine toL (Int64.add_zero _) ?_
          refine lv_lstore (lv' := [(12, .long (xLTot (xIa T 1) (xLev T t) (nI k) (xLng T 2) i)), (15, .int 0), (0, .ref (gA g 17)), (1, .ref (gA g 18)), (2, .ref (gA g 19)), (3, .ref (gA g 20)), (4, .ref (gA g 22)), (5, .ref (gA g 23)), (6, .ref (gA g 24)), (7, .int 0), (8, .int (nI t)), (9, .int (nI k)), (10, .long (xBase T)), (14, .int (nI i))]) C.1 hb dL_sum_129 hl (by decide) rfl (fun ls hl => ?_)
          refine lv_iinc (v := nI (i + 1)) (lv' := [(14, .int (nI (i + 1))), (12, .long (xLTot (xIa T 1) (xLev T t) (nI k) (xLng T 2) i)), (15, .int 0), (0, .ref (gA g 17)), (1, .ref (gA g 18)), (2, .ref (gA g 19)), (3, .ref (gA g 20)), (4, .ref (gA g 22)), (5, .ref (gA g 23)), (6, .ref (gA g 24)), (7, .int 0), (8, .int (nI t)), (9, .int (nI k)), (10, .long (xBase T))]) C.1 hb dL_sum_131 hl (k := 13) rfl (nI_1 i) (by decide) rfl (fun ls hl => ?_)
          refine lv_goto (tgt := 17) C.1 hb dL_sum_134 (by decide) ?_
          exact ih (i + 1) (by omega) (by omega)  ls (by rw [xLTot_z hv]; exact lv_sub hl [3, 4, 5, 6, 7, 8, 9, 10, 11, 12, 13, 1, 0] rfl)
        · have hv := lr_z0 hR hlt c89
          refine lv_aload_n C.1 hb dL_sum_34 rfl (lv_at hl 0 rfl) ?_
          refine lv_iconst (v := 3) C.1 hb dL_sum_35 (by decide) ?_
          refine lv_iload C.1 hb dL_sum_36 (lv_at hl 12 rfl) ?_
          refine lv_imul C.1 hb dL_sum_38 ?_
          refine lv_iload C.1 hb dL_sum_39 (lv_at hl 8 rfl) ?_
          refine lv_iadd C.1 hb dL_sum_41 ?_
          refine ldA_l (j := (3 * i + t)) C hb hP (ix3 i t) (by omega) dL_sum_42 ?_
          refine toI (hR.2.2.2.1 t i ht hlt) ?_
          refine lv_iload C.1 hb dL_sum_43 (lv_at hl 9 rfl) ?_
          refine lv_icmp_ne (tgt := 52) C.1 hb dL_sum_45 (by decide) (fun c90 => ?_) (fun c90 => ?_)
          · refine lv_iconst (v := 0) C.1 hb dL_sum_52 (by decide) ?_
            refine lv_istore (lv' := [(15, .int 0), (0, .ref (gA g 17)), (1, .ref (gA g 18)), (2, .ref (gA g 19)), (3, .ref (gA g 20)), (4, .ref (gA g 22)), (5, .ref (gA g 23)), (6, .ref (gA g 24)), (7, .int 0), (8, .int (nI t)), (9, .int (nI k)), (10, .long (xBase T)), (12, .long (xLTot (xIa T 1) (xLev T t) (nI k) (xLng T 2) i)), (14, .int (nI i))]) C.1 hb dL_sum_53 hl (by decide) rfl (fun ls hl => ?_)
            refine lv_lload C.1 hb dL_sum_55 (lv_at hl 12 rfl) ?_
            refine lv_iload C.1 hb dL_sum_57 (lv_at hl 0 rfl) ?_
            refine lv_if_ne (tgt := 66) C.1 hb dL_sum_59 (by decide) (fun c9 => absurd (by decide) c9) (fun _ => ?_)
            refine lv_lconst (v := 0) C.1 hb dL_sum_62 (by decide) ?_
            refine lv_goto (tgt := 128) C.1 hb dL_sum_63 (by decide) ?_
            refine lv_ladd C.1 hb dL_sum_128 ?_
            refine toL (Int64.add_zero _) ?_
            refine lv_lstore (lv' := [(12, .long (xLTot (xIa T 1) (xLev T t) (nI k) (xLng T 2) i)), (15, .int 0), (0, .ref (gA g 17)), (1, .ref (gA g 18)), (2, .ref (gA g 19)), (3, .ref (gA g 20)), (4, .ref (gA g 22)), (5, .ref (gA g 23)), (6, .ref (gA g 24)), (7, .int 0), (8, .int (nI t)), (9, .int (nI k)), (10, .long (xBase T)), (14, .int (nI i))]) C.1 hb dL_sum_129 hl (by decide) rfl (fun ls hl => ?_)
            refine lv_iinc (v := nI (i + 1)) (lv' := [(14, .int (nI (i + 1))), (12, .long (xLTot (xIa T 1) (xLev T t) (nI k) (xLng T 2) i)), (15, .int 0), (0, .ref (gA g 17)), (1, .ref (gA g 18)), (2, .ref (gA g 19)), (3, .ref (gA g 20)), (4, .ref (gA g 22)), (5, .ref (gA g 23)), (6, .ref (gA g 24)), (7, .int 0), (8, .int (nI t)), (9, .int (nI k)), (10, .long (xBase T))]) C.1 hb dL_sum_131 hl (k := 13) rfl (nI_1 i) (by decide) rfl (fun ls hl => ?_)
            refine lv_goto (tgt := 17) C.1 hb dL_sum_134 (by decide) ?_
            exact ih (i + 1) (by omega) (by omega)  ls (by rw [xLTot_o hv c90]; exact lv_sub hl [3, 4, 5, 6, 7, 8, 9, 10, 11, 12, 13, 1, 0] rfl)
          · refine lv_iconst (v := 1) C.1 hb dL_sum_48 (by decide) ?_
            refine lv_goto (tgt := 53) C.1 hb dL_sum_49 (by decide) ?_
            refine lv_istore (lv' := [(15, .int 1), (0, .ref (gA g 17)), (1, .ref (gA g 18)), (2, .ref (gA g 19)), (3, .ref (gA g 20)), (4, .ref (gA g 22)), (5, .ref (gA g 23)), (6, .ref (gA g 24)), (7, .int 0), (8, .int (nI t)), (9, .int (nI k)), (10, .long (xBase T)), (12, .long (xLTot (xIa T 1) (xLev T t) (nI k) (xLng T 2) i)), (14, .int (nI i))]) C.1 hb dL_sum_53 hl (by decide) rfl (fun ls hl => ?_)
            refine lv_lload C.1 hb dL_sum_55 (lv_at hl 12 rfl) ?_
            refine lv_iload C.1 hb dL_sum_57 (lv_at hl 0 rfl) ?_
            refine lv_if_ne (tgt := 66) C.1 hb dL_sum_59 (by decide) (fun _ => ?_) (fun c9 => absurd c9 (by decide))
            refine lv_iload C.1 hb dL_sum_66 (lv_at hl 8 rfl) ?_
            refine lv_if_ne (tgt := 79) C.1 hb dL_sum_68 (by decide) (fun c9 => absurd (by decide) c9) (fun _ => ?_)
            refine lv_aload_n C.1 hb dL_sum_71 rfl (lv_at hl 4 rfl) ?_
            refine lv_iload C.1 hb dL_sum_72 (lv_at hl 13 rfl) ?_
            refine ldA_d (j := i) C hb hP rfl (by omega) dL_sum_74 ?_
            refine lv_i2l C.1 hb dL_sum_75 rfl ?_
            refine toL (lr_d hR hlt) ?_
            refine lv_goto (tgt := 128) C.1 hb dL_sum_76 (by decide) ?_
            refine lv_ladd C.1 hb dL_sum_128 ?_
            refine lv_lstore (lv' := [(12, .long ((xLTot (xIa T 1) (xLev T t) (nI k) (xLng T 2) i) + (xLng T 2 i))), (15, .int 1), (0, .ref (gA g 17)), (1, .ref (gA g 18)), (2, .ref (gA g 19)), (3, .ref (gA g 20)), (4, .ref (gA g 22)), (5, .ref (gA g 23)), (6, .ref (gA g 24)), (7, .int 0), (8, .int (nI t)), (9, .int (nI k)), (10, .long (xBase T)), (14, .int (nI i))]) C.1 hb dL_sum_129 hl (by decide) rfl (fun ls hl => ?_)
            refine lv_iinc (v := nI (i + 1)) (lv' := [(14, .int (nI (i + 1))), (12, .long ((xLTot (xIa T 1) (xLev T t) (nI k) (xLng T 2) i) + (xLng T 2 i))), (15, .int 1), (0, .ref (gA g 17)), (1, .ref (gA g 18)), (2, .ref (gA g 19)), (3, .ref (gA g 20)), (4, .ref (gA g 22)), (5, .ref (gA g 23)), (6, .ref (gA g 24)), (7, .int 0), (8, .int (nI t)), (9, .int (nI k)), (10, .long (xBase T))]) C.1 hb dL_sum_131 hl (k := 13) rfl (nI_1 i) (by decide) rfl (fun ls hl => ?_)
            refine lv_goto (tgt := 17) C.1 hb dL_sum_134 (by decide) ?_
            exact ih (i + 1) (by omega) (by omega)  ls (by rw [xLTot_q hv c90]; exact lv_sub hl [3, 4, 5, 6, 7, 8, 9, 10, 11, 12, 13, 1, 0] rfl)
  exact key (n - 0 + 1) 0 (by omega) (by omega)  ls (lv_sub hl [3, 4, 5, 6, 7, 8, 9, 10, 11, 12, 2, 1, 0] rfl)

set_option maxRecDepth 100000 in
set_option maxHeartbeats 4000000 in
theorem k_L_sum1 (l : Launch) (g : gG) (S : WS) (n : Nat) (T : WS) (hR : LR n T S) (t k : Nat) (ht : t < 3) (hk : k < levN t) : Met l yL_sum (wA yL_sum cL_sum 16 (some .long)) ({ frames := 1, cells := 0, slots := 0, locals := 40 }) (PW g S [.ref (gA g 17), .ref (gA g 18), .ref (gA g 19), .ref (gA g 20), .ref (gA g 22), .ref (gA g 23), .ref (gA g 24), .int 1, .int (nI t), .int (nI k)]) (RQ (some (.long (xLTot (xIa T 1) (xLev T t) (nI k) (xLng T 3) n)))) 0 0 (fun _ => False) := by
  refine metI (by decide +kernel) (Nat.le_of_ble_eq_true rfl) ?_
  intro p e s m below meth c C hb hml hret hlk hP ls hl
  have C : CW g RL p s m ([.ref (gA g 17), .ref (gA g 18), .ref (gA g 19), .ref (gA g 20), .ref (gA g 22), .ref (gA g 23), .ref (gA g 24), .int 1, .int (nI t), .int (nI k)] : List Value).toArray := C
  have hS : va_S (Ab g) s.heap s.heap [] := va_S.rf
  have hl : lv_has ls 16 [(0, .ref (gA g 17)), (1, .ref (gA g 18)), (2, .ref (gA g 19)), (3, .ref (gA g 20)), (4, .ref (gA g 22)), (5, .ref (gA g 23)), (6, .ref (gA g 24)), (7, .int 1), (8, .int (nI t)), (9, .int (nI k))] := hl
  have hn12 := lr_n hR
  refine lv_aload_n C.1 hb dL_sum_0 rfl (lv_at hl 1 rfl) ?_
  refine lv_aload_n C.1 hb dL_sum_1 rfl (lv_at hl 3 rfl) ?_
  refine lv_aload C.1 hb dL_sum_2 (lv_at hl 4 rfl) ?_
  refine lv_aload C.1 hb dL_sum_4 (lv_at hl 6 rfl) ?_
  refine run_rd (cRunS (As := [.ref (gA g 18), .ref (gA g 20), .ref (gA g 22), .ref (gA g 24)]) (rest := []) C hb (hml.trans hl.1.symm) hP hS (k_L_base l g S n T hR) wm_195 wm_196 wm_197 wm_2 (n := 4) (by decide +kernel) rfl ⟨rfl, rfl, Nat.le_of_ble_eq_true rfl, Nat.le_of_ble_eq_true rfl⟩ (Nat.le_of_ble_eq_true rfl) rfl ⟨Nat.zero_le _, Nat.zero_le _⟩ dL_sum_6) ?_
  refine toL (lr_base hR).symm ?_
  refine lv_lstore (lv' := [(10, .long (xBase T)), (0, .ref (gA g 17)), (1, .ref (gA g 18)), (2, .ref (gA g 19)), (3, .ref (gA g 20)), (4, .ref (gA g 22)), (5, .ref (gA g 23)), (6, .ref (gA g 24)), (7, .int 1), (8, .int (nI t)), (9, .int (nI k))]) C.1 hb dL_sum_9 hl (by decide) rfl (fun ls hl => ?_)
  refine lv_lconst (v := 0) C.1 hb dL_sum_11 (by decide) ?_
  refine lv_lstore (lv' := [(12, .long 0), (10, .long (xBase T)), (0, .ref (gA g 17)), (1, .ref (gA g 18)), (2, .ref (gA g 19)), (3, .ref (gA g 20)), (4, .ref (gA g 22)), (5, .ref (gA g 23)), (6, .ref (gA g 24)), (7, .int 1), (8, .int (nI t)), (9, .int (nI k))]) C.1 hb dL_sum_12 hl (by decide) rfl (fun ls hl => ?_)
  refine lv_iconst (v := 0) C.1 hb dL_sum_14 (by decide) ?_
  refine lv_istore (lv' := [(14, .int 0), (12, .long 0), (10, .long (xBase T)), (0, .ref (gA g 17)), (1, .ref (gA g 18)), (2, .ref (gA g 19)), (3, .ref (gA g 20)), (4, .ref (gA g 22)), (5, .ref (gA g 23)), (6, .ref (gA g 24)), (7, .int 1), (8, .int (nI t)), (9, .int (nI k))]) C.1 hb dL_sum_15 hl (by decide) rfl (fun ls hl => ?_)
  have key : ∀ f i : Nat, n - i < f → i ≤ n → ∀ ls : Array Slot, lv_has ls 16 [(0, .ref (gA g 17)), (1, .ref (gA g 18)), (2, .ref (gA g 19)), (3, .ref (gA g 20)), (4, .ref (gA g 22)), (5, .ref (gA g 23)), (6, .ref (gA g 24)), (7, .int 1), (8, .int (nI t)), (9, .int (nI k)), (10, .long (xBase T)), (12, .long (xLTot (xIa T 1) (xLev T t) (nI k) (xLng T 3) i)), (14, .int (nI i))] → W p l e ({ frames := 1, cells := 0, slots := 0, locals := 40 }) s m ([.ref (gA g 17), .ref (gA g 18), .ref (gA g 19), .ref (gA g 20), .ref (gA g 22), .ref (gA g 23), .ref (gA g 24), .int 1, .int (nI t), .int (nI k)] : List Value).toArray below meth c s.heap [] 0 0 (MQ below (RQ (some (.long (xLTot (xIa T 1) (xLev T t) (nI k) (xLng T 3) n)))) ([.ref (gA g 17), .ref (gA g 18), .ref (gA g 19), .ref (gA g 20), .ref (gA g 22), .ref (gA g 23), .ref (gA g 24), .int 1, .int (nI t), .int (nI k)] : List Value).toArray s 0 0 (fun _ => False)) (F0 m 17 ls []) := by
    intro f
    induction f with
    | zero => intro i h; exact absurd h (Nat.not_lt_zero _)
    | succ f ih =>
      intro i hfi hi  ls hl
      refine lv_iload C.1 hb dL_sum_17 (lv_at hl 12 rfl) ?_
      refine lv_aload C.1 hb dL_sum_19 (lv_at hl 6 rfl) ?_
      refine lv_iconst (v := 0) C.1 hb dL_sum_21 (by decide) ?_
      refine ldA_m (j := 0) C hb hP (by decide) (by decide) dL_sum_22 ?_
      refine toI (lr_m0 hR) ?_
      refine lv_icmp_ge (tgt := 137) C.1 hb dL_sum_23 (by decide) (fun c91 => ?_) (fun c91 => ?_)
      · have hin : i = n := by have := le_nI (a := n) (b := i) (by omega) (by omega) c91; omega
        rw [hin] at hl
        refine lv_lload C.1 hb dL_sum_137 (lv_at hl 11 rfl) ?_
        exact rdL C hb hret hlk dL_sum_139 rfl
      · have hlt : i < n := nle_nI (a := n) (b := i) (by omega) (by omega) c91
        refine lv_aload C.1 hb dL_sum_26 (lv_at hl 4 rfl) ?_
        refine lv_iload C.1 hb dL_sum_28 (lv_at hl 12 rfl) ?_
        refine ldA_g (j := i) C hb hP rfl (by omega) dL_sum_30 ?_
        refine lv_if_ne (tgt := 52) C.1 hb dL_sum_31 (by decide) (fun c92 => ?_) (fun c92 => ?_)
        · have hv := lr_z1 hR hlt c92
          refine lv_iconst (v := 0) C.1 hb dL_sum_52 (by decide) ?_
          refine lv_istore (lv' := [(15, .int 0), (0, .ref (gA g 17)), (1, .ref (gA g 18)), (2, .ref (gA g 19)), (3, .ref (gA g 20)), (4, .ref (gA g 22)), (5, .ref (gA g 23)), (6, .ref (gA g 24)), (7, .int 1), (8, .int (nI t)), (9, .int (nI k)), (10, .long (xBase T)), (12, .long (xLTot (xIa T 1) (xLev T t) (nI k) (xLng T 3) i)), (14, .int (nI i))]) C.1 hb dL_sum_53 hl (by decide) rfl (fun ls hl => ?_)
          refine lv_lload C.1 hb dL_sum_55 (lv_at hl 12 rfl) ?_
          refine lv_iload C.1 hb dL_sum_57 (lv_at hl 0 rfl) ?_
          refine lv_if_ne (tgt := 66) C.1 hb dL_sum_59 (by decide) (fun c9 => absurd (by decide) c9) (fun _ => ?_)
          refine lv_lconst (v := 0) C.1 hb dL_sum_62 (by decide) ?_
          refine lv_goto (tgt := 128) C.1 hb dL_sum_63 (by decide) ?_
          refine lv_ladd C.1 hb dL_sum_128 ?_
          refine toL (Int64.add_zero _) ?_
          refine lv_lstore (lv' := [(12, .long (xLTot (xIa T 1) (xLev T t) (nI k) (xLng T 3) i)), (15, .int 0), (0, .ref (gA g 17)), (1, .ref (gA g 18)), (2, .ref (gA g 19)), (3, .ref (gA g 20)), (4, .ref (gA g 22)), (5, .ref (gA g 23)), (6, .ref (gA g 24)), (7, .int 1), (8, .int (nI t)), (9, .int (nI k)), (10, .long (xBase T)), (14, .int (nI i))]) C.1 hb dL_sum_129 hl (by decide) rfl (fun ls hl => ?_)
          refine lv_iinc (v := nI (i + 1)) (lv' := [(14, .int (nI (i + 1))), (12, .long (xLTot (xIa T 1) (xLev T t) (nI k) (xLng T 3) i)), (15, .int 0), (0, .ref (gA g 17)), (1, .ref (gA g 18)), (2, .ref (gA g 19)), (3, .ref (gA g 20)), (4, .ref (gA g 22)), (5, .ref (gA g 23)), (6, .ref (gA g 24)), (7, .int 1), (8, .int (nI t)), (9, .int (nI k)), (10, .long (xBase T))]) C.1 hb dL_sum_131 hl (k := 13) rfl (nI_1 i) (by decide) rfl (fun ls hl => ?_)
          refine lv_goto (tgt := 17) C.1 hb dL_sum_134 (by decide) ?_
          exact ih (i + 1) (by omega) (by omega)  ls (by rw [xLTot_z hv]; exact lv_sub hl [3, 4, 5, 6, 7, 8, 9, 10, 11, 12, 13, 1, 0] rfl)
        · have hv := lr_z0 hR hlt c92
          refine lv_aload_n C.1 hb dL_sum_34 rfl (lv_at hl 0 rfl) ?_
          refine lv_iconst (v := 3) C.1 hb dL_sum_35 (by decide) ?_
          refine lv_iload C.1 hb dL_sum_36 (lv_at hl 12 rfl) ?_
          refine lv_imul C.1 hb dL_sum_38 ?_
          refine lv_iload C.1 hb dL_sum_39 (lv_at hl 8 rfl) ?_
          refine lv_iadd C.1 hb dL_sum_41 ?_
          refine ldA_l (j := (3 * i + t)) C hb hP (ix3 i t) (by omega) dL_sum_42 ?_
          refine toI (hR.2.2.2.1 t i ht hlt) ?_
          refine lv_iload C.1 hb dL_sum_43 (lv_at hl 9 rfl) ?_
          refine lv_icmp_ne (tgt := 52) C.1 hb dL_sum_45 (by decide) (fun c93 => ?_) (fun c93 => ?_)
          · refine lv_iconst (v := 0) C.1 hb dL_sum_52 (by decide) ?_
            refine lv_istore (lv' := [(15, .int 0), (0, .ref (gA g 17)), (1, .ref (gA g 18)), (2, .ref (gA g 19)), (3, .ref (gA g 20)), (4, .ref (gA g 22)), (5, .ref (gA g 23)), (6, .ref (gA g 24)), (7, .int 1), (8, .int (nI t)), (9, .int (nI k)), (10, .long (xBase T)), (12, .long (xLTot (xIa T 1) (xLev T t) (nI k) (xLng T 3) i)), (14, .int (nI i))]) C.1 hb dL_sum_53 hl (by decide) rfl (fun ls hl => ?_)
            refine lv_lload C.1 hb dL_sum_55 (lv_at hl 12 rfl) ?_
            refine lv_iload C.1 hb dL_sum_57 (lv_at hl 0 rfl) ?_
            refine lv_if_ne (tgt := 66) C.1 hb dL_sum_59 (by decide) (fun c9 => absurd (by decide) c9) (fun _ => ?_)
            refine lv_lconst (v := 0) C.1 hb dL_sum_62 (by decide) ?_
            refine lv_goto (tgt := 128) C.1 hb dL_sum_63 (by decide) ?_
            refine lv_ladd C.1 hb dL_sum_128 ?_
            refine toL (Int64.add_zero _) ?_
            refine lv_lstore (lv' := [(12, .long (xLTot (xIa T 1) (xLev T t) (nI k) (xLng T 3) i)), (15, .int 0), (0, .ref (gA g 17)), (1, .ref (gA g 18)), (2, .ref (gA g 19)), (3, .ref (gA g 20)), (4, .ref (gA g 22)), (5, .ref (gA g 23)), (6, .ref (gA g 24)), (7, .int 1), (8, .int (nI t)), (9, .int (nI k)), (10, .long (xBase T)), (14, .int (nI i))]) C.1 hb dL_sum_129 hl (by decide) rfl (fun ls hl => ?_)
            refine lv_iinc (v := nI (i + 1)) (lv' := [(14, .int (nI (i + 1))), (12, .long (xLTot (xIa T 1) (xLev T t) (nI k) (xLng T 3) i)), (15, .int 0), (0, .ref (gA g 17)), (1, .ref (gA g 18)), (2, .ref (gA g 19)), (3, .ref (gA g 20)), (4, .ref (gA g 22)), (5, .ref (gA g 23)), (6, .ref (gA g 24)), (7, .int 1), (8, .int (nI t)), (9, .int (nI k)), (10, .long (xBase T))]) C.1 hb dL_sum_131 hl (k := 13) rfl (nI_1 i) (by decide) rfl (fun ls hl => ?_)
            refine lv_goto (tgt := 17) C.1 hb dL_sum_134 (by decide) ?_
            exact ih (i + 1) (by omega) (by omega)  ls (by rw [xLTot_o hv c93]; exact lv_sub hl [3, 4, 5, 6, 7, 8, 9, 10, 11, 12, 13, 1, 0] rfl)
          · refine lv_iconst (v := 1) C.1 hb dL_sum_48 (by decide) ?_
            refine lv_goto (tgt := 53) C.1 hb dL_sum_49 (by decide) ?_
            refine lv_istore (lv' := [(15, .int 1), (0, .ref (gA g 17)), (1, .ref (gA g 18)), (2, .ref (gA g 19)), (3, .ref (gA g 20)), (4, .ref (gA g 22)), (5, .ref (gA g 23)), (6, .ref (gA g 24)), (7, .int 1), (8, .int (nI t)), (9, .int (nI k)), (10, .long (xBase T)), (12, .long (xLTot (xIa T 1) (xLev T t) (nI k) (xLng T 3) i)), (14, .int (nI i))]) C.1 hb dL_sum_53 hl (by decide) rfl (fun ls hl => ?_)
            refine lv_lload C.1 hb dL_sum_55 (lv_at hl 12 rfl) ?_
            refine lv_iload C.1 hb dL_sum_57 (lv_at hl 0 rfl) ?_
            refine lv_if_ne (tgt := 66) C.1 hb dL_sum_59 (by decide) (fun _ => ?_) (fun c9 => absurd c9 (by decide))
            refine lv_iload C.1 hb dL_sum_66 (lv_at hl 8 rfl) ?_
            refine lv_if_ne (tgt := 79) C.1 hb dL_sum_68 (by decide) (fun _ => ?_) (fun c9 => absurd c9 (by decide))
            refine lv_iload C.1 hb dL_sum_79 (lv_at hl 8 rfl) ?_
            refine lv_iconst (v := 1) C.1 hb dL_sum_81 (by decide) ?_
            refine lv_icmp_ne (tgt := 99) C.1 hb dL_sum_82 (by decide) (fun c9 => absurd (by decide) c9) (fun _ => ?_)
            refine lv_aload_n C.1 hb dL_sum_85 rfl (lv_at hl 1 rfl) ?_
            refine lv_aload_n C.1 hb dL_sum_86 rfl (lv_at hl 2 rfl) ?_
            refine lv_aload C.1 hb dL_sum_87 (lv_at hl 6 rfl) ?_
            refine lv_iload C.1 hb dL_sum_89 (lv_at hl 13 rfl) ?_
            refine lv_lload C.1 hb dL_sum_91 (lv_at hl 11 rfl) ?_
            refine run_rd (cRunS (As := [.ref (gA g 17), .ref (gA g 18), .ref (gA g 23), .int (nI i), .long (xBase T)]) (rest := [.long (xLTot (xIa T 1) (xLev T t) (nI k) (xLng T 3) i)]) C hb (hml.trans hl.1.symm) hP hS (k_L_fitted l g S n T hR i hlt) wm_198 wm_199 wm_200 wm_2 (n := 5) (by decide +kernel) rfl ⟨rfl, rfl, Nat.le_of_ble_eq_true rfl, Nat.le_of_ble_eq_true rfl⟩ (Nat.le_of_ble_eq_true rfl) rfl ⟨Nat.zero_le _, Nat.zero_le _⟩ dL_sum_93) ?_
            refine toL (lr_fit hR hlt).symm ?_
            refine lv_goto (tgt := 128) C.1 hb dL_sum_96 (by decide) ?_
            refine lv_ladd C.1 hb dL_sum_128 ?_
            refine lv_lstore (lv' := [(12, .long ((xLTot (xIa T 1) (xLev T t) (nI k) (xLng T 3) i) + (xLng T 3 i))), (15, .int 1), (0, .ref (gA g 17)), (1, .ref (gA g 18)), (2, .ref (gA g 19)), (3, .ref (gA g 20)), (4, .ref (gA g 22)), (5, .ref (gA g 23)), (6, .ref (gA g 24)), (7, .int 1), (8, .int (nI t)), (9, .int (nI k)), (10, .long (xBase T)), (14, .int (nI i))]) C.1 hb dL_sum_129 hl (by decide) rfl (fun ls hl => ?_)
            refine lv_iinc (v := nI (i + 1)) (lv' := [(14, .int (nI (i + 1))), (12, .long ((xLTot (xIa T 1) (xLev T t) (nI k) (xLng T 3) i) + (xLng T 3 i))), (15, .int 1), (0, .ref (gA g 17)), (1, .ref (gA g 18)), (2, .ref (gA g 19)), (3, .ref (gA g 20)), (4, .ref (gA g 22)), (5, .ref (gA g 23)), (6, .ref (gA g 24)), (7, .int 1), (8, .int (nI t)), (9, .int (nI k)), (10, .long (xBase T))]) C.1 hb dL_sum_131 hl (k := 13) rfl (nI_1 i) (by decide) rfl (fun ls hl => ?_)
            refine lv_goto (tgt := 17) C.1 hb dL_sum_134 (by decide) ?_
            exact ih (i + 1) (by omega) (by omega)  ls (by rw [xLTot_q hv c93]; exact lv_sub hl [3, 4, 5, 6, 7, 8, 9, 10, 11, 12, 13, 1, 0] rfl)
  exact key (n - 0 + 1) 0 (by omega) (by omega)  ls (lv_sub hl [3, 4, 5, 6, 7, 8, 9, 10, 11, 12, 2, 1, 0] rfl)

set_option maxRecDepth 100000 in
set_option maxHeartbeats 4000000 in
theorem k_L_sum2 (l : Launch) (g : gG) (S : WS) (n : Nat) (T : WS) (hR : LR n T S) (t k : Nat) (ht : t < 3) (hk : k < levN t) : Met l yL_sum (wA yL_sum cL_sum 16 (some .long)) ({ frames := 1, cells := 0, slots := 0, locals := 40 }) (PW g S [.ref (gA g 17), .ref (gA g 18), .ref (gA g 19), .ref (gA g 20), .ref (gA g 22), .ref (gA g 23), .ref (gA g 24), .int 2, .int (nI t), .int (nI k)]) (RQ (some (.long (xLTot (xIa T 1) (xLev T t) (nI k) (xLng T 1) n)))) 0 0 (fun _ => False) := by
  refine metI (by decide +kernel) (Nat.le_of_ble_eq_true rfl) ?_
  intro p e s m below meth c C hb hml hret hlk hP ls hl
  have C : CW g RL p s m ([.ref (gA g 17), .ref (gA g 18), .ref (gA g 19), .ref (gA g 20), .ref (gA g 22), .ref (gA g 23), .ref (gA g 24), .int 2, .int (nI t), .int (nI k)] : List Value).toArray := C
  have hS : va_S (Ab g) s.heap s.heap [] := va_S.rf
  have hl : lv_has ls 16 [(0, .ref (gA g 17)), (1, .ref (gA g 18)), (2, .ref (gA g 19)), (3, .ref (gA g 20)), (4, .ref (gA g 22)), (5, .ref (gA g 23)), (6, .ref (gA g 24)), (7, .int 2), (8, .int (nI t)), (9, .int (nI k))] := hl
  have hn12 := lr_n hR
  refine lv_aload_n C.1 hb dL_sum_0 rfl (lv_at hl 1 rfl) ?_
  refine lv_aload_n C.1 hb dL_sum_1 rfl (lv_at hl 3 rfl) ?_
  refine lv_aload C.1 hb dL_sum_2 (lv_at hl 4 rfl) ?_
  refine lv_aload C.1 hb dL_sum_4 (lv_at hl 6 rfl) ?_
  refine run_rd (cRunS (As := [.ref (gA g 18), .ref (gA g 20), .ref (gA g 22), .ref (gA g 24)]) (rest := []) C hb (hml.trans hl.1.symm) hP hS (k_L_base l g S n T hR) wm_195 wm_196 wm_197 wm_2 (n := 4) (by decide +kernel) rfl ⟨rfl, rfl, Nat.le_of_ble_eq_true rfl, Nat.le_of_ble_eq_true rfl⟩ (Nat.le_of_ble_eq_true rfl) rfl ⟨Nat.zero_le _, Nat.zero_le _⟩ dL_sum_6) ?_
  refine toL (lr_base hR).symm ?_
  refine lv_lstore (lv' := [(10, .long (xBase T)), (0, .ref (gA g 17)), (1, .ref (gA g 18)), (2, .ref (gA g 19)), (3, .ref (gA g 20)), (4, .ref (gA g 22)), (5, .ref (gA g 23)), (6, .ref (gA g 24)), (7, .int 2), (8, .int (nI t)), (9, .int (nI k))]) C.1 hb dL_sum_9 hl (by decide) rfl (fun ls hl => ?_)
  refine lv_lconst (v := 0) C.1 hb dL_sum_11 (by decide) ?_
  refine lv_lstore (lv' := [(12, .long 0), (10, .long (xBase T)), (0, .ref (gA g 17)), (1, .ref (gA g 18)), (2, .ref (gA g 19)), (3, .ref (gA g 20)), (4, .ref (gA g 22)), (5, .ref (gA g 23)), (6, .ref (gA g 24)), (7, .int 2), (8, .int (nI t)), (9, .int (nI k))]) C.1 hb dL_sum_12 hl (by decide) rfl (fun ls hl => ?_)
  refine lv_iconst (v := 0) C.1 hb dL_sum_14 (by decide) ?_
  refine lv_istore (lv' := [(14, .int 0), (12, .long 0), (10, .long (xBase T)), (0, .ref (gA g 17)), (1, .ref (gA g 18)), (2, .ref (gA g 19)), (3, .ref (gA g 20)), (4, .ref (gA g 22)), (5, .ref (gA g 23)), (6, .ref (gA g 24)), (7, .int 2), (8, .int (nI t)), (9, .int (nI k))]) C.1 hb dL_sum_15 hl (by decide) rfl (fun ls hl => ?_)
  have key : ∀ f i : Nat, n - i < f → i ≤ n → ∀ ls : Array Slot, lv_has ls 16 [(0, .ref (gA g 17)), (1, .ref (gA g 18)), (2, .ref (gA g 19)), (3, .ref (gA g 20)), (4, .ref (gA g 22)), (5, .ref (gA g 23)), (6, .ref (gA g 24)), (7, .int 2), (8, .int (nI t)), (9, .int (nI k)), (10, .long (xBase T)), (12, .long (xLTot (xIa T 1) (xLev T t) (nI k) (xLng T 1) i)), (14, .int (nI i))] → W p l e ({ frames := 1, cells := 0, slots := 0, locals := 40 }) s m ([.ref (gA g 17), .ref (gA g 18), .ref (gA g 19), .ref (gA g 20), .ref (gA g 22), .ref (gA g 23), .ref (gA g 24), .int 2, .int (nI t), .int (nI k)] : List Value).toArray below meth c s.heap [] 0 0 (MQ below (RQ (some (.long (xLTot (xIa T 1) (xLev T t) (nI k) (xLng T 1) n)))) ([.ref (gA g 17), .ref (gA g 18), .ref (gA g 19), .ref (gA g 20), .ref (gA g 22), .ref (gA g 23), .ref (gA g 24), .int 2, .int (nI t), .int (nI k)] : List Value).toArray s 0 0 (fun _ => False)) (F0 m 17 ls []) := by
    intro f
    induction f with
    | zero => intro i h; exact absurd h (Nat.not_lt_zero _)
    | succ f ih =>
      intro i hfi hi  ls hl
      refine lv_iload C.1 hb dL_sum_17 (lv_at hl 12 rfl) ?_
      refine lv_aload C.1 hb dL_sum_19 (lv_at hl 6 rfl) ?_
      refine lv_iconst (v := 0) C.1 hb dL_sum_21 (by decide) ?_
      refine ldA_m (j := 0) C hb hP (by decide) (by decide) dL_sum_22 ?_
      refine toI (lr_m0 hR) ?_
      refine lv_icmp_ge (tgt := 137) C.1 hb dL_sum_23 (by decide) (fun c94 => ?_) (fun c94 => ?_)
      · have hin : i = n := by have := le_nI (a := n) (b := i) (by omega) (by omega) c94; omega
        rw [hin] at hl
        refine lv_lload C.1 hb dL_sum_137 (lv_at hl 11 rfl) ?_
        exact rdL C hb hret hlk dL_sum_139 rfl
      · have hlt : i < n := nle_nI (a := n) (b := i) (by omega) (by omega) c94
        refine lv_aload C.1 hb dL_sum_26 (lv_at hl 4 rfl) ?_
        refine lv_iload C.1 hb dL_sum_28 (lv_at hl 12 rfl) ?_
        refine ldA_g (j := i) C hb hP rfl (by omega) dL_sum_30 ?_
        refine lv_if_ne (tgt := 52) C.1 hb dL_sum_31 (by decide) (fun c95 => ?_) (fun c95 => ?_)
        · have hv := lr_z1 hR hlt c95
          refine lv_iconst (v := 0) C.1 hb dL_sum_52 (by decide) ?_
          refine lv_istore (lv' := [(15, .int 0), (0, .ref (gA g 17)), (1, .ref (gA g 18)), (2, .ref (gA g 19)), (3, .ref (gA g 20)), (4, .ref (gA g 22)), (5, .ref (gA g 23)), (6, .ref (gA g 24)), (7, .int 2), (8, .int (nI t)), (9, .int (nI k)), (10, .long (xBase T)), (12, .long (xLTot (xIa T 1) (xLev T t) (nI k) (xLng T 1) i)), (14, .int (nI i))]) C.1 hb dL_sum_53 hl (by decide) rfl (fun ls hl => ?_)
          refine lv_lload C.1 hb dL_sum_55 (lv_at hl 12 rfl) ?_
          refine lv_iload C.1 hb dL_sum_57 (lv_at hl 0 rfl) ?_
          refine lv_if_ne (tgt := 66) C.1 hb dL_sum_59 (by decide) (fun c9 => absurd (by decide) c9) (fun _ => ?_)
          refine lv_lconst (v := 0) C.1 hb dL_sum_62 (by decide) ?_
          refine lv_goto (tgt := 128) C.1 hb dL_sum_63 (by decide) ?_
          refine lv_ladd C.1 hb dL_sum_128 ?_
          refine toL (Int64.add_zero _) ?_
          refine lv_lstore (lv' := [(12, .long (xLTot (xIa T 1) (xLev T t) (nI k) (xLng T 1) i)), (15, .int 0), (0, .ref (gA g 17)), (1, .ref (gA g 18)), (2, .ref (gA g 19)), (3, .ref (gA g 20)), (4, .ref (gA g 22)), (5, .ref (gA g 23)), (6, .ref (gA g 24)), (7, .int 2), (8, .int (nI t)), (9, .int (nI k)), (10, .long (xBase T)), (14, .int (nI i))]) C.1 hb dL_sum_129 hl (by decide) rfl (fun ls hl => ?_)
          refine lv_iinc (v := nI (i + 1)) (lv' := [(14, .int (nI (i + 1))), (12, .long (xLTot (xIa T 1) (xLev T t) (nI k) (xLng T 1) i)), (15, .int 0), (0, .ref (gA g 17)), (1, .ref (gA g 18)), (2, .ref (gA g 19)), (3, .ref (gA g 20)), (4, .ref (gA g 22)), (5, .ref (gA g 23)), (6, .ref (gA g 24)), (7, .int 2), (8, .int (nI t)), (9, .int (nI k)), (10, .long (xBase T))]) C.1 hb dL_sum_131 hl (k := 13) rfl (nI_1 i) (by decide) rfl (fun ls hl => ?_)
          refine lv_goto (tgt := 17) C.1 hb dL_sum_134 (by decide) ?_
          exact ih (i + 1) (by omega) (by omega)  ls (by rw [xLTot_z hv]; exact lv_sub hl [3, 4, 5, 6, 7, 8, 9, 10, 11, 12, 13, 1, 0] rfl)
        · have hv := lr_z0 hR hlt c95
          refine lv_aload_n C.1 hb dL_sum_34 rfl (lv_at hl 0 rfl) ?_
          refine lv_iconst (v := 3) C.1 hb dL_sum_35 (by decide) ?_
          refine lv_iload C.1 hb dL_sum_36 (lv_at hl 12 rfl) ?_
          refine lv_imul C.1 hb dL_sum_38 ?_
          refine lv_iload C.1 hb dL_sum_39 (lv_at hl 8 rfl) ?_
          refine lv_iadd C.1 hb dL_sum_41 ?_
          refine ldA_l (j := (3 * i + t)) C hb hP (ix3 i t) (by omega) dL_sum_42 ?_
          refine toI (hR.2.2.2.1 t i ht hlt) ?_
          refine lv_iload C.1 hb dL_sum_43 (lv_at hl 9 rfl) ?_
          refine lv_icmp_ne (tgt := 52) C.1 hb dL_sum_45 (by decide) (fun c96 => ?_) (fun c96 => ?_)
          · refine lv_iconst (v := 0) C.1 hb dL_sum_52 (by decide) ?_
            refine lv_istore (lv' := [(15, .int 0), (0, .ref (gA g 17)), (1, .ref (gA g 18)), (2, .ref (gA g 19)), (3, .ref (gA g 20)), (4, .ref (gA g 22)), (5, .ref (gA g 23)), (6, .ref (gA g 24)), (7, .int 2), (8, .int (nI t)), (9, .int (nI k)), (10, .long (xBase T)), (12, .long (xLTot (xIa T 1) (xLev T t) (nI k) (xLng T 1) i)), (14, .int (nI i))]) C.1 hb dL_sum_53 hl (by decide) rfl (fun ls hl => ?_)
            refine lv_lload C.1 hb dL_sum_55 (lv_at hl 12 rfl) ?_
            refine lv_iload C.1 hb dL_sum_57 (lv_at hl 0 rfl) ?_
            refine lv_if_ne (tgt := 66) C.1 hb dL_sum_59 (by decide) (fun c9 => absurd (by decide) c9) (fun _ => ?_)
            refine lv_lconst (v := 0) C.1 hb dL_sum_62 (by decide) ?_
            refine lv_goto (tgt := 128) C.1 hb dL_sum_63 (by decide) ?_
            refine lv_ladd C.1 hb dL_sum_128 ?_
            refine toL (Int64.add_zero _) ?_
            refine lv_lstore (lv' := [(12, .long (xLTot (xIa T 1) (xLev T t) (nI k) (xLng T 1) i)), (15, .int 0), (0, .ref (gA g 17)), (1, .ref (gA g 18)), (2, .ref (gA g 19)), (3, .ref (gA g 20)), (4, .ref (gA g 22)), (5, .ref (gA g 23)), (6, .ref (gA g 24)), (7, .int 2), (8, .int (nI t)), (9, .int (nI k)), (10, .long (xBase T)), (14, .int (nI i))]) C.1 hb dL_sum_129 hl (by decide) rfl (fun ls hl => ?_)
            refine lv_iinc (v := nI (i + 1)) (lv' := [(14, .int (nI (i + 1))), (12, .long (xLTot (xIa T 1) (xLev T t) (nI k) (xLng T 1) i)), (15, .int 0), (0, .ref (gA g 17)), (1, .ref (gA g 18)), (2, .ref (gA g 19)), (3, .ref (gA g 20)), (4, .ref (gA g 22)), (5, .ref (gA g 23)), (6, .ref (gA g 24)), (7, .int 2), (8, .int (nI t)), (9, .int (nI k)), (10, .long (xBase T))]) C.1 hb dL_sum_131 hl (k := 13) rfl (nI_1 i) (by decide) rfl (fun ls hl => ?_)
            refine lv_goto (tgt := 17) C.1 hb dL_sum_134 (by decide) ?_
            exact ih (i + 1) (by omega) (by omega)  ls (by rw [xLTot_o hv c96]; exact lv_sub hl [3, 4, 5, 6, 7, 8, 9, 10, 11, 12, 13, 1, 0] rfl)
          · refine lv_iconst (v := 1) C.1 hb dL_sum_48 (by decide) ?_
            refine lv_goto (tgt := 53) C.1 hb dL_sum_49 (by decide) ?_
            refine lv_istore (lv' := [(15, .int 1), (0, .ref (gA g 17)), (1, .ref (gA g 18)), (2, .ref (gA g 19)), (3, .ref (gA g 20)), (4, .ref (gA g 22)), (5, .ref (gA g 23)), (6, .ref (gA g 24)), (7, .int 2), (8, .int (nI t)), (9, .int (nI k)), (10, .long (xBase T)), (12, .long (xLTot (xIa T 1) (xLev T t) (nI k) (xLng T 1) i)), (14, .int (nI i))]) C.1 hb dL_sum_53 hl (by decide) rfl (fun ls hl => ?_)
            refine lv_lload C.1 hb dL_sum_55 (lv_at hl 12 rfl) ?_
            refine lv_iload C.1 hb dL_sum_57 (lv_at hl 0 rfl) ?_
            refine lv_if_ne (tgt := 66) C.1 hb dL_sum_59 (by decide) (fun _ => ?_) (fun c9 => absurd c9 (by decide))
            refine lv_iload C.1 hb dL_sum_66 (lv_at hl 8 rfl) ?_
            refine lv_if_ne (tgt := 79) C.1 hb dL_sum_68 (by decide) (fun _ => ?_) (fun c9 => absurd c9 (by decide))
            refine lv_iload C.1 hb dL_sum_79 (lv_at hl 8 rfl) ?_
            refine lv_iconst (v := 1) C.1 hb dL_sum_81 (by decide) ?_
            refine lv_icmp_ne (tgt := 99) C.1 hb dL_sum_82 (by decide) (fun _ => ?_) (fun c9 => absurd c9 (by decide))
            refine lv_iload C.1 hb dL_sum_99 (lv_at hl 8 rfl) ?_
            refine lv_iconst (v := 2) C.1 hb dL_sum_101 (by decide) ?_
            refine lv_icmp_ne (tgt := 113) C.1 hb dL_sum_102 (by decide) (fun c9 => absurd (by decide) c9) (fun _ => ?_)
            refine lv_aload_n C.1 hb dL_sum_105 rfl (lv_at hl 3 rfl) ?_
            refine lv_iload C.1 hb dL_sum_106 (lv_at hl 13 rfl) ?_
            refine ldA_c (j := i) C hb hP rfl (by omega) dL_sum_108 ?_
            refine lv_i2l C.1 hb dL_sum_109 rfl ?_
            refine toL (lr_c hR hlt) ?_
            refine lv_goto (tgt := 128) C.1 hb dL_sum_110 (by decide) ?_
            refine lv_ladd C.1 hb dL_sum_128 ?_
            refine lv_lstore (lv' := [(12, .long ((xLTot (xIa T 1) (xLev T t) (nI k) (xLng T 1) i) + (xLng T 1 i))), (15, .int 1), (0, .ref (gA g 17)), (1, .ref (gA g 18)), (2, .ref (gA g 19)), (3, .ref (gA g 20)), (4, .ref (gA g 22)), (5, .ref (gA g 23)), (6, .ref (gA g 24)), (7, .int 2), (8, .int (nI t)), (9, .int (nI k)), (10, .long (xBase T)), (14, .int (nI i))]) C.1 hb dL_sum_129 hl (by decide) rfl (fun ls hl => ?_)
            refine lv_iinc (v := nI (i + 1)) (lv' := [(14, .int (nI (i + 1))), (12, .long ((xLTot (xIa T 1) (xLev T t) (nI k) (xLng T 1) i) + (xLng T 1 i))), (15, .int 1), (0, .ref (gA g 17)), (1, .ref (gA g 18)), (2, .ref (gA g 19)), (3, .ref (gA g 20)), (4, .ref (gA g 22)), (5, .ref (gA g 23)), (6, .ref (gA g 24)), (7, .int 2), (8, .int (nI t)), (9, .int (nI k)), (10, .long (xBase T))]) C.1 hb dL_sum_131 hl (k := 13) rfl (nI_1 i) (by decide) rfl (fun ls hl => ?_)
            refine lv_goto (tgt := 17) C.1 hb dL_sum_134 (by decide) ?_
            exact ih (i + 1) (by omega) (by omega)  ls (by rw [xLTot_q hv c96]; exact lv_sub hl [3, 4, 5, 6, 7, 8, 9, 10, 11, 12, 13, 1, 0] rfl)
  exact key (n - 0 + 1) 0 (by omega) (by omega)  ls (lv_sub hl [3, 4, 5, 6, 7, 8, 9, 10, 11, 12, 2, 1, 0] rfl)

set_option maxRecDepth 100000 in
set_option maxHeartbeats 4000000 in
theorem k_L_sum3 (l : Launch) (g : gG) (S : WS) (n : Nat) (T : WS) (hR : LR n T S) (t k : Nat) (ht : t < 3) (hk : k < levN t) : Met l yL_sum (wA yL_sum cL_sum 16 (some .long)) ({ frames := 1, cells := 0, slots := 0, locals := 40 }) (PW g S [.ref (gA g 17), .ref (gA g 18), .ref (gA g 19), .ref (gA g 20), .ref (gA g 22), .ref (gA g 23), .ref (gA g 24), .int 3, .int (nI t), .int (nI k)]) (RQ (some (.long (xLTot (xIa T 1) (xLev T t) (nI k) (xLng T 0) n)))) 0 0 (fun _ => False) := by
  refine metI (by decide +kernel) (Nat.le_of_ble_eq_true rfl) ?_
  intro p e s m below meth c C hb hml hret hlk hP ls hl
  have C : CW g RL p s m ([.ref (gA g 17), .ref (gA g 18), .ref (gA g 19), .ref (gA g 20), .ref (gA g 22), .ref (gA g 23), .ref (gA g 24), .int 3, .int (nI t), .int (nI k)] : List Value).toArray := C
  have hS : va_S (Ab g) s.heap s.heap [] := va_S.rf
  have hl : lv_has ls 16 [(0, .ref (gA g 17)), (1, .ref (gA g 18)), (2, .ref (gA g 19)), (3, .ref (gA g 20)), (4, .ref (gA g 22)), (5, .ref (gA g 23)), (6, .ref (gA g 24)), (7, .int 3), (8, .int (nI t)), (9, .int (nI k))] := hl
  have hn12 := lr_n hR
  refine lv_aload_n C.1 hb dL_sum_0 rfl (lv_at hl 1 rfl) ?_
  refine lv_aload_n C.1 hb dL_sum_1 rfl (lv_at hl 3 rfl) ?_
  refine lv_aload C.1 hb dL_sum_2 (lv_at hl 4 rfl) ?_
  refine lv_aload C.1 hb dL_sum_4 (lv_at hl 6 rfl) ?_
  refine run_rd (cRunS (As := [.ref (gA g 18), .ref (gA g 20), .ref (gA g 22), .ref (gA g 24)]) (rest := []) C hb (hml.trans hl.1.symm) hP hS (k_L_base l g S n T hR) wm_195 wm_196 wm_197 wm_2 (n := 4) (by decide +kernel) rfl ⟨rfl, rfl, Nat.le_of_ble_eq_true rfl, Nat.le_of_ble_eq_true rfl⟩ (Nat.le_of_ble_eq_true rfl) rfl ⟨Nat.zero_le _, Nat.zero_le _⟩ dL_sum_6) ?_
  refine toL (lr_base hR).symm ?_
  refine lv_lstore (lv' := [(10, .long (xBase T)), (0, .ref (gA g 17)), (1, .ref (gA g 18)), (2, .ref (gA g 19)), (3, .ref (gA g 20)), (4, .ref (gA g 22)), (5, .ref (gA g 23)), (6, .ref (gA g 24)), (7, .int 3), (8, .int (nI t)), (9, .int (nI k))]) C.1 hb dL_sum_9 hl (by decide) rfl (fun ls hl => ?_)
  refine lv_lconst (v := 0) C.1 hb dL_sum_11 (by decide) ?_
  refine lv_lstore (lv' := [(12, .long 0), (10, .long (xBase T)), (0, .ref (gA g 17)), (1, .ref (gA g 18)), (2, .ref (gA g 19)), (3, .ref (gA g 20)), (4, .ref (gA g 22)), (5, .ref (gA g 23)), (6, .ref (gA g 24)), (7, .int 3), (8, .int (nI t)), (9, .int (nI k))]) C.1 hb dL_sum_12 hl (by decide) rfl (fun ls hl => ?_)
  refine lv_iconst (v := 0) C.1 hb dL_sum_14 (by decide) ?_
  refine lv_istore (lv' := [(14, .int 0), (12, .long 0), (10, .long (xBase T)), (0, .ref (gA g 17)), (1, .ref (gA g 18)), (2, .ref (gA g 19)), (3, .ref (gA g 20)), (4, .ref (gA g 22)), (5, .ref (gA g 23)), (6, .ref (gA g 24)), (7, .int 3), (8, .int (nI t)), (9, .int (nI k))]) C.1 hb dL_sum_15 hl (by decide) rfl (fun ls hl => ?_)
  have key : ∀ f i : Nat, n - i < f → i ≤ n → ∀ ls : Array Slot, lv_has ls 16 [(0, .ref (gA g 17)), (1, .ref (gA g 18)), (2, .ref (gA g 19)), (3, .ref (gA g 20)), (4, .ref (gA g 22)), (5, .ref (gA g 23)), (6, .ref (gA g 24)), (7, .int 3), (8, .int (nI t)), (9, .int (nI k)), (10, .long (xBase T)), (12, .long (xLTot (xIa T 1) (xLev T t) (nI k) (xLng T 0) i)), (14, .int (nI i))] → W p l e ({ frames := 1, cells := 0, slots := 0, locals := 40 }) s m ([.ref (gA g 17), .ref (gA g 18), .ref (gA g 19), .ref (gA g 20), .ref (gA g 22), .ref (gA g 23), .ref (gA g 24), .int 3, .int (nI t), .int (nI k)] : List Value).toArray below meth c s.heap [] 0 0 (MQ below (RQ (some (.long (xLTot (xIa T 1) (xLev T t) (nI k) (xLng T 0) n)))) ([.ref (gA g 17), .ref (gA g 18), .ref (gA g 19), .ref (gA g 20), .ref (gA g 22), .ref (gA g 23), .ref (gA g 24), .int 3, .int (nI t), .int (nI k)] : List Value).toArray s 0 0 (fun _ => False)) (F0 m 17 ls []) := by
    intro f
    induction f with
    | zero => intro i h; exact absurd h (Nat.not_lt_zero _)
    | succ f ih =>
      intro i hfi hi  ls hl
      refine lv_iload C.1 hb dL_sum_17 (lv_at hl 12 rfl) ?_
      refine lv_aload C.1 hb dL_sum_19 (lv_at hl 6 rfl) ?_
      refine lv_iconst (v := 0) C.1 hb dL_sum_21 (by decide) ?_
      refine ldA_m (j := 0) C hb hP (by decide) (by decide) dL_sum_22 ?_
      refine toI (lr_m0 hR) ?_
      refine lv_icmp_ge (tgt := 137) C.1 hb dL_sum_23 (by decide) (fun c97 => ?_) (fun c97 => ?_)
      · have hin : i = n := by have := le_nI (a := n) (b := i) (by omega) (by omega) c97; omega
        rw [hin] at hl
        refine lv_lload C.1 hb dL_sum_137 (lv_at hl 11 rfl) ?_
        exact rdL C hb hret hlk dL_sum_139 rfl
      · have hlt : i < n := nle_nI (a := n) (b := i) (by omega) (by omega) c97
        refine lv_aload C.1 hb dL_sum_26 (lv_at hl 4 rfl) ?_
        refine lv_iload C.1 hb dL_sum_28 (lv_at hl 12 rfl) ?_
        refine ldA_g (j := i) C hb hP rfl (by omega) dL_sum_30 ?_
        refine lv_if_ne (tgt := 52) C.1 hb dL_sum_31 (by decide) (fun c98 => ?_) (fun c98 => ?_)
        · have hv := lr_z1 hR hlt c98
          refine lv_iconst (v := 0) C.1 hb dL_sum_52 (by decide) ?_
          refine lv_istore (lv' := [(15, .int 0), (0, .ref (gA g 17)), (1, .ref (gA g 18)), (2, .ref (gA g 19)), (3, .ref (gA g 20)), (4, .ref (gA g 22)), (5, .ref (gA g 23)), (6, .ref (gA g 24)), (7, .int 3), (8, .int (nI t)), (9, .int (nI k)), (10, .long (xBase T)), (12, .long (xLTot (xIa T 1) (xLev T t) (nI k) (xLng T 0) i)), (14, .int (nI i))]) C.1 hb dL_sum_53 hl (by decide) rfl (fun ls hl => ?_)
          refine lv_lload C.1 hb dL_sum_55 (lv_at hl 12 rfl) ?_
          refine lv_iload C.1 hb dL_sum_57 (lv_at hl 0 rfl) ?_
          refine lv_if_ne (tgt := 66) C.1 hb dL_sum_59 (by decide) (fun c9 => absurd (by decide) c9) (fun _ => ?_)
          refine lv_lconst (v := 0) C.1 hb dL_sum_62 (by decide) ?_
          refine lv_goto (tgt := 128) C.1 hb dL_sum_63 (by decide) ?_
          refine lv_ladd C.1 hb dL_sum_128 ?_
          refine toL (Int64.add_zero _) ?_
          refine lv_lstore (lv' := [(12, .long (xLTot (xIa T 1) (xLev T t) (nI k) (xLng T 0) i)), (15, .int 0), (0, .ref (gA g 17)), (1, .ref (gA g 18)), (2, .ref (gA g 19)), (3, .ref (gA g 20)), (4, .ref (gA g 22)), (5, .ref (gA g 23)), (6, .ref (gA g 24)), (7, .int 3), (8, .int (nI t)), (9, .int (nI k)), (10, .long (xBase T)), (14, .int (nI i))]) C.1 hb dL_sum_129 hl (by decide) rfl (fun ls hl => ?_)
          refine lv_iinc (v := nI (i + 1)) (lv' := [(14, .int (nI (i + 1))), (12, .long (xLTot (xIa T 1) (xLev T t) (nI k) (xLng T 0) i)), (15, .int 0), (0, .ref (gA g 17)), (1, .ref (gA g 18)), (2, .ref (gA g 19)), (3, .ref (gA g 20)), (4, .ref (gA g 22)), (5, .ref (gA g 23)), (6, .ref (gA g 24)), (7, .int 3), (8, .int (nI t)), (9, .int (nI k)), (10, .long (xBase T))]) C.1 hb dL_sum_131 hl (k := 13) rfl (nI_1 i) (by decide) rfl (fun ls hl => ?_)
          refine lv_goto (tgt := 17) C.1 hb dL_sum_134 (by decide) ?_
          exact ih (i + 1) (by omega) (by omega)  ls (by rw [xLTot_z hv]; exact lv_sub hl [3, 4, 5, 6, 7, 8, 9, 10, 11, 12, 13, 1, 0] rfl)
        · have hv := lr_z0 hR hlt c98
          refine lv_aload_n C.1 hb dL_sum_34 rfl (lv_at hl 0 rfl) ?_
          refine lv_iconst (v := 3) C.1 hb dL_sum_35 (by decide) ?_
          refine lv_iload C.1 hb dL_sum_36 (lv_at hl 12 rfl) ?_
          refine lv_imul C.1 hb dL_sum_38 ?_
          refine lv_iload C.1 hb dL_sum_39 (lv_at hl 8 rfl) ?_
          refine lv_iadd C.1 hb dL_sum_41 ?_
          refine ldA_l (j := (3 * i + t)) C hb hP (ix3 i t) (by omega) dL_sum_42 ?_
          refine toI (hR.2.2.2.1 t i ht hlt) ?_
          refine lv_iload C.1 hb dL_sum_43 (lv_at hl 9 rfl) ?_
          refine lv_icmp_ne (tgt := 52) C.1 hb dL_sum_45 (by decide) (fun c99 => ?_) (fun c99 => ?_)
          · refine lv_iconst (v := 0) C.1 hb dL_sum_52 (by decide) ?_
            refine lv_istore (lv' := [(15, .int 0), (0, .ref (gA g 17)), (1, .ref (gA g 18)), (2, .ref (gA g 19)), (3, .ref (gA g 20)), (4, .ref (gA g 22)), (5, .ref (gA g 23)), (6, .ref (gA g 24)), (7, .int 3), (8, .int (nI t)), (9, .int (nI k)), (10, .long (xBase T)), (12, .long (xLTot (xIa T 1) (xLev T t) (nI k) (xLng T 0) i)), (14, .int (nI i))]) C.1 hb dL_sum_53 hl (by decide) rfl (fun ls hl => ?_)
            refine lv_lload C.1 hb dL_sum_55 (lv_at hl 12 rfl) ?_
            refine lv_iload C.1 hb dL_sum_57 (lv_at hl 0 rfl) ?_
            refine lv_if_ne (tgt := 66) C.1 hb dL_sum_59 (by decide) (fun c9 => absurd (by decide) c9) (fun _ => ?_)
            refine lv_lconst (v := 0) C.1 hb dL_sum_62 (by decide) ?_
            refine lv_goto (tgt := 128) C.1 hb dL_sum_63 (by decide) ?_
            refine lv_ladd C.1 hb dL_sum_128 ?_
            refine toL (Int64.add_zero _) ?_
            refine lv_lstore (lv' := [(12, .long (xLTot (xIa T 1) (xLev T t) (nI k) (xLng T 0) i)), (15, .int 0), (0, .ref (gA g 17)), (1, .ref (gA g 18)), (2, .ref (gA g 19)), (3, .ref (gA g 20)), (4, .ref (gA g 22)), (5, .ref (gA g 23)), (6, .ref (gA g 24)), (7, .int 3), (8, .int (nI t)), (9, .int (nI k)), (10, .long (xBase T)), (14, .int (nI i))]) C.1 hb dL_sum_129 hl (by decide) rfl (fun ls hl => ?_)
            refine lv_iinc (v := nI (i + 1)) (lv' := [(14, .int (nI (i + 1))), (12, .long (xLTot (xIa T 1) (xLev T t) (nI k) (xLng T 0) i)), (15, .int 0), (0, .ref (gA g 17)), (1, .ref (gA g 18)), (2, .ref (gA g 19)), (3, .ref (gA g 20)), (4, .ref (gA g 22)), (5, .ref (gA g 23)), (6, .ref (gA g 24)), (7, .int 3), (8, .int (nI t)), (9, .int (nI k)), (10, .long (xBase T))]) C.1 hb dL_sum_131 hl (k := 13) rfl (nI_1 i) (by decide) rfl (fun ls hl => ?_)
            refine lv_goto (tgt := 17) C.1 hb dL_sum_134 (by decide) ?_
            exact ih (i + 1) (by omega) (by omega)  ls (by rw [xLTot_o hv c99]; exact lv_sub hl [3, 4, 5, 6, 7, 8, 9, 10, 11, 12, 13, 1, 0] rfl)
          · refine lv_iconst (v := 1) C.1 hb dL_sum_48 (by decide) ?_
            refine lv_goto (tgt := 53) C.1 hb dL_sum_49 (by decide) ?_
            refine lv_istore (lv' := [(15, .int 1), (0, .ref (gA g 17)), (1, .ref (gA g 18)), (2, .ref (gA g 19)), (3, .ref (gA g 20)), (4, .ref (gA g 22)), (5, .ref (gA g 23)), (6, .ref (gA g 24)), (7, .int 3), (8, .int (nI t)), (9, .int (nI k)), (10, .long (xBase T)), (12, .long (xLTot (xIa T 1) (xLev T t) (nI k) (xLng T 0) i)), (14, .int (nI i))]) C.1 hb dL_sum_53 hl (by decide) rfl (fun ls hl => ?_)
            refine lv_lload C.1 hb dL_sum_55 (lv_at hl 12 rfl) ?_
            refine lv_iload C.1 hb dL_sum_57 (lv_at hl 0 rfl) ?_
            refine lv_if_ne (tgt := 66) C.1 hb dL_sum_59 (by decide) (fun _ => ?_) (fun c9 => absurd c9 (by decide))
            refine lv_iload C.1 hb dL_sum_66 (lv_at hl 8 rfl) ?_
            refine lv_if_ne (tgt := 79) C.1 hb dL_sum_68 (by decide) (fun _ => ?_) (fun c9 => absurd c9 (by decide))
            refine lv_iload C.1 hb dL_sum_79 (lv_at hl 8 rfl) ?_
            refine lv_iconst (v := 1) C.1 hb dL_sum_81 (by decide) ?_
            refine lv_icmp_ne (tgt := 99) C.1 hb dL_sum_82 (by decide) (fun _ => ?_) (fun c9 => absurd c9 (by decide))
            refine lv_iload C.1 hb dL_sum_99 (lv_at hl 8 rfl) ?_
            refine lv_iconst (v := 2) C.1 hb dL_sum_101 (by decide) ?_
            refine lv_icmp_ne (tgt := 113) C.1 hb dL_sum_102 (by decide) (fun _ => ?_) (fun c9 => absurd c9 (by decide))
            refine lv_iload C.1 hb dL_sum_113 (lv_at hl 8 rfl) ?_
            refine lv_iconst (v := 3) C.1 hb dL_sum_115 (by decide) ?_
            refine lv_icmp_ne (tgt := 127) C.1 hb dL_sum_116 (by decide) (fun c9 => absurd (by decide) c9) (fun _ => ?_)
            refine lv_aload_n C.1 hb dL_sum_119 rfl (lv_at hl 2 rfl) ?_
            refine lv_iload C.1 hb dL_sum_120 (lv_at hl 13 rfl) ?_
            refine ldA_x (j := i) C hb hP rfl (by omega) dL_sum_122 ?_
            refine lv_i2l C.1 hb dL_sum_123 rfl ?_
            refine toL (lr_x hR hlt) ?_
            refine lv_goto (tgt := 128) C.1 hb dL_sum_124 (by decide) ?_
            refine lv_ladd C.1 hb dL_sum_128 ?_
            refine lv_lstore (lv' := [(12, .long ((xLTot (xIa T 1) (xLev T t) (nI k) (xLng T 0) i) + (xLng T 0 i))), (15, .int 1), (0, .ref (gA g 17)), (1, .ref (gA g 18)), (2, .ref (gA g 19)), (3, .ref (gA g 20)), (4, .ref (gA g 22)), (5, .ref (gA g 23)), (6, .ref (gA g 24)), (7, .int 3), (8, .int (nI t)), (9, .int (nI k)), (10, .long (xBase T)), (14, .int (nI i))]) C.1 hb dL_sum_129 hl (by decide) rfl (fun ls hl => ?_)
            refine lv_iinc (v := nI (i + 1)) (lv' := [(14, .int (nI (i + 1))), (12, .long ((xLTot (xIa T 1) (xLev T t) (nI k) (xLng T 0) i) + (xLng T 0 i))), (15, .int 1), (0, .ref (gA g 17)), (1, .ref (gA g 18)), (2, .ref (gA g 19)), (3, .ref (gA g 20)), (4, .ref (gA g 22)), (5, .ref (gA g 23)), (6, .ref (gA g 24)), (7, .int 3), (8, .int (nI t)), (9, .int (nI k)), (10, .long (xBase T))]) C.1 hb dL_sum_131 hl (k := 13) rfl (nI_1 i) (by decide) rfl (fun ls hl => ?_)
            refine lv_goto (tgt := 17) C.1 hb dL_sum_134 (by decide) ?_
            exact ih (i + 1) (by omega) (by omega)  ls (by rw [xLTot_q hv c99]; exact lv_sub hl [3, 4, 5, 6, 7, 8, 9, 10, 11, 12, 13, 1, 0] rfl)
  exact key (n - 0 + 1) 0 (by omega) (by omega)  ls (lv_sub hl [3, 4, 5, 6, 7, 8, 9, 10, 11, 12, 2, 1, 0] rfl)

set_option maxRecDepth 100000 in
set_option maxHeartbeats 4000000 in
theorem k_L_capped (l : Launch) (g : gG) (S : WS) (n : Nat) (T : WS) (hR : LR n T S) (r : Nat) (hr : r < n) : Met l yL_capped (wA yL_capped cL_capped 14 (some .long)) ({ frames := 1, cells := 0, slots := 0, locals := 40 }) (PW g S [.ref (gA g 17), .ref (gA g 18), .ref (gA g 20), .ref (gA g 21), .ref (gA g 22), .ref (gA g 23), .ref (gA g 24), .int (nI r)]) (RQ (some (.long (xCapP T r)))) 0 0 (fun _ => False) := by
  refine metI (by decide +kernel) (Nat.le_of_ble_eq_true rfl) ?_
  intro p e s m below meth c C hb hml hret hlk hP ls hl
  have C : CW g RL p s m ([.ref (gA g 17), .ref (gA g 18), .ref (gA g 20), .ref (gA g 21), .ref (gA g 22), .ref (gA g 23), .ref (gA g 24), .int (nI r)] : List Value).toArray := C
  have hS : va_S (Ab g) s.heap s.heap [] := va_S.rf
  have hl : lv_has ls 14 [(0, .ref (gA g 17)), (1, .ref (gA g 18)), (2, .ref (gA g 20)), (3, .ref (gA g 21)), (4, .ref (gA g 22)), (5, .ref (gA g 23)), (6, .ref (gA g 24)), (7, .int (nI r))] := hl
  have hn12 := lr_n hR
  refine lv_aload_n C.1 hb dL_capped_0 rfl (lv_at hl 0 rfl) ?_
  refine lv_aload_n C.1 hb dL_capped_1 rfl (lv_at hl 1 rfl) ?_
  refine lv_aload C.1 hb dL_capped_2 (lv_at hl 5 rfl) ?_
  refine lv_iload C.1 hb dL_capped_4 (lv_at hl 7 rfl) ?_
  refine lv_aload_n C.1 hb dL_capped_6 rfl (lv_at hl 1 rfl) ?_
  refine lv_aload_n C.1 hb dL_capped_7 rfl (lv_at hl 2 rfl) ?_
  refine lv_aload C.1 hb dL_capped_8 (lv_at hl 4 rfl) ?_
  refine lv_aload C.1 hb dL_capped_10 (lv_at hl 6 rfl) ?_
  refine run_rd (cRunS (As := [.ref (gA g 18), .ref (gA g 20), .ref (gA g 22), .ref (gA g 24)]) (rest := [.int (nI r), .ref (gA g 23), .ref (gA g 18), .ref (gA g 17)]) C hb (hml.trans hl.1.symm) hP hS (k_L_base l g S n T hR) wm_195 wm_196 wm_197 wm_2 (n := 4) (by decide +kernel) rfl ⟨rfl, rfl, Nat.le_of_ble_eq_true rfl, Nat.le_of_ble_eq_true rfl⟩ (Nat.le_of_ble_eq_true rfl) rfl ⟨Nat.zero_le _, Nat.zero_le _⟩ dL_capped_12) ?_
  refine toL (lr_base hR).symm ?_
  refine run_rd (cRunS (As := [.ref (gA g 17), .ref (gA g 18), .ref (gA g 23), .int (nI r), .long (xBase T)]) (rest := []) C hb (hml.trans hl.1.symm) hP hS (k_L_fitted l g S n T hR r hr) wm_198 wm_199 wm_200 wm_2 (n := 5) (by decide +kernel) rfl ⟨rfl, rfl, Nat.le_of_ble_eq_true rfl, Nat.le_of_ble_eq_true rfl⟩ (Nat.le_of_ble_eq_true rfl) rfl ⟨Nat.zero_le _, Nat.zero_le _⟩ dL_capped_15) ?_
  refine lv_aload C.1 hb dL_capped_18 (lv_at hl 6 rfl) ?_
  refine lv_iconst (v := 3) C.1 hb dL_capped_20 (by decide) ?_
  refine ldA_m (j := 3) C hb hP (by decide) (by decide) dL_capped_21 ?_
  refine lv_i2l C.1 hb dL_capped_22 rfl ?_
  refine lv_lmul C.1 hb dL_capped_23 ?_
  refine lv_ldc2 (v := 10000) C.1 hb C.2.1 (C.2.2.1 _ wm_110) dL_capped_24 ?_
  refine lv_ldiv C.1 hb dL_capped_27 (by decide) ?_
  refine toL (lr_newp hR hr) ?_
  refine lv_lstore (lv' := [(8, .long (xNewP T r)), (0, .ref (gA g 17)), (1, .ref (gA g 18)), (2, .ref (gA g 20)), (3, .ref (gA g 21)), (4, .ref (gA g 22)), (5, .ref (gA g 23)), (6, .ref (gA g 24)), (7, .int (nI r))]) C.1 hb dL_capped_28 hl (by decide) rfl (fun ls hl => ?_)
  refine lv_aload C.1 hb dL_capped_30 (lv_at hl 7 rfl) ?_
  refine lv_iconst (v := 2) C.1 hb dL_capped_32 (by decide) ?_
  refine ldA_m (j := 2) C hb hP (by decide) (by decide) dL_capped_33 ?_
  refine lv_if_lt (tgt := 44) C.1 hb dL_capped_34 (by decide) (fun c100 => ?_) (fun c100 => ?_)
  · refine lv_lload C.1 hb dL_capped_44 (lv_at hl 0 rfl) ?_
    exact rdL C hb hret hlk dL_capped_46 (lr_capA hR c100)
  · refine lv_aload_n C.1 hb dL_capped_37 rfl (lv_at hl 4 rfl) ?_
    refine lv_iload C.1 hb dL_capped_38 (lv_at hl 8 rfl) ?_
    refine ldA_o (j := r) C hb hP rfl (by omega) dL_capped_40 ?_
    refine lv_if_ge (tgt := 47) C.1 hb dL_capped_41 (by decide) (fun c101 => ?_) (fun c101 => ?_)
    · have hd : ¬ lA S 4 r < 0 := Int32.not_lt.mpr c101
      refine lv_aload C.1 hb dL_capped_47 (lv_at hl 7 rfl) ?_
      refine lv_iconst (v := 2) C.1 hb dL_capped_49 (by decide) ?_
      refine ldA_m (j := 2) C hb hP (by decide) (by decide) dL_capped_50 ?_
      refine lv_bipush (v := 100) C.1 hb dL_capped_51 (by decide) ?_
      refine lv_icmp_le (tgt := 60) C.1 hb dL_capped_53 (by decide) (fun c102 => ?_) (fun c102 => ?_)
      · refine lv_ldc2 (v := 100) C.1 hb C.2.1 (C.2.2.1 _ wm_190) dL_capped_60 ?_
        refine lv_aload C.1 hb dL_capped_63 (lv_at hl 7 rfl) ?_
        refine lv_iconst (v := 2) C.1 hb dL_capped_65 (by decide) ?_
        refine ldA_m (j := 2) C hb hP (by decide) (by decide) dL_capped_66 ?_
        refine lv_i2l C.1 hb dL_capped_67 rfl ?_
        refine lv_lsub C.1 hb dL_capped_68 ?_
        refine lv_aload_n C.1 hb dL_capped_69 rfl (lv_at hl 4 rfl) ?_
        refine lv_iload C.1 hb dL_capped_70 (lv_at hl 8 rfl) ?_
        refine ldA_o (j := r) C hb hP rfl (by omega) dL_capped_72 ?_
        refine lv_i2l C.1 hb dL_capped_73 rfl ?_
        refine lv_lmul C.1 hb dL_capped_74 ?_
        refine lv_ldc2 (v := 100) C.1 hb C.2.1 (C.2.2.1 _ wm_190) dL_capped_75 ?_
        refine lv_ldiv C.1 hb dL_capped_78 (by decide) ?_
        refine toL (lr_cLe hR hr c100 hd c102) ?_
        refine lv_lstore (lv' := [(10, .long (capLo T r)), (8, .long (xNewP T r)), (0, .ref (gA g 17)), (1, .ref (gA g 18)), (2, .ref (gA g 20)), (3, .ref (gA g 21)), (4, .ref (gA g 22)), (5, .ref (gA g 23)), (6, .ref (gA g 24)), (7, .int (nI r))]) C.1 hb dL_capped_79 hl (by decide) rfl (fun ls hl => ?_)
        refine lv_ldc2 (v := 100) C.1 hb C.2.1 (C.2.2.1 _ wm_190) dL_capped_81 ?_
        refine lv_aload C.1 hb dL_capped_84 (lv_at hl 8 rfl) ?_
        refine lv_iconst (v := 2) C.1 hb dL_capped_86 (by decide) ?_
        refine ldA_m (j := 2) C hb hP (by decide) (by decide) dL_capped_87 ?_
        refine lv_i2l C.1 hb dL_capped_88 rfl ?_
        refine lv_ladd C.1 hb dL_capped_89 ?_
        refine lv_aload_n C.1 hb dL_capped_90 rfl (lv_at hl 5 rfl) ?_
        refine lv_iload C.1 hb dL_capped_91 (lv_at hl 9 rfl) ?_
        refine ldA_o (j := r) C hb hP rfl (by omega) dL_capped_93 ?_
        refine lv_i2l C.1 hb dL_capped_94 rfl ?_
        refine lv_lmul C.1 hb dL_capped_95 ?_
        refine lv_ldc2 (v := 100) C.1 hb C.2.1 (C.2.2.1 _ wm_190) dL_capped_96 ?_
        refine lv_ldiv C.1 hb dL_capped_99 (by decide) ?_
        refine toL (lr_cHi hR hr c100 hd) ?_
        refine lv_lstore (lv' := [(12, .long (capHi T r)), (10, .long (capLo T r)), (8, .long (xNewP T r)), (0, .ref (gA g 17)), (1, .ref (gA g 18)), (2, .ref (gA g 20)), (3, .ref (gA g 21)), (4, .ref (gA g 22)), (5, .ref (gA g 23)), (6, .ref (gA g 24)), (7, .int (nI r))]) C.1 hb dL_capped_100 hl (by decide) rfl (fun ls hl => ?_)
        refine lv_lload C.1 hb dL_capped_102 (lv_at hl 2 rfl) ?_
        refine lv_lload C.1 hb dL_capped_104 (lv_at hl 1 rfl) ?_
        have hE := lr_capC hR hr c100 hd
        refine lc_ge (tgt := 115) C hb dL_capped_106 dL_capped_107 (by decide) (fun c103 => ?_) (fun c103 => ?_)
        · refine lv_lload C.1 hb dL_capped_115 (lv_at hl 2 rfl) ?_
          refine lv_lload C.1 hb dL_capped_117 (lv_at hl 0 rfl) ?_
          refine lc_le (tgt := 128) C hb dL_capped_119 dL_capped_120 (by decide) (fun c104 => ?_) (fun c104 => ?_)
          · refine lv_lload C.1 hb dL_capped_128 (lv_at hl 2 rfl) ?_
            exact rdL C hb hret hlk dL_capped_130 (by rw [hE, if_neg (Int64.not_lt.mpr c103), if_neg (Int64.not_lt.mpr c104)])
          · refine lv_lload C.1 hb dL_capped_123 (lv_at hl 0 rfl) ?_
            refine lv_goto (tgt := 130) C.1 hb dL_capped_125 (by decide) ?_
            exact rdL C hb hret hlk dL_capped_130 (by rw [hE, if_neg (Int64.not_lt.mpr c103), if_pos (Int64.not_le.mp c104)])
        · refine lv_lload C.1 hb dL_capped_110 (lv_at hl 1 rfl) ?_
          refine lv_goto (tgt := 130) C.1 hb dL_capped_112 (by decide) ?_
          exact rdL C hb hret hlk dL_capped_130 (by rw [hE, if_pos (Int64.not_le.mp c103)])
      · refine lv_lconst (v := 0) C.1 hb dL_capped_56 (by decide) ?_
        refine lv_goto (tgt := 79) C.1 hb dL_capped_57 (by decide) ?_
        refine toL (lr_cLz hR hr c100 hd c102) ?_
        refine lv_lstore (lv' := [(10, .long (capLo T r)), (8, .long (xNewP T r)), (0, .ref (gA g 17)), (1, .ref (gA g 18)), (2, .ref (gA g 20)), (3, .ref (gA g 21)), (4, .ref (gA g 22)), (5, .ref (gA g 23)), (6, .ref (gA g 24)), (7, .int (nI r))]) C.1 hb dL_capped_79 hl (by decide) rfl (fun ls hl => ?_)
        refine lv_ldc2 (v := 100) C.1 hb C.2.1 (C.2.2.1 _ wm_190) dL_capped_81 ?_
        refine lv_aload C.1 hb dL_capped_84 (lv_at hl 8 rfl) ?_
        refine lv_iconst (v := 2) C.1 hb dL_capped_86 (by decide) ?_
        refine ldA_m (j := 2) C hb hP (by decide) (by decide) dL_capped_87 ?_
        refine lv_i2l C.1 hb dL_capped_88 rfl ?_
        refine lv_ladd C.1 hb dL_capped_89 ?_
        refine lv_aload_n C.1 hb dL_capped_90 rfl (lv_at hl 5 rfl) ?_
        refine lv_iload C.1 hb dL_capped_91 (lv_at hl 9 rfl) ?_
        refine ldA_o (j := r) C hb hP rfl (by omega) dL_capped_93 ?_
        refine lv_i2l C.1 hb dL_capped_94 rfl ?_
        refine lv_lmul C.1 hb dL_capped_95 ?_
        refine lv_ldc2 (v := 100) C.1 hb C.2.1 (C.2.2.1 _ wm_190) dL_capped_96 ?_
        refine lv_ldiv C.1 hb dL_capped_99 (by decide) ?_
        refine toL (lr_cHi hR hr c100 hd) ?_
        refine lv_lstore (lv' := [(12, .long (capHi T r)), (10, .long (capLo T r)), (8, .long (xNewP T r)), (0, .ref (gA g 17)), (1, .ref (gA g 18)), (2, .ref (gA g 20)), (3, .ref (gA g 21)), (4, .ref (gA g 22)), (5, .ref (gA g 23)), (6, .ref (gA g 24)), (7, .int (nI r))]) C.1 hb dL_capped_100 hl (by decide) rfl (fun ls hl => ?_)
        refine lv_lload C.1 hb dL_capped_102 (lv_at hl 2 rfl) ?_
        refine lv_lload C.1 hb dL_capped_104 (lv_at hl 1 rfl) ?_
        have hE := lr_capC hR hr c100 hd
        refine lc_ge (tgt := 115) C hb dL_capped_106 dL_capped_107 (by decide) (fun c105 => ?_) (fun c105 => ?_)
        · refine lv_lload C.1 hb dL_capped_115 (lv_at hl 2 rfl) ?_
          refine lv_lload C.1 hb dL_capped_117 (lv_at hl 0 rfl) ?_
          refine lc_le (tgt := 128) C hb dL_capped_119 dL_capped_120 (by decide) (fun c106 => ?_) (fun c106 => ?_)
          · refine lv_lload C.1 hb dL_capped_128 (lv_at hl 2 rfl) ?_
            exact rdL C hb hret hlk dL_capped_130 (by rw [hE, if_neg (Int64.not_lt.mpr c105), if_neg (Int64.not_lt.mpr c106)])
          · refine lv_lload C.1 hb dL_capped_123 (lv_at hl 0 rfl) ?_
            refine lv_goto (tgt := 130) C.1 hb dL_capped_125 (by decide) ?_
            exact rdL C hb hret hlk dL_capped_130 (by rw [hE, if_neg (Int64.not_lt.mpr c105), if_pos (Int64.not_le.mp c106)])
        · refine lv_lload C.1 hb dL_capped_110 (lv_at hl 1 rfl) ?_
          refine lv_goto (tgt := 130) C.1 hb dL_capped_112 (by decide) ?_
          exact rdL C hb hret hlk dL_capped_130 (by rw [hE, if_pos (Int64.not_le.mp c105)])
    · refine lv_lload C.1 hb dL_capped_44 (lv_at hl 0 rfl) ?_
      exact rdL C hb hret hlk dL_capped_46 (lr_capB hR hr (Int32.not_le.mp c101))

set_option maxRecDepth 100000 in
set_option maxHeartbeats 4000000 in
theorem k_L_all0 (l : Launch) (g : gG) (S : WS) (n : Nat) (T : WS) (hR : LR n T S) : Met l yL_all (wA yL_all cL_all 13 (some .long)) ({ frames := 2, cells := 0, slots := 0, locals := 80 }) (PW g S [.ref (gA g 17), .ref (gA g 18), .ref (gA g 20), .ref (gA g 21), .ref (gA g 22), .ref (gA g 23), .ref (gA g 24), .int 0]) (RQ (some (.long (xTot (xIa T 1) (xLng T 3) n)))) 0 0 (fun _ => False) := by
  refine metI (by decide +kernel) (Nat.le_of_ble_eq_true rfl) ?_
  intro p e s m below meth c C hb hml hret hlk hP ls hl
  have C : CW g RL p s m ([.ref (gA g 17), .ref (gA g 18), .ref (gA g 20), .ref (gA g 21), .ref (gA g 22), .ref (gA g 23), .ref (gA g 24), .int 0] : List Value).toArray := C
  have hS : va_S (Ab g) s.heap s.heap [] := va_S.rf
  have hl : lv_has ls 13 [(0, .ref (gA g 17)), (1, .ref (gA g 18)), (2, .ref (gA g 20)), (3, .ref (gA g 21)), (4, .ref (gA g 22)), (5, .ref (gA g 23)), (6, .ref (gA g 24)), (7, .int 0)] := hl
  have hn12 := lr_n hR
  refine lv_aload_n C.1 hb dL_all_0 rfl (lv_at hl 1 rfl) ?_
  refine lv_aload_n C.1 hb dL_all_1 rfl (lv_at hl 2 rfl) ?_
  refine lv_aload C.1 hb dL_all_2 (lv_at hl 4 rfl) ?_
  refine lv_aload C.1 hb dL_all_4 (lv_at hl 6 rfl) ?_
  refine run_rd (cRunS (As := [.ref (gA g 18), .ref (gA g 20), .ref (gA g 22), .ref (gA g 24)]) (rest := []) C hb (hml.trans hl.1.symm) hP hS (k_L_base l g S n T hR) wm_195 wm_196 wm_197 wm_2 (n := 4) (by decide +kernel) rfl ⟨rfl, rfl, Nat.le_of_ble_eq_true rfl, Nat.le_of_ble_eq_true rfl⟩ (Nat.le_of_ble_eq_true rfl) rfl ⟨Nat.zero_le _, Nat.zero_le _⟩ dL_all_6) ?_
  refine toL (lr_base hR).symm ?_
  refine lv_lstore (lv' := [(8, .long (xBase T)), (0, .ref (gA g 17)), (1, .ref (gA g 18)), (2, .ref (gA g 20)), (3, .ref (gA g 21)), (4, .ref (gA g 22)), (5, .ref (gA g 23)), (6, .ref (gA g 24)), (7, .int 0)]) C.1 hb dL_all_9 hl (by decide) rfl (fun ls hl => ?_)
  refine lv_lconst (v := 0) C.1 hb dL_all_11 (by decide) ?_
  refine lv_lstore (lv' := [(10, .long 0), (8, .long (xBase T)), (0, .ref (gA g 17)), (1, .ref (gA g 18)), (2, .ref (gA g 20)), (3, .ref (gA g 21)), (4, .ref (gA g 22)), (5, .ref (gA g 23)), (6, .ref (gA g 24)), (7, .int 0)]) C.1 hb dL_all_12 hl (by decide) rfl (fun ls hl => ?_)
  refine lv_iconst (v := 0) C.1 hb dL_all_14 (by decide) ?_
  refine lv_istore (lv' := [(12, .int 0), (10, .long 0), (8, .long (xBase T)), (0, .ref (gA g 17)), (1, .ref (gA g 18)), (2, .ref (gA g 20)), (3, .ref (gA g 21)), (4, .ref (gA g 22)), (5, .ref (gA g 23)), (6, .ref (gA g 24)), (7, .int 0)]) C.1 hb dL_all_15 hl (by decide) rfl (fun ls hl => ?_)
  have key : ∀ f i : Nat, n - i < f → i ≤ n → ∀ ls : Array Slot, lv_has ls 13 [(0, .ref (gA g 17)), (1, .ref (gA g 18)), (2, .ref (gA g 20)), (3, .ref (gA g 21)), (4, .ref (gA g 22)), (5, .ref (gA g 23)), (6, .ref (gA g 24)), (7, .int 0), (8, .long (xBase T)), (10, .long (xTot (xIa T 1) (xLng T 3) i)), (12, .int (nI i))] → W p l e ({ frames := 2, cells := 0, slots := 0, locals := 80 }) s m ([.ref (gA g 17), .ref (gA g 18), .ref (gA g 20), .ref (gA g 21), .ref (gA g 22), .ref (gA g 23), .ref (gA g 24), .int 0] : List Value).toArray below meth c s.heap [] 0 0 (MQ below (RQ (some (.long (xTot (xIa T 1) (xLng T 3) n)))) ([.ref (gA g 17), .ref (gA g 18), .ref (gA g 20), .ref (gA g 21), .ref (gA g 22), .ref (gA g 23), .ref (gA g 24), .int 0] : List Value).toArray s 0 0 (fun _ => False)) (F0 m 17 ls []) := by
    intro f
    induction f with
    | zero => intro i h; exact absurd h (Nat.not_lt_zero _)
    | succ f ih =>
      intro i hfi hi  ls hl
      refine lv_iload C.1 hb dL_all_17 (lv_at hl 10 rfl) ?_
      refine lv_aload C.1 hb dL_all_19 (lv_at hl 6 rfl) ?_
      refine lv_iconst (v := 0) C.1 hb dL_all_21 (by decide) ?_
      refine ldA_m (j := 0) C hb hP (by decide) (by decide) dL_all_22 ?_
      refine toI (lr_m0 hR) ?_
      refine lv_icmp_ge (tgt := 84) C.1 hb dL_all_23 (by decide) (fun c107 => ?_) (fun c107 => ?_)
      · have hin : i = n := by have := le_nI (a := n) (b := i) (by omega) (by omega) c107; omega
        rw [hin] at hl
        refine lv_lload C.1 hb dL_all_84 (lv_at hl 9 rfl) ?_
        exact rdL C hb hret hlk dL_all_86 rfl
      · have hlt : i < n := nle_nI (a := n) (b := i) (by omega) (by omega) c107
        refine lv_lload C.1 hb dL_all_26 (lv_at hl 9 rfl) ?_
        refine lv_aload C.1 hb dL_all_28 (lv_at hl 4 rfl) ?_
        refine lv_iload C.1 hb dL_all_30 (lv_at hl 10 rfl) ?_
        refine ldA_g (j := i) C hb hP rfl (by omega) dL_all_32 ?_
        refine lv_iconst (v := 1) C.1 hb dL_all_33 (by decide) ?_
        refine lv_icmp_ne (tgt := 41) C.1 hb dL_all_34 (by decide) (fun c108 => ?_) (fun c108 => ?_)
        · have hv := lr_g0 hR hlt c108
          refine lv_iload C.1 hb dL_all_41 (lv_at hl 7 rfl) ?_
          refine lv_if_eq (tgt := 64) C.1 hb dL_all_43 (by decide) (fun _ => ?_) (fun c9 => absurd (by decide) c9)
          refine lv_aload_n C.1 hb dL_all_64 rfl (lv_at hl 0 rfl) ?_
          refine lv_aload_n C.1 hb dL_all_65 rfl (lv_at hl 1 rfl) ?_
          refine lv_aload C.1 hb dL_all_66 (lv_at hl 5 rfl) ?_
          refine lv_iload C.1 hb dL_all_68 (lv_at hl 10 rfl) ?_
          refine lv_lload C.1 hb dL_all_70 (lv_at hl 8 rfl) ?_
          refine run_rd (cRunS (As := [.ref (gA g 17), .ref (gA g 18), .ref (gA g 23), .int (nI i), .long (xBase T)]) (rest := [.long (xTot (xIa T 1) (xLng T 3) i)]) C hb (hml.trans hl.1.symm) hP hS (k_L_fitted l g S n T hR i hlt) wm_198 wm_199 wm_200 wm_2 (n := 5) (by decide +kernel) rfl ⟨rfl, rfl, Nat.le_of_ble_eq_true rfl, Nat.le_of_ble_eq_true rfl⟩ (Nat.le_of_ble_eq_true rfl) rfl ⟨Nat.zero_le _, Nat.zero_le _⟩ dL_all_72) ?_
          refine toL (lr_fit hR hlt).symm ?_
          refine lv_ladd C.1 hb dL_all_75 ?_
          refine lv_lstore (lv' := [(10, .long ((xTot (xIa T 1) (xLng T 3) i) + (xLng T 3 i))), (0, .ref (gA g 17)), (1, .ref (gA g 18)), (2, .ref (gA g 20)), (3, .ref (gA g 21)), (4, .ref (gA g 22)), (5, .ref (gA g 23)), (6, .ref (gA g 24)), (7, .int 0), (8, .long (xBase T)), (12, .int (nI i))]) C.1 hb dL_all_76 hl (by decide) rfl (fun ls hl => ?_)
          refine lv_iinc (v := nI (i + 1)) (lv' := [(12, .int (nI (i + 1))), (10, .long ((xTot (xIa T 1) (xLng T 3) i) + (xLng T 3 i))), (0, .ref (gA g 17)), (1, .ref (gA g 18)), (2, .ref (gA g 20)), (3, .ref (gA g 21)), (4, .ref (gA g 22)), (5, .ref (gA g 23)), (6, .ref (gA g 24)), (7, .int 0), (8, .long (xBase T))]) C.1 hb dL_all_78 hl (k := 10) rfl (nI_1 i) (by decide) rfl (fun ls hl => ?_)
          refine lv_goto (tgt := 17) C.1 hb dL_all_81 (by decide) ?_
          exact ih (i + 1) (by omega) (by omega)  ls (by rw [xTot_n hv]; exact lv_sub hl [2, 3, 4, 5, 6, 7, 8, 9, 10, 1, 0] rfl)
        · have hv := lr_g1 hR hlt c108
          refine lv_lconst (v := 0) C.1 hb dL_all_37 (by decide) ?_
          refine lv_goto (tgt := 75) C.1 hb dL_all_38 (by decide) ?_
          refine lv_ladd C.1 hb dL_all_75 ?_
          refine toL (Int64.add_zero _) ?_
          refine lv_lstore (lv' := [(10, .long (xTot (xIa T 1) (xLng T 3) i)), (0, .ref (gA g 17)), (1, .ref (gA g 18)), (2, .ref (gA g 20)), (3, .ref (gA g 21)), (4, .ref (gA g 22)), (5, .ref (gA g 23)), (6, .ref (gA g 24)), (7, .int 0), (8, .long (xBase T)), (12, .int (nI i))]) C.1 hb dL_all_76 hl (by decide) rfl (fun ls hl => ?_)
          refine lv_iinc (v := nI (i + 1)) (lv' := [(12, .int (nI (i + 1))), (10, .long (xTot (xIa T 1) (xLng T 3) i)), (0, .ref (gA g 17)), (1, .ref (gA g 18)), (2, .ref (gA g 20)), (3, .ref (gA g 21)), (4, .ref (gA g 22)), (5, .ref (gA g 23)), (6, .ref (gA g 24)), (7, .int 0), (8, .long (xBase T))]) C.1 hb dL_all_78 hl (k := 10) rfl (nI_1 i) (by decide) rfl (fun ls hl => ?_)
          refine lv_goto (tgt := 17) C.1 hb dL_all_81 (by decide) ?_
          exact ih (i + 1) (by omega) (by omega)  ls (by rw [xTot_z hv]; exact lv_sub hl [2, 3, 4, 5, 6, 7, 8, 9, 10, 1, 0] rfl)
  exact key (n - 0 + 1) 0 (by omega) (by omega)  ls (lv_sub hl [3, 4, 5, 6, 7, 8, 9, 10, 2, 1, 0] rfl)

set_option maxRecDepth 100000 in
set_option maxHeartbeats 4000000 in
theorem k_L_all1 (l : Launch) (g : gG) (S : WS) (n : Nat) (T : WS) (hR : LR n T S) : Met l yL_all (wA yL_all cL_all 13 (some .long)) ({ frames := 2, cells := 0, slots := 0, locals := 80 }) (PW g S [.ref (gA g 17), .ref (gA g 18), .ref (gA g 20), .ref (gA g 21), .ref (gA g 22), .ref (gA g 23), .ref (gA g 24), .int 1]) (RQ (some (.long (xTot (xIa T 1) (xCapP T) n)))) 0 0 (fun _ => False) := by
  refine metI (by decide +kernel) (Nat.le_of_ble_eq_true rfl) ?_
  intro p e s m below meth c C hb hml hret hlk hP ls hl
  have C : CW g RL p s m ([.ref (gA g 17), .ref (gA g 18), .ref (gA g 20), .ref (gA g 21), .ref (gA g 22), .ref (gA g 23), .ref (gA g 24), .int 1] : List Value).toArray := C
  have hS : va_S (Ab g) s.heap s.heap [] := va_S.rf
  have hl : lv_has ls 13 [(0, .ref (gA g 17)), (1, .ref (gA g 18)), (2, .ref (gA g 20)), (3, .ref (gA g 21)), (4, .ref (gA g 22)), (5, .ref (gA g 23)), (6, .ref (gA g 24)), (7, .int 1)] := hl
  have hn12 := lr_n hR
  refine lv_aload_n C.1 hb dL_all_0 rfl (lv_at hl 1 rfl) ?_
  refine lv_aload_n C.1 hb dL_all_1 rfl (lv_at hl 2 rfl) ?_
  refine lv_aload C.1 hb dL_all_2 (lv_at hl 4 rfl) ?_
  refine lv_aload C.1 hb dL_all_4 (lv_at hl 6 rfl) ?_
  refine run_rd (cRunS (As := [.ref (gA g 18), .ref (gA g 20), .ref (gA g 22), .ref (gA g 24)]) (rest := []) C hb (hml.trans hl.1.symm) hP hS (k_L_base l g S n T hR) wm_195 wm_196 wm_197 wm_2 (n := 4) (by decide +kernel) rfl ⟨rfl, rfl, Nat.le_of_ble_eq_true rfl, Nat.le_of_ble_eq_true rfl⟩ (Nat.le_of_ble_eq_true rfl) rfl ⟨Nat.zero_le _, Nat.zero_le _⟩ dL_all_6) ?_
  refine toL (lr_base hR).symm ?_
  refine lv_lstore (lv' := [(8, .long (xBase T)), (0, .ref (gA g 17)), (1, .ref (gA g 18)), (2, .ref (gA g 20)), (3, .ref (gA g 21)), (4, .ref (gA g 22)), (5, .ref (gA g 23)), (6, .ref (gA g 24)), (7, .int 1)]) C.1 hb dL_all_9 hl (by decide) rfl (fun ls hl => ?_)
  refine lv_lconst (v := 0) C.1 hb dL_all_11 (by decide) ?_
  refine lv_lstore (lv' := [(10, .long 0), (8, .long (xBase T)), (0, .ref (gA g 17)), (1, .ref (gA g 18)), (2, .ref (gA g 20)), (3, .ref (gA g 21)), (4, .ref (gA g 22)), (5, .ref (gA g 23)), (6, .ref (gA g 24)), (7, .int 1)]) C.1 hb dL_all_12 hl (by decide) rfl (fun ls hl => ?_)
  refine lv_iconst (v := 0) C.1 hb dL_all_14 (by decide) ?_
  refine lv_istore (lv' := [(12, .int 0), (10, .long 0), (8, .long (xBase T)), (0, .ref (gA g 17)), (1, .ref (gA g 18)), (2, .ref (gA g 20)), (3, .ref (gA g 21)), (4, .ref (gA g 22)), (5, .ref (gA g 23)), (6, .ref (gA g 24)), (7, .int 1)]) C.1 hb dL_all_15 hl (by decide) rfl (fun ls hl => ?_)
  have key : ∀ f i : Nat, n - i < f → i ≤ n → ∀ ls : Array Slot, lv_has ls 13 [(0, .ref (gA g 17)), (1, .ref (gA g 18)), (2, .ref (gA g 20)), (3, .ref (gA g 21)), (4, .ref (gA g 22)), (5, .ref (gA g 23)), (6, .ref (gA g 24)), (7, .int 1), (8, .long (xBase T)), (10, .long (xTot (xIa T 1) (xCapP T) i)), (12, .int (nI i))] → W p l e ({ frames := 2, cells := 0, slots := 0, locals := 80 }) s m ([.ref (gA g 17), .ref (gA g 18), .ref (gA g 20), .ref (gA g 21), .ref (gA g 22), .ref (gA g 23), .ref (gA g 24), .int 1] : List Value).toArray below meth c s.heap [] 0 0 (MQ below (RQ (some (.long (xTot (xIa T 1) (xCapP T) n)))) ([.ref (gA g 17), .ref (gA g 18), .ref (gA g 20), .ref (gA g 21), .ref (gA g 22), .ref (gA g 23), .ref (gA g 24), .int 1] : List Value).toArray s 0 0 (fun _ => False)) (F0 m 17 ls []) := by
    intro f
    induction f with
    | zero => intro i h; exact absurd h (Nat.not_lt_zero _)
    | succ f ih =>
      intro i hfi hi  ls hl
      refine lv_iload C.1 hb dL_all_17 (lv_at hl 10 rfl) ?_
      refine lv_aload C.1 hb dL_all_19 (lv_at hl 6 rfl) ?_
      refine lv_iconst (v := 0) C.1 hb dL_all_21 (by decide) ?_
      refine ldA_m (j := 0) C hb hP (by decide) (by decide) dL_all_22 ?_
      refine toI (lr_m0 hR) ?_
      refine lv_icmp_ge (tgt := 84) C.1 hb dL_all_23 (by decide) (fun c109 => ?_) (fun c109 => ?_)
      · have hin : i = n := by have := le_nI (a := n) (b := i) (by omega) (by omega) c109; omega
        rw [hin] at hl
        refine lv_lload C.1 hb dL_all_84 (lv_at hl 9 rfl) ?_
        exact rdL C hb hret hlk dL_all_86 rfl
      · have hlt : i < n := nle_nI (a := n) (b := i) (by omega) (by omega) c109
        refine lv_lload C.1 hb dL_all_26 (lv_at hl 9 rfl) ?_
        refine lv_aload C.1 hb dL_all_28 (lv_at hl 4 rfl) ?_
        refine lv_iload C.1 hb dL_all_30 (lv_at hl 10 rfl) ?_
        refine ldA_g (j := i) C hb hP rfl (by omega) dL_all_32 ?_
        refine lv_iconst (v := 1) C.1 hb dL_all_33 (by decide) ?_
        refine lv_icmp_ne (tgt := 41) C.1 hb dL_all_34 (by decide) (fun c110 => ?_) (fun c110 => ?_)
        · have hv := lr_g0 hR hlt c110
          refine lv_iload C.1 hb dL_all_41 (lv_at hl 7 rfl) ?_
          refine lv_if_eq (tgt := 64) C.1 hb dL_all_43 (by decide) (fun c9 => absurd c9 (by decide)) (fun _ => ?_)
          refine lv_aload_n C.1 hb dL_all_46 rfl (lv_at hl 0 rfl) ?_
          refine lv_aload_n C.1 hb dL_all_47 rfl (lv_at hl 1 rfl) ?_
          refine lv_aload_n C.1 hb dL_all_48 rfl (lv_at hl 2 rfl) ?_
          refine lv_aload_n C.1 hb dL_all_49 rfl (lv_at hl 3 rfl) ?_
          refine lv_aload C.1 hb dL_all_50 (lv_at hl 4 rfl) ?_
          refine lv_aload C.1 hb dL_all_52 (lv_at hl 5 rfl) ?_
          refine lv_aload C.1 hb dL_all_54 (lv_at hl 6 rfl) ?_
          refine lv_iload C.1 hb dL_all_56 (lv_at hl 10 rfl) ?_
          refine run_rd (cRunS (As := [.ref (gA g 17), .ref (gA g 18), .ref (gA g 20), .ref (gA g 21), .ref (gA g 22), .ref (gA g 23), .ref (gA g 24), .int (nI i)]) (rest := [.long (xTot (xIa T 1) (xCapP T) i)]) C hb (hml.trans hl.1.symm) hP hS (k_L_capped l g S n T hR i hlt) wm_227 wm_228 wm_229 wm_2 (n := 8) (by decide +kernel) rfl ⟨rfl, rfl, Nat.le_of_ble_eq_true rfl, Nat.le_of_ble_eq_true rfl⟩ (Nat.le_of_ble_eq_true rfl) rfl ⟨Nat.zero_le _, Nat.zero_le _⟩ dL_all_58) ?_
          refine lv_goto (tgt := 75) C.1 hb dL_all_61 (by decide) ?_
          refine lv_ladd C.1 hb dL_all_75 ?_
          refine lv_lstore (lv' := [(10, .long ((xTot (xIa T 1) (xCapP T) i) + (xCapP T i))), (0, .ref (gA g 17)), (1, .ref (gA g 18)), (2, .ref (gA g 20)), (3, .ref (gA g 21)), (4, .ref (gA g 22)), (5, .ref (gA g 23)), (6, .ref (gA g 24)), (7, .int 1), (8, .long (xBase T)), (12, .int (nI i))]) C.1 hb dL_all_76 hl (by decide) rfl (fun ls hl => ?_)
          refine lv_iinc (v := nI (i + 1)) (lv' := [(12, .int (nI (i + 1))), (10, .long ((xTot (xIa T 1) (xCapP T) i) + (xCapP T i))), (0, .ref (gA g 17)), (1, .ref (gA g 18)), (2, .ref (gA g 20)), (3, .ref (gA g 21)), (4, .ref (gA g 22)), (5, .ref (gA g 23)), (6, .ref (gA g 24)), (7, .int 1), (8, .long (xBase T))]) C.1 hb dL_all_78 hl (k := 10) rfl (nI_1 i) (by decide) rfl (fun ls hl => ?_)
          refine lv_goto (tgt := 17) C.1 hb dL_all_81 (by decide) ?_
          exact ih (i + 1) (by omega) (by omega)  ls (by rw [xTot_n hv]; exact lv_sub hl [2, 3, 4, 5, 6, 7, 8, 9, 10, 1, 0] rfl)
        · have hv := lr_g1 hR hlt c110
          refine lv_lconst (v := 0) C.1 hb dL_all_37 (by decide) ?_
          refine lv_goto (tgt := 75) C.1 hb dL_all_38 (by decide) ?_
          refine lv_ladd C.1 hb dL_all_75 ?_
          refine toL (Int64.add_zero _) ?_
          refine lv_lstore (lv' := [(10, .long (xTot (xIa T 1) (xCapP T) i)), (0, .ref (gA g 17)), (1, .ref (gA g 18)), (2, .ref (gA g 20)), (3, .ref (gA g 21)), (4, .ref (gA g 22)), (5, .ref (gA g 23)), (6, .ref (gA g 24)), (7, .int 1), (8, .long (xBase T)), (12, .int (nI i))]) C.1 hb dL_all_76 hl (by decide) rfl (fun ls hl => ?_)
          refine lv_iinc (v := nI (i + 1)) (lv' := [(12, .int (nI (i + 1))), (10, .long (xTot (xIa T 1) (xCapP T) i)), (0, .ref (gA g 17)), (1, .ref (gA g 18)), (2, .ref (gA g 20)), (3, .ref (gA g 21)), (4, .ref (gA g 22)), (5, .ref (gA g 23)), (6, .ref (gA g 24)), (7, .int 1), (8, .long (xBase T))]) C.1 hb dL_all_78 hl (k := 10) rfl (nI_1 i) (by decide) rfl (fun ls hl => ?_)
          refine lv_goto (tgt := 17) C.1 hb dL_all_81 (by decide) ?_
          exact ih (i + 1) (by omega) (by omega)  ls (by rw [xTot_z hv]; exact lv_sub hl [2, 3, 4, 5, 6, 7, 8, 9, 10, 1, 0] rfl)
  exact key (n - 0 + 1) 0 (by omega) (by omega)  ls (lv_sub hl [3, 4, 5, 6, 7, 8, 9, 10, 2, 1, 0] rfl)
end
