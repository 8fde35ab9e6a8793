section
-- ===== PART A: goes FIRST, ahead of the names: the tables' words, and 'selects' of the private methods out of them =====
/-- a private method of a class that the tables say can be made, by its rows of tables_1 -/
def lw_okq (q : MethodName × Nat) : Prop := (q.1.cls ≠ "java/lang/invoke/MethodHandle" ∧ q.1.cls ≠ "java/lang/invoke/VarHandle") ∧ Cond.instantiable q.1.cls q.2 ∈ tables_1 ∧ Cond.privateMethod q.1 ∈ tables_1 ∧ Cond.instanceMethod q.1 ∈ tables_1
theorem lw_p0 : lw_okq (⟨"RateFitter", "changedByRound", "()I"⟩, 16) := ⟨⟨by decide +kernel, by decide +kernel⟩, List.mem_of_getElem? (i := 20) (by decide +kernel), List.mem_of_getElem? (i := 97) (by decide +kernel), List.mem_of_getElem? (i := 98) (by decide +kernel)⟩
theorem lw_p1 : lw_okq (⟨"RateFitter", "passOver", "(I)I"⟩, 16) := ⟨⟨by decide +kernel, by decide +kernel⟩, List.mem_of_getElem? (i := 20) (by decide +kernel), List.mem_of_getElem? (i := 101) (by decide +kernel), List.mem_of_getElem? (i := 102) (by decide +kernel)⟩
theorem lw_p2 : lw_okq (⟨"RateFitter", "foundFactor", "(II)I"⟩, 16) := ⟨⟨by decide +kernel, by decide +kernel⟩, List.mem_of_getElem? (i := 20) (by decide +kernel), List.mem_of_getElem? (i := 107) (by decide +kernel), List.mem_of_getElem? (i := 108) (by decide +kernel)⟩
theorem lw_p3 : lw_okq (⟨"RateFitter", "levelTotal", "([JII)J"⟩, 16) := ⟨⟨by decide +kernel, by decide +kernel⟩, List.mem_of_getElem? (i := 20) (by decide +kernel), List.mem_of_getElem? (i := 111) (by decide +kernel), List.mem_of_getElem? (i := 112) (by decide +kernel)⟩
theorem lw_p4 : lw_okq (⟨"RateFitter", "refit", "()V"⟩, 16) := ⟨⟨by decide +kernel, by decide +kernel⟩, List.mem_of_getElem? (i := 20) (by decide +kernel), List.mem_of_getElem? (i := 126) (by decide +kernel), List.mem_of_getElem? (i := 127) (by decide +kernel)⟩
theorem lw_p5 : lw_okq (⟨"RateFitter", "total", "([J)J"⟩, 16) := ⟨⟨by decide +kernel, by decide +kernel⟩, List.mem_of_getElem? (i := 20) (by decide +kernel), List.mem_of_getElem? (i := 130) (by decide +kernel), List.mem_of_getElem? (i := 131) (by decide +kernel)⟩
theorem lw_p6 : lw_okq (⟨"RateFitter", "fittedLoss", "(I)J"⟩, 16) := ⟨⟨by decide +kernel, by decide +kernel⟩, List.mem_of_getElem? (i := 20) (by decide +kernel), List.mem_of_getElem? (i := 135) (by decide +kernel), List.mem_of_getElem? (i := 136) (by decide +kernel)⟩
theorem lw_p7 : lw_okq (⟨"java/lang/Throwable", "fillInStackTrace", "(I)Ljava/lang/Throwable;"⟩, 6) := ⟨⟨by decide +kernel, by decide +kernel⟩, List.mem_of_getElem? (i := 197) (by decide +kernel), List.mem_of_getElem? (i := 195) (by decide +kernel), List.mem_of_getElem? (i := 196) (by decide +kernel)⟩
theorem lw_p8 : lw_okq (⟨"RateFitter", "hasRow", "(I)Z"⟩, 16) := ⟨⟨by decide +kernel, by decide +kernel⟩, List.mem_of_getElem? (i := 20) (by decide +kernel), List.mem_of_getElem? (i := 255) (by decide +kernel), List.mem_of_getElem? (i := 256) (by decide +kernel)⟩
theorem lw_p9 : lw_okq (⟨"RateFitter", "newPremium", "(I)J"⟩, 16) := ⟨⟨by decide +kernel, by decide +kernel⟩, List.mem_of_getElem? (i := 20) (by decide +kernel), List.mem_of_getElem? (i := 279) (by decide +kernel), List.mem_of_getElem? (i := 280) (by decide +kernel)⟩
theorem lw_p10 : lw_okq (⟨"RateFitter", "cappedPremium", "(I)J"⟩, 16) := ⟨⟨by decide +kernel, by decide +kernel⟩, List.mem_of_getElem? (i := 20) (by decide +kernel), List.mem_of_getElem? (i := 287) (by decide +kernel), List.mem_of_getElem? (i := 288) (by decide +kernel)⟩
theorem lw_p11 : lw_okq (⟨"RateFitter", "lowestFallingLevel", "(I)I"⟩, 16) := ⟨⟨by decide +kernel, by decide +kernel⟩, List.mem_of_getElem? (i := 20) (by decide +kernel), List.mem_of_getElem? (i := 347) (by decide +kernel), List.mem_of_getElem? (i := 348) (by decide +kernel)⟩
theorem lw_p12 : lw_okq (⟨"RateFitter", "joinToLevelAhead", "(II)V"⟩, 16) := ⟨⟨by decide +kernel, by decide +kernel⟩, List.mem_of_getElem? (i := 20) (by decide +kernel), List.mem_of_getElem? (i := 351) (by decide +kernel), List.mem_of_getElem? (i := 352) (by decide +kernel)⟩
theorem lw_p13 : lw_okq (⟨"RateFitter", "groupMean", "(II)I"⟩, 16) := ⟨⟨by decide +kernel, by decide +kernel⟩, List.mem_of_getElem? (i := 20) (by decide +kernel), List.mem_of_getElem? (i := 355) (by decide +kernel), List.mem_of_getElem? (i := 356) (by decide +kernel)⟩
theorem lw_p14 : lw_okq (⟨"RateFitter", "changedSinceBefore", "(I)I"⟩, 16) := ⟨⟨by decide +kernel, by decide +kernel⟩, List.mem_of_getElem? (i := 20) (by decide +kernel), List.mem_of_getElem? (i := 359) (by decide +kernel), List.mem_of_getElem? (i := 360) (by decide +kernel)⟩
theorem lw_p15 : lw_okq (⟨"RateFitter", "cappedTotal", "()J"⟩, 16) := ⟨⟨by decide +kernel, by decide +kernel⟩, List.mem_of_getElem? (i := 20) (by decide +kernel), List.mem_of_getElem? (i := 377) (by decide +kernel), List.mem_of_getElem? (i := 378) (by decide +kernel)⟩
def lw_privs_1 : List (MethodName × Nat) := [(⟨"RateFitter", "changedByRound", "()I"⟩, 16), (⟨"RateFitter", "passOver", "(I)I"⟩, 16), (⟨"RateFitter", "foundFactor", "(II)I"⟩, 16), (⟨"RateFitter", "levelTotal", "([JII)J"⟩, 16), (⟨"RateFitter", "refit", "()V"⟩, 16), (⟨"RateFitter", "total", "([J)J"⟩, 16), (⟨"RateFitter", "fittedLoss", "(I)J"⟩, 16), (⟨"java/lang/Throwable", "fillInStackTrace", "(I)Ljava/lang/Throwable;"⟩, 6), (⟨"RateFitter", "hasRow", "(I)Z"⟩, 16), (⟨"RateFitter", "newPremium", "(I)J"⟩, 16), (⟨"RateFitter", "cappedPremium", "(I)J"⟩, 16), (⟨"RateFitter", "lowestFallingLevel", "(I)I"⟩, 16), (⟨"RateFitter", "joinToLevelAhead", "(II)V"⟩, 16), (⟨"RateFitter", "groupMean", "(II)I"⟩, 16), (⟨"RateFitter", "changedSinceBefore", "(I)I"⟩, 16), (⟨"RateFitter", "cappedTotal", "()J"⟩, 16)]
theorem lw_r1 : ∀ q ∈ lw_privs_1, lw_okq q := List.forall_mem_cons.mpr ⟨lw_p0, List.forall_mem_cons.mpr ⟨lw_p1, List.forall_mem_cons.mpr ⟨lw_p2, List.forall_mem_cons.mpr ⟨lw_p3, List.forall_mem_cons.mpr ⟨lw_p4, List.forall_mem_cons.mpr ⟨lw_p5, List.forall_mem_cons.mpr ⟨lw_p6, List.forall_mem_cons.mpr ⟨lw_p7, List.forall_mem_cons.mpr ⟨lw_p8, List.forall_mem_cons.mpr ⟨lw_p9, List.forall_mem_cons.mpr ⟨lw_p10, List.forall_mem_cons.mpr ⟨lw_p11, List.forall_mem_cons.mpr ⟨lw_p12, List.forall_mem_cons.mpr ⟨lw_p13, List.forall_mem_cons.mpr ⟨lw_p14, List.forall_mem_cons.mpr ⟨lw_p15, fun _ h => absurd h List.not_mem_nil⟩⟩⟩⟩⟩⟩⟩⟩⟩⟩⟩⟩⟩⟩⟩⟩
theorem lw_p16 : lw_okq (⟨"RateFitter", "placeOf", "(I)I"⟩, 16) := ⟨⟨by decide +kernel, by decide +kernel⟩, List.mem_of_getElem? (i := 20) (by decide +kernel), List.mem_of_getElem? (i := 415) (by decide +kernel), List.mem_of_getElem? (i := 416) (by decide +kernel)⟩
theorem lw_p17 : lw_okq (⟨"RateFitter", "isAhead", "(II)Z"⟩, 16) := ⟨⟨by decide +kernel, by decide +kernel⟩, List.mem_of_getElem? (i := 20) (by decide +kernel), List.mem_of_getElem? (i := 419) (by decide +kernel), List.mem_of_getElem? (i := 420) (by decide +kernel)⟩
def lw_privs_2 : List (MethodName × Nat) := [(⟨"RateFitter", "placeOf", "(I)I"⟩, 16), (⟨"RateFitter", "isAhead", "(II)Z"⟩, 16)]
theorem lw_r2 : ∀ q ∈ lw_privs_2, lw_okq q := List.forall_mem_cons.mpr ⟨lw_p16, List.forall_mem_cons.mpr ⟨lw_p17, fun _ h => absurd h List.not_mem_nil⟩⟩
def lw_privs : List (MethodName × Nat) := lw_privs_1 ++ (lw_privs_2)
def lw_tbl : List Cond := k2_sels lw_privs ++ tables_1
theorem lw_privs_ok : ∀ q ∈ lw_privs, lw_okq q := by
  show ∀ q ∈ lw_privs_1 ++ (lw_privs_2), lw_okq q
  exact List.forall_mem_append.mpr ⟨lw_r1, lw_r2⟩
-- ===== end of PART A; then your names; then what follows =====
end
section
/-! ===== BEGIN words of one list among another's, by their places ===== -/
theorem goodIn_r {big : List Cond} (ws : List Cond) (ps : List Nat) (hp : ws = ps.filterMap (fun i => big[i]?)) (h : ws.all goodWord = true) : GoodIn big ws := by
  intro w hw
  have h1 := List.all_eq_true.mp h w hw
  rw [hp] at hw
  obtain ⟨i, -, hi⟩ := List.mem_filterMap.mp hw
  have hm : w ∈ big := by first | exact List.mem_of_getElem? hi | exact List.getElem?_mem hi
  exact ⟨hm, good_of_word h1⟩
theorem goodIn_app {big a b : List Cond} (ha : GoodIn big a) (hb : GoodIn big b) : GoodIn big (a ++ b) := fun w h => (List.mem_append.mp h).elim (ha w) (hb w)
theorem goodIn_ca {big a b : List Cond} {c : Cond} (ha : GoodIn big (c :: a)) (hb : GoodIn big b) : GoodIn big (c :: (a ++ b)) := fun w h => (List.mem_cons.mp h).elim (fun e => ha w (List.mem_cons.mpr (Or.inl e))) (fun h => (List.mem_append.mp h).elim (fun h => ha w (List.mem_cons.mpr (Or.inr h))) (hb w))
theorem goodIn_sub {big ws : List Cond} (hm : ∀ w ∈ ws, w ∈ big) (h : ws.all goodWord = true) : GoodIn big ws := fun w hw => ⟨hm w hw, good_of_word (List.all_eq_true.mp h w hw)⟩
/-! ===== END ===== -/

/-- what the tables say of an array of arrays (the printed names use this word and do not define it) -/
def va_AOA (ty : FieldType) (U : State) : Prop := (Cond.arrayOver (.array ty)).before #[] U = true
theorem va_AOA.of {ty : FieldType} {A : Array Value} {U : State} (h : (Cond.arrayOver (.array ty)).before A U = true) : va_AOA ty U := h
theorem va_AOA.use {ty : FieldType} {A : Array Value} {U : State} (h : va_AOA ty U) : (Cond.arrayOver (.array ty)).before A U = true := h
/-! ===== BEGIN new T[n][m]: the outer array a place, the inner ones among the pooled ===== -/
/-- f, but v at every address of l -/
def vr_up {α : Type} (f : Nat → α) (l : List Nat) (v : α) : Nat → α := fun a => if a ∈ l then v else f a
theorem vr_up_in {α : Type} {f : Nat → α} {l : List Nat} {v : α} {a : Nat} (h : a ∈ l) : vr_up f l v a = v := if_pos h
theorem vr_up_ne {α : Type} {f : Nat → α} {l : List Nat} {v : α} {a : Nat} (h : a ∉ l) : vr_up f l v a = f a := if_neg h
theorem vr_rows {L l : List Nat} {f : Nat → va_E} {e : va_E} (h : ∀ a, a ∈ l → a ∉ L) : va_pl L f ++ l.map (fun a => (a, e)) = va_pl (L ++ l) (vr_up f l e) := by
  unfold va_pl
  rw [List.map_append]
  congr 1
  · apply List.map_congr_left
    intro a ha
    rw [vr_up_ne (fun q => h a q ha)]
  · apply List.map_congr_left
    intro a ha
    rw [vr_up_in ha]
theorem vr_lay {X rows : va_W} {x : Nat × va_E} {pl : va_W} {D : va_G} {cl : List vw_C} {H : Heap} (hP : va_P D cl (((X ++ pl) ++ [x]) ++ rows) H) : va_P D cl ((X ++ [x]) ++ (pl ++ rows)) H := by
  rw [List.append_assoc (X ++ pl)] at hP
  have h := va_P.swap hP
  rw [← List.append_assoc X] at h
  have h2 := va_P.swap h
  rw [List.append_assoc (X ++ [x])] at h2
  exact h2
theorem vr_layD {X rows : va_W} {x : Nat × va_E} {pl : va_W} {A : Nat → Prop} (hD : va_D A (((X ++ pl) ++ [x]) ++ rows)) : va_D A ((X ++ [x]) ++ (pl ++ rows)) := by
  rw [List.append_assoc (X ++ pl)] at hD
  have h := va_D.swap hD
  rw [← List.append_assoc X] at h
  have h2 := va_D.swap h
  rw [List.append_assoc (X ++ [x])] at h2
  exact h2
theorem vr_outer (c : ClassId) (N h0 : Nat) : ∀ i : Nat, Jvm.Free.Multi.outerC c N h0 i = arrV c N (fun j => va_rf (if j < i then some (h0 + 1 + j) else none))
  | 0 => by
    show ({ cls := c, slots := Array.replicate N .null, vm := .none } : Cell) = _
    rw [arrV_new]
    refine congrArg (arrV c N) (funext fun j => ?_)
    simp [va_rf]
  | i + 1 => by
    show (Jvm.Free.Multi.outerC c N h0 i).setSlot i (.ref (h0 + 1 + i)) = _
    rw [vr_outer c N h0 i, arrV_store]
    refine congrArg (arrV c N) (funext fun j => ?_)
    by_cases e : j = i
    · subst e
      simp [updV, va_rf]
    · by_cases h : j < i
      · simp [updV, e, h, Nat.lt_succ_of_lt h]
      · simp [updV, e, h, show ¬ j < i + 1 by omega]
section VGM
variable {p : Program} {l : Launch} {e : Env} {R : Room} {s : State} {m : MethodId} {args : Array Value} {below : List Frame} {meth : Method} {c : Code} {H : Heap} {locs : List Loc} {cells slots : Nat} {Q : State → Prop}
variable {cc : ByteArray} {pc : Nat} {ls : Array Slot} {rest : List Value} {D : va_G} {cl : List vw_C} {A : Nat → Prop} {a : Nat} {tys : List (ClassId × FieldType)} {ws : va_W} {H0 : Heap}
theorem va_mna {X : va_W} {L : List Nat} {f : Nat → va_E} {cc : ByteArray} (hexec : p.tables.exec = Jvm.exec) (hb : c.code = cc) {own : String} {index : Nat} {ty : FieldType} {cy : ClassId} (hown : s.vm.findClass own = some m.cls) (hclink : (Cond.classLink own index ("[" ++ (FieldType.array ty).toString)).before args s = true) (hover : va_AOA ty s) (harr : (Cond.arrayClass ty).before args s = true) (hcy : s.vm.findClass (FieldType.array ty).toString = some cy)
    (hK : va_K D cl tys s) (hP : va_P D cl (X ++ va_pl L f) H) (hD : va_D A (X ++ va_pl L f)) (hS : va_S A H0 H locs) (hA : ∀ q, H0.size ≤ q → A q) {n k : Int32} {N' K' : Nat} {z : vp_A} (hn : ¬ n < 0) (hk : ¬ k < 0) (hN : n.toNatClampNeg = N') (hM : k.toNatClampNeg = K')
    (hb1 : N' * 4 ≤ 536870912) (hb2 : K' * componentBytes ty ≤ 536870912) (hb3 : K' ≤ 536870912) (hdf : fits ty (defaultValue ty) = true) (hdd : (defaultValue ty).isDefault = true) (hcells : cells + (1 + N') ≤ R.cells) (hslots : slots + (N' + N' * K') ≤ R.slots) (hz : ∀ c : ClassId, Jvm.Free.Multi.innerC c K' (defaultValue ty) = vp_cell c z) (hdg : decode cc pc = .ok (.multianewarray index 2, 4))
    (kk : ∀ (q : Nat) (r : Nat → Nat) (cA : ClassId) (H1 : Heap), (∀ i j : Nat, i < N' → j < N' → r i = r j → i = j) → (∀ i : Nat, i < N' → r i ∉ L) → va_K D cl (tys ++ [(cA, .array ty)]) s →
      va_P D cl ((X ++ [(q, .inl (cA, N', .inr (.inr (.inr (.inr (fun i => if i < N' then some (r i) else none))))))]) ++ va_pl (L ++ (List.range N').map r) (vr_up f ((List.range N').map r) (.inl (cy, z)))) H1 → va_D A ((X ++ [(q, .inl (cA, N', .inr (.inr (.inr (.inr (fun i => if i < N' then some (r i) else none))))))]) ++ va_pl (L ++ (List.range N').map r) (vr_up f ((List.range N').map r) (.inl (cy, z)))) → va_S A H0 H1 locs →
      W p l e R s m args below meth c H1 locs (cells + 1 + N') (slots + N' + N' * K') Q (F0 m (pc + 4) ls (.ref q :: rest))) : W p l e R s m args below meth c H locs cells slots Q (F0 m pc ls (.int k :: .int n :: rest)) := by
  subst hN
  subst hM
  intro T hT Xs
  obtain ⟨vm₁, cA, comp, -, fA, fC, hO, -, X', step⟩ := Xs.multianewarray2F hexec hown hclink (va_AOA.use hover) harr (g := F0 m pc ls (.int k :: .int n :: rest)) rfl (by rw [hb]; exact hdg) rfl hn hk hb1 hb2 hb3 hdf hdd hcells hslots
  have ec : some cy = some comp := hcy.symm.trans fC
  cases ec
  generalize hF : Jvm.Free.Multi.fill (T.setVm vm₁) cA cy n.toNatClampNeg k.toNatClampNeg (defaultValue ty) n.toNatClampNeg = F at X' step
  have hTh : (T.setVm vm₁).heap = H := hT
  obtain ⟨f1, f2, -, -⟩ := Jvm.Free.Multi.fill_facts (T.setVm vm₁) cA cy n.toNatClampNeg k.toNatClampNeg (defaultValue ty) n.toNatClampNeg
  rw [hF, hTh] at f1 f2
  have hold : ∀ x : Nat, x < H.size → F.heap[x]? = H[x]? := fun x hx => by
    have := Jvm.Free.Multi.fill_old (T.setVm vm₁) cA cy n.toNatClampNeg k.toNatClampNeg (defaultValue ty) (a := x) (by rw [hTh]; exact hx) n.toNatClampNeg
    rw [hF, hTh] at this
    exact this
  have hrow : ∀ j : Nat, j < n.toNatClampNeg → F.heap[H.size + 1 + j]? = some (vp_cell cy z) := fun j hj => by
    have := Jvm.Free.Multi.fill_inner (T.setVm vm₁) cA cy n.toNatClampNeg k.toNatClampNeg (defaultValue ty) n.toNatClampNeg j hj
    rw [hF, hTh, hz] at this
    exact this
  have hout : Jvm.Free.Multi.outerC cA n.toNatClampNeg H.size n.toNatClampNeg = vp_cell cA (n.toNatClampNeg, .inr (.inr (.inr (.inr (fun i => if i < n.toNatClampNeg then some (H.size + 1 + i) else none))))) := by
    rw [vp_cell_q]
    exact vr_outer cA n.toNatClampNeg H.size n.toNatClampNeg
  rw [hout] at f2
  have hlt : ∀ a, a ∈ L → a < H.size := fun a ha => by
    obtain ⟨k9, hk9⟩ := va_pl_get (X := X) (f := f) ha
    exact (hP k9 _ hk9).lt
  have hnl : ∀ i : Nat, i < n.toNatClampNeg → H.size + 1 + i ∉ L := fun i _ h => by
    have := hlt _ h
    omega
  have hnm : ∀ a, a ∈ (List.range n.toNatClampNeg).map (fun i => H.size + 1 + i) → a ∉ L := fun a ha h => by
    obtain ⟨i, -, rfl⟩ := List.mem_map.mp ha
    have := hlt _ h
    omega
  have hP0 : va_P D cl (X ++ va_pl L f) F.heap := hP.kept (fun k9 x hx => hold x.1 ((hP k9 x hx).lt))
  have hP1 : va_P D cl ((X ++ va_pl L f) ++ [(H.size, .inl (cA, n.toNatClampNeg, .inr (.inr (.inr (.inr (fun i => if i < n.toNatClampNeg then some (H.size + 1 + i) else none))))))]) F.heap := hP0.app (fun k9 x hx => by
    have h0 : k9 < 1 := (List.getElem?_eq_some_iff.mp hx).1
    rw [show k9 = 0 by omega] at hx
    cases hx
    exact f2)
  have hP2 : va_P D cl (((X ++ va_pl L f) ++ [(H.size, .inl (cA, n.toNatClampNeg, .inr (.inr (.inr (.inr (fun i => if i < n.toNatClampNeg then some (H.size + 1 + i) else none))))))]) ++ ((List.range n.toNatClampNeg).map (fun i => H.size + 1 + i)).map (fun a => (a, .inl (cy, z)))) F.heap := hP1.app (fun k9 x hx => by
    obtain ⟨a, ha, rfl⟩ := List.mem_map.mp (List.mem_of_getElem? hx)
    obtain ⟨i, hi, rfl⟩ := List.mem_map.mp ha
    exact hrow i (List.mem_range.mp hi))
  have hD2 : va_D A (((X ++ va_pl L f) ++ [(H.size, .inl (cA, n.toNatClampNeg, .inr (.inr (.inr (.inr (fun i => if i < n.toNatClampNeg then some (H.size + 1 + i) else none))))))]) ++ ((List.range n.toNatClampNeg).map (fun i => H.size + 1 + i)).map (fun a => (a, .inl (cy, z)))) := by
    have hD1 := hD.push (e := .inl (cA, n.toNatClampNeg, .inr (.inr (.inr (.inr (fun i => if i < n.toNatClampNeg then some (H.size + 1 + i) else none)))))) hP rfl (hA _ hS.1)
    generalize hW1 : (X ++ va_pl L f) ++ [(H.size, .inl (cA, n.toNatClampNeg, .inr (.inr (.inr (.inr (fun i => if i < n.toNatClampNeg then some (H.size + 1 + i) else none))))))] = W1 at hD1 hP1 ⊢
    have hle : ∀ (k9 : Nat) (x : Nat × va_E), W1[k9]? = some x → x.1 ≤ H.size := fun k9 x hx => by
      rw [← hW1] at hx
      by_cases hl : k9 < (X ++ va_pl L f).length
      · rw [List.getElem?_append_left hl] at hx
        exact Nat.le_of_lt ((hP k9 x hx).lt)
      · rw [List.getElem?_append_right (by omega)] at hx
        have h0 : k9 - (X ++ va_pl L f).length < 1 := (List.getElem?_eq_some_iff.mp hx).1
        rw [show k9 - (X ++ va_pl L f).length = 0 by omega] at hx
        cases hx
        exact Nat.le_refl _
    have hr : ∀ (k9 : Nat) (x : Nat × va_E), (((List.range n.toNatClampNeg).map (fun i => H.size + 1 + i)).map (fun a => ((a, .inl (cy, z)) : Nat × va_E)))[k9]? = some x → x.1 = H.size + 1 + k9 := fun k9 x hx => by
      rw [List.getElem?_map, List.getElem?_map] at hx
      by_cases h9 : k9 < n.toNatClampNeg
      · rw [List.getElem?_range h9] at hx
        cases hx
        rfl
      · have hn0 : (List.range n.toNatClampNeg)[k9]? = none := List.getElem?_eq_none (by rw [List.length_range]; omega)
        rw [hn0] at hx
        cases hx
    refine ⟨fun i j x y hi hj hxy => ?_, fun k9 x hx => ?_⟩
    · by_cases h1 : i < W1.length <;> by_cases h2 : j < W1.length
      · rw [List.getElem?_append_left h1] at hi
        rw [List.getElem?_append_left h2] at hj
        exact hD1.1 i j x y hi hj hxy
      · rw [List.getElem?_append_left h1] at hi
        rw [List.getElem?_append_right (by omega)] at hj
        have := hle _ _ hi
        have := hr _ _ hj
        omega
      · rw [List.getElem?_append_right (by omega)] at hi
        rw [List.getElem?_append_left h2] at hj
        have := hle _ _ hj
        have := hr _ _ hi
        omega
      · rw [List.getElem?_append_right (by omega)] at hi hj
        have := hr _ _ hi
        have := hr _ _ hj
        omega
    · by_cases h1 : k9 < W1.length
      · rw [List.getElem?_append_left h1] at hx
        exact hD1.2 k9 x hx
      · rw [List.getElem?_append_right (by omega)] at hx
        have := hr _ _ hx
        exact hA _ (by have := hS.1; omega)
  have hAr : ArrOfT s cA (.array ty) := fun N9 z9 => by
    obtain ⟨-, k9, hk9, cm9, hkk9⟩ := (hO 0 0 0).1
    exact ⟨(fun q hq => by cases hq), k9, hk9, cm9, hkk9⟩
  have hK2 : va_K D cl (tys ++ [(cA, .array ty)]) s := ⟨hK.1, fun k9 x hx => by
    by_cases hl : k9 < tys.length
    · rw [List.getElem?_append_left hl] at hx
      exact hK.2 k9 x hx
    · rw [List.getElem?_append_right (by omega)] at hx
      have h0 : k9 - tys.length < 1 := (List.getElem?_eq_some_iff.mp hx).1
      rw [show k9 - tys.length = 0 by omega] at hx
      cases hx
      exact ⟨hAr, fA⟩⟩
  obtain ⟨t, a1, b1⟩ := kk H.size (fun i => H.size + 1 + i) cA F.heap (fun i j _ _ h => by have h9 : H.size + 1 + i = H.size + 1 + j := h; omega) hnl hK2 (by rw [← vr_rows hnm]; exact vr_lay hP2) (by rw [← vr_rows hnm]; exact vr_layD hD2) ⟨by rw [f1]; have := hS.1; omega, fun x h1 h2 => (hold x (Nat.lt_of_lt_of_le h1 hS.1)).trans (hS.2.1 x h1 h2), hS.2.2⟩ F rfl X'
  refine ⟨t, step t ?_, b1⟩
  have e : T.heap.size = H.size := by rw [hT]
  rw [e]
  exact a1
end VGM
/-! ===== END ===== -/

/-! ===== BEGIN exceptions that leave a method, and their catching by the caller (launches without stack traces) ===== -/
section VXA
/-! The laws vx_back, vx_callV, vx_callS, vx_callSW, vx_throw0, vx_throwS follow proofs of the library, with one case more: JvmDerived/Free/Laws.lean (Back.of_free), Shelf42/LK1.lean (callV, callS), Shelf/KitTraced.lean (throwNew0V, throwNewS). -/
/-- where a method has thrown q: the class by its name, the cell, what was written, the world -/
def vx_T (XC : String → State → State → Prop) (st : State) (q : Addr) (t : State) (mc ms : Nat) (free : Addr → Prop) : Prop :=
  ∃ (E : String) (ce : Cell) (L : List Loc), XC E st t ∧ t.heap[q]? = some ce ∧ ce.vm = .none ∧ st.vm.findClass E = some ce.cls ∧ st.WarmedH t.vm ∧ st.sameButNew ({ t with vm := st.vm } : State) L mc ms ∧ ∀ z ∈ L, free z.base
def vx_Q (Qc : Array Value → State → Outcome → State → Prop) (XC : String → State → State → Prop) (mc ms : Nat) (free : Addr → Prop) : Array Value → State → Outcome → State → Prop := fun a st o t =>
  (Qc a st o t ∧ ∃ L, FrameEnd st o t L mc ms ∧ ∀ q ∈ L, free q.base) ∨ ∃ q, o = .threw q ∧ vx_T XC st q t mc ms free
/-- a callee that returns or throws -/
def vx_Met (l : Launch) (y : MethodName) (ws : List Cond) (rm : Room) (Pc : Array Value → State → Prop) (Qc : Array Value → State → Outcome → State → Prop) (XC : String → State → State → Prop) (mc ms : Nat) (free : Addr → Prop) : Prop :=
  MetFree l y (headSpec ws rm) Pc (fun _ _ _ _ _ => True) (vx_Q Qc XC mc ms free)
def vx_Post (XC : String → State → State → Prop) (mc ms : Nat) (free : Addr → Prop) : Pt → Array Value → Addr → Pt → Prop := fun A a q B =>
  ∃ (g : JFrame) (mk : MethodId) (t : State) (L : List Loc) (E : String) (ce : Cell), B.U.heap = t.heap ∧ B.U.vm = t.vm ∧ XC E (A.U.calling g mk a) t ∧ t.heap[q]? = some ce ∧ ce.vm = .none ∧ A.U.vm.findClass E = some ce.cls ∧ B.locs = A.locs ++ L ∧ (∀ z ∈ L, free z.base) ∧ B.cells = A.cells + mc ∧ B.slots = A.slots + ms
def vx_Back (l : Launch) (R : Room) (p : Program) (e : Env) (below : List Frame) (s : State) (sargs : Array Value) (y : MethodName) (len W9 : Nat)
    (Pre : Pt → Array Value → Prop) (Post : Pt → Array Value → Option Value → Pt → Prop) (PostX : Pt → Array Value → Addr → Pt → Prop) : Prop :=
  ∀ (m : MethodId) (meth : Method) (c : Code) (A : Pt) (g : JFrame) (ig : Instr) (mk : MethodId) (a : Array Value),
    Stand p l e R s m sargs below meth c A.U A.locs A.cells A.slots → g.method = m → g.locals.size = c.maxLocals → decode c.code g.pc = .ok (ig, len) →
    2 * g.monitorRoom + (g.stack.map fun v => v.category).sum ≤ W9 → A.U.methodNamed? y = some mk → Pre A a →
    (∃ (v : Option Value) (B : Pt), Stand p l e R s m sargs below meth c B.U B.locs B.cells B.slots ∧ Post A a v B ∧
      Steps p.tables e below (doInvoke e (A.U.setTop g) [] mk a).1 (B.U.setTop { g with pc := g.pc + len, stack := v.toList ++ g.stack })) ∨
    (∃ (q : Addr) (B : Pt), Stand p l e R s m sargs below meth c B.U B.locs B.cells B.slots ∧ PostX A a q B ∧
      Steps p.tables e below (doInvoke e (A.U.setTop g) [] mk a).1 ((B.U.setTop g).pushFrame (.throwing q)))
section Payer
variable {l : Launch} {R : Room} {p : Program} {e : Env} {below : List Frame} {s : State} {sargs : Array Value} {y : MethodName} {len W9 : Nat}
theorem vx_back {ws : List Cond} {rm : Room} {Pc : Array Value → State → Prop} {Qc : Array Value → State → Outcome → State → Prop} {XC : String → State → State → Prop} {mc ms : Nat} {free : Addr → Prop} {bytes : ByteArray} {maxL : Nat} {ret : Option FieldType}
    (hM : vx_Met l y ws rm Pc Qc XC mc ms free) (hblind : FrameBlind Pc) (hrc : rm.cells = mc) (hrs : rm.slots = ms)
    (hframes : rm.frames + 1 ≤ R.frames) (hlocals : W9 + (maxL + 11) + rm.locals ≤ R.locals)
    (hws : ∀ w ∈ ws, ∀ a' U, s.WarmedH U.vm → w.before a' U = true) (hcode : Cond.code y bytes maxL ret ∈ ws) (hinit : ∀ a' U, s.WarmedH U.vm → (Cond.initialized y.cls).before a' U = true) :
    vx_Back l R p e below s sargs y len W9 (PreOf R mc ms Pc) (PostOf Qc mc ms free) (vx_Post XC mc ms free) := by
  intro m meth c A g ig mk a X hg hsize hdg hW hn hp
  have h1 : (headSpec ws rm).pre.before a A.U = true := atoms_intro fun w hw => hws w hw _ _ X.warmed
  have h2 : (Cond.code y bytes maxL ret).before a A.U = true := hws _ hcode _ _ X.warmed
  have h3 : (Cond.initialized y.cls).before a A.U = true := hinit _ _ X.warmed
  have h4 : A.cells + (headSpec ws rm).room.cells ≤ R.cells := by rw [show (headSpec ws rm).room.cells = mc from hrc]; exact hp.1
  have h5 : A.slots + (headSpec ws rm).room.slots ≤ R.slots := by rw [show (headSpec ws rm).room.slots = ms from hrs]; exact hp.2.1
  have hPc : Pc a (A.U.calling g mk a) := hblind _ _ _ _ hp.2.2
  obtain ⟨U, Ls, c0, s0⟩ := A
  dsimp only [Pt.U, Pt.locs, Pt.cells, Pt.slots] at h1 h2 h3 h4 h5 X hn hPc ⊢
  obtain ⟨methY, cY, hmY, hcY, -, hlY, -, -, -, -⟩ := Cond.code_spec hn h2
  obtain ⟨kY, hkY, -⟩ := className_of_methodNamed hn
  have hinitY : kY.init = .initialized := Cond.initialized_spec (findClass_of_methodNamed hn) hkY h3
  have h : At U g.method c below := by rw [hg]; exact X.here
  have hlocals9 : W9 + (maxL + 11) + (headSpec ws rm).room.locals ≤ R.locals := hlocals
  have happ : (headSpec ws rm).appliesLoose y e.platform (U.calling g mk a) = true :=
    Spec.appliesLoose_calling (g := g) h hdg hn hkY hinitY
      (X.room_calling (g := g) (R' := (headSpec ws rm).room) hsize hmY hcY hframes (by rw [hlY]; omega) h4 h5) h1
  obtain ⟨mid, hmid⟩ := h.above
  have hfr : (U.setTop g).frames = (.java g :: mid) ++ below := by rw [State.frames_setTop' g h.top, hmid]; rfl
  obtain ⟨o, s₂, hsteps, -, hend, hq⟩ := Steps.callFree hM p X.admits X.cas X.clock (acts := []) hfr happ hPc trivial
  have hq' : vx_Q Qc XC mc ms free a (U.calling g mk a) o s₂ := hq
  rw [State.frames_setTop' g h.top] at hend
  obtain ⟨g₀, hg0⟩ := Option.isSome_iff_exists.mp h.top
  obtain ⟨r, hr⟩ := State.topJava?_eq_some.mp hg0
  have hr' : (({ U with heap := s₂.heap, slotsUsed := s₂.slotsUsed } : State).setVm s₂.vm).frames = .java g₀ :: r := hr
  rcases hq' with ⟨hqc, L, hfe, hL⟩ | ⟨q, rfl, E, ce, L, hx, hce, hcv, hcl, hW₂, hsm, hL⟩
  · obtain ⟨⟨v, rfl⟩, hW₂, e2, q2, q3, q4, q5, q6⟩ := id hfe
    have e3 : s₂ = ({ (U.calling g mk a).setFrames s₂.frames with heap := s₂.heap, slotsUsed := s₂.slotsUsed } : State).setVm s₂.vm := by
      have : s₂ = ({ s₂ with vm := (U.calling g mk a).vm } : State).setVm s₂.vm := rfl
      rw [e2] at this
      exact this
    obtain ⟨c₂, i₂, len₂, hc₂, hd₂, hf₂⟩ := hend
    have hW' : U.WarmedH s₂.vm := hW₂
    have hcc : c₂ = c := by
      have h1 : s₂.code? g.method = U.code? g.method := by
        rw [State.code?_eq, State.code?_eq, hW'.alike.method?]
      exact Option.some.inj (hc₂.symm.trans (h1.trans h.code))
    subst hcc
    have hlen : len₂ = len := by rw [hdg] at hd₂; cases hd₂; rfl
    subst hlen
    have hs₂ : s₂ = (({ U with heap := s₂.heap, slotsUsed := s₂.slotsUsed } : State).setVm s₂.vm).setTop { g with pc := g.pc + len₂, stack := v.toList ++ g.stack } := by
      refine e3.trans ?_
      rw [hf₂, State.calling_eq h.top, State.setFrames_setFrames, State.setTop_of_frames _ hr', hr]
      rfl
    have hsame : U.sameButNew ({ U with heap := s₂.heap, slotsUsed := s₂.slotsUsed } : State) L mc ms := by
      refine ⟨?_, q2, q3, q4, q5, q6⟩
      obtain ⟨t, ht, -⟩ := State.frames_cons hr
      show ({ U with heap := s₂.heap, slotsUsed := s₂.slotsUsed } : State) = { U.setFrames U.frames with heap := s₂.heap, slotsUsed := s₂.slotsUsed }
      rw [State.setFrames_self ht]
    subst hg
    refine Or.inl ⟨v, ⟨(({ U with heap := s₂.heap, slotsUsed := s₂.slotsUsed } : State).setVm s₂.vm), Ls ++ L, c0 + mc, s0 + ms⟩,
      ⟨X.admits, X.cas, X.clock, X.frames, X.room, X.hears, X.method, X.code, (X.here.setHeapUsed s₂.heap s₂.slotsUsed).setVm hW'.alike, X.tail, State.WarmedH.trans X.warmed hW', X.limits, X.bytes, X.same.trans (hsame.setVm s.vm)⟩,
      ⟨g, mk, s₂, L, rfl, rfl, hqc, rfl, hL, rfl, rfl⟩, ?_⟩
    show Steps p.tables e below _ ((({ U with heap := s₂.heap, slotsUsed := s₂.slotsUsed } : State).setVm s₂.vm).setTop { g with pc := g.pc + len₂, stack := v.toList ++ g.stack })
    rw [← hs₂]
    exact hsteps
  · obtain ⟨e2, q2, q3, q4, q5, q6⟩ := id hsm
    have e3 : s₂ = ({ (U.calling g mk a).setFrames s₂.frames with heap := s₂.heap, slotsUsed := s₂.slotsUsed } : State).setVm s₂.vm := by
      have : s₂ = ({ s₂ with vm := (U.calling g mk a).vm } : State).setVm s₂.vm := rfl
      rw [e2] at this
      exact this
    have hf₂ : s₂.frames = .throwing q :: .java g :: U.frames.tail := hend
    have hW' : U.WarmedH s₂.vm := hW₂
    have hs₂ : s₂ = ((({ U with heap := s₂.heap, slotsUsed := s₂.slotsUsed } : State).setVm s₂.vm).setTop g).pushFrame (.throwing q) := by
      refine e3.trans ?_
      rw [hf₂, State.calling_eq h.top, State.setFrames_setFrames, State.pushFrame, State.frames_setTop _ hr', State.setTop_of_frames _ hr', State.setFrames_setFrames, hr]
      rfl
    have hsame : U.sameButNew ({ U with heap := s₂.heap, slotsUsed := s₂.slotsUsed } : State) L mc ms := by
      refine ⟨?_, q2, q3, q4, q5, q6⟩
      obtain ⟨t, ht, -⟩ := State.frames_cons hr
      show ({ U with heap := s₂.heap, slotsUsed := s₂.slotsUsed } : State) = { U.setFrames U.frames with heap := s₂.heap, slotsUsed := s₂.slotsUsed }
      rw [State.setFrames_self ht]
    subst hg
    refine Or.inr ⟨q, ⟨(({ U with heap := s₂.heap, slotsUsed := s₂.slotsUsed } : State).setVm s₂.vm), Ls ++ L, c0 + mc, s0 + ms⟩,
      ⟨X.admits, X.cas, X.clock, X.frames, X.room, X.hears, X.method, X.code, (X.here.setHeapUsed s₂.heap s₂.slotsUsed).setVm hW'.alike, X.tail, State.WarmedH.trans X.warmed hW', X.limits, X.bytes, X.same.trans (hsame.setVm s.vm)⟩,
      ⟨g, mk, s₂, L, E, ce, rfl, rfl, hx, hce, hcv, hcl, rfl, hL, rfl, rfl⟩, ?_⟩
    show Steps p.tables e below _ (((({ U with heap := s₂.heap, slotsUsed := s₂.slotsUsed } : State).setVm s₂.vm).setTop g).pushFrame (.throwing q))
    rw [← hs₂]
    exact hsteps
end Payer
section Calls
variable {p : Program} {l : Launch} {e : Env} {R : Room} {s : State} {m : MethodId} {args : Array Value} {below : List Frame} {meth : Method} {c : Code} {T : State} {locs : List Loc} {cells slots : Nat}
theorem vx_callV (X : Stand p l e R s m args below meth c T locs cells slots) (hexec : p.tables.exec = Jvm.exec) {own C : String} {index : Nat} {y : MethodName} {bytes : ByteArray} {maxL : Nat} {ret : Option FieldType}
    (hown : s.vm.findClass own = some m.cls) (hlink : (Cond.methodLink own index y).before args s = true) (hinst : (Cond.instanceMethod y).before args s = true) (hsel : (Cond.selects C y y).before args s = true)
    (hcode : (Cond.code y bytes maxL ret).before args s = true) (hy : y.cls ≠ "java/lang/invoke/MethodHandle" ∧ y.cls ≠ "java/lang/invoke/VarHandle")
    {W9 : Nat} {Pre : Pt → Array Value → Prop} {Post : Pt → Array Value → Option Value → Pt → Prop} {PostX : Pt → Array Value → Addr → Pt → Prop} (hK : vx_Back l R p e below s args y 3 W9 Pre Post PostX)
    {b : Addr} {cellB : Cell} (hcell : T.heap[b]? = some cellB) (hobj : cellB.vm.isStatics = false) (hcls : s.vm.findClass C = some cellB.cls)
    {g : JFrame} (hg : g.method = m) (hsize : g.locals.size = c.maxLocals) {argsL rest : List Value} (hlen : ∀ sig, parseMethodDescriptor y.desc = some sig → argsL.length = sig.parameters.length)
    (hstack : g.stack = argsL.reverse ++ .ref b :: rest) (hW : 2 * g.monitorRoom + (rest.map fun v => v.category).sum ≤ W9) (hdg : decode c.code g.pc = .ok (.invokevirtual index, 3))
    (hpre : ∀ vm₁, s.WarmedH vm₁ → Pre ⟨T.setVm vm₁, locs, cells, slots⟩ (Value.ref b :: argsL).toArray) :
    (∃ (v : Option Value) (vm₁ : Vm) (B : Pt), s.WarmedH vm₁ ∧ Stand p l e R s m args below meth c B.U B.locs B.cells B.slots ∧ Post ⟨T.setVm vm₁, locs, cells, slots⟩ (Value.ref b :: argsL).toArray v B ∧
      ∀ target, Steps p.tables e below (B.U.setTop { g with pc := g.pc + 3, stack := v.toList ++ rest }) target → Steps p.tables e below (T.setTop g) target) ∨
    (∃ (q : Addr) (vm₁ : Vm) (B : Pt), s.WarmedH vm₁ ∧ Stand p l e R s m args below meth c B.U B.locs B.cells B.slots ∧ PostX ⟨T.setVm vm₁, locs, cells, slots⟩ (Value.ref b :: argsL).toArray q B ∧
      Steps p.tables e below (T.setTop g) ((B.U.setTop { g with stack := rest }).pushFrame (.throwing q))) := by
  obtain ⟨mk, methM, hnamed, hmethM, hstM, habM⟩ := Cond.instanceMethod_spec hinst
  obtain ⟨methM', cM, hmethM', -, -, -, -, -, -, hsigM⟩ := Cond.code_spec hnamed hcode
  cases hmethM.symm.trans hmethM'
  obtain ⟨c2, r2, m2, q1, q2, q3, q4, kP, hkP, hkPi⟩ := Cond.selects_spec hsel
  cases hcls.symm.trans q1
  cases (State.methodFound?_of_named hnamed hy).symm.trans q2
  cases hnamed.symm.trans q3
  have hselP : selectMethod e.platform s.vm cellB.cls mk = .method mk := by rw [Launch.admits_selectMethod X.admits]; exact q4
  obtain ⟨vm₁, X₁, hstep₁⟩ := X.invokevirtual hexec hown hlink hnamed hmethM hstM hkP hkPi hy (a := b) (cell := cellB) hcell
    (fun z h => by rw [h] at hobj; cases hobj) hselP hmethM habM hkP hkPi (g := g) hg (argsL := argsL) (rest := rest) (hlen _ hsigM) hstack hdg
  rcases hK m meth c ⟨T.setVm vm₁, locs, cells, slots⟩ { g with stack := rest } (.invokevirtual index) mk (Value.ref b :: argsL).toArray X₁ hg hsize hdg hW (X₁.named hnamed) (hpre vm₁ X₁.warmed) with ⟨v, B, X', hpost, hsteps⟩ | ⟨q, B, X', hpost, hsteps⟩
  · exact Or.inl ⟨v, vm₁, B, X₁.warmed, X', hpost, fun target h => hstep₁ _ fun acts => by rw [doInvoke_state]; exact hsteps.trans h⟩
  · exact Or.inr ⟨q, vm₁, B, X₁.warmed, X', hpost, hstep₁ _ fun acts => by rw [doInvoke_state]; exact hsteps⟩
theorem vx_callS (X : Stand p l e R s m args below meth c T locs cells slots) (hexec : p.tables.exec = Jvm.exec) {own : String} {index : Nat} {y : MethodName} {bytes : ByteArray} {maxL : Nat} {ret : Option FieldType}
    (hown : s.vm.findClass own = some m.cls) (hlink : (Cond.methodLink own index y).before args s = true) (hstat : (Cond.static y).before args s = true) (hinit : (Cond.initialized y.cls).before args s = true)
    (hcode : (Cond.code y bytes maxL ret).before args s = true) (hy : y.cls ≠ "java/lang/invoke/MethodHandle" ∧ y.cls ≠ "java/lang/invoke/VarHandle")
    {W9 : Nat} {Pre : Pt → Array Value → Prop} {Post : Pt → Array Value → Option Value → Pt → Prop} {PostX : Pt → Array Value → Addr → Pt → Prop} (hK : vx_Back l R p e below s args y 3 W9 Pre Post PostX)
    {g : JFrame} (hg : g.method = m) (hsize : g.locals.size = c.maxLocals) {argsL rest : List Value} (hlen : ∀ sig, parseMethodDescriptor y.desc = some sig → argsL.length = sig.parameters.length)
    (hstack : g.stack = argsL.reverse ++ rest) (hW : 2 * g.monitorRoom + (rest.map fun v => v.category).sum ≤ W9) (hdg : decode c.code g.pc = .ok (.invokestatic index, 3))
    (hpre : ∀ vm₁, s.WarmedH vm₁ → Pre ⟨T.setVm vm₁, locs, cells, slots⟩ argsL.toArray) :
    (∃ (v : Option Value) (vm₁ : Vm) (B : Pt), s.WarmedH vm₁ ∧ Stand p l e R s m args below meth c B.U B.locs B.cells B.slots ∧ Post ⟨T.setVm vm₁, locs, cells, slots⟩ argsL.toArray v B ∧
      ∀ target, Steps p.tables e below (B.U.setTop { g with pc := g.pc + 3, stack := v.toList ++ rest }) target → Steps p.tables e below (T.setTop g) target) ∨
    (∃ (q : Addr) (vm₁ : Vm) (B : Pt), s.WarmedH vm₁ ∧ Stand p l e R s m args below meth c B.U B.locs B.cells B.slots ∧ PostX ⟨T.setVm vm₁, locs, cells, slots⟩ argsL.toArray q B ∧
      Steps p.tables e below (T.setTop g) ((B.U.setTop { g with stack := rest }).pushFrame (.throwing q))) := by
  obtain ⟨mk, hnamed⟩ := Cond.code_named hcode
  obtain ⟨methM, cM, hmethM, -, -, -, -, -, -, hsigM⟩ := Cond.code_spec hnamed hcode
  have hstatic : methM.isStatic = true := Cond.static_spec hnamed hmethM hstat
  obtain ⟨kP, hkP, -⟩ := className_of_methodNamed hnamed
  have hinitP : kP.init = .initialized := Cond.initialized_spec (findClass_of_methodNamed hnamed) hkP hinit
  obtain ⟨vm₁, X₁, hstep₁⟩ := X.invokestatic hexec hown hlink hnamed hmethM hstatic hkP hinitP hy (g := g) hg (argsL := argsL) (rest := rest) (hlen _ hsigM) hstack hdg
  rcases hK m meth c ⟨T.setVm vm₁, locs, cells, slots⟩ { g with stack := rest } (.invokestatic index) mk argsL.toArray X₁ hg hsize hdg hW (X₁.named hnamed) (hpre vm₁ X₁.warmed) with ⟨v, B, X', hpost, hsteps⟩ | ⟨q, B, X', hpost, hsteps⟩
  · exact Or.inl ⟨v, vm₁, B, X₁.warmed, X', hpost, fun target h => hstep₁ _ fun acts => by rw [doInvoke_state]; exact hsteps.trans h⟩
  · exact Or.inr ⟨q, vm₁, B, X₁.warmed, X', hpost, hstep₁ _ fun acts => by rw [doInvoke_state]; exact hsteps⟩
end Calls
theorem vx_cls {s : State} {T : State} {vm₁ : Vm} {E : String} {k : ClassId} (hW : s.WarmedH vm₁) (h : (T.setVm vm₁).vm.findClass E = some k) : s.vm.findClass E = some k := by
  have h1 : vm₁.findClass E = some k := h
  rw [hW.alike.findClass] at h1
  exact h1
/-- the method's frame g, with q thrown over it -/
def vx_W (p : Program) (l : Launch) (e : Env) (R : Room) (s : State) (m : MethodId) (args : Array Value) (below : List Frame) (meth : Method) (c : Code) (H : Heap) (locs : List Loc) (cells slots : Nat) (Q : State → Prop) (g : JFrame) (q : Addr) : Prop :=
  ∀ T : State, T.heap = H → Stand p l e R s m args below meth c T locs cells slots → ∃ t, Steps p.tables e below ((T.setTop g).pushFrame (.throwing q)) t ∧ Q t
def vx_Run (p : Program) (l : Launch) (e : Env) (R : Room) (s : State) (m : MethodId) (args : Array Value) (below : List Frame) (meth : Method) (c : Code) (H : Heap) (locs : List Loc) (cells slots mc ms : Nat) (g : JFrame) (rest : List Value) (Qa : State → Outcome → State → Prop) (XC : String → State → State → Prop) (free : Addr → Prop) : Prop :=
  ∀ T : State, T.heap = H → Stand p l e R s m args below meth c T locs cells slots →
    (∃ (v : Option Value) (st₀ t T' : State) (L : List Loc), st₀.heap = H ∧ Stand p l e R s m args below meth c T' (locs ++ L) (cells + mc) (slots + ms) ∧ (∀ q ∈ L, free q.base) ∧ T'.heap = t.heap ∧ T'.vm = t.vm ∧ Qa st₀ (.returned v) t ∧
      Goes p e below T g T' { g with pc := g.pc + 3, stack := v.toList ++ rest }) ∨
    (∃ (q : Addr) (st₀ t T' : State) (L : List Loc) (E : String) (ce : Cell), st₀.heap = H ∧ Stand p l e R s m args below meth c T' (locs ++ L) (cells + mc) (slots + ms) ∧ (∀ z ∈ L, free z.base) ∧ T'.heap = t.heap ∧ T'.vm = t.vm ∧ XC E st₀ t ∧ t.heap[q]? = some ce ∧ ce.vm = .none ∧ s.vm.findClass E = some ce.cls ∧
      Steps p.tables e below (T.setTop g) ((T'.setTop { g with stack := rest }).pushFrame (.throwing q)))
def vx_X {S : Type} (px : S → Prop) (B : String → S → State → Prop) (A : Nat → Prop) : String → State → State → Prop := fun E st t => ∃ u : S, px u ∧ B E u t ∧ va_F A st t
section Runs
variable {p : Program} {l : Launch} {e : Env} {R : Room} {s : State} {m : MethodId} {args : Array Value} {below : List Frame} {meth : Method} {c : Code} {H : Heap} {locs : List Loc} {cells slots : Nat}
variable {y : MethodName} {bytes cc : ByteArray} {maxL nL mc ms n index : Nat} {ret : Option FieldType} {ws : List Cond} {rm : Room} {Pc : Array Value → State → Prop} {Qc : Array Value → State → Outcome → State → Prop} {XC : String → State → State → Prop} {free : Addr → Prop} {Ts : List Cond} {own C : String} {b : Addr} {As rest : List Value} {g : JFrame}
theorem vx_callBack (cb : CallB R s args own index y bytes maxL ret ws rm mc ms n) (hM : vx_Met l y ws rm Pc Qc XC mc ms free) (hbl : FrameBlind Pc) : vx_Back l R p e below s args y 3 8 (PreOf R mc ms Pc) (PostOf Qc mc ms free) (vx_Post XC mc ms free) := by
  obtain ⟨hrc, hrs, hfr, hlo, hws, hcw, -, hini, -⟩ := cb
  exact vx_back (bytes := bytes) (maxL := maxL) (ret := ret) hM hbl hrc hrs hfr hlo hws hcw (fun a' U hW => word_at hW (Or.inl (by first | rfl | simp [Cond.onTables, Cond.keeps, Cond.steady])) hini)
theorem vx_runV (S : CallFix p m c cc nL s args Ts own) (hM : vx_Met l y ws rm Pc Qc XC mc ms free) (cw : CallW R s args own C index y bytes maxL ret ws rm mc ms n) (hp : PreV s H C b Pc As)
    (hg : g.method = m) (hn : As.length = n) (hsize : g.locals.size = nL) (hstack : g.stack = As.reverse ++ .ref b :: rest) (hW : 2 * g.monitorRoom + (rest.map fun v => v.category).sum ≤ 8) (hdg : decode cc g.pc = .ok (.invokevirtual index, 3)) (hf : cells + mc ≤ R.cells ∧ slots + ms ≤ R.slots) :
    vx_Run p l e R s m args below meth c H locs cells slots mc ms g rest (Qc (Value.ref b :: As).toArray) XC free := by
  have hK : vx_Back l R p e below s args y 3 8 (PreOf R mc ms Pc) (PostOf Qc mc ms free) (vx_Post XC mc ms free) := vx_callBack cw.1 hM hp.1
  obtain ⟨⟨-, -, -, -, -, -, hcode, -, hy, hlen, hl⟩, hin, hse⟩ := cw
  obtain ⟨hx, hb, hml, ho, -⟩ := S
  obtain ⟨-, ⟨cellB, hcB, hoB, hclB⟩, hPc⟩ := hp
  intro T hT X
  rcases vx_callV X hx (C := C) (bytes := bytes) (maxL := maxL) (ret := ret) ho hl hin hse hcode hy hK (by rw [hT]; exact hcB) hoB hclB hg (hsize.trans hml.symm) (argsL := As) (rest := rest) (fun sig h => hn.trans (hlen sig h)) hstack hW (by rw [hb]; exact hdg)
    (fun vm₁ hW₁ => ⟨hf.1, hf.2, hPc (T.setVm vm₁) hT hW₁⟩) with ⟨v, vm₁, ⟨U', l2, c2, s2⟩, hW₁, X', ⟨g', mk, t, L, e1, e2, hq, h1, hL, h2, h3⟩, st⟩ | ⟨q, vm₁, ⟨U', l2, c2, s2⟩, hW₁, X', ⟨g', mk, t, L, E, ce, e1, e2, hq, hce, hcv, hcl, h1, hL, h2, h3⟩, st⟩
  · dsimp only [Pt.U, Pt.locs, Pt.cells, Pt.slots] at X' e1 e2 h1 h2 h3 st
    subst h1; subst h2; subst h3
    exact Or.inl ⟨v, (T.setVm vm₁).calling g' mk (Value.ref b :: As).toArray, t, U', L, hT, X', hL, e1, e2, hq, st⟩
  · dsimp only [Pt.U, Pt.locs, Pt.cells, Pt.slots] at X' e1 e2 h1 h2 h3 st hcl
    subst h1; subst h2; subst h3
    exact Or.inr ⟨q, (T.setVm vm₁).calling g' mk (Value.ref b :: As).toArray, t, U', L, E, ce, hT, X', hL, e1, e2, hq, hce, hcv, vx_cls hW₁ hcl, st⟩
theorem vx_runS (S : CallFix p m c cc nL s args Ts own) (hM : vx_Met l y ws rm Pc Qc XC mc ms free) (cw : CallB R s args own index y bytes maxL ret ws rm mc ms n ∧ (Cond.static y).before args s = true) (hp : PreS s H Pc As)
    (hg : g.method = m) (hn : As.length = n) (hsize : g.locals.size = nL) (hstack : g.stack = As.reverse ++ rest) (hW : 2 * g.monitorRoom + (rest.map fun v => v.category).sum ≤ 8) (hdg : decode cc g.pc = .ok (.invokestatic index, 3)) (hf : cells + mc ≤ R.cells ∧ slots + ms ≤ R.slots) :
    vx_Run p l e R s m args below meth c H locs cells slots mc ms g rest (Qc As.toArray) XC free := by
  have hK : vx_Back l R p e below s args y 3 8 (PreOf R mc ms Pc) (PostOf Qc mc ms free) (vx_Post XC mc ms free) := vx_callBack cw.1 hM hp.1
  obtain ⟨⟨-, -, -, -, -, -, hcode, hini, hy, hlen, hl⟩, hstt⟩ := cw
  obtain ⟨hx, hb, hml, ho, -⟩ := S
  intro T hT X
  rcases vx_callS X hx (bytes := bytes) (maxL := maxL) (ret := ret) ho hl hstt hini hcode hy hK hg (hsize.trans hml.symm) (argsL := As) (rest := rest) (fun sig h => hn.trans (hlen sig h)) hstack hW (by rw [hb]; exact hdg)
    (fun vm₁ hW₁ => ⟨hf.1, hf.2, hp.2 (T.setVm vm₁) hT hW₁⟩) with ⟨v, vm₁, ⟨U', l2, c2, s2⟩, hW₁, X', ⟨g', mk, t, L, e1, e2, hq, h1, hL, h2, h3⟩, st⟩ | ⟨q, vm₁, ⟨U', l2, c2, s2⟩, hW₁, X', ⟨g', mk, t, L, E, ce, e1, e2, hq, hce, hcv, hcl, h1, hL, h2, h3⟩, st⟩
  · dsimp only [Pt.U, Pt.locs, Pt.cells, Pt.slots] at X' e1 e2 h1 h2 h3 st
    subst h1; subst h2; subst h3
    exact Or.inl ⟨v, (T.setVm vm₁).calling g' mk As.toArray, t, U', L, hT, X', hL, e1, e2, hq, st⟩
  · dsimp only [Pt.U, Pt.locs, Pt.cells, Pt.slots] at X' e1 e2 h1 h2 h3 st hcl
    subst h1; subst h2; subst h3
    exact Or.inr ⟨q, (T.setVm vm₁).calling g' mk As.toArray, t, U', L, E, ce, hT, X', hL, e1, e2, hq, hce, hcv, vx_cls hW₁ hcl, st⟩
end Runs
section Rows
variable {p : Program} {l : Launch} {e : Env} {R : Room} {s : State} {m : MethodId} {args : Array Value} {below : List Frame} {meth : Method} {c : Code} {H : Heap} {locs : List Loc} {cells slots : Nat} {Q : State → Prop}
variable {mc ms : Nat} {free : Addr → Prop} {A0 A1 : Nat → Prop} {H0 : Heap} {a : Array Value} {pc : Nat} {ls : Array Slot} {st0 rest : List Value}
theorem vx_keep {st₀ t T' : State} {L : List Loc} (h0 : st₀.heap = H) (e1 : T'.heap = t.heap) (hS : va_S A0 H0 H locs) (hA : ∀ q, q < H.size → A1 q → A0 q) (hf : ∀ q, free q → A0 q) (hL : ∀ q ∈ L, free q.base) (hF : va_F A1 st₀ t) :
    H.size ≤ T'.heap.size ∧ (∀ q : Nat, q < H.size → ¬ A1 q → T'.heap[q]? = H[q]?) ∧ va_S A0 H0 T'.heap (locs ++ L) := by
  obtain ⟨hz, hk⟩ := hF
  rw [h0] at hz hk
  exact ⟨by rw [e1]; exact hz, fun q h1 h2 => by rw [e1]; exact hk q h1 h2,
    ⟨Nat.le_trans hS.1 (by rw [e1]; exact hz), fun q h1 h2 => by rw [e1, hk q (Nat.lt_of_lt_of_le h1 hS.1) (fun z => h2 (hA q (Nat.lt_of_lt_of_le h1 hS.1) z))]; exact hS.2.1 q h1 h2, fun q hq => by
      rcases List.mem_append.mp hq with h | h
      · exact hS.2.2 q h
      · exact hf _ (hL q h)⟩⟩
theorem vx_calli {S SX : Type} {post : Int32 → S → Prop} {px : SX → Prop} {B : S → State → Prop} {BX : String → SX → State → Prop} {AX : Nat → Prop} (hr : vx_Run p l e R s m args below meth c H locs cells slots mc ms (F0 m pc ls st0) rest (va_Qi post B A1 a) (vx_X px BX AX) free) (hS : va_S A0 H0 H locs) (hA : ∀ q, q < H.size → A1 q → A0 q) (hf : ∀ q, free q → A0 q) (hAX : ∀ q, q < H.size → AX q → A0 q)
    (kx : ∀ (E : String) (ce : Cell) (q9 : Addr) (u : SX) (t : State) (H1 : Heap) (locs1 : List Loc), t.heap = H1 → s.vm.Alike t.vm → px u → BX E u t → H.size ≤ H1.size → (∀ q : Nat, q < H.size → ¬ AX q → H1[q]? = H[q]?) → va_S A0 H0 H1 locs1 → H1[q9]? = some ce → ce.vm = .none → s.vm.findClass E = some ce.cls → vx_W p l e R s m args below meth c H1 locs1 (cells + mc) (slots + ms) Q (F0 m pc ls rest) q9)
    (kk : ∀ (r : Int32) (u : S) (t : State) (H1 : Heap) (locs1 : List Loc), t.heap = H1 → s.vm.Alike t.vm → post r u → B u t → H.size ≤ H1.size → (∀ q : Nat, q < H.size → ¬ A1 q → H1[q]? = H[q]?) → va_S A0 H0 H1 locs1 → W p l e R s m args below meth c H1 locs1 (cells + mc) (slots + ms) Q (F0 m (pc + 3) ls (.int r :: rest))) : W p l e R s m args below meth c H locs cells slots Q (F0 m pc ls st0) := by
  intro T hT X
  rcases hr T hT X with ⟨v, st₀, t, T', L, h0, X', hL, e1, e2, ⟨⟨r, u, hv, hp, hb⟩, hF⟩, st⟩ | ⟨q, st₀, t, T', L, E, ce, h0, X', hL, e1, e2, ⟨u, hp, hb, hF⟩, hce, hcv, hcl, st⟩
  · cases hv
    obtain ⟨k1, k2, k3⟩ := vx_keep h0 e1 hS hA hf hL hF
    obtain ⟨t2, a1, b1⟩ := kk r u t T'.heap (locs ++ L) e1.symm (by rw [← e2]; exact X'.warmed.alike) hp hb k1 k2 k3 T' rfl X'
    exact ⟨t2, st t2 a1, b1⟩
  · obtain ⟨k1, k2, k3⟩ := vx_keep h0 e1 hS hAX hf hL hF
    obtain ⟨t2, a1, b1⟩ := kx E ce q u t T'.heap (locs ++ L) e1.symm (by rw [← e2]; exact X'.warmed.alike) hp hb k1 k2 k3 (by rw [e1]; exact hce) hcv hcl T' rfl X'
    exact ⟨t2, st.trans a1, b1⟩
theorem vx_calll {S SX : Type} {post : Int64 → S → Prop} {px : SX → Prop} {B : S → State → Prop} {BX : String → SX → State → Prop} {AX : Nat → Prop} (hr : vx_Run p l e R s m args below meth c H locs cells slots mc ms (F0 m pc ls st0) rest (va_Ql post B A1 a) (vx_X px BX AX) free) (hS : va_S A0 H0 H locs) (hA : ∀ q, q < H.size → A1 q → A0 q) (hf : ∀ q, free q → A0 q) (hAX : ∀ q, q < H.size → AX q → A0 q)
    (kx : ∀ (E : String) (ce : Cell) (q9 : Addr) (u : SX) (t : State) (H1 : Heap) (locs1 : List Loc), t.heap = H1 → s.vm.Alike t.vm → px u → BX E u t → H.size ≤ H1.size → (∀ q : Nat, q < H.size → ¬ AX q → H1[q]? = H[q]?) → va_S A0 H0 H1 locs1 → H1[q9]? = some ce → ce.vm = .none → s.vm.findClass E = some ce.cls → vx_W p l e R s m args below meth c H1 locs1 (cells + mc) (slots + ms) Q (F0 m pc ls rest) q9)
    (kk : ∀ (r : Int64) (u : S) (t : State) (H1 : Heap) (locs1 : List Loc), t.heap = H1 → s.vm.Alike t.vm → post r u → B u t → H.size ≤ H1.size → (∀ q : Nat, q < H.size → ¬ A1 q → H1[q]? = H[q]?) → va_S A0 H0 H1 locs1 → W p l e R s m args below meth c H1 locs1 (cells + mc) (slots + ms) Q (F0 m (pc + 3) ls (.long r :: rest))) : W p l e R s m args below meth c H locs cells slots Q (F0 m pc ls st0) := by
  intro T hT X
  rcases hr T hT X with ⟨v, st₀, t, T', L, h0, X', hL, e1, e2, ⟨⟨r, u, hv, hp, hb⟩, hF⟩, st⟩ | ⟨q, st₀, t, T', L, E, ce, h0, X', hL, e1, e2, ⟨u, hp, hb, hF⟩, hce, hcv, hcl, st⟩
  · cases hv
    obtain ⟨k1, k2, k3⟩ := vx_keep h0 e1 hS hA hf hL hF
    obtain ⟨t2, a1, b1⟩ := kk r u t T'.heap (locs ++ L) e1.symm (by rw [← e2]; exact X'.warmed.alike) hp hb k1 k2 k3 T' rfl X'
    exact ⟨t2, st t2 a1, b1⟩
  · obtain ⟨k1, k2, k3⟩ := vx_keep h0 e1 hS hAX hf hL hF
    obtain ⟨t2, a1, b1⟩ := kx E ce q u t T'.heap (locs ++ L) e1.symm (by rw [← e2]; exact X'.warmed.alike) hp hb k1 k2 k3 (by rw [e1]; exact hce) hcv hcl T' rfl X'
    exact ⟨t2, st.trans a1, b1⟩
theorem vx_callf {S SX : Type} {post : UInt32 → S → Prop} {px : SX → Prop} {B : S → State → Prop} {BX : String → SX → State → Prop} {AX : Nat → Prop} (hr : vx_Run p l e R s m args below meth c H locs cells slots mc ms (F0 m pc ls st0) rest (va_Qf post B A1 a) (vx_X px BX AX) free) (hS : va_S A0 H0 H locs) (hA : ∀ q, q < H.size → A1 q → A0 q) (hf : ∀ q, free q → A0 q) (hAX : ∀ q, q < H.size → AX q → A0 q)
    (kx : ∀ (E : String) (ce : Cell) (q9 : Addr) (u : SX) (t : State) (H1 : Heap) (locs1 : List Loc), t.heap = H1 → s.vm.Alike t.vm → px u → BX E u t → H.size ≤ H1.size → (∀ q : Nat, q < H.size → ¬ AX q → H1[q]? = H[q]?) → va_S A0 H0 H1 locs1 → H1[q9]? = some ce → ce.vm = .none → s.vm.findClass E = some ce.cls → vx_W p l e R s m args below meth c H1 locs1 (cells + mc) (slots + ms) Q (F0 m pc ls rest) q9)
    (kk : ∀ (r : UInt32) (u : S) (t : State) (H1 : Heap) (locs1 : List Loc), t.heap = H1 → s.vm.Alike t.vm → post r u → B u t → H.size ≤ H1.size → (∀ q : Nat, q < H.size → ¬ A1 q → H1[q]? = H[q]?) → va_S A0 H0 H1 locs1 → W p l e R s m args below meth c H1 locs1 (cells + mc) (slots + ms) Q (F0 m (pc + 3) ls (.float r :: rest))) : W p l e R s m args below meth c H locs cells slots Q (F0 m pc ls st0) := by
  intro T hT X
  rcases hr T hT X with ⟨v, st₀, t, T', L, h0, X', hL, e1, e2, ⟨⟨r, u, hv, hp, hb⟩, hF⟩, st⟩ | ⟨q, st₀, t, T', L, E, ce, h0, X', hL, e1, e2, ⟨u, hp, hb, hF⟩, hce, hcv, hcl, st⟩
  · cases hv
    obtain ⟨k1, k2, k3⟩ := vx_keep h0 e1 hS hA hf hL hF
    obtain ⟨t2, a1, b1⟩ := kk r u t T'.heap (locs ++ L) e1.symm (by rw [← e2]; exact X'.warmed.alike) hp hb k1 k2 k3 T' rfl X'
    exact ⟨t2, st t2 a1, b1⟩
  · obtain ⟨k1, k2, k3⟩ := vx_keep h0 e1 hS hAX hf hL hF
    obtain ⟨t2, a1, b1⟩ := kx E ce q u t T'.heap (locs ++ L) e1.symm (by rw [← e2]; exact X'.warmed.alike) hp hb k1 k2 k3 (by rw [e1]; exact hce) hcv hcl T' rfl X'
    exact ⟨t2, st.trans a1, b1⟩
theorem vx_calld {S SX : Type} {post : UInt64 → S → Prop} {px : SX → Prop} {B : S → State → Prop} {BX : String → SX → State → Prop} {AX : Nat → Prop} (hr : vx_Run p l e R s m args below meth c H locs cells slots mc ms (F0 m pc ls st0) rest (va_Qd post B A1 a) (vx_X px BX AX) free) (hS : va_S A0 H0 H locs) (hA : ∀ q, q < H.size → A1 q → A0 q) (hf : ∀ q, free q → A0 q) (hAX : ∀ q, q < H.size → AX q → A0 q)
    (kx : ∀ (E : String) (ce : Cell) (q9 : Addr) (u : SX) (t : State) (H1 : Heap) (locs1 : List Loc), t.heap = H1 → s.vm.Alike t.vm → px u → BX E u t → H.size ≤ H1.size → (∀ q : Nat, q < H.size → ¬ AX q → H1[q]? = H[q]?) → va_S A0 H0 H1 locs1 → H1[q9]? = some ce → ce.vm = .none → s.vm.findClass E = some ce.cls → vx_W p l e R s m args below meth c H1 locs1 (cells + mc) (slots + ms) Q (F0 m pc ls rest) q9)
    (kk : ∀ (r : UInt64) (u : S) (t : State) (H1 : Heap) (locs1 : List Loc), t.heap = H1 → s.vm.Alike t.vm → post r u → B u t → H.size ≤ H1.size → (∀ q : Nat, q < H.size → ¬ A1 q → H1[q]? = H[q]?) → va_S A0 H0 H1 locs1 → W p l e R s m args below meth c H1 locs1 (cells + mc) (slots + ms) Q (F0 m (pc + 3) ls (.double r :: rest))) : W p l e R s m args below meth c H locs cells slots Q (F0 m pc ls st0) := by
  intro T hT X
  rcases hr T hT X with ⟨v, st₀, t, T', L, h0, X', hL, e1, e2, ⟨⟨r, u, hv, hp, hb⟩, hF⟩, st⟩ | ⟨q, st₀, t, T', L, E, ce, h0, X', hL, e1, e2, ⟨u, hp, hb, hF⟩, hce, hcv, hcl, st⟩
  · cases hv
    obtain ⟨k1, k2, k3⟩ := vx_keep h0 e1 hS hA hf hL hF
    obtain ⟨t2, a1, b1⟩ := kk r u t T'.heap (locs ++ L) e1.symm (by rw [← e2]; exact X'.warmed.alike) hp hb k1 k2 k3 T' rfl X'
    exact ⟨t2, st t2 a1, b1⟩
  · obtain ⟨k1, k2, k3⟩ := vx_keep h0 e1 hS hAX hf hL hF
    obtain ⟨t2, a1, b1⟩ := kx E ce q u t T'.heap (locs ++ L) e1.symm (by rw [← e2]; exact X'.warmed.alike) hp hb k1 k2 k3 (by rw [e1]; exact hce) hcv hcl T' rfl X'
    exact ⟨t2, st.trans a1, b1⟩
theorem vx_callv {S SX : Type} {post : S → Prop} {px : SX → Prop} {B : S → State → Prop} {BX : String → SX → State → Prop} {AX : Nat → Prop} (hr : vx_Run p l e R s m args below meth c H locs cells slots mc ms (F0 m pc ls st0) rest (va_Qv post B A1 a) (vx_X px BX AX) free) (hS : va_S A0 H0 H locs) (hA : ∀ q, q < H.size → A1 q → A0 q) (hf : ∀ q, free q → A0 q) (hAX : ∀ q, q < H.size → AX q → A0 q)
    (kx : ∀ (E : String) (ce : Cell) (q9 : Addr) (u : SX) (t : State) (H1 : Heap) (locs1 : List Loc), t.heap = H1 → s.vm.Alike t.vm → px u → BX E u t → H.size ≤ H1.size → (∀ q : Nat, q < H.size → ¬ AX q → H1[q]? = H[q]?) → va_S A0 H0 H1 locs1 → H1[q9]? = some ce → ce.vm = .none → s.vm.findClass E = some ce.cls → vx_W p l e R s m args below meth c H1 locs1 (cells + mc) (slots + ms) Q (F0 m pc ls rest) q9)
    (kk : ∀ (u : S) (t : State) (H1 : Heap) (locs1 : List Loc), t.heap = H1 → s.vm.Alike t.vm → post u → B u t → H.size ≤ H1.size → (∀ q : Nat, q < H.size → ¬ A1 q → H1[q]? = H[q]?) → va_S A0 H0 H1 locs1 → W p l e R s m args below meth c H1 locs1 (cells + mc) (slots + ms) Q (F0 m (pc + 3) ls (rest))) : W p l e R s m args below meth c H locs cells slots Q (F0 m pc ls st0) := by
  intro T hT X
  rcases hr T hT X with ⟨v, st₀, t, T', L, h0, X', hL, e1, e2, ⟨⟨u, hv, hp, hb⟩, hF⟩, st⟩ | ⟨q, st₀, t, T', L, E, ce, h0, X', hL, e1, e2, ⟨u, hp, hb, hF⟩, hce, hcv, hcl, st⟩
  · cases hv
    obtain ⟨k1, k2, k3⟩ := vx_keep h0 e1 hS hA hf hL hF
    obtain ⟨t2, a1, b1⟩ := kk u t T'.heap (locs ++ L) e1.symm (by rw [← e2]; exact X'.warmed.alike) hp hb k1 k2 k3 T' rfl X'
    exact ⟨t2, st t2 a1, b1⟩
  · obtain ⟨k1, k2, k3⟩ := vx_keep h0 e1 hS hAX hf hL hF
    obtain ⟨t2, a1, b1⟩ := kx E ce q u t T'.heap (locs ++ L) e1.symm (by rw [← e2]; exact X'.warmed.alike) hp hb k1 k2 k3 (by rw [e1]; exact hce) hcv hcl T' rfl X'
    exact ⟨t2, st.trans a1, b1⟩
/-- caught by the row x of this method's table; the rows ahead don't take it -/
theorem vx_catch {own name : String} {E : String} {ce : Cell} {q : Addr} (hown : s.vm.findClass own = some m.cls) (pre : List ExceptionTableEntry) (x : ExceptionTableEntry) (suf : List ExceptionTableEntry) (hsplit : c.exceptionTable.toList = pre ++ x :: suf)
    (hpass : ∀ z ∈ pre, covers z pc = false ∨ (z.catchType ≠ 0 ∧ ∃ nm : String, (Cond.classLink own z.catchType nm).before args s = true ∧ va_Nc E nm s)) (hx : covers x pc = true) (h0 : x.catchType ≠ 0)
    (hlink : (Cond.classLink own x.catchType name).before args s = true) (hcast : (Cond.castable E name).before args s = true) (hcell : H[q]? = some ce) (hv : ce.vm = .none) (hcl : s.vm.findClass E = some ce.cls)
    (kk : W p l e R s m args below meth c H locs cells slots Q (F0 m x.handlerPc ls [.ref q])) : vx_W p l e R s m args below meth c H locs cells slots Q (F0 m pc ls rest) q := by
  intro T hT X
  have hpl : e.platform.magicAccessors = ({} : Platform).magicAccessors := by rw [X.admits.platform]
  obtain ⟨c3, c4, hc3, hc4, hasg⟩ := Cond.castable_spec hcast
  cases Option.some.inj (hc3.symm.trans hcl)
  obtain ⟨c5, hc5, hcl5⟩ := Cond.classLink_spec hown hlink e.platform hpl
  cases Option.some.inj (hc4.symm.trans hc5)
  obtain ⟨vm', X', st⟩ := X.thenCaughtThrough q (g := F0 m pc ls rest) rfl (Steps.refl _) (by rw [hT]; exact hcell) (by rw [hv]; rfl) (by obtain ⟨k9, h9, -⟩ := Vm.findClass_spec hcl; exact ⟨k9, h9⟩) pre x suf hsplit
    (fun z hz => by
      rcases hpass z hz with h | ⟨hz0, nm, hl1, hn1⟩
      · exact Or.inl h
      · obtain ⟨c6, hc6, hcl6⟩ := Cond.classLink_spec hown hl1 e.platform hpl
        obtain ⟨a8, b8, h1, h2, h3⟩ := hn1
        cases Option.some.inj (h1.symm.trans hcl)
        cases Option.some.inj (h2.symm.trans hc6)
        exact Or.inr ⟨hz0, _, hcl6, h3⟩) hx (Or.inr ⟨h0, c4, hcl5, hasg⟩)
  obtain ⟨t, a1, b1⟩ := kk (T.setVm vm') hT X'
  exact ⟨t, st.trans a1, b1⟩
end Rows
section Ends
variable {p : Program} {l : Launch} {e : Env} {R : Room} {s : State} {m : MethodId} {args : Array Value} {below : List Frame} {meth : Method} {c : Code} {H : Heap} {locs : List Loc} {cells slots : Nat} {Q : State → Prop}
variable {mc ms : Nat} {free : Addr → Prop} {A0 A1 : Nat → Prop} {H0 : Heap} {a : Array Value} {ls : Array Slot} {st0 rest : List Value}
variable {Qc : Array Value → State → Outcome → State → Prop} {XC : String → State → State → Prop}
/-- what a body that may throw owes at its end -/
def vx_MQ (below : List Frame) (Qc : Array Value → State → Outcome → State → Prop) (XC : String → State → State → Prop) (a : Array Value) (s : State) (mc ms : Nat) (free : Addr → Prop) : State → Prop := fun t =>
  ∃ o, t.status = .running ∧ Ended t below o ∧ vx_Q Qc XC mc ms free a s o t
theorem vx_ret {g : JFrame} {mc ms : Nat} (k : W p l e R s m args below meth c H locs cells slots (MQ below Qc args s mc ms free) g) : W p l e R s m args below meth c H locs cells slots (vx_MQ below Qc XC args s mc ms free) g := by
  intro T hT X
  obtain ⟨t, a1, o, b1, b2, b3, b4⟩ := k T hT X
  exact ⟨t, a1, o, b1, b2, Or.inl ⟨b3, b4⟩⟩
/-- not caught here: it goes on to the caller -/
theorem vx_widen {g : JFrame} {q : Addr} {k n : Nat} (h1 : cells ≤ k) (h2 : slots ≤ n) (kk : vx_W p l e R s m args below meth c H locs k n Q g q) : vx_W p l e R s m args below meth c H locs cells slots Q g q := fun T hT X => kk T hT (stand_widen X h1 h2)
theorem vx_out {pc : Nat} {E : String} {ce : Cell} {q : Addr} {mc ms : Nat} (hout : ∀ x ∈ c.exceptionTable.toList, covers x pc = false) (hlocks : meth.locks = false) (hcell : H[q]? = some ce) (hv : ce.vm = .none) (hcl : s.vm.findClass E = some ce.cls)
    (hx : ∀ t : State, t.heap = H → s.vm.Alike t.vm → XC E s t) (hf : ∀ z ∈ locs, free z.base) (hc : cells ≤ mc) (hs : slots ≤ ms) :
    vx_W p l e R s m args below meth c H locs cells slots (vx_MQ below Qc XC args s mc ms free) (F0 m pc ls rest) q := by
  intro T hT X
  obtain ⟨st1, hrun, hend, hW, hsm⟩ := X.leaveThrown q (g := F0 m pc ls rest) rfl rfl rfl hout hlocks
  have hcell9 : (T.setFrames (.throwing q :: below)).heap[q]? = some ce := by
    show T.heap[q]? = some ce
    rw [hT]; exact hcell
  exact ⟨_, st1, .threw q, hrun, hend, Or.inr ⟨q, rfl, E, ce, locs, hx _ hT hW.alike, hcell9, hv, hcl, hW, hsm.mono hc hs, hf⟩⟩
theorem vx_frame {U : State} {k n : Nat} (h : s.sameButNew ({ U with vm := s.vm } : State) locs k n) : s.heap.size ≤ U.heap.size ∧ ∀ q : Nat, q < s.heap.size → (∀ z ∈ locs, z.base ≠ q) → U.heap[q]? = s.heap[q]? := by
  obtain ⟨-, h2, -, -, -, h6⟩ := h
  refine ⟨h2, fun q hq hz => ?_⟩
  obtain ⟨c9, e1, e2, e3, e4⟩ := h6 q _ (Array.getElem?_eq_getElem hq)
  have hs : c9.slots = (s.heap[q]).slots := Array.ext_getElem? fun i => e4 i fun hm => hz _ hm rfl
  have h9 : c9 = s.heap[q] := by
    rw [hs] at e2
    exact e2
  have e5 : U.heap[q]? = some c9 := e1
  rw [e5, h9, Array.getElem?_eq_getElem hq]
/-- the words of a throw but the four that speak of the heap -/
def vx_no (w : Cond) : Bool := decide (w ≠ .isRef (.static Bundle.tN "UNASSIGNED_STACK" Bundle.steD)) && decide (w ≠ .isRef (.static Bundle.tN "SUPPRESSED_SENTINEL" Bundle.listD)) && decide (w ≠ .laysStatic Bundle.tN "UNASSIGNED_STACK" Bundle.steD) && decide (w ≠ .laysStatic Bundle.tN "SUPPRESSED_SENTINEL" Bundle.listD)
def vx_at0 (own : String) (ic : Nat) (X : String) (names : List String) : List Cond := (Bundle.ownAtoms0 own ic X names).filter vx_no
def vx_atS (own : String) (ic : Nat) (X : String) (names : List String) : List Cond := (Bundle.ownAtoms own ic X names).filter vx_no
/-- a word that the tables alone decide, or a good one -/
def vx_ot (w : Cond) : Bool := w.onTables || goodWord w
theorem vx_ot_at {args a' : Array Value} {s U : State} {w : Cond} (hW : s.WarmedH U.vm) (hvm : s.vm = U.vm) (hg : vx_ot w = true) (h : w.before args s = true) : w.before a' U = true := by
  simp only [vx_ot, Bool.or_eq_true] at hg
  rcases hg with hg | hg
  · exact va_tabs hg hvm h
  · exact word_at hW (good_of_word hg) h
/-- a list's words: the good ones out of the method's own list, the others by premises of their own -/
theorem vx_hat {args : Array Value} {s : State} {L B : List Cond} (h1 : ∀ w ∈ L.filter goodWord, w.before args s = true) (h2 : ∀ w ∈ L.filter (fun w => !goodWord w), w ∈ B) (h3 : ∀ w ∈ B, w.before args s = true) : ∀ w ∈ L, w.before args s = true := by
  intro w hw
  by_cases g : goodWord w = true
  · exact h1 w (List.mem_filter.mpr ⟨hw, g⟩)
  · refine h3 w (h2 w (List.mem_filter.mpr ⟨hw, ?_⟩))
    show (!goodWord w) = true
    cases hgw : goodWord w
    · rfl
    · exact absurd hgw g
theorem vx_c {args : Array Value} {s : State} {w : Cond} {B : List Cond} (h : w.before args s = true) (t : ∀ w ∈ B, w.before args s = true) : ∀ w' ∈ w :: B, w'.before args s = true := fun w' h' => (List.mem_cons.mp h').elim (fun e => by rw [e]; exact h) (t w')
theorem vx_n {args : Array Value} {s : State} : ∀ w ∈ ([] : List Cond), w.before args s = true := fun _ h => nomatch h
theorem vx_own {args : Array Value} {s : State} {L : List Cond} (h1 : ∀ w ∈ L.filter vx_no, w.before args s = true)
    (hU : (Cond.isRef (.static Bundle.tN "UNASSIGNED_STACK" Bundle.steD)).before args s = true) (hN : (Cond.isRef (.static Bundle.tN "SUPPRESSED_SENTINEL" Bundle.listD)).before args s = true)
    (lU : (Cond.laysStatic Bundle.tN "UNASSIGNED_STACK" Bundle.steD).before args s = true) (lN : (Cond.laysStatic Bundle.tN "SUPPRESSED_SENTINEL" Bundle.listD).before args s = true) : ∀ w ∈ L, w.before args s = true := by
  intro w hw
  by_cases e1 : w = .isRef (.static Bundle.tN "UNASSIGNED_STACK" Bundle.steD)
  · rw [e1]; exact hU
  · by_cases e2 : w = .isRef (.static Bundle.tN "SUPPRESSED_SENTINEL" Bundle.listD)
    · rw [e2]; exact hN
    · by_cases e3 : w = .laysStatic Bundle.tN "UNASSIGNED_STACK" Bundle.steD
      · rw [e3]; exact lU
      · by_cases e4 : w = .laysStatic Bundle.tN "SUPPRESSED_SENTINEL" Bundle.listD
        · rw [e4]; exact lN
        · exact h1 w (List.mem_filter.mpr ⟨hw, by unfold vx_no; rw [decide_eq_true e1, decide_eq_true e2, decide_eq_true e3, decide_eq_true e4]; rfl⟩)
/-- where a static field lies, its class's statics cell in H -/
def vx_L (C n d : String) (A : Nat → Prop) (U : State) (H : Heap) : Prop := ∃ (c : ClassId) (k : Class) (i : Nat) (f : Field) (a : Nat) (cell : Cell), U.vm.findClass C = some c ∧ U.fieldFound? C n d = some (c, k, i, f) ∧ f.isStatic = true ∧ k.statics = some a ∧ H[a]? = some cell ∧ cell.vm.isStatics = true ∧ cell.cls = c ∧ f.slot < cell.slots.size ∧ k.staticTypes[f.slot]? = some f.type ∧ ¬ A a
theorem vx_L.moved {C n d : String} {A : Nat → Prop} {u U : State} {H : Heap} (hvm : u.vm.Alike U.vm) (h : vx_L C n d A u H) : vx_L C n d A U H := by
  obtain ⟨c, k, i, f, a, cell, h1, h2, h3, h4, h5, h6, h7, h8, h9, h10⟩ := h
  obtain ⟨k', hi', he⟩ := State.fieldFound?_setVm hvm h2
  exact ⟨c, k', i, f, a, cell, by rw [hvm.findClass]; exact h1, hi', h3, by rw [he]; exact h4, h5, h6, h7, h8, by rw [he]; exact h9, h10⟩
theorem vx_L.kept {C n d : String} {A : Nat → Prop} {U : State} {H H1 : Heap} (h : vx_L C n d A U H) (hq : ∀ a : Nat, a < H.size → ¬ A a → H1[a]? = H[a]?) : vx_L C n d A U H1 := by
  obtain ⟨c, k, i, f, a, cell, h1, h2, h3, h4, h5, h6, h7, h8, h9, h10⟩ := h
  exact ⟨c, k, i, f, a, cell, h1, h2, h3, h4, by rw [hq a (Array.getElem?_eq_some_iff.mp h5).1 h10]; exact h5, h6, h7, h8, h9, h10⟩
theorem vx_L.narrow {C n d : String} {A B : Nat → Prop} {U : State} {H : Heap} (h : vx_L C n d A U H) (hAB : ∀ q, B q → A q) : vx_L C n d B U H := by
  obtain ⟨c, k, i, f, a, cell, h1, h2, h3, h4, h5, h6, h7, h8, h9, h10⟩ := h
  exact ⟨c, k, i, f, a, cell, h1, h2, h3, h4, h5, h6, h7, h8, h9, fun z => h10 (hAB _ z)⟩
theorem vx_L.word {C n d : String} {A : Nat → Prop} {s : State} {args : Array Value} (h : vx_L C n d A s s.heap) : (Cond.laysStatic C n d).before args s = true := by
  obtain ⟨c, k, i, f, a, cell, h1, h2, h3, h4, h5, h6, h7, h8, h9, -⟩ := h
  show (Cond.laysStatic C n d).holds args s none s [] = true
  exact Cond.laysStatic_of h1 h2 h3 h4 h5 h6 h7 h8 h9
/-- .. and what it holds: null or some reference -/
def vx_Zq (C n d : String) (A : Nat → Prop) (U : State) (H : Heap) : Prop := va_Zq C n d A U H ∧ vx_L C n d A U H
theorem vx_Zq.moved {C n d : String} {A : Nat → Prop} {u U : State} {H : Heap} (hvm : u.vm.Alike U.vm) (h : vx_Zq C n d A u H) : vx_Zq C n d A U H := ⟨va_Zq.moved hvm h.1, vx_L.moved hvm h.2⟩
theorem vx_Zq.kept {C n d : String} {A : Nat → Prop} {U : State} {H H1 : Heap} (h : vx_Zq C n d A U H) (hq : ∀ a : Nat, a < H.size → ¬ A a → H1[a]? = H[a]?) : vx_Zq C n d A U H1 := ⟨va_Zq.kept h.1 hq, vx_L.kept h.2 hq⟩
theorem vx_Zq.narrow {C n d : String} {A B : Nat → Prop} {U : State} {H : Heap} (h : vx_Zq C n d A U H) (hAB : ∀ q, B q → A q) : vx_Zq C n d B U H := ⟨va_Zq.narrow h.1 hAB, vx_L.narrow h.2 hAB⟩
theorem vx_Zqof {args : Array Value} {s : State} {C n d : String} {A : Nat → Prop} (hl : (Cond.laysStatic C n d).before args s = true) (hini : (Cond.initialized C).before args s = true) (h : (Cond.isRef (.static C n d)).before args s = true) (hA : ∀ a : Nat, a < s.heap.size → ¬ A a) : vx_Zq C n d A s s.heap := by
  refine ⟨va_Zqof hl hini h hA, ?_⟩
  obtain ⟨c, k, i, f, a, cell, h1, h2, h3, h4, h5, h6, h7, h8, h9⟩ := Cond.laysStatic_spec hl
  exact ⟨c, k, i, f, a, cell, h1, h2, h3, h4, h5, h6, h7, h8, h9, hA a (Array.getElem?_eq_some_iff.mp h5).1⟩
theorem vx_isRef {C n d : String} {v : Value} {A : Nat → Prop} {s : State} {args : Array Value} (h : va_Z C n d v A s s.heap) (hv : v.isRef = true) : (Cond.isRef (.static C n d)).before args s = true := by
  obtain ⟨cf, kf, fi, f, a, cell, h1, h2, h3, h4, h5, h6, h7, -⟩ := h
  have he : (Term.static C n d).eval args s none [] s = some v := by
    simp [Term.eval, State.fieldNamed?, h1, h2, h4, h5, h6, h7]
  simp only [Cond.before, Cond.holds, Cond.value, he]
  cases v <;> simp_all [Value.isRef]
theorem vx_isRefq {C n d : String} {A : Nat → Prop} {s : State} {args : Array Value} (h : va_Zq C n d A s s.heap) : (Cond.isRef (.static C n d)).before args s = true := by
  rcases h with h | ⟨t, h⟩
  · exact vx_isRef h rfl
  · exact vx_isRef h rfl
/-- the same frame, seen from here: as if the method were called anew in this heap -/
theorem vx_rebase {T : State} (X : Stand p l e R s m args below meth c T locs cells slots) {R' : Room} (hf : R'.frames ≤ R.frames) (hl : R'.locals ≤ R.locals) (hc : cells + R'.cells ≤ R.cells) (hs : slots + R'.slots ≤ R.slots) :
    Stand p l e R' ((T.setVm s.vm).setFrames (.invoking m args :: below)) m args below meth c T [] 0 0 := by
  have htop : (T.setVm s.vm).topJava?.isSome := X.here.top
  have hF : ((T.setVm s.vm).setFrames (.invoking m args :: below)).frames = .invoking m args :: below := State.frames_setFrames _ (State.cur_lt_of_top htop)
  obtain ⟨g₀, hg0⟩ := Option.isSome_iff_exists.mp htop
  obtain ⟨r, hr⟩ := State.topJava?_eq_some.mp hg0
  have hl9 : e.platform.stackLimits (T.setVm s.vm).me = e.platform.stackLimits s.me := X.limits
  have hb9 : (T.setVm s.vm).me.stackBytes = s.me.stackBytes := X.bytes
  refine ⟨X.admits, X.cas, X.clock, hF, ?_, X.hears, X.method, X.code, X.here, X.tail, X.warmed, ?_, ?_, ?_⟩
  · have h := X.room
    have hU : ((T.setVm s.vm).setFrames (.invoking m args :: below)).localsInUse = s.localsInUse := by
      rw [State.localsInUse_invoking hF (meth := meth) (c := c) X.method X.code, State.localsInUse_invoking X.frames X.method X.code]
    simp only [State.hasRoom, Bool.and_eq_true, decide_eq_true_eq] at h ⊢
    obtain ⟨⟨⟨⟨h1, h2, h3, h4, h5, h6⟩, h7⟩, h8⟩, h9⟩ := h
    rw [X.frames, List.length_cons] at h2 h3
    have q1 := X.heapSize
    have q2 := X.used
    simp only [hF, hU, List.length_cons, State.stackLimits_setFrames, State.stackBytes_setFrames, hl9, hb9]
    refine ⟨⟨⟨⟨by omega, by omega, by omega, by omega, by omega, h6⟩, ?_⟩, ?_⟩, X.book⟩
    · show T.heap.size + R'.cells ≤ e.platform.maxCells
      omega
    · show T.slotsUsed + R'.slots ≤ e.platform.maxSlots
      omega
  · rw [State.stackLimits_setFrames]; rfl
  · rw [State.stackBytes_setFrames]; rfl
  · refine ⟨?_, Nat.le_refl _, Nat.le_refl _, ?_, ?_, fun a c9 h9 => ⟨c9, h9, rfl, rfl, fun _ _ => rfl⟩⟩
    · obtain ⟨t, ht, -⟩ := State.frames_cons hr
      show T.setVm s.vm = { ((T.setVm s.vm).setFrames (.invoking m args :: below)).setFrames (T.setVm s.vm).frames with heap := T.heap, slotsUsed := T.slotsUsed }
      rw [State.setFrames_setFrames, State.setFrames_self ht]
      rfl
    · show T.slotsUsed = T.slotsUsed + ((T.heap.toList.drop T.heap.size).map (·.slots.size)).sum
      rw [List.drop_eq_nil_of_le (Nat.le_of_eq Array.length_toList)]
      rfl
    · show ((T.heap.toList.drop T.heap.size).map (·.slots.size)).sum ≤ 0
      rw [List.drop_eq_nil_of_le (Nat.le_of_eq Array.length_toList)]
      exact Nat.le_refl _
/-- 'throw new E()': new; dup; invokespecial; athrow -/
theorem vx_throw0 {cc : ByteArray} {pc : Nat} (hexec : p.tables.exec = Jvm.exec) (hb : c.code = cc) (hl : l.stackTraces = false) {own cls : String} {names : List String} {ik ic mc ms : Nat} {A : Nat → Prop}
    (hown : s.vm.findClass own = some m.cls) (hcls : Bundle.fit cls = true) (hnames : ∀ n ∈ names, Bundle.fit n = true)
    (hk : (Cond.classLink own ik cls).before args s = true) (hini : (Cond.initialized cls).before args s = true) (hat : ∀ w ∈ vx_at0 own ic cls names, w.before args s = true)
    (hgood : ∀ w ∈ Cond.classLink own ik cls :: Cond.initialized cls :: vx_at0 own ic cls names, vx_ot w = true)
    (hU : vx_Zq Bundle.tN "UNASSIGNED_STACK" Bundle.steD A s s.heap) (hN : vx_Zq Bundle.tN "SUPPRESSED_SENTINEL" Bundle.listD A s s.heap) (hS : va_S A s.heap H locs) (hsize : ls.size = c.maxLocals)
    (d0 : decode cc pc = .ok (.new ik, 3)) (d3 : decode cc (pc + 3) = .ok (.dup, 1)) (d4 : decode cc (pc + 4) = .ok (.invokespecial ic, 3)) (d7 : decode cc (pc + 7) = .ok (.athrow, 1))
    (hout : ∀ x ∈ c.exceptionTable.toList, covers x (pc + 7) = false)
    (hRframes : names.length + 3 < R.frames) (hRlocals : (rest.map fun v => v.category).sum + (13 * (names.length + 1) + 42) ≤ R.locals) (hRcells : cells + 1 ≤ R.cells) (hRslots : slots + 6 ≤ R.slots) (hlocks : meth.locks = false)
    (hx : ∀ t : State, s.vm.Alike t.vm → H.size ≤ t.heap.size → (∀ q : Nat, q < H.size → t.heap[q]? = H[q]?) → XC cls s t)
    (hf : ∀ z ∈ locs, free z.base) (hc : cells + 1 ≤ mc) (hs : slots + 6 ≤ ms) :
    W p l e R s m args below meth c H locs cells slots (vx_MQ below Qc XC args s mc ms free) (F0 m pc ls rest) := by
  intro T hT X
  have htr : e.platform.stackTraces = false := (show e.platform.stackTraces = l.stackTraces by rw [X.admits.platform]).trans hl
  have Y := vx_rebase X (R' := { frames := R.frames, locals := R.locals, cells := 1, slots := 6 }) (Nat.le_refl _) (Nat.le_refl _) hRcells hRslots
  obtain ⟨s', hA⟩ : ∃ z, z = (T.setVm s.vm).setFrames (.invoking m args :: below) := ⟨_, rfl⟩
  rw [← hA] at Y
  have hvm : s'.vm = s.vm := by rw [hA]; rfl
  have hhp : s'.heap = H := by rw [hA]; exact hT
  have hW0 : s.WarmedH s'.vm := by rw [hvm]; exact State.WarmedH.refl s
  have hat' : ∀ w ∈ vx_at0 own ic cls names, w.before args s' = true := fun w hw => vx_ot_at hW0 hvm.symm (hgood w (List.mem_cons_of_mem _ (List.mem_cons_of_mem _ hw))) (hat w hw)
  have hk' : (Cond.classLink own ik cls).before args s' = true := vx_ot_at hW0 hvm.symm (hgood _ List.mem_cons_self) hk
  have hini' : (Cond.initialized cls).before args s' = true := vx_ot_at hW0 hvm.symm (hgood _ (List.mem_cons_of_mem _ List.mem_cons_self)) hini
  have hU' : vx_Zq Bundle.tN "UNASSIGNED_STACK" Bundle.steD A s' s'.heap := by rw [hhp]; exact vx_Zq.moved hW0.alike (hU.kept hS.2.1)
  have hN' : vx_Zq Bundle.tN "SUPPRESSED_SENTINEL" Bundle.listD A s' s'.heap := by rw [hhp]; exact vx_Zq.moved hW0.alike (hN.kept hS.2.1)
  have h : ∀ w ∈ Bundle.ownAtoms0 own ic cls names, w.before args s' = true := vx_own hat' (vx_isRefq hU'.1) (vx_isRefq hN'.1) hU'.2.word hN'.2.word
  have hown' : s'.vm.findClass own = some m.cls := by rw [hvm]; exact hown
  have hins : (Cond.instantiable cls 6).before args s' = true := h _ (by simp [Bundle.ownAtoms0])
  obtain ⟨vm₁, cX, kX, hfX, hkX, -, -, X₁, st1⟩ := Y.newCold hexec (own := own) (C := cls) (index := ik) (n := 6) hown' hk' hins hini'
    (g := F0 m pc ls rest) rfl (by rw [hb]; exact d0) (Nat.le_refl _) (Nat.le_refl _)
  generalize hT1 : (T.setVm vm₁).pushCell { cls := cX, slots := kX.instanceTypes.map defaultValue, vm := .none } = T1 at X₁ st1
  have hcat : (Value.ref T.heap.size).category = 1 := rfl
  have hcellA : T1.heap[T.heap.size]? = some (freshCell cX kX) := by rw [← hT1]; exact State.heap_pushCell_size _ _
  have d3' : decode c.code (pc + 3) = .ok (.dup, 1) := by rw [hb]; exact d3
  obtain ⟨U, hsteps, hrun, hend, hW, hsame, ce, hce, hO⟩ := X₁.ctorThrow0 hexec htr (own := own) (cls := cls) (names := names) (ic := ic) hown' hcls hnames h (fun x hx => nomatch hx) hfX hkX hcellA (by rw [hhp, hT]; exact Nat.le_refl _)
    (g := { method := m, pc := pc + 4, locals := ls, stack := .ref T.heap.size :: .ref T.heap.size :: rest, locked := none }) rfl hsize rfl rfl (rest := rest) rfl
    (by rw [hb]; exact d4) (by rw [hb]; exact d7) hout hRframes (by simp only [List.map_cons, List.sum_cons, hcat]; omega) hlocks
  obtain ⟨f1, f2⟩ := vx_frame hsame
  rw [hhp] at f1 f2
  have hWs : s.WarmedH U.vm := State.WarmedH.trans hW0 hW
  have hcl : s.vm.findClass cls = some ce.cls := by
    have h9 := hO.cls
    rw [hvm] at h9
    exact h9
  have hall : s.sameButNew ({ U with vm := s.vm } : State) locs mc ms := by
    subst hA
    obtain ⟨e1, e2⟩ := hsame
    rw [State.setFrames_setFrames] at e1
    have h2 : (T.setVm s.vm).sameButNew ({ U with vm := s.vm } : State) [] (0 + 1) (0 + 6) := ⟨e1, e2⟩
    have h3 := X.same.trans h2
    rw [List.append_nil] at h3
    exact h3.mono hc hs
  refine ⟨U, ?_, .threw T.heap.size, hrun, hend, Or.inr ⟨T.heap.size, rfl, cls, ce, locs, hx U hWs.alike f1 (fun q hq => f2 q hq (fun z hz => nomatch hz)), hce, hO.vm, hcl, hWs, hall, hf⟩⟩
  refine st1 _ ?_
  show Steps p.tables e below (T1.setTop { method := m, pc := pc + 3, locals := ls, stack := .ref T.heap.size :: rest, locked := none }) _
  jvm_step X₁.here [X₁.here.top, hexec, d3', Value.category]
  exact hsteps
/-- 'throw new E("text")': new; dup; ldc; invokespecial; athrow -/
theorem vx_throwS {cc : ByteArray} {pc : Nat} (hexec : p.tables.exec = Jvm.exec) (hb : c.code = cc) (hl : l.stackTraces = false) {own cls text : String} {names : List String} {ik is ic mc ms sa : Nat} {A : Nat → Prop}
    (hown : s.vm.findClass own = some m.cls) (hcls : Bundle.fit cls = true) (hnames : ∀ n ∈ names, Bundle.fit n = true)
    (hk : (Cond.classLink own ik cls).before args s = true) (hini : (Cond.initialized cls).before args s = true) (hstr : vk_R own is text sa s) (hat : ∀ w ∈ vx_atS own ic cls names, w.before args s = true)
    (hgood : ∀ w ∈ Cond.classLink own ik cls :: Cond.initialized cls :: vx_atS own ic cls names, vx_ot w = true)
    (hU : vx_Zq Bundle.tN "UNASSIGNED_STACK" Bundle.steD A s s.heap) (hN : vx_Zq Bundle.tN "SUPPRESSED_SENTINEL" Bundle.listD A s s.heap) (hS : va_S A s.heap H locs) (hsize : ls.size = c.maxLocals)
    (d0 : decode cc pc = .ok (.new ik, 3)) (d3 : decode cc (pc + 3) = .ok (.dup, 1)) (d4 : decode cc (pc + 4) = .ok (.ldc is, 2)) (d6 : decode cc (pc + 6) = .ok (.invokespecial ic, 3)) (d9 : decode cc (pc + 9) = .ok (.athrow, 1))
    (hout : ∀ x ∈ c.exceptionTable.toList, covers x (pc + 9) = false)
    (hRframes : names.length + 3 < R.frames) (hRlocals : (rest.map fun v => v.category).sum + (13 * (names.length + 1) + 43) ≤ R.locals) (hRcells : cells + 1 ≤ R.cells) (hRslots : slots + 6 ≤ R.slots) (hlocks : meth.locks = false)
    (hx : ∀ t : State, s.vm.Alike t.vm → H.size ≤ t.heap.size → (∀ q : Nat, q < H.size → t.heap[q]? = H[q]?) → XC cls s t)
    (hf : ∀ z ∈ locs, free z.base) (hc : cells + 1 ≤ mc) (hs : slots + 6 ≤ ms) :
    W p l e R s m args below meth c H locs cells slots (vx_MQ below Qc XC args s mc ms free) (F0 m pc ls rest) := by
  intro T hT X
  have htr : e.platform.stackTraces = false := (show e.platform.stackTraces = l.stackTraces by rw [X.admits.platform]).trans hl
  have Y := vx_rebase X (R' := { frames := R.frames, locals := R.locals, cells := 1, slots := 6 }) (Nat.le_refl _) (Nat.le_refl _) hRcells hRslots
  obtain ⟨s', hA⟩ : ∃ z, z = (T.setVm s.vm).setFrames (.invoking m args :: below) := ⟨_, rfl⟩
  rw [← hA] at Y
  have hvm : s'.vm = s.vm := by rw [hA]; rfl
  have hhp : s'.heap = H := by rw [hA]; exact hT
  have hW0 : s.WarmedH s'.vm := by rw [hvm]; exact State.WarmedH.refl s
  have hat' : ∀ w ∈ vx_atS own ic cls names, w.before args s' = true := fun w hw => vx_ot_at hW0 hvm.symm (hgood w (List.mem_cons_of_mem _ (List.mem_cons_of_mem _ hw))) (hat w hw)
  have hk' : (Cond.classLink own ik cls).before args s' = true := vx_ot_at hW0 hvm.symm (hgood _ List.mem_cons_self) hk
  have hini' : (Cond.initialized cls).before args s' = true := vx_ot_at hW0 hvm.symm (hgood _ (List.mem_cons_of_mem _ List.mem_cons_self)) hini
  have hU' : vx_Zq Bundle.tN "UNASSIGNED_STACK" Bundle.steD A s' s'.heap := by rw [hhp]; exact vx_Zq.moved hW0.alike (hU.kept hS.2.1)
  have hN' : vx_Zq Bundle.tN "SUPPRESSED_SENTINEL" Bundle.listD A s' s'.heap := by rw [hhp]; exact vx_Zq.moved hW0.alike (hN.kept hS.2.1)
  have h : ∀ w ∈ Bundle.ownAtoms own ic cls names, w.before args s' = true := vx_own hat' (vx_isRefq hU'.1) (vx_isRefq hN'.1) hU'.2.word hN'.2.word
  have hown' : s'.vm.findClass own = some m.cls := by rw [hvm]; exact hown
  have hins : (Cond.instantiable cls 6).before args s' = true := h _ (by simp [Bundle.ownAtoms])
  obtain ⟨vm₁, cX, kX, hfX, hkX, -, -, X₁, st1⟩ := Y.newCold hexec (own := own) (C := cls) (index := ik) (n := 6) hown' hk' hins hini'
    (g := F0 m pc ls rest) rfl (by rw [hb]; exact d0) (Nat.le_refl _) (Nat.le_refl _)
  generalize hT1 : (T.setVm vm₁).pushCell { cls := cX, slots := kX.instanceTypes.map defaultValue, vm := .none } = T1 at X₁ st1
  have hcat : (Value.ref T.heap.size).category = 1 := rfl
  have hcellA : T1.heap[T.heap.size]? = some (freshCell cX kX) := by rw [← hT1]; exact State.heap_pushCell_size _ _
  have d3' : decode c.code (pc + 3) = .ok (.dup, 1) := by rw [hb]; exact d3
  have d4' : decode c.code (pc + 4) = .ok (.ldc is, 2) := by rw [hb]; exact d4
  have hstr' : vk_R own is text sa s' := vk_R.warm hW0 hstr
  obtain ⟨U, hsteps, hrun, hend, hW, hsame, ce, hce, hO⟩ := X₁.ctorThrowS hexec htr (own := own) (cls := cls) (names := names) (ic := ic) hown' hcls hnames h (fun x hx => nomatch hx) hfX hkX hcellA (by rw [hhp, hT]; exact Nat.le_refl _) (msg := .ref sa) rfl
    (g := { method := m, pc := pc + 6, locals := ls, stack := .ref sa :: .ref T.heap.size :: .ref T.heap.size :: rest, locked := none }) rfl hsize rfl rfl (rest := rest) rfl
    (by rw [hb]; exact d6) (by rw [hb]; exact d9) hout hRframes (by simp only [List.map_cons, List.sum_cons, hcat]; omega) hlocks
  obtain ⟨f1, f2⟩ := vx_frame hsame
  rw [hhp] at f1 f2
  have hWs : s.WarmedH U.vm := State.WarmedH.trans hW0 hW
  have hcl : s.vm.findClass cls = some ce.cls := by
    have h9 := hO.cls
    rw [hvm] at h9
    exact h9
  have hall : s.sameButNew ({ U with vm := s.vm } : State) locs mc ms := by
    subst hA
    obtain ⟨e1, e2⟩ := hsame
    rw [State.setFrames_setFrames] at e1
    have h2 : (T.setVm s.vm).sameButNew ({ U with vm := s.vm } : State) [] (0 + 1) (0 + 6) := ⟨e1, e2⟩
    have h3 := X.same.trans h2
    rw [List.append_nil] at h3
    exact h3.mono hc hs
  refine ⟨U, ?_, .threw T.heap.size, hrun, hend, Or.inr ⟨T.heap.size, rfl, cls, ce, locs, hx U hWs.alike f1 (fun q hq => f2 q hq (fun z hz => nomatch hz)), hce, hO.vm, hcl, hWs, hall, hf⟩⟩
  refine st1 _ ?_
  show Steps p.tables e below (T1.setTop { method := m, pc := pc + 3, locals := ls, stack := .ref T.heap.size :: rest, locked := none }) _
  jvm_step X₁.here [X₁.here.top, hexec, d3', Value.category]
  exact X₁.ldcString hexec (own := own) (text := text) (index := is) (a := sa) hown' hstr'.1 hstr'.2
    (g := { method := m, pc := pc + 4, locals := ls, stack := .ref T.heap.size :: .ref T.heap.size :: rest, locked := none }) rfl d4' _ hsteps
/-- 'throw new E("text")', the text by a wide index -/
theorem vx_throwSW {cc : ByteArray} {pc : Nat} (hexec : p.tables.exec = Jvm.exec) (hb : c.code = cc) (hl : l.stackTraces = false) {own cls text : String} {names : List String} {ik is ic mc ms sa : Nat} {A : Nat → Prop}
    (hown : s.vm.findClass own = some m.cls) (hcls : Bundle.fit cls = true) (hnames : ∀ n ∈ names, Bundle.fit n = true)
    (hk : (Cond.classLink own ik cls).before args s = true) (hini : (Cond.initialized cls).before args s = true) (hstr : vk_R own is text sa s) (hat : ∀ w ∈ vx_atS own ic cls names, w.before args s = true)
    (hgood : ∀ w ∈ Cond.classLink own ik cls :: Cond.initialized cls :: vx_atS own ic cls names, vx_ot w = true)
    (hU : vx_Zq Bundle.tN "UNASSIGNED_STACK" Bundle.steD A s s.heap) (hN : vx_Zq Bundle.tN "SUPPRESSED_SENTINEL" Bundle.listD A s s.heap) (hS : va_S A s.heap H locs) (hsize : ls.size = c.maxLocals)
    (d0 : decode cc pc = .ok (.new ik, 3)) (d3 : decode cc (pc + 3) = .ok (.dup, 1)) (d4 : decode cc (pc + 4) = .ok (.ldc_w is, 3)) (d7 : decode cc (pc + 7) = .ok (.invokespecial ic, 3)) (d10 : decode cc (pc + 10) = .ok (.athrow, 1))
    (hout : ∀ x ∈ c.exceptionTable.toList, covers x (pc + 10) = false)
    (hRframes : names.length + 3 < R.frames) (hRlocals : (rest.map fun v => v.category).sum + (13 * (names.length + 1) + 43) ≤ R.locals) (hRcells : cells + 1 ≤ R.cells) (hRslots : slots + 6 ≤ R.slots) (hlocks : meth.locks = false)
    (hx : ∀ t : State, s.vm.Alike t.vm → H.size ≤ t.heap.size → (∀ q : Nat, q < H.size → t.heap[q]? = H[q]?) → XC cls s t)
    (hf : ∀ z ∈ locs, free z.base) (hc : cells + 1 ≤ mc) (hs : slots + 6 ≤ ms) :
    W p l e R s m args below meth c H locs cells slots (vx_MQ below Qc XC args s mc ms free) (F0 m pc ls rest) := by
  intro T hT X
  have htr : e.platform.stackTraces = false := (show e.platform.stackTraces = l.stackTraces by rw [X.admits.platform]).trans hl
  have Y := vx_rebase X (R' := { frames := R.frames, locals := R.locals, cells := 1, slots := 6 }) (Nat.le_refl _) (Nat.le_refl _) hRcells hRslots
  obtain ⟨s', hA⟩ : ∃ z, z = (T.setVm s.vm).setFrames (.invoking m args :: below) := ⟨_, rfl⟩
  rw [← hA] at Y
  have hvm : s'.vm = s.vm := by rw [hA]; rfl
  have hhp : s'.heap = H := by rw [hA]; exact hT
  have hW0 : s.WarmedH s'.vm := by rw [hvm]; exact State.WarmedH.refl s
  have hat' : ∀ w ∈ vx_atS own ic cls names, w.before args s' = true := fun w hw => vx_ot_at hW0 hvm.symm (hgood w (List.mem_cons_of_mem _ (List.mem_cons_of_mem _ hw))) (hat w hw)
  have hk' : (Cond.classLink own ik cls).before args s' = true := vx_ot_at hW0 hvm.symm (hgood _ List.mem_cons_self) hk
  have hini' : (Cond.initialized cls).before args s' = true := vx_ot_at hW0 hvm.symm (hgood _ (List.mem_cons_of_mem _ List.mem_cons_self)) hini
  have hU' : vx_Zq Bundle.tN "UNASSIGNED_STACK" Bundle.steD A s' s'.heap := by rw [hhp]; exact vx_Zq.moved hW0.alike (hU.kept hS.2.1)
  have hN' : vx_Zq Bundle.tN "SUPPRESSED_SENTINEL" Bundle.listD A s' s'.heap := by rw [hhp]; exact vx_Zq.moved hW0.alike (hN.kept hS.2.1)
  have h : ∀ w ∈ Bundle.ownAtoms own ic cls names, w.before args s' = true := vx_own hat' (vx_isRefq hU'.1) (vx_isRefq hN'.1) hU'.2.word hN'.2.word
  have hown' : s'.vm.findClass own = some m.cls := by rw [hvm]; exact hown
  have hins : (Cond.instantiable cls 6).before args s' = true := h _ (by simp [Bundle.ownAtoms])
  obtain ⟨vm₁, cX, kX, hfX, hkX, -, -, X₁, st1⟩ := Y.newCold hexec (own := own) (C := cls) (index := ik) (n := 6) hown' hk' hins hini'
    (g := F0 m pc ls rest) rfl (by rw [hb]; exact d0) (Nat.le_refl _) (Nat.le_refl _)
  generalize hT1 : (T.setVm vm₁).pushCell { cls := cX, slots := kX.instanceTypes.map defaultValue, vm := .none } = T1 at X₁ st1
  have hcat : (Value.ref T.heap.size).category = 1 := rfl
  have hcellA : T1.heap[T.heap.size]? = some (freshCell cX kX) := by rw [← hT1]; exact State.heap_pushCell_size _ _
  have d3' : decode c.code (pc + 3) = .ok (.dup, 1) := by rw [hb]; exact d3
  have d4' : decode c.code (pc + 4) = .ok (.ldc_w is, 3) := by rw [hb]; exact d4
  have hstr' : vk_R own is text sa s' := vk_R.warm hW0 hstr
  obtain ⟨U, hsteps, hrun, hend, hW, hsame, ce, hce, hO⟩ := X₁.ctorThrowS hexec htr (own := own) (cls := cls) (names := names) (ic := ic) hown' hcls hnames h (fun x hx => nomatch hx) hfX hkX hcellA (by rw [hhp, hT]; exact Nat.le_refl _) (msg := .ref sa) rfl
    (g := { method := m, pc := pc + 7, locals := ls, stack := .ref sa :: .ref T.heap.size :: .ref T.heap.size :: rest, locked := none }) rfl hsize rfl rfl (rest := rest) rfl
    (by rw [hb]; exact d7) (by rw [hb]; exact d10) hout hRframes (by simp only [List.map_cons, List.sum_cons, hcat]; omega) hlocks
  obtain ⟨f1, f2⟩ := vx_frame hsame
  rw [hhp] at f1 f2
  have hWs : s.WarmedH U.vm := State.WarmedH.trans hW0 hW
  have hcl : s.vm.findClass cls = some ce.cls := by
    have h9 := hO.cls
    rw [hvm] at h9
    exact h9
  have hall : s.sameButNew ({ U with vm := s.vm } : State) locs mc ms := by
    subst hA
    obtain ⟨e1, e2⟩ := hsame
    rw [State.setFrames_setFrames] at e1
    have h2 : (T.setVm s.vm).sameButNew ({ U with vm := s.vm } : State) [] (0 + 1) (0 + 6) := ⟨e1, e2⟩
    have h3 := X.same.trans h2
    rw [List.append_nil] at h3
    exact h3.mono hc hs
  refine ⟨U, ?_, .threw T.heap.size, hrun, hend, Or.inr ⟨T.heap.size, rfl, cls, ce, locs, hx U hWs.alike f1 (fun q hq => f2 q hq (fun z hz => nomatch hz)), hce, hO.vm, hcl, hWs, hall, hf⟩⟩
  refine st1 _ ?_
  show Steps p.tables e below (T1.setTop { method := m, pc := pc + 3, locals := ls, stack := .ref T.heap.size :: rest, locked := none }) _
  jvm_step X₁.here [X₁.here.top, hexec, d3', Value.category]
  exact X₁.ldcStringW hexec (own := own) (text := text) (index := is) (a := sa) hown' hstr'.1 hstr'.2
    (g := { method := m, pc := pc + 4, locals := ls, stack := .ref T.heap.size :: .ref T.heap.size :: rest, locked := none }) rfl d4' _ hsteps
end Ends
section Bodies
variable {l : Launch}
theorem vx_ofW {y : MethodName} {ws ws' : List Cond} {rm : Room} {Pc : Array Value → State → Prop} {Qc : Array Value → State → Outcome → State → Prop} {XC : String → State → State → Prop} {mc ms : Nat} {free : Addr → Prop} {cc : ByteArray} {maxL : Nat} {ret : Option FieldType}
    (hy : plainName y.cls = true) (hw : ws = Cond.code y cc maxL ret :: ws')
    (body : ∀ p e s m args below meth c s₁, BodyLoose p l y (headSpec ws rm) cc maxL ret e s m args below meth c s₁ → c.maxLocals = maxL → (∀ x ∈ c.exceptionTable.toList, False) → Pc args s →
      W p l e (headSpec ws rm).room s m args below meth c s.heap [] 0 0 (vx_MQ below Qc XC args s mc ms free) (entryFrame m args maxL)) : vx_Met l y ws rm Pc Qc XC mc ms free := by
  refine MetFree.of_bodyS (code := cc) (maxLocals := maxL) (ret := ret) hy ?_ ?_
  · intro args s m h hn
    obtain ⟨meth, c, h1, h2, h3, h4, h5, h6, -, -⟩ := Cond.code_spec hn (atoms_spec (ws := ws) h _ (by rw [hw]; exact List.mem_cons_self))
    exact ⟨meth, c, h1, h2, h3, h4, h5, h6⟩
  · intro p e s m args below meth c s₁ B hml hP _
    have hh0 : s₁.heap = s.heap := by rw [B.state]; rfl
    have ht : ∀ x ∈ c.exceptionTable.toList, False := by
      obtain ⟨meth9, c9, h1, h2, -, -, -, -, h7, -⟩ := Cond.code_spec B.named (atoms_spec (ws := ws) B.pre _ (by rw [hw]; exact List.mem_cons_self))
      cases Option.some.inj (h1.symm.trans B.method)
      cases Option.some.inj (h2.symm.trans (Stand.of_body B).code)
      intro x hx
      rw [Array.isEmpty_iff.mp h7] at hx
      cases hx
    obtain ⟨t, a1, o, b1, b2, b3⟩ := body p e s m args below meth c s₁ B hml ht hP s₁ hh0 (Stand.of_body B)
    exact ⟨t, o, a1, b1, b2, b3⟩
/-- the table of a body with handlers -/
theorem vx_table {p : Program} {x y : MethodName} {S : Spec} {cc bytes : ByteArray} {maxL maxL' : Nat} {ret ret' : Option FieldType} {e : Env} {s s₁ : State} {m : MethodId} {args : Array Value} {below : List Frame} {meth : Method} {c : Code} {hh : List (Nat × Nat × Nat × Nat)}
    (B : BodyLoose p l y S cc maxL ret e s m args below meth c s₁) (h : (Cond.codeWith y bytes maxL' ret' hh).before args s = true) : c.exceptionTable.toList = tableOf hh := by
  obtain ⟨m9, meth9, c9, hn9, h1, h2, -, -, h6, -⟩ := Cond.codeWith_spec h
  cases Option.some.inj (hn9.symm.trans B.named)
  cases Option.some.inj (h1.symm.trans B.method)
  cases Option.some.inj (h2.symm.trans (Stand.of_body B).code)
  rw [← h6, table_eq]
end Bodies
end VXA
/-! ===== END ===== -/
/-! ===== BEGIN a static call of a method with an exception table ===== -/
section VXS
variable {p : Program} {l : Launch} {e : Env} {R : Room} {s : State} {m : MethodId} {args : Array Value} {below : List Frame} {meth : Method} {c : Code} {T : State} {H : Heap} {locs : List Loc} {cells slots : Nat}
abbrev vx_CSW (R : Room) (s : State) (args : Array Value) (own : String) (index : Nat) (y : MethodName) (bytes : ByteArray) (maxL : Nat) (ret : Option FieldType) (hh : List (Nat × Nat × Nat × Nat)) (ws : List Cond) (rm : Room) (mc ms n : Nat) : Prop :=
  (rm.cells = mc ∧ rm.slots = ms ∧ rm.frames + 1 ≤ R.frames ∧ 8 + (maxL + 11) + rm.locals ≤ R.locals ∧ (∀ w ∈ ws, ∀ (a' : Array Value) (U : State), s.WarmedH U.vm → w.before a' U = true) ∧ Cond.codeWith y bytes maxL ret hh ∈ ws) ∧
  (Cond.codeWith y bytes maxL ret hh).before args s = true ∧ (Cond.initialized y.cls).before args s = true ∧ (y.cls ≠ "java/lang/invoke/MethodHandle" ∧ y.cls ≠ "java/lang/invoke/VarHandle") ∧
  (∀ sig, parseMethodDescriptor y.desc = some sig → n = sig.parameters.length) ∧ (Cond.methodLink own index y).before args s = true ∧ (Cond.static y).before args s = true
theorem vx_cwSW {own : String} {index maxL mc ms : Nat} {y : MethodName} {bytes : ByteArray} {ret : Option FieldType} {hh : List (Nat × Nat × Nat × Nat)} {Ts ws ws' : List Cond} {rm : Room} (n : Nat) (ht : ∀ w ∈ Ts, w.before args s = true) (hT : GoodIn Ts (va_wsS own index y ws)) (hw : ws = Cond.codeWith y bytes maxL ret hh :: ws') (hrc : rm.cells = mc) (hrs : rm.slots = ms)
    (hd : y.cls ≠ "java/lang/invoke/MethodHandle" ∧ y.cls ≠ "java/lang/invoke/VarHandle" ∧ (parseMethodDescriptor y.desc).map (fun d => d.parameters.length) = some n) (hR : rm.frames + 1 ≤ R.frames ∧ 8 + (maxL + 11) + rm.locals ≤ R.locals) :
    vx_CSW R s args own index y bytes maxL ret hh ws rm mc ms n := by
  have ok : ∀ w ∈ va_wsS own index y ws, w.before args s = true := fun w h => ht w (hT w h).1
  have hG : GoodIn Ts ws := fun w h => hT w (by unfold va_wsS; exact List.mem_append_right _ h)
  have hc : Cond.codeWith y bytes maxL ret hh ∈ ws := by rw [hw]; exact List.mem_cons_self
  refine ⟨⟨hrc, hrs, hR.1, hR.2, pay_in ht hG, hc⟩, ht _ (hG _ hc).1, ok _ (by simp [va_wsS]), ⟨hd.1, hd.2.1⟩, fun sig h => ?_, ok _ (by simp [va_wsS]), ok _ (by simp [va_wsS])⟩
  have h2 := hd.2.2
  rw [h] at h2
  exact (Option.some.inj h2).symm
theorem vx_callSW (X : Stand p l e R s m args below meth c T locs cells slots) (hexec : p.tables.exec = Jvm.exec) {own : String} {index : Nat} {y : MethodName} {bytes : ByteArray} {maxL : Nat} {ret : Option FieldType} {hh : List (Nat × Nat × Nat × Nat)}
    (hown : s.vm.findClass own = some m.cls) (hlink : (Cond.methodLink own index y).before args s = true) (hstat : (Cond.static y).before args s = true) (hinit : (Cond.initialized y.cls).before args s = true)
    (hcode : (Cond.codeWith y bytes maxL ret hh).before args s = true) (hy : y.cls ≠ "java/lang/invoke/MethodHandle" ∧ y.cls ≠ "java/lang/invoke/VarHandle")
    {W9 : Nat} {Pre : Pt → Array Value → Prop} {Post : Pt → Array Value → Option Value → Pt → Prop} (hK : Back l R p e below s args y 3 W9 Pre Post)
    {g : JFrame} (hg : g.method = m) (hsize : g.locals.size = c.maxLocals) {argsL rest : List Value} (hlen : ∀ sig, parseMethodDescriptor y.desc = some sig → argsL.length = sig.parameters.length)
    (hstack : g.stack = argsL.reverse ++ rest) (hW : 2 * g.monitorRoom + (rest.map fun v => v.category).sum ≤ W9) (hdg : decode c.code g.pc = .ok (.invokestatic index, 3))
    (hpre : ∀ vm₁, s.WarmedH vm₁ → Pre ⟨T.setVm vm₁, locs, cells, slots⟩ argsL.toArray) :
    ∃ (v : Option Value) (vm₁ : Vm) (B : Pt), s.WarmedH vm₁ ∧ Stand p l e R s m args below meth c B.U B.locs B.cells B.slots ∧ Post ⟨T.setVm vm₁, locs, cells, slots⟩ argsL.toArray v B ∧
      ∀ target, Steps p.tables e below (B.U.setTop { g with pc := g.pc + 3, stack := v.toList ++ rest }) target → Steps p.tables e below (T.setTop g) target := by
  obtain ⟨mk, methM, cM, hnamed, hmethM, -, -, -, -, -, -, hsigM⟩ := Cond.codeWith_spec hcode
  have hstatic : methM.isStatic = true := Cond.static_spec hnamed hmethM hstat
  obtain ⟨kP, hkP, -⟩ := className_of_methodNamed hnamed
  have hinitP : kP.init = .initialized := Cond.initialized_spec (findClass_of_methodNamed hnamed) hkP hinit
  obtain ⟨vm₁, X₁, hstep₁⟩ := X.invokestatic hexec hown hlink hnamed hmethM hstatic hkP hinitP hy (g := g) hg (argsL := argsL) (rest := rest) (hlen _ hsigM) hstack hdg
  obtain ⟨v, B, X', hpost, hsteps⟩ := hK m meth c ⟨T.setVm vm₁, locs, cells, slots⟩ { g with stack := rest } (.invokestatic index) mk argsL.toArray X₁ hg hsize hdg hW (X₁.named hnamed) (hpre vm₁ X₁.warmed)
  exact ⟨v, vm₁, B, X₁.warmed, X', hpost, fun target h => hstep₁ _ fun acts => by rw [doInvoke_state]; exact hsteps.trans h⟩
theorem vx_runSW {y : MethodName} {bytes cc : ByteArray} {maxL nL mc ms n index : Nat} {ret : Option FieldType} {hh : List (Nat × Nat × Nat × Nat)} {ws : List Cond} {rm : Room} {Pc : Array Value → State → Prop} {Qc : Array Value → State → Outcome → State → Prop} {free : Addr → Prop} {Ts : List Cond} {own : String} {As rest : List Value} {g : JFrame}
    (S : CallFix p m c cc nL s args Ts own) (hM : Met l y ws rm Pc Qc mc ms free) (cw : vx_CSW R s args own index y bytes maxL ret hh ws rm mc ms n) (hp : PreS s H Pc As)
    (hg : g.method = m) (hn : As.length = n) (hsize : g.locals.size = nL) (hstack : g.stack = As.reverse ++ rest) (hW : 2 * g.monitorRoom + (rest.map fun v => v.category).sum ≤ 8) (hdg : decode cc g.pc = .ok (.invokestatic index, 3)) (hf : cells + mc ≤ R.cells ∧ slots + ms ≤ R.slots) :
    va_Run p l e R s m args below meth c H locs cells slots mc ms g rest (Qc As.toArray) (free) := by
  obtain ⟨⟨hrc, hrs, hfr, hlo, hws, hcw⟩, hcode, hini, hy, hlen, hl, hstt⟩ := cw
  have hK : Back l R p e below s args y 3 8 (PreOf R mc ms Pc) (PostOf Qc mc ms free) := va_backW (hh := hh) (bytes := bytes) (maxL := maxL) (ret := ret) hM hp.1 hrc hrs hfr hlo hws hcw (fun a' U hW => word_at hW (Or.inl (by first | rfl | simp [Cond.onTables, Cond.keeps, Cond.steady])) hini)
  obtain ⟨hx, hb, hml, ho, -⟩ := S
  intro T hT X
  obtain ⟨v, vm₁, ⟨U', l2, c2, s2⟩, hW₁, X', ⟨g', mk, t, L, e1, e2, hq, h1, hL, h2, h3⟩, st⟩ := vx_callSW X hx (hh := hh) (bytes := bytes) (maxL := maxL) (ret := ret) ho hl hstt hini hcode hy hK hg (hsize.trans hml.symm) (argsL := As) (rest := rest) (fun sig h => hn.trans (hlen sig h)) hstack hW (by rw [hb]; exact hdg)
    (fun vm₁ hW₁ => ⟨hf.1, hf.2, hp.2 (T.setVm vm₁) hT hW₁⟩)
  dsimp only [Pt.U, Pt.locs, Pt.cells, Pt.slots] at X' e1 e2 h1 h2 h3 st
  subst h1; subst h2; subst h3
  exact ⟨v, (T.setVm vm₁).calling g' mk As.toArray, t, U', L, hT, X', hL, e1, e2, hq, st⟩
/-- not caught here, past rows that name other classes: it goes on to the caller -/
theorem vx_outP {p : Program} {l : Launch} {e : Env} {R : Room} {s : State} {m : MethodId} {args : Array Value} {below : List Frame} {meth : Method} {c : Code} {H : Heap} {locs : List Loc} {cells slots : Nat} {free : Addr → Prop} {ls : Array Slot} {rest : List Value} {Qc : Array Value → State → Outcome → State → Prop} {XC : String → State → State → Prop}
    {pc : Nat} {own E : String} {ce : Cell} {q : Addr} {mc ms : Nat} (hown : s.vm.findClass own = some m.cls) (hlocks : meth.locks = false)
    (hpass : ∀ z ∈ c.exceptionTable.toList, covers z pc = false ∨ (z.catchType ≠ 0 ∧ ∃ nm : String, (Cond.classLink own z.catchType nm).before args s = true ∧ va_Nc E nm s)) (hcell : H[q]? = some ce) (hv : ce.vm = .none) (hcl : s.vm.findClass E = some ce.cls)
    (hx : ∀ t : State, t.heap = H → s.vm.Alike t.vm → XC E s t) (hf : ∀ z ∈ locs, free z.base) (hc : cells ≤ mc) (hs : slots ≤ ms) :
    vx_W p l e R s m args below meth c H locs cells slots (vx_MQ below Qc XC args s mc ms free) (F0 m pc ls rest) q := by
  intro T hT X
  have hpl : e.platform.magicAccessors = ({} : Platform).magicAccessors := by rw [X.admits.platform]
  obtain ⟨vm', hW', X', st⟩ := X.outThrough hlocks q (g := F0 m pc ls rest) rfl rfl rfl (cell := ce) (by rw [hT]; exact hcell) (by rw [hv]; rfl)
    (by obtain ⟨k9, h9, -⟩ := Vm.findClass_spec hcl; exact ⟨k9, h9⟩) (fun z hz => by
      rcases hpass z hz with h | ⟨hz0, nm, hl1, hn1⟩
      · exact Or.inl h
      · obtain ⟨c6, hc6, hcl6⟩ := Cond.classLink_spec hown hl1 e.platform hpl
        obtain ⟨a8, b8, h1, h2, h3⟩ := hn1
        cases Option.some.inj (h1.symm.trans hcl)
        cases Option.some.inj (h2.symm.trans hc6)
        exact Or.inr ⟨hz0, _, hcl6, h3⟩)
  obtain ⟨g₀, hfr⟩ := X'.frames_eq
  have hcell9 : ((T.setVm vm').setFrames (.throwing q :: below)).heap[q]? = some ce := by
    show T.heap[q]? = some ce
    rw [hT]; exact hcell
  have hend : Ended ((T.setVm vm').setFrames (.throwing q :: below)) below (.threw q) := State.frames_setFrames _ (State.cur_lt_of_frames hfr)
  refine ⟨(T.setVm vm').setFrames (.throwing q :: below), ?_, .threw q, X'.here.running, hend, Or.inr ⟨q, rfl, E, ce, locs, hx _ hT (X'.ends _).1.alike, hcell9, hv, hcl, (X'.ends _).1, (X'.ends _).2.mono hc hs, hf⟩⟩
  rw [X.pushThrowing_eq]
  exact st
/-- a thing of a world lies in the heap -/
theorem vx_lt {D : va_G} {cl : List vw_C} {ws : va_W} {H1 : Heap} (h : va_P D cl ws H1) {k : Nat} {q : Nat × va_E} (hk : ws[k]? = some q) : q.1 < H1.size := (h k q hk).lt
end VXS
/-! ===== END ===== -/
/-! ===== BEGIN methods with a table of their own: called by a name, returning or throwing ===== -/
section VXH
/-! vx_backW, vx_callVX, vx_callSX, vx_callVW, vx_runVW, vx_runVX, vx_runSX, vx_ofWH follow the same proofs as their sisters above (Free/Laws.lean, Shelf42/LK1.lean); vx_outP calls Shelf42/NT130.lean (outThrough). -/
section
variable {l : Launch} {R : Room} {p : Program} {e : Env} {below : List Frame} {s : State} {sargs : Array Value} {y : MethodName} {len W9 : Nat}
theorem vx_backW {ws : List Cond} {rm : Room} {Pc : Array Value → State → Prop} {Qc : Array Value → State → Outcome → State → Prop} {XC : String → State → State → Prop} {mc ms : Nat} {free : Addr → Prop} {bytes : ByteArray} {maxL : Nat} {ret : Option FieldType} {hh : List (Nat × Nat × Nat × Nat)}
    (hM : vx_Met l y ws rm Pc Qc XC mc ms free) (hblind : FrameBlind Pc) (hrc : rm.cells = mc) (hrs : rm.slots = ms)
    (hframes : rm.frames + 1 ≤ R.frames) (hlocals : W9 + (maxL + 11) + rm.locals ≤ R.locals)
    (hws : ∀ w ∈ ws, ∀ a' U, s.WarmedH U.vm → w.before a' U = true) (hcode : Cond.codeWith y bytes maxL ret hh ∈ ws) (hinit : ∀ a' U, s.WarmedH U.vm → (Cond.initialized y.cls).before a' U = true) :
    vx_Back l R p e below s sargs y len W9 (PreOf R mc ms Pc) (PostOf Qc mc ms free) (vx_Post XC mc ms free) := by
  intro m meth c A g ig mk a X hg hsize hdg hW hn hp
  have h1 : (headSpec ws rm).pre.before a A.U = true := atoms_intro fun w hw => hws w hw _ _ X.warmed
  have h2 : (Cond.codeWith y bytes maxL ret hh).before a A.U = true := hws _ hcode _ _ X.warmed
  have h3 : (Cond.initialized y.cls).before a A.U = true := hinit _ _ X.warmed
  have h4 : A.cells + (headSpec ws rm).room.cells ≤ R.cells := by rw [show (headSpec ws rm).room.cells = mc from hrc]; exact hp.1
  have h5 : A.slots + (headSpec ws rm).room.slots ≤ R.slots := by rw [show (headSpec ws rm).room.slots = ms from hrs]; exact hp.2.1
  have hPc : Pc a (A.U.calling g mk a) := hblind _ _ _ _ hp.2.2
  obtain ⟨U, Ls, c0, s0⟩ := A
  dsimp only [Pt.U, Pt.locs, Pt.cells, Pt.slots] at h1 h2 h3 h4 h5 X hn hPc ⊢
  obtain ⟨m9, methY, cY, hn9, hmY, hcY, -, hlY, -⟩ := Cond.codeWith_spec h2
  cases Option.some.inj (hn9.symm.trans hn)
  obtain ⟨kY, hkY, -⟩ := className_of_methodNamed hn
  have hinitY : kY.init = .initialized := Cond.initialized_spec (findClass_of_methodNamed hn) hkY h3
  have h : At U g.method c below := by rw [hg]; exact X.here
  have hlocals9 : W9 + (maxL + 11) + (headSpec ws rm).room.locals ≤ R.locals := hlocals
  have happ : (headSpec ws rm).appliesLoose y e.platform (U.calling g mk a) = true :=
    Spec.appliesLoose_calling (g := g) h hdg hn hkY hinitY
      (X.room_calling (g := g) (R' := (headSpec ws rm).room) hsize hmY hcY hframes (by rw [hlY]; omega) h4 h5) h1
  obtain ⟨mid, hmid⟩ := h.above
  have hfr : (U.setTop g).frames = (.java g :: mid) ++ below := by rw [State.frames_setTop' g h.top, hmid]; rfl
  obtain ⟨o, s₂, hsteps, -, hend, hq⟩ := Steps.callFree hM p X.admits X.cas X.clock (acts := []) hfr happ hPc trivial
  have hq' : vx_Q Qc XC mc ms free a (U.calling g mk a) o s₂ := hq
  rw [State.frames_setTop' g h.top] at hend
  obtain ⟨g₀, hg0⟩ := Option.isSome_iff_exists.mp h.top
  obtain ⟨r, hr⟩ := State.topJava?_eq_some.mp hg0
  have hr' : (({ U with heap := s₂.heap, slotsUsed := s₂.slotsUsed } : State).setVm s₂.vm).frames = .java g₀ :: r := hr
  rcases hq' with ⟨hqc, L, hfe, hL⟩ | ⟨q, rfl, E, ce, L, hx, hce, hcv, hcl, hW₂, hsm, hL⟩
  · obtain ⟨⟨v, rfl⟩, hW₂, e2, q2, q3, q4, q5, q6⟩ := id hfe
    have e3 : s₂ = ({ (U.calling g mk a).setFrames s₂.frames with heap := s₂.heap, slotsUsed := s₂.slotsUsed } : State).setVm s₂.vm := by
      have : s₂ = ({ s₂ with vm := (U.calling g mk a).vm } : State).setVm s₂.vm := rfl
      rw [e2] at this
      exact this
    obtain ⟨c₂, i₂, len₂, hc₂, hd₂, hf₂⟩ := hend
    have hW' : U.WarmedH s₂.vm := hW₂
    have hcc : c₂ = c := by
      have h1 : s₂.code? g.method = U.code? g.method := by
        rw [State.code?_eq, State.code?_eq, hW'.alike.method?]
      exact Option.some.inj (hc₂.symm.trans (h1.trans h.code))
    subst hcc
    have hlen : len₂ = len := by rw [hdg] at hd₂; cases hd₂; rfl
    subst hlen
    have hs₂ : s₂ = (({ U with heap := s₂.heap, slotsUsed := s₂.slotsUsed } : State).setVm s₂.vm).setTop { g with pc := g.pc + len₂, stack := v.toList ++ g.stack } := by
      refine e3.trans ?_
      rw [hf₂, State.calling_eq h.top, State.setFrames_setFrames, State.setTop_of_frames _ hr', hr]
      rfl
    have hsame : U.sameButNew ({ U with heap := s₂.heap, slotsUsed := s₂.slotsUsed } : State) L mc ms := by
      refine ⟨?_, q2, q3, q4, q5, q6⟩
      obtain ⟨t, ht, -⟩ := State.frames_cons hr
      show ({ U with heap := s₂.heap, slotsUsed := s₂.slotsUsed } : State) = { U.setFrames U.frames with heap := s₂.heap, slotsUsed := s₂.slotsUsed }
      rw [State.setFrames_self ht]
    subst hg
    refine Or.inl ⟨v, ⟨(({ U with heap := s₂.heap, slotsUsed := s₂.slotsUsed } : State).setVm s₂.vm), Ls ++ L, c0 + mc, s0 + ms⟩,
      ⟨X.admits, X.cas, X.clock, X.frames, X.room, X.hears, X.method, X.code, (X.here.setHeapUsed s₂.heap s₂.slotsUsed).setVm hW'.alike, X.tail, State.WarmedH.trans X.warmed hW', X.limits, X.bytes, X.same.trans (hsame.setVm s.vm)⟩,
      ⟨g, mk, s₂, L, rfl, rfl, hqc, rfl, hL, rfl, rfl⟩, ?_⟩
    show Steps p.tables e below _ ((({ U with heap := s₂.heap, slotsUsed := s₂.slotsUsed } : State).setVm s₂.vm).setTop { g with pc := g.pc + len₂, stack := v.toList ++ g.stack })
    rw [← hs₂]
    exact hsteps
  · obtain ⟨e2, q2, q3, q4, q5, q6⟩ := id hsm
    have e3 : s₂ = ({ (U.calling g mk a).setFrames s₂.frames with heap := s₂.heap, slotsUsed := s₂.slotsUsed } : State).setVm s₂.vm := by
      have : s₂ = ({ s₂ with vm := (U.calling g mk a).vm } : State).setVm s₂.vm := rfl
      rw [e2] at this
      exact this
    have hf₂ : s₂.frames = .throwing q :: .java g :: U.frames.tail := hend
    have hW' : U.WarmedH s₂.vm := hW₂
    have hs₂ : s₂ = ((({ U with heap := s₂.heap, slotsUsed := s₂.slotsUsed } : State).setVm s₂.vm).setTop g).pushFrame (.throwing q) := by
      refine e3.trans ?_
      rw [hf₂, State.calling_eq h.top, State.setFrames_setFrames, State.pushFrame, State.frames_setTop _ hr', State.setTop_of_frames _ hr', State.setFrames_setFrames, hr]
      rfl
    have hsame : U.sameButNew ({ U with heap := s₂.heap, slotsUsed := s₂.slotsUsed } : State) L mc ms := by
      refine ⟨?_, q2, q3, q4, q5, q6⟩
      obtain ⟨t, ht, -⟩ := State.frames_cons hr
      show ({ U with heap := s₂.heap, slotsUsed := s₂.slotsUsed } : State) = { U.setFrames U.frames with heap := s₂.heap, slotsUsed := s₂.slotsUsed }
      rw [State.setFrames_self ht]
    subst hg
    refine Or.inr ⟨q, ⟨(({ U with heap := s₂.heap, slotsUsed := s₂.slotsUsed } : State).setVm s₂.vm), Ls ++ L, c0 + mc, s0 + ms⟩,
      ⟨X.admits, X.cas, X.clock, X.frames, X.room, X.hears, X.method, X.code, (X.here.setHeapUsed s₂.heap s₂.slotsUsed).setVm hW'.alike, X.tail, State.WarmedH.trans X.warmed hW', X.limits, X.bytes, X.same.trans (hsame.setVm s.vm)⟩,
      ⟨g, mk, s₂, L, E, ce, rfl, rfl, hx, hce, hcv, hcl, rfl, hL, rfl, rfl⟩, ?_⟩
    show Steps p.tables e below _ (((({ U with heap := s₂.heap, slotsUsed := s₂.slotsUsed } : State).setVm s₂.vm).setTop g).pushFrame (.throwing q))
    rw [← hs₂]
    exact hsteps
end
variable {p : Program} {l : Launch} {e : Env} {R : Room} {s : State} {m : MethodId} {args : Array Value} {below : List Frame} {meth : Method} {c : Code} {T : State} {H : Heap} {locs : List Loc} {cells slots : Nat}
theorem vx_callVX (X : Stand p l e R s m args below meth c T locs cells slots) (hexec : p.tables.exec = Jvm.exec) {own C : String} {index : Nat} {y : MethodName} {bytes : ByteArray} {maxL : Nat} {ret : Option FieldType} {hh : List (Nat × Nat × Nat × Nat)}
    (hown : s.vm.findClass own = some m.cls) (hlink : (Cond.methodLink own index y).before args s = true) (hinst : (Cond.instanceMethod y).before args s = true) (hsel : (Cond.selects C y y).before args s = true)
    (hcode : (Cond.codeWith y bytes maxL ret hh).before args s = true) (hy : y.cls ≠ "java/lang/invoke/MethodHandle" ∧ y.cls ≠ "java/lang/invoke/VarHandle")
    {W9 : Nat} {Pre : Pt → Array Value → Prop} {Post : Pt → Array Value → Option Value → Pt → Prop} {PostX : Pt → Array Value → Addr → Pt → Prop} (hK : vx_Back l R p e below s args y 3 W9 Pre Post PostX)
    {b : Addr} {cellB : Cell} (hcell : T.heap[b]? = some cellB) (hobj : cellB.vm.isStatics = false) (hcls : s.vm.findClass C = some cellB.cls)
    {g : JFrame} (hg : g.method = m) (hsize : g.locals.size = c.maxLocals) {argsL rest : List Value} (hlen : ∀ sig, parseMethodDescriptor y.desc = some sig → argsL.length = sig.parameters.length)
    (hstack : g.stack = argsL.reverse ++ .ref b :: rest) (hW : 2 * g.monitorRoom + (rest.map fun v => v.category).sum ≤ W9) (hdg : decode c.code g.pc = .ok (.invokevirtual index, 3))
    (hpre : ∀ vm₁, s.WarmedH vm₁ → Pre ⟨T.setVm vm₁, locs, cells, slots⟩ (Value.ref b :: argsL).toArray) :
    (∃ (v : Option Value) (vm₁ : Vm) (B : Pt), s.WarmedH vm₁ ∧ Stand p l e R s m args below meth c B.U B.locs B.cells B.slots ∧ Post ⟨T.setVm vm₁, locs, cells, slots⟩ (Value.ref b :: argsL).toArray v B ∧
      ∀ target, Steps p.tables e below (B.U.setTop { g with pc := g.pc + 3, stack := v.toList ++ rest }) target → Steps p.tables e below (T.setTop g) target) ∨
    (∃ (q : Addr) (vm₁ : Vm) (B : Pt), s.WarmedH vm₁ ∧ Stand p l e R s m args below meth c B.U B.locs B.cells B.slots ∧ PostX ⟨T.setVm vm₁, locs, cells, slots⟩ (Value.ref b :: argsL).toArray q B ∧
      Steps p.tables e below (T.setTop g) ((B.U.setTop { g with stack := rest }).pushFrame (.throwing q))) := by
  obtain ⟨mk, methM, hnamed, hmethM, hstM, habM⟩ := Cond.instanceMethod_spec hinst
  obtain ⟨m8, methM', cM, hn8, hmethM', -, -, -, -, -, -, hsigM⟩ := Cond.codeWith_spec hcode
  cases Option.some.inj (hn8.symm.trans hnamed)
  cases hmethM.symm.trans hmethM'
  obtain ⟨c2, r2, m2, q1, q2, q3, q4, kP, hkP, hkPi⟩ := Cond.selects_spec hsel
  cases hcls.symm.trans q1
  cases (State.methodFound?_of_named hnamed hy).symm.trans q2
  cases hnamed.symm.trans q3
  have hselP : selectMethod e.platform s.vm cellB.cls mk = .method mk := by rw [Launch.admits_selectMethod X.admits]; exact q4
  obtain ⟨vm₁, X₁, hstep₁⟩ := X.invokevirtual hexec hown hlink hnamed hmethM hstM hkP hkPi hy (a := b) (cell := cellB) hcell
    (fun z h => by rw [h] at hobj; cases hobj) hselP hmethM habM hkP hkPi (g := g) hg (argsL := argsL) (rest := rest) (hlen _ hsigM) hstack hdg
  rcases hK m meth c ⟨T.setVm vm₁, locs, cells, slots⟩ { g with stack := rest } (.invokevirtual index) mk (Value.ref b :: argsL).toArray X₁ hg hsize hdg hW (X₁.named hnamed) (hpre vm₁ X₁.warmed) with ⟨v, B, X', hpost, hsteps⟩ | ⟨q, B, X', hpost, hsteps⟩
  · exact Or.inl ⟨v, vm₁, B, X₁.warmed, X', hpost, fun target h => hstep₁ _ fun acts => by rw [doInvoke_state]; exact hsteps.trans h⟩
  · exact Or.inr ⟨q, vm₁, B, X₁.warmed, X', hpost, hstep₁ _ fun acts => by rw [doInvoke_state]; exact hsteps⟩
theorem vx_callSX (X : Stand p l e R s m args below meth c T locs cells slots) (hexec : p.tables.exec = Jvm.exec) {own : String} {index : Nat} {y : MethodName} {bytes : ByteArray} {maxL : Nat} {ret : Option FieldType} {hh : List (Nat × Nat × Nat × Nat)}
    (hown : s.vm.findClass own = some m.cls) (hlink : (Cond.methodLink own index y).before args s = true) (hstat : (Cond.static y).before args s = true) (hinit : (Cond.initialized y.cls).before args s = true)
    (hcode : (Cond.codeWith y bytes maxL ret hh).before args s = true) (hy : y.cls ≠ "java/lang/invoke/MethodHandle" ∧ y.cls ≠ "java/lang/invoke/VarHandle")
    {W9 : Nat} {Pre : Pt → Array Value → Prop} {Post : Pt → Array Value → Option Value → Pt → Prop} {PostX : Pt → Array Value → Addr → Pt → Prop} (hK : vx_Back l R p e below s args y 3 W9 Pre Post PostX)
    {g : JFrame} (hg : g.method = m) (hsize : g.locals.size = c.maxLocals) {argsL rest : List Value} (hlen : ∀ sig, parseMethodDescriptor y.desc = some sig → argsL.length = sig.parameters.length)
    (hstack : g.stack = argsL.reverse ++ rest) (hW : 2 * g.monitorRoom + (rest.map fun v => v.category).sum ≤ W9) (hdg : decode c.code g.pc = .ok (.invokestatic index, 3))
    (hpre : ∀ vm₁, s.WarmedH vm₁ → Pre ⟨T.setVm vm₁, locs, cells, slots⟩ argsL.toArray) :
    (∃ (v : Option Value) (vm₁ : Vm) (B : Pt), s.WarmedH vm₁ ∧ Stand p l e R s m args below meth c B.U B.locs B.cells B.slots ∧ Post ⟨T.setVm vm₁, locs, cells, slots⟩ argsL.toArray v B ∧
      ∀ target, Steps p.tables e below (B.U.setTop { g with pc := g.pc + 3, stack := v.toList ++ rest }) target → Steps p.tables e below (T.setTop g) target) ∨
    (∃ (q : Addr) (vm₁ : Vm) (B : Pt), s.WarmedH vm₁ ∧ Stand p l e R s m args below meth c B.U B.locs B.cells B.slots ∧ PostX ⟨T.setVm vm₁, locs, cells, slots⟩ argsL.toArray q B ∧
      Steps p.tables e below (T.setTop g) ((B.U.setTop { g with stack := rest }).pushFrame (.throwing q))) := by
  obtain ⟨mk, methM, cM, hnamed, hmethM, -, -, -, -, -, -, hsigM⟩ := Cond.codeWith_spec hcode
  have hstatic : methM.isStatic = true := Cond.static_spec hnamed hmethM hstat
  obtain ⟨kP, hkP, -⟩ := className_of_methodNamed hnamed
  have hinitP : kP.init = .initialized := Cond.initialized_spec (findClass_of_methodNamed hnamed) hkP hinit
  obtain ⟨vm₁, X₁, hstep₁⟩ := X.invokestatic hexec hown hlink hnamed hmethM hstatic hkP hinitP hy (g := g) hg (argsL := argsL) (rest := rest) (hlen _ hsigM) hstack hdg
  rcases hK m meth c ⟨T.setVm vm₁, locs, cells, slots⟩ { g with stack := rest } (.invokestatic index) mk argsL.toArray X₁ hg hsize hdg hW (X₁.named hnamed) (hpre vm₁ X₁.warmed) with ⟨v, B, X', hpost, hsteps⟩ | ⟨q, B, X', hpost, hsteps⟩
  · exact Or.inl ⟨v, vm₁, B, X₁.warmed, X', hpost, fun target h => hstep₁ _ fun acts => by rw [doInvoke_state]; exact hsteps.trans h⟩
  · exact Or.inr ⟨q, vm₁, B, X₁.warmed, X', hpost, hstep₁ _ fun acts => by rw [doInvoke_state]; exact hsteps⟩
theorem vx_callVW (X : Stand p l e R s m args below meth c T locs cells slots) (hexec : p.tables.exec = Jvm.exec) {own C : String} {index : Nat} {y : MethodName} {bytes : ByteArray} {maxL : Nat} {ret : Option FieldType} {hh : List (Nat × Nat × Nat × Nat)}
    (hown : s.vm.findClass own = some m.cls) (hlink : (Cond.methodLink own index y).before args s = true) (hinst : (Cond.instanceMethod y).before args s = true) (hsel : (Cond.selects C y y).before args s = true)
    (hcode : (Cond.codeWith y bytes maxL ret hh).before args s = true) (hy : y.cls ≠ "java/lang/invoke/MethodHandle" ∧ y.cls ≠ "java/lang/invoke/VarHandle")
    {W9 : Nat} {Pre : Pt → Array Value → Prop} {Post : Pt → Array Value → Option Value → Pt → Prop} (hK : Back l R p e below s args y 3 W9 Pre Post)
    {b : Addr} {cellB : Cell} (hcell : T.heap[b]? = some cellB) (hobj : cellB.vm.isStatics = false) (hcls : s.vm.findClass C = some cellB.cls)
    {g : JFrame} (hg : g.method = m) (hsize : g.locals.size = c.maxLocals) {argsL rest : List Value} (hlen : ∀ sig, parseMethodDescriptor y.desc = some sig → argsL.length = sig.parameters.length)
    (hstack : g.stack = argsL.reverse ++ .ref b :: rest) (hW : 2 * g.monitorRoom + (rest.map fun v => v.category).sum ≤ W9) (hdg : decode c.code g.pc = .ok (.invokevirtual index, 3))
    (hpre : ∀ vm₁, s.WarmedH vm₁ → Pre ⟨T.setVm vm₁, locs, cells, slots⟩ (Value.ref b :: argsL).toArray) :
    ∃ (v : Option Value) (vm₁ : Vm) (B : Pt), s.WarmedH vm₁ ∧ Stand p l e R s m args below meth c B.U B.locs B.cells B.slots ∧ Post ⟨T.setVm vm₁, locs, cells, slots⟩ (Value.ref b :: argsL).toArray v B ∧
      ∀ target, Steps p.tables e below (B.U.setTop { g with pc := g.pc + 3, stack := v.toList ++ rest }) target → Steps p.tables e below (T.setTop g) target := by
  obtain ⟨mk, methM, hnamed, hmethM, hstM, habM⟩ := Cond.instanceMethod_spec hinst
  obtain ⟨m8, methM', cM, hn8, hmethM', -, -, -, -, -, -, hsigM⟩ := Cond.codeWith_spec hcode
  cases Option.some.inj (hn8.symm.trans hnamed)
  cases hmethM.symm.trans hmethM'
  obtain ⟨c2, r2, m2, q1, q2, q3, q4, kP, hkP, hkPi⟩ := Cond.selects_spec hsel
  cases hcls.symm.trans q1
  cases (State.methodFound?_of_named hnamed hy).symm.trans q2
  cases hnamed.symm.trans q3
  have hselP : selectMethod e.platform s.vm cellB.cls mk = .method mk := by rw [Launch.admits_selectMethod X.admits]; exact q4
  obtain ⟨vm₁, X₁, hstep₁⟩ := X.invokevirtual hexec hown hlink hnamed hmethM hstM hkP hkPi hy (a := b) (cell := cellB) hcell
    (fun z h => by rw [h] at hobj; cases hobj) hselP hmethM habM hkP hkPi (g := g) hg (argsL := argsL) (rest := rest) (hlen _ hsigM) hstack hdg
  obtain ⟨v, B, X', hpost, hsteps⟩ := hK m meth c ⟨T.setVm vm₁, locs, cells, slots⟩ { g with stack := rest } (.invokevirtual index) mk (Value.ref b :: argsL).toArray X₁ hg hsize hdg hW (X₁.named hnamed) (hpre vm₁ X₁.warmed)
  exact ⟨v, vm₁, B, X₁.warmed, X', hpost, fun target h => hstep₁ _ fun acts => by rw [doInvoke_state]; exact hsteps.trans h⟩
abbrev vx_CVW (R : Room) (s : State) (args : Array Value) (own C : String) (index : Nat) (y : MethodName) (bytes : ByteArray) (maxL : Nat) (ret : Option FieldType) (hh : List (Nat × Nat × Nat × Nat)) (ws : List Cond) (rm : Room) (mc ms n : Nat) : Prop :=
  (rm.cells = mc ∧ rm.slots = ms ∧ rm.frames + 1 ≤ R.frames ∧ 8 + (maxL + 11) + rm.locals ≤ R.locals ∧ (∀ w ∈ ws, ∀ (a' : Array Value) (U : State), s.WarmedH U.vm → w.before a' U = true) ∧ Cond.codeWith y bytes maxL ret hh ∈ ws) ∧
  (Cond.codeWith y bytes maxL ret hh).before args s = true ∧ (Cond.initialized y.cls).before args s = true ∧ (y.cls ≠ "java/lang/invoke/MethodHandle" ∧ y.cls ≠ "java/lang/invoke/VarHandle") ∧
  (∀ sig, parseMethodDescriptor y.desc = some sig → n = sig.parameters.length) ∧ (Cond.methodLink own index y).before args s = true ∧ (Cond.instanceMethod y).before args s = true ∧ (Cond.selects C y y).before args s = true
theorem vx_cwVW {own C : String} {index maxL mc ms : Nat} {y : MethodName} {bytes : ByteArray} {ret : Option FieldType} {hh : List (Nat × Nat × Nat × Nat)} {Ts ws ws' : List Cond} {rm : Room} (n : Nat) (ht : ∀ w ∈ Ts, w.before args s = true) (hT : GoodIn Ts (wsV own index C y ws)) (hw : ws = Cond.codeWith y bytes maxL ret hh :: ws') (hrc : rm.cells = mc) (hrs : rm.slots = ms)
    (hd : y.cls = C ∧ y.cls ≠ "java/lang/invoke/MethodHandle" ∧ y.cls ≠ "java/lang/invoke/VarHandle" ∧ (parseMethodDescriptor y.desc).map (fun d => d.parameters.length) = some n) (hR : rm.frames + 1 ≤ R.frames ∧ 8 + (maxL + 11) + rm.locals ≤ R.locals) :
    vx_CVW R s args own C index y bytes maxL ret hh ws rm mc ms n := by
  obtain ⟨hC, hd⟩ := hd
  subst hC
  have ok : ∀ w ∈ wsV own index y.cls y ws, w.before args s = true := fun w h => ht w (hT w h).1
  have hG : GoodIn Ts ws := fun w h => hT w (by unfold wsV; exact List.mem_append_right _ h)
  have hc : Cond.codeWith y bytes maxL ret hh ∈ ws := by rw [hw]; exact List.mem_cons_self
  refine ⟨⟨hrc, hrs, hR.1, hR.2, pay_in ht hG, hc⟩, ht _ (hG _ hc).1, ok _ (by simp [wsV]), ⟨hd.1, hd.2.1⟩, fun sig h => ?_, ok _ (by simp [wsV]), ok _ (by simp [wsV]), ok _ (by simp [wsV])⟩
  have h2 := hd.2.2
  rw [h] at h2
  exact (Option.some.inj h2).symm
theorem vx_runVW {y : MethodName} {bytes cc : ByteArray} {maxL nL mc ms n index : Nat} {ret : Option FieldType} {hh : List (Nat × Nat × Nat × Nat)} {ws : List Cond} {rm : Room} {Pc : Array Value → State → Prop} {Qc : Array Value → State → Outcome → State → Prop} {free : Addr → Prop} {Ts : List Cond} {own C : String} {b : Addr} {As rest : List Value} {g : JFrame}
    (S : CallFix p m c cc nL s args Ts own) (hM : Met l y ws rm Pc Qc mc ms free) (cw : vx_CVW R s args own C index y bytes maxL ret hh ws rm mc ms n) (hp : PreV s H C b Pc As)
    (hg : g.method = m) (hn : As.length = n) (hsize : g.locals.size = nL) (hstack : g.stack = As.reverse ++ .ref b :: rest) (hW : 2 * g.monitorRoom + (rest.map fun v => v.category).sum ≤ 8) (hdg : decode cc g.pc = .ok (.invokevirtual index, 3)) (hf : cells + mc ≤ R.cells ∧ slots + ms ≤ R.slots) :
    va_Run p l e R s m args below meth c H locs cells slots mc ms g rest (Qc (Value.ref b :: As).toArray) free := by
  obtain ⟨⟨hrc, hrs, hfr, hlo, hws, hcw⟩, hcode, hini, hy, hlen, hl, hin, hse⟩ := cw
  have hK : Back l R p e below s args y 3 8 (PreOf R mc ms Pc) (PostOf Qc mc ms free) := va_backW (hh := hh) (bytes := bytes) (maxL := maxL) (ret := ret) hM hp.1 hrc hrs hfr hlo hws hcw (fun a' U hW => word_at hW (Or.inl (by first | rfl | simp [Cond.onTables, Cond.keeps, Cond.steady])) hini)
  obtain ⟨hx, hb, hml, ho, -⟩ := S
  obtain ⟨-, ⟨cellB, hcB, hoB, hclB⟩, hPc⟩ := hp
  intro T hT X
  obtain ⟨v, vm₁, ⟨U', l2, c2, s2⟩, hW₁, X', ⟨g', mk, t, L, e1, e2, hq, h1, hL, h2, h3⟩, st⟩ := vx_callVW X hx (C := C) (hh := hh) (bytes := bytes) (maxL := maxL) (ret := ret) ho hl hin hse hcode hy hK (by rw [hT]; exact hcB) hoB hclB hg (hsize.trans hml.symm) (argsL := As) (rest := rest) (fun sig h => hn.trans (hlen sig h)) hstack hW (by rw [hb]; exact hdg)
    (fun vm₁ hW₁ => ⟨hf.1, hf.2, hPc (T.setVm vm₁) hT hW₁⟩)
  dsimp only [Pt.U, Pt.locs, Pt.cells, Pt.slots] at X' e1 e2 h1 h2 h3 st
  subst h1; subst h2; subst h3
  exact ⟨v, (T.setVm vm₁).calling g' mk (Value.ref b :: As).toArray, t, U', L, hT, X', hL, e1, e2, hq, st⟩
section
variable {y : MethodName} {bytes cc : ByteArray} {maxL nL mc ms n index : Nat} {ret : Option FieldType} {ws : List Cond} {rm : Room} {Pc : Array Value → State → Prop} {Qc : Array Value → State → Outcome → State → Prop} {XC : String → State → State → Prop} {free : Addr → Prop} {Ts : List Cond} {own C : String} {b : Addr} {As rest : List Value} {g : JFrame}
theorem vx_runVX {hh : List (Nat × Nat × Nat × Nat)} (S : CallFix p m c cc nL s args Ts own) (hM : vx_Met l y ws rm Pc Qc XC mc ms free) (cw : vx_CVW R s args own C index y bytes maxL ret hh ws rm mc ms n) (hp : PreV s H C b Pc As)
    (hg : g.method = m) (hn : As.length = n) (hsize : g.locals.size = nL) (hstack : g.stack = As.reverse ++ .ref b :: rest) (hW : 2 * g.monitorRoom + (rest.map fun v => v.category).sum ≤ 8) (hdg : decode cc g.pc = .ok (.invokevirtual index, 3)) (hf : cells + mc ≤ R.cells ∧ slots + ms ≤ R.slots) :
    vx_Run p l e R s m args below meth c H locs cells slots mc ms g rest (Qc (Value.ref b :: As).toArray) XC free := by
  obtain ⟨⟨hrc, hrs, hfr, hlo, hws, hcw⟩, hcode, hini, hy, hlen, hl, hin, hse⟩ := cw
  have hK : vx_Back l R p e below s args y 3 8 (PreOf R mc ms Pc) (PostOf Qc mc ms free) (vx_Post XC mc ms free) := vx_backW (hh := hh) (bytes := bytes) (maxL := maxL) (ret := ret) hM hp.1 hrc hrs hfr hlo hws hcw (fun a' U hW => word_at hW (Or.inl (by first | rfl | simp [Cond.onTables, Cond.keeps, Cond.steady])) hini)
  obtain ⟨hx, hb, hml, ho, -⟩ := S
  obtain ⟨-, ⟨cellB, hcB, hoB, hclB⟩, hPc⟩ := hp
  intro T hT X
  rcases vx_callVX X hx (C := C) (hh := hh) (bytes := bytes) (maxL := maxL) (ret := ret) ho hl hin hse hcode hy hK (by rw [hT]; exact hcB) hoB hclB hg (hsize.trans hml.symm) (argsL := As) (rest := rest) (fun sig h => hn.trans (hlen sig h)) hstack hW (by rw [hb]; exact hdg)
    (fun vm₁ hW₁ => ⟨hf.1, hf.2, hPc (T.setVm vm₁) hT hW₁⟩) with ⟨v, vm₁, ⟨U', l2, c2, s2⟩, hW₁, X', ⟨g', mk, t, L, e1, e2, hq, h1, hL, h2, h3⟩, st⟩ | ⟨q, vm₁, ⟨U', l2, c2, s2⟩, hW₁, X', ⟨g', mk, t, L, E, ce, e1, e2, hq, hce, hcv, hcl, h1, hL, h2, h3⟩, st⟩
  · dsimp only [Pt.U, Pt.locs, Pt.cells, Pt.slots] at X' e1 e2 h1 h2 h3 st
    subst h1; subst h2; subst h3
    exact Or.inl ⟨v, (T.setVm vm₁).calling g' mk (Value.ref b :: As).toArray, t, U', L, hT, X', hL, e1, e2, hq, st⟩
  · dsimp only [Pt.U, Pt.locs, Pt.cells, Pt.slots] at X' e1 e2 h1 h2 h3 st hcl
    subst h1; subst h2; subst h3
    exact Or.inr ⟨q, (T.setVm vm₁).calling g' mk (Value.ref b :: As).toArray, t, U', L, E, ce, hT, X', hL, e1, e2, hq, hce, hcv, vx_cls hW₁ hcl, st⟩
theorem vx_runSX {hh : List (Nat × Nat × Nat × Nat)} (S : CallFix p m c cc nL s args Ts own) (hM : vx_Met l y ws rm Pc Qc XC mc ms free) (cw : vx_CSW R s args own index y bytes maxL ret hh ws rm mc ms n) (hp : PreS s H Pc As)
    (hg : g.method = m) (hn : As.length = n) (hsize : g.locals.size = nL) (hstack : g.stack = As.reverse ++ rest) (hW : 2 * g.monitorRoom + (rest.map fun v => v.category).sum ≤ 8) (hdg : decode cc g.pc = .ok (.invokestatic index, 3)) (hf : cells + mc ≤ R.cells ∧ slots + ms ≤ R.slots) :
    vx_Run p l e R s m args below meth c H locs cells slots mc ms g rest (Qc As.toArray) XC free := by
  obtain ⟨⟨hrc, hrs, hfr, hlo, hws, hcw⟩, hcode, hini, hy, hlen, hl, hstt⟩ := cw
  have hK : vx_Back l R p e below s args y 3 8 (PreOf R mc ms Pc) (PostOf Qc mc ms free) (vx_Post XC mc ms free) := vx_backW (hh := hh) (bytes := bytes) (maxL := maxL) (ret := ret) hM hp.1 hrc hrs hfr hlo hws hcw (fun a' U hW => word_at hW (Or.inl (by first | rfl | simp [Cond.onTables, Cond.keeps, Cond.steady])) hini)
  obtain ⟨hx, hb, hml, ho, -⟩ := S
  intro T hT X
  rcases vx_callSX X hx (hh := hh) (bytes := bytes) (maxL := maxL) (ret := ret) ho hl hstt hini hcode hy hK hg (hsize.trans hml.symm) (argsL := As) (rest := rest) (fun sig h => hn.trans (hlen sig h)) hstack hW (by rw [hb]; exact hdg)
    (fun vm₁ hW₁ => ⟨hf.1, hf.2, hp.2 (T.setVm vm₁) hT hW₁⟩) with ⟨v, vm₁, ⟨U', l2, c2, s2⟩, hW₁, X', ⟨g', mk, t, L, e1, e2, hq, h1, hL, h2, h3⟩, st⟩ | ⟨q, vm₁, ⟨U', l2, c2, s2⟩, hW₁, X', ⟨g', mk, t, L, E, ce, e1, e2, hq, hce, hcv, hcl, h1, hL, h2, h3⟩, st⟩
  · dsimp only [Pt.U, Pt.locs, Pt.cells, Pt.slots] at X' e1 e2 h1 h2 h3 st
    subst h1; subst h2; subst h3
    exact Or.inl ⟨v, (T.setVm vm₁).calling g' mk As.toArray, t, U', L, hT, X', hL, e1, e2, hq, st⟩
  · dsimp only [Pt.U, Pt.locs, Pt.cells, Pt.slots] at X' e1 e2 h1 h2 h3 st hcl
    subst h1; subst h2; subst h3
    exact Or.inr ⟨q, (T.setVm vm₁).calling g' mk As.toArray, t, U', L, E, ce, hT, X', hL, e1, e2, hq, hce, hcv, vx_cls hW₁ hcl, st⟩
end
end VXH
theorem vx_ofWH {l : Launch} {y : MethodName} {ws ws' : List Cond} {rm : Room} {Pc : Array Value → State → Prop} {Qc : Array Value → State → Outcome → State → Prop} {XC : String → State → State → Prop} {mc ms : Nat} {free : Addr → Prop} {cc : ByteArray} {maxL : Nat} {ret : Option FieldType} {hh : List (Nat × Nat × Nat × Nat)}
    (hy : plainName y.cls = true) (hw : ws = Cond.codeWith y cc maxL ret hh :: ws')
    (body : ∀ p e s m args below meth c s₁, BodyLoose p l y (headSpec ws rm) cc maxL ret e s m args below meth c s₁ → c.maxLocals = maxL → Pc args s →
      W p l e (headSpec ws rm).room s m args below meth c s.heap [] 0 0 (vx_MQ below Qc XC args s mc ms free) (entryFrame m args maxL)) : vx_Met l y ws rm Pc Qc XC mc ms free := by
  refine MetFree.of_bodyS (code := cc) (maxLocals := maxL) (ret := ret) hy ?_ ?_
  · intro args s m h hn
    obtain ⟨m9, meth, c, hn9, h1, h2, h3, h4, -, h5, h6, -⟩ := Cond.codeWith_spec (atoms_spec (ws := ws) h _ (by rw [hw]; exact List.mem_cons_self))
    cases hn.symm.trans hn9
    exact ⟨meth, c, h1, h2, h3, h4, h5, h6⟩
  · intro p e s m args below meth c s₁ B hml hP _
    have hh0 : s₁.heap = s.heap := by rw [B.state]; rfl
    obtain ⟨t, a1, o, b1, b2, b3⟩ := body p e s m args below meth c s₁ B hml hP s₁ hh0 (Stand.of_body B)
    exact ⟨t, o, a1, b1, b2, b3⟩
/-! ===== END ===== -/
end
section
/-! ===== BEGIN printed: names, fields, word lists, decode rows ===== -/
def RX0 : String := "RateFitter"
def TX0 : u_T := fun k => match k with
  | 0 => ("RateFitter", "factors", "[[I", true)
  | 1 => ("RateFitter", "rowLevels", "[[I", true)
  | 2 => ("RateFitter", "exposures", "[J", true)
  | 3 => ("RateFitter", "claims", "[J", true)
  | 4 => ("RateFitter", "losses", "[J", true)
  | 5 => ("RateFitter", "oldPremiums", "[I", true)
  | 6 => ("RateFitter", "live", "[Z", true)
  | 7 => ("RateFitter", "addedRows", "I", false)
  | 8 => ("RateFitter", "liveRows", "I", false)
  | 9 => ("RateFitter", "credibility", "I", false)
  | 10 => ("RateFitter", "cap", "I", false)
  | 11 => ("RateFitter", "spreadNow", "I", false)
  | 12 => ("RateFitter", "baseNow", "J", false)
  | 13 => ("RateFitter", "fittedLosses", "[J", true)
  | 14 => ("RateFitter", "groupStarts", "[I", true)
  | _ => ("RateFitter", "factorsBefore", "[I", true)
def tyX0 : Nat → FieldType := fun k => match k with
  | 0 => .array (.array .int)
  | 1 => .array (.array .int)
  | 2 => .array .long
  | 3 => .array .long
  | 4 => .array .long
  | 5 => .array .int
  | 6 => .array .boolean
  | 7 => .int
  | 8 => .int
  | 9 => .int
  | 10 => .int
  | 11 => .int
  | 12 => .long
  | 13 => .array .long
  | 14 => .array .int
  | _ => .array .int
abbrev wsX00 : List Cond := u_ws RX0 TX0 16
theorem nmX0 : ∀ a, a < 16 → ∀ b, b < 16 → a ≠ b → (TX0 a).2.1 ≠ (TX0 b).2.1 := by decide +kernel
theorem tyX0_ok : ∀ k, k < 16 → parseFieldDescriptor (TX0 k).2.2.1 = some (tyX0 k) := by decide +kernel
abbrev cX0_init : ByteArray := prog_1_method_1_code
def yX0_init : MethodName := ⟨RX0, "<init>", "()V"⟩
abbrev cX0_add : ByteArray := prog_1_method_2_code
def yX0_add : MethodName := ⟨RX0, "add", "(IIIIII)I"⟩
abbrev cX0_withdraw : ByteArray := prog_1_method_3_code
def yX0_withdraw : MethodName := ⟨RX0, "withdraw", "(I)I"⟩
abbrev cX0_setOld : ByteArray := prog_1_method_4_code
def yX0_setOld : MethodName := ⟨RX0, "setOld", "(II)I"⟩
abbrev cX0_setRules : ByteArray := prog_1_method_5_code
def yX0_setRules : MethodName := ⟨RX0, "setRules", "(II)I"⟩
abbrev cX0_setFactor : ByteArray := prog_1_method_6_code
def yX0_setFactor : MethodName := ⟨RX0, "setFactor", "(III)I"⟩
abbrev cX0_pass : ByteArray := prog_1_method_7_code
def yX0_pass : MethodName := ⟨RX0, "pass", "(I)I"⟩
abbrev cX0_settle : ByteArray := prog_1_method_8_code
def yX0_settle : MethodName := ⟨RX0, "settle", "()I"⟩
abbrev cX0_smooth : ByteArray := prog_1_method_9_code
def yX0_smooth : MethodName := ⟨RX0, "smooth", "(I)I"⟩
abbrev cX0_spread : ByteArray := prog_1_method_10_code
def yX0_spread : MethodName := ⟨RX0, "spread", "()I"⟩
abbrev cX0_rows : ByteArray := prog_1_method_11_code
def yX0_rows : MethodName := ⟨RX0, "rows", "()I"⟩
abbrev cX0_base : ByteArray := prog_1_method_12_code
def yX0_base : MethodName := ⟨RX0, "base", "()J"⟩
abbrev cX0_factor : ByteArray := prog_1_method_13_code
def yX0_factor : MethodName := ⟨RX0, "factor", "(II)I"⟩
abbrev cX0_fitted : ByteArray := prog_1_method_14_code
def yX0_fitted : MethodName := ⟨RX0, "fitted", "(I)J"⟩
abbrev cX0_toldSum : ByteArray := prog_1_method_15_code
def yX0_toldSum : MethodName := ⟨RX0, "toldSum", "(II)J"⟩
abbrev cX0_fittedSum : ByteArray := prog_1_method_16_code
def yX0_fittedSum : MethodName := ⟨RX0, "fittedSum", "(II)J"⟩
abbrev cX0_worst : ByteArray := prog_1_method_17_code
def yX0_worst : MethodName := ⟨RX0, "worst", "(I)J"⟩
abbrev cX0_premium : ByteArray := prog_1_method_18_code
def yX0_premium : MethodName := ⟨RX0, "premium", "(I)J"⟩
abbrev cX0_capped : ByteArray := prog_1_method_19_code
def yX0_capped : MethodName := ⟨RX0, "capped", "(I)J"⟩
abbrev cX0_lost : ByteArray := prog_1_method_20_code
def yX0_lost : MethodName := ⟨RX0, "lost", "()J"⟩
abbrev cX0_rankedAt : ByteArray := prog_1_method_21_code
def yX0_rankedAt : MethodName := ⟨RX0, "rankedAt", "(I)I"⟩
abbrev cX0_isWithin : ByteArray := prog_1_method_22_code
def yX0_isWithin : MethodName := ⟨RX0, "isWithin", "(III)Z"⟩
abbrev cX0_hasTrait : ByteArray := prog_1_method_23_code
def yX0_hasTrait : MethodName := ⟨RX0, "hasTrait", "(I)Z"⟩
abbrev cX0_hasLevel : ByteArray := prog_1_method_24_code
def yX0_hasLevel : MethodName := ⟨RX0, "hasLevel", "(II)Z"⟩
abbrev cX0_hasRow : ByteArray := prog_1_method_25_code
def yX0_hasRow : MethodName := ⟨RX0, "hasRow", "(I)Z"⟩
abbrev cX0_total : ByteArray := prog_1_method_26_code
def yX0_total : MethodName := ⟨RX0, "total", "([J)J"⟩
abbrev cX0_levelTotal : ByteArray := prog_1_method_27_code
def yX0_levelTotal : MethodName := ⟨RX0, "levelTotal", "([JII)J"⟩
abbrev cX0_cappedTotal : ByteArray := prog_1_method_28_code
def yX0_cappedTotal : MethodName := ⟨RX0, "cappedTotal", "()J"⟩
abbrev cX0_refit : ByteArray := prog_1_method_29_code
def yX0_refit : MethodName := ⟨RX0, "refit", "()V"⟩
abbrev cX0_fittedLoss : ByteArray := prog_1_method_30_code
def yX0_fittedLoss : MethodName := ⟨RX0, "fittedLoss", "(I)J"⟩
abbrev cX0_changedByRound : ByteArray := prog_1_method_31_code
def yX0_changedByRound : MethodName := ⟨RX0, "changedByRound", "()I"⟩
abbrev cX0_passOver : ByteArray := prog_1_method_32_code
def yX0_passOver : MethodName := ⟨RX0, "passOver", "(I)I"⟩
abbrev cX0_foundFactor : ByteArray := prog_1_method_33_code
def yX0_foundFactor : MethodName := ⟨RX0, "foundFactor", "(II)I"⟩
abbrev cX0_bounded : ByteArray := prog_1_method_34_code
def yX0_bounded : MethodName := ⟨RX0, "bounded", "(JJJ)J"⟩
abbrev cX0_lowestFallingLevel : ByteArray := prog_1_method_35_code
def yX0_lowestFallingLevel : MethodName := ⟨RX0, "lowestFallingLevel", "(I)I"⟩
abbrev cX0_joinToLevelAhead : ByteArray := prog_1_method_36_code
def yX0_joinToLevelAhead : MethodName := ⟨RX0, "joinToLevelAhead", "(II)V"⟩
abbrev cX0_groupMean : ByteArray := prog_1_method_37_code
def yX0_groupMean : MethodName := ⟨RX0, "groupMean", "(II)I"⟩
abbrev cX0_changedSinceBefore : ByteArray := prog_1_method_38_code
def yX0_changedSinceBefore : MethodName := ⟨RX0, "changedSinceBefore", "(I)I"⟩
abbrev cX0_newPremium : ByteArray := prog_1_method_39_code
def yX0_newPremium : MethodName := ⟨RX0, "newPremium", "(I)J"⟩
abbrev cX0_cappedPremium : ByteArray := prog_1_method_40_code
def yX0_cappedPremium : MethodName := ⟨RX0, "cappedPremium", "(I)J"⟩
abbrev cX0_placeOf : ByteArray := prog_1_method_41_code
def yX0_placeOf : MethodName := ⟨RX0, "placeOf", "(I)I"⟩
abbrev cX0_isAhead : ByteArray := prog_1_method_42_code
def yX0_isAhead : MethodName := ⟨RX0, "isAhead", "(II)Z"⟩
def RX1 : String := "RateFitterModel"
def TX1 : u_T := fun k => match k with
  | _ => ("", "", "", false)
def tyX1 : Nat → FieldType := fun k => match k with
  | _ => .int
abbrev wsX10 : List Cond := u_ws RX1 TX1 0
theorem nmX1 : ∀ a, a < 0 → ∀ b, b < 0 → a ≠ b → (TX1 a).2.1 ≠ (TX1 b).2.1 := by decide +kernel
theorem tyX1_ok : ∀ k, k < 0 → parseFieldDescriptor (TX1 k).2.2.1 = some (tyX1 k) := by decide +kernel
def RJx145de : String := "java/io/Serializable"
def TJx145de : u_T := fun k => match k with
  | _ => ("", "", "", false)
def tyJx145de : Nat → FieldType := fun k => match k with
  | _ => .int
abbrev wsJx145de0 : List Cond := u_ws RJx145de TJx145de 0
theorem nmJx145de : ∀ a, a < 0 → ∀ b, b < 0 → a ≠ b → (TJx145de a).2.1 ≠ (TJx145de b).2.1 := by decide +kernel
theorem tyJx145de_ok : ∀ k, k < 0 → parseFieldDescriptor (TJx145de k).2.2.1 = some (tyJx145de k) := by decide +kernel
def RJ9 : String := "java/lang/Math"
def TJ9 : u_T := fun k => match k with
  | _ => ("", "", "", false)
def tyJ9 : Nat → FieldType := fun k => match k with
  | _ => .int
abbrev wsJ90 : List Cond := u_ws RJ9 TJ9 0
theorem nmJ9 : ∀ a, a < 0 → ∀ b, b < 0 → a ≠ b → (TJ9 a).2.1 ≠ (TJ9 b).2.1 := by decide +kernel
theorem tyJ9_ok : ∀ k, k < 0 → parseFieldDescriptor (TJ9 k).2.2.1 = some (tyJ9 k) := by decide +kernel
abbrev cJ9_abs_067f4 : ByteArray := prog_8_method_61_code
def yJ9_abs_067f4 : MethodName := ⟨RJ9, "abs", "(J)J"⟩
abbrev cJ9_max_7cf53 : ByteArray := prog_8_method_65_code
def yJ9_max_7cf53 : MethodName := ⟨RJ9, "max", "(II)I"⟩
abbrev cJ9_max_f86c9 : ByteArray := prog_8_method_66_code
def yJ9_max_f86c9 : MethodName := ⟨RJ9, "max", "(JJ)J"⟩
abbrev cJ9_min_f86c9 : ByteArray := prog_8_method_70_code
def yJ9_min_f86c9 : MethodName := ⟨RJ9, "min", "(JJ)J"⟩
def RJ0 : String := "java/lang/String"
def TJ0 : u_T := fun k => match k with
  | _ => ("", "", "", false)
def tyJ0 : Nat → FieldType := fun k => match k with
  | _ => .int
abbrev wsJ00 : List Cond := u_ws RJ0 TJ0 0
theorem nmJ0 : ∀ a, a < 0 → ∀ b, b < 0 → a ≠ b → (TJ0 a).2.1 ≠ (TJ0 b).2.1 := by decide +kernel
theorem tyJ0_ok : ∀ k, k < 0 → parseFieldDescriptor (TJ0 k).2.2.1 = some (tyJ0 k) := by decide +kernel
def RJ7 : String := "java/util/Arrays"
def TJ7 : u_T := fun k => match k with
  | _ => ("", "", "", false)
def tyJ7 : Nat → FieldType := fun k => match k with
  | _ => .int
abbrev wsJ70 : List Cond := u_ws RJ7 TJ7 0
theorem nmJ7 : ∀ a, a < 0 → ∀ b, b < 0 → a ≠ b → (TJ7 a).2.1 ≠ (TJ7 b).2.1 := by decide +kernel
theorem tyJ7_ok : ∀ k, k < 0 → parseFieldDescriptor (TJ7 k).2.2.1 = some (tyJ7 k) := by decide +kernel
abbrev cJ7_fill_53178 : ByteArray := prog_12_method_103_code
def yJ7_fill_53178 : MethodName := ⟨RJ7, "fill", "([II)V"⟩
def RL : String := "RateFitterLaw"
abbrev cL_from : ByteArray := method_2_code
def yL_from : MethodName := ⟨RL, "from", "([III)I"⟩
abbrev cL_many : ByteArray := method_3_code
def yL_many : MethodName := ⟨RL, "many", "(I)I"⟩
abbrev cL_base : ByteArray := method_4_code
def yL_base : MethodName := ⟨RL, "base", "([I[I[I[I)J"⟩
abbrev cL_fitted : ByteArray := method_5_code
def yL_fitted : MethodName := ⟨RL, "fitted", "([I[I[IIJ)J"⟩
abbrev cL_sum : ByteArray := method_6_code
def yL_sum : MethodName := ⟨RL, "sum", "([I[I[I[I[I[I[IIII)J"⟩
abbrev cL_pass : ByteArray := method_7_code
def yL_pass : MethodName := ⟨RL, "pass", "([I[I[I[I[I[I[II)I"⟩
abbrev cL_smooth : ByteArray := method_8_code
def yL_smooth : MethodName := ⟨RL, "smooth", "([I[I[I[I[I[I[II)I"⟩
abbrev cL_capped : ByteArray := method_9_code
def yL_capped : MethodName := ⟨RL, "capped", "([I[I[I[I[I[I[II)J"⟩
abbrev cL_all : ByteArray := method_10_code
def yL_all : MethodName := ⟨RL, "all", "([I[I[I[I[I[I[IZ)J"⟩
abbrev cL_rowTold : ByteArray := method_11_code
def yL_rowTold : MethodName := ⟨RL, "rowTold", "(LRateFitter;II)J"⟩
abbrev cL_isRanked : ByteArray := method_12_code
def yL_isRanked : MethodName := ⟨RL, "isRanked", "(LRateFitter;[I[I[I[I[I[II)Z"⟩
abbrev cL_isTold : ByteArray := method_13_code
def yL_isTold : MethodName := ⟨RL, "isTold", "(LRateFitter;[I[I[I[I[I[I[I[I)Z"⟩
abbrev cL_acts : ByteArray := method_14_code
def yL_acts : MethodName := ⟨RL, "acts", "(LRateFitter;[I[I[I[I[I[I[I[III)Z"⟩
abbrev cL_holds : ByteArray := method_15_code
def yL_holds : MethodName := ⟨RL, "holds", "([I)Z"⟩
abbrev cL_isHeld : ByteArray := method_16_code
def yL_isHeld : MethodName := ⟨RL, "isHeld", "([I)Z"⟩
abbrev cL_law : ByteArray := code
def yL_law : MethodName := ⟨RL, "law", "([I)Z"⟩
def wsL_law0_r1 : List Cond := [Cond.methodLink RL 151 yL_isHeld, Cond.static yL_isHeld, Cond.initialized RL, Cond.codeWith yL_isHeld cL_isHeld 2 (some .boolean) [(0, 4, 5, 51), (0, 4, 8, 147), (0, 4, 11, 149)], Cond.classLink RL 51 "java/lang/IndexOutOfBoundsException", Cond.classLink RL 147 "java/lang/IllegalArgumentException", Cond.classLink RL 149 "java/lang/IllegalStateException", Cond.methodLink RL 143 yL_holds, Cond.static yL_holds, Cond.code yL_holds cL_holds 13 (some .boolean), Cond.classLink RL 38 RX0, Cond.instantiable RX0 16, Cond.initialized RX0, Cond.arrayClass .int, Cond.constant RL 134 (1000000000), Cond.methodLink RL 129 yX0_init, Cond.instanceMethod yX0_init, Cond.code yX0_init cX0_init 2 none, Cond.methodLink RX0 1 objectInit, Cond.instanceMethod objectInit, Cond.code objectInit ⟨#[0xb1]⟩ 1 none, Cond.classLink RX0 9 "[[I", Cond.fieldLink RX0 11 "RateFitter" "factors" "[[I", Cond.fieldLink RX0 14 "RateFitter" "rowLevels" "[[I"]
def wsL_law0_r2 : List Cond := [Cond.arrayClass .long, Cond.fieldLink RX0 17 "RateFitter" "exposures" "[J", Cond.fieldLink RX0 21 "RateFitter" "claims" "[J", Cond.fieldLink RX0 24 "RateFitter" "losses" "[J", Cond.fieldLink RX0 27 "RateFitter" "oldPremiums" "[I", Cond.arrayClass .boolean, Cond.fieldLink RX0 31 "RateFitter" "live" "[Z", Cond.fieldLink RX0 35 "RateFitter" "addedRows" "I", Cond.fieldLink RX0 39 "RateFitter" "liveRows" "I", Cond.fieldLink RX0 42 "RateFitter" "credibility" "I", Cond.fieldLink RX0 45 "RateFitter" "cap" "I", Cond.fieldLink RX0 48 "RateFitter" "spreadNow" "I", Cond.fieldLink RX0 51 "RateFitter" "baseNow" "J", Cond.fieldLink RX0 55 "RateFitter" "fittedLosses" "[J", Cond.fieldLink RX0 58 "RateFitter" "groupStarts" "[I", Cond.fieldLink RX0 61 "RateFitter" "factorsBefore" "[I", Cond.methodLink RX0 64 yJ7_fill_53178, Cond.static yJ7_fill_53178, Cond.initialized RJ7, Cond.code yJ7_fill_53178 cJ7_fill_53178 4 none, Cond.methodLink RL 85 yX0_rows, Cond.instanceMethod yX0_rows, Cond.selects RX0 yX0_rows yX0_rows, Cond.code yX0_rows cX0_rows 1 (some .int)]
def wsL_law0_r3 : List Cond := [Cond.methodLink RL 58 yX0_base, Cond.instanceMethod yX0_base, Cond.selects RX0 yX0_base yX0_base, Cond.code yX0_base cX0_base 1 (some .long), Cond.methodLink RL 116 yX0_settle, Cond.instanceMethod yX0_settle, Cond.selects RX0 yX0_settle yX0_settle, Cond.code yX0_settle cX0_settle 2 (some .int), Cond.methodLink RX0 126 yX0_changedByRound, Cond.instanceMethod yX0_changedByRound, Cond.selects RX0 yX0_changedByRound yX0_changedByRound, Cond.code yX0_changedByRound cX0_changedByRound 3 (some .int), Cond.methodLink RX0 122 yX0_passOver, Cond.instanceMethod yX0_passOver, Cond.selects RX0 yX0_passOver yX0_passOver, Cond.code yX0_passOver cX0_passOver 5 (some .int), Cond.fieldLink RX0 130 "RateFitter" "LEVELS" "[I", Cond.methodLink RX0 191 yX0_foundFactor, Cond.instanceMethod yX0_foundFactor, Cond.selects RX0 yX0_foundFactor yX0_foundFactor, Cond.code yX0_foundFactor cX0_foundFactor 12 (some .int), Cond.constantLong RX0 195 (100), Cond.constantLong RX0 197 (100000), Cond.methodLink RX0 165 yX0_levelTotal]
def wsL_law0_r4 : List Cond := [Cond.instanceMethod yX0_levelTotal, Cond.selects RX0 yX0_levelTotal yX0_levelTotal, Cond.code yX0_levelTotal cX0_levelTotal 7 (some .long), Cond.methodLink RX0 161 yX0_bounded, Cond.static yX0_bounded, Cond.code yX0_bounded cX0_bounded 6 (some .long), Cond.methodLink RX0 173 Lib.MathLoose.max_long.x, Cond.static Lib.MathLoose.max_long.x, Cond.initialized "java/lang/Math", Cond.code Lib.MathLoose.max_long.x Lib.MathLoose.max_long.code 4 (some .long), Cond.methodLink RX0 155 Lib.MathLoose.min_long.x, Cond.static Lib.MathLoose.min_long.x, Cond.code Lib.MathLoose.min_long.x Lib.MathLoose.min_long.code 4 (some .long), Cond.methodLink RX0 93 yX0_refit, Cond.instanceMethod yX0_refit, Cond.selects RX0 yX0_refit yX0_refit, Cond.code yX0_refit cX0_refit 4 none, Cond.constantLong RX0 147 (10000), Cond.methodLink RX0 149 yX0_total, Cond.instanceMethod yX0_total, Cond.selects RX0 yX0_total yX0_total, Cond.code yX0_total cX0_total 5 (some .long), Cond.methodLink RX0 188 yX0_fittedLoss, Cond.instanceMethod yX0_fittedLoss]
def wsL_law0_r5 : List Cond := [Cond.selects RX0 yX0_fittedLoss yX0_fittedLoss, Cond.code yX0_fittedLoss cX0_fittedLoss 5 (some .long), Cond.methodLink RL 130 yL_from, Cond.static yL_from, Cond.code yL_from cL_from 4 (some .int), Cond.constant RL 7 (156007), Cond.constant RL 8 (2147483647), Cond.methodLink RL 135 yL_acts, Cond.static yL_acts, Cond.code yL_acts cL_acts 19 (some .boolean), Cond.constant RL 93 (1000000), Cond.constantLong RL 53 (-5), Cond.constant RL 101 (3000000), Cond.constant RL 105 (99901), Cond.constantLong RL 9 (10000), Cond.constantLong RL 124 (1000000), Cond.methodLink RL 94 yX0_add, Cond.instanceMethod yX0_add, Cond.selects RX0 yX0_add yX0_add, Cond.code yX0_add cX0_add 8 (some .int), Cond.classLink RX0 74 "java/lang/IllegalArgumentException", Cond.initialized "java/lang/IllegalArgumentException", Cond.classLink RX0 88 "java/lang/IllegalStateException", Cond.initialized "java/lang/IllegalStateException"]
def wsL_law0_r6 : List Cond := [Cond.constant RX0 85 (1000000), Cond.methodLink RX0 70 yX0_hasLevel, Cond.static yX0_hasLevel, Cond.code yX0_hasLevel cX0_hasLevel 2 (some .boolean), Cond.methodLink RX0 117 yX0_hasTrait, Cond.static yX0_hasTrait, Cond.code yX0_hasTrait cX0_hasTrait 1 (some .boolean), Cond.methodLink RX0 81 yX0_isWithin, Cond.static yX0_isWithin, Cond.code yX0_isWithin cX0_isWithin 3 (some .boolean), Cond.methodLink RL 68 yL_rowTold, Cond.static yL_rowTold, Cond.codeWith yL_rowTold cL_rowTold 4 (some .long) [(0, 45, 46, 51)], Cond.methodLink RL 37 yX0_fitted, Cond.instanceMethod yX0_fitted, Cond.selects RX0 yX0_fitted yX0_fitted, Cond.code yX0_fitted cX0_fitted 2 (some .long), Cond.classLink RX0 100 "java/lang/IndexOutOfBoundsException", Cond.initialized "java/lang/IndexOutOfBoundsException", Cond.methodLink RX0 96 yX0_hasRow, Cond.instanceMethod yX0_hasRow, Cond.selects RX0 yX0_hasRow yX0_hasRow, Cond.code yX0_hasRow cX0_hasRow 2 (some .boolean), Cond.methodLink RL 42 yX0_premium]
def wsL_law0_r7 : List Cond := [Cond.instanceMethod yX0_premium, Cond.selects RX0 yX0_premium yX0_premium, Cond.code yX0_premium cX0_premium 2 (some .long), Cond.methodLink RX0 176 yX0_newPremium, Cond.instanceMethod yX0_newPremium, Cond.selects RX0 yX0_newPremium yX0_newPremium, Cond.code yX0_newPremium cX0_newPremium 2 (some .long), Cond.methodLink RL 45 yX0_capped, Cond.instanceMethod yX0_capped, Cond.selects RX0 yX0_capped yX0_capped, Cond.code yX0_capped cX0_capped 2 (some .long), Cond.methodLink RX0 180 yX0_cappedPremium, Cond.instanceMethod yX0_cappedPremium, Cond.selects RX0 yX0_cappedPremium yX0_cappedPremium, Cond.code yX0_cappedPremium cX0_cappedPremium 8 (some .long), Cond.methodLink RX0 202 Lib.Math.max.name, Cond.static Lib.Math.max.name, Cond.code Lib.Math.max.name Lib.Math.max.code 2 (some .int), Cond.methodLink RL 47 yX0_setOld, Cond.instanceMethod yX0_setOld, Cond.selects RX0 yX0_setOld yX0_setOld, Cond.code yX0_setOld cX0_setOld 4 (some .int), Cond.constant RX0 105 (10000000), Cond.methodLink RL 98 yX0_withdraw]
def wsL_law0_r8 : List Cond := [Cond.instanceMethod yX0_withdraw, Cond.selects RX0 yX0_withdraw yX0_withdraw, Cond.code yX0_withdraw cX0_withdraw 2 (some .int), Cond.methodLink RL 102 yX0_setRules, Cond.instanceMethod yX0_setRules, Cond.selects RX0 yX0_setRules yX0_setRules, Cond.code yX0_setRules cX0_setRules 4 (some .int), Cond.methodLink RL 21 yL_many, Cond.static yL_many, Cond.code yL_many cL_many 1 (some .int), Cond.methodLink RL 106 yX0_setFactor, Cond.instanceMethod yX0_setFactor, Cond.selects RX0 yX0_setFactor yX0_setFactor, Cond.code yX0_setFactor cX0_setFactor 5 (some .int), Cond.constant RX0 114 (100000), Cond.methodLink RL 110 yX0_pass, Cond.instanceMethod yX0_pass, Cond.selects RX0 yX0_pass yX0_pass, Cond.code yX0_pass cX0_pass 2 (some .int), Cond.methodLink RL 113 yL_pass, Cond.static yL_pass, Cond.code yL_pass cL_pass 21 (some .int), Cond.constantLong RL 29 (100), Cond.constantLong RL 31 (100000)]
def wsL_law0_r9 : List Cond := [Cond.methodLink RL 25 yL_sum, Cond.static yL_sum, Cond.code yL_sum cL_sum 16 (some .long), Cond.methodLink RL 11 yL_base, Cond.static yL_base, Cond.code yL_base cL_base 9 (some .long), Cond.methodLink RL 17 yL_fitted, Cond.static yL_fitted, Cond.code yL_fitted cL_fitted 12 (some .long), Cond.methodLink RL 119 yX0_smooth, Cond.instanceMethod yX0_smooth, Cond.selects RX0 yX0_smooth yX0_smooth, Cond.code yX0_smooth cX0_smooth 4 (some .int), Cond.methodLink RX0 133 yX0_lowestFallingLevel, Cond.instanceMethod yX0_lowestFallingLevel, Cond.selects RX0 yX0_lowestFallingLevel yX0_lowestFallingLevel, Cond.code yX0_lowestFallingLevel cX0_lowestFallingLevel 3 (some .int), Cond.methodLink RX0 136 yX0_joinToLevelAhead, Cond.instanceMethod yX0_joinToLevelAhead, Cond.selects RX0 yX0_joinToLevelAhead yX0_joinToLevelAhead, Cond.code yX0_joinToLevelAhead cX0_joinToLevelAhead 6 none, Cond.methodLink RX0 199 yX0_groupMean, Cond.instanceMethod yX0_groupMean, Cond.selects RX0 yX0_groupMean yX0_groupMean]
def wsL_law0_r10 : List Cond := [Cond.code yX0_groupMean cX0_groupMean 13 (some .int), Cond.methodLink RX0 140 yX0_changedSinceBefore, Cond.instanceMethod yX0_changedSinceBefore, Cond.selects RX0 yX0_changedSinceBefore yX0_changedSinceBefore, Cond.code yX0_changedSinceBefore cX0_changedSinceBefore 4 (some .int), Cond.methodLink RL 122 yL_smooth, Cond.static yL_smooth, Cond.code yL_smooth cL_smooth 16 (some .int), Cond.methodLink RL 64 yL_all, Cond.static yL_all, Cond.code yL_all cL_all 13 (some .long), Cond.methodLink RL 33 yL_capped, Cond.static yL_capped, Cond.code yL_capped cL_capped 14 (some .long), Cond.methodLink RL 126 yX0_spread, Cond.instanceMethod yX0_spread, Cond.selects RX0 yX0_spread yX0_spread, Cond.code yX0_spread cX0_spread 5 (some .int), Cond.constantLong RX0 153 (1000000), Cond.methodLink RX0 143 yX0_cappedTotal, Cond.instanceMethod yX0_cappedTotal, Cond.selects RX0 yX0_cappedTotal yX0_cappedTotal, Cond.code yX0_cappedTotal cX0_cappedTotal 4 (some .long), Cond.methodLink RL 139 yL_isTold]
def wsL_law0_r11 : List Cond := [Cond.static yL_isTold, Cond.code yL_isTold cL_isTold 23 (some .boolean), Cond.methodLink RL 61 yX0_lost, Cond.instanceMethod yX0_lost, Cond.selects RX0 yX0_lost yX0_lost, Cond.code yX0_lost cX0_lost 1 (some .long), Cond.methodLink RL 72 yX0_factor, Cond.instanceMethod yX0_factor, Cond.selects RX0 yX0_factor yX0_factor, Cond.code yX0_factor cX0_factor 3 (some .int), Cond.methodLink RL 75 yX0_toldSum, Cond.instanceMethod yX0_toldSum, Cond.selects RX0 yX0_toldSum yX0_toldSum, Cond.code yX0_toldSum cX0_toldSum 3 (some .long), Cond.methodLink RL 79 yX0_fittedSum, Cond.instanceMethod yX0_fittedSum, Cond.selects RX0 yX0_fittedSum yX0_fittedSum, Cond.code yX0_fittedSum cX0_fittedSum 3 (some .long), Cond.methodLink RL 82 yX0_worst, Cond.instanceMethod yX0_worst, Cond.selects RX0 yX0_worst yX0_worst, Cond.code yX0_worst cX0_worst 7 (some .long), Cond.methodLink RX0 169 Lib.MathLoose.abs_long.x, Cond.static Lib.MathLoose.abs_long.x]
def wsL_law0_r12 : List Cond := [Cond.code Lib.MathLoose.abs_long.x Lib.MathLoose.abs_long.code 2 (some .long), Cond.methodLink RL 89 yL_isRanked, Cond.static yL_isRanked, Cond.code yL_isRanked cL_isRanked 16 (some .boolean), Cond.methodLink RL 55 yX0_rankedAt, Cond.instanceMethod yX0_rankedAt, Cond.selects RX0 yX0_rankedAt yX0_rankedAt, Cond.code yX0_rankedAt cX0_rankedAt 3 (some .int), Cond.methodLink RX0 183 yX0_placeOf, Cond.instanceMethod yX0_placeOf, Cond.selects RX0 yX0_placeOf yX0_placeOf, Cond.code yX0_placeOf cX0_placeOf 4 (some .int), Cond.methodLink RX0 204 yX0_isAhead, Cond.instanceMethod yX0_isAhead, Cond.selects RX0 yX0_isAhead yX0_isAhead, Cond.code yX0_isAhead cX0_isAhead 7 (some .boolean)]
def wsL_law0 : List Cond := (wsL_law0_r1 ++ (wsL_law0_r2 ++ (wsL_law0_r3 ++ (wsL_law0_r4 ++ (wsL_law0_r5 ++ (wsL_law0_r6 ++ (wsL_law0_r7 ++ (wsL_law0_r8 ++ (wsL_law0_r9 ++ (wsL_law0_r10 ++ (wsL_law0_r11 ++ wsL_law0_r12))))))))))) ++ wsX00 ++ ([] : List Cond)
def wsL_law : List Cond := wsL_law0 ++ (vx_atS RX0 78 "java/lang/IllegalArgumentException" ["java/lang/RuntimeException", "java/lang/Exception"]).filter goodWord ++ (vx_atS RX0 92 "java/lang/IllegalStateException" ["java/lang/RuntimeException", "java/lang/Exception"]).filter goodWord ++ (vx_atS RX0 104 "java/lang/IndexOutOfBoundsException" ["java/lang/RuntimeException", "java/lang/Exception"]).filter goodWord
theorem inlX0 : ∀ w ∈ wsX00, w ∈ wsL_law := fun _ h => List.mem_append_left _ (List.mem_append_left _ (List.mem_append_left _ (List.mem_append_left _ (List.mem_append_right _ h))))
abbrev vwCl : List vw_C := [(RX0, TX0, 16)]
end
section
theorem dX0_init_0 : decode cX0_init 0 = .ok (.aload_n 0, 1) := by decide +kernel
theorem dX0_init_1 : decode cX0_init 1 = .ok (.invokespecial 1, 3) := by decide +kernel
theorem dX0_init_4 : decode cX0_init 4 = .ok (.aload_n 0, 1) := by decide +kernel
theorem dX0_init_5 : decode cX0_init 5 = .ok (.iconst 3, 1) := by decide +kernel
theorem dX0_init_6 : decode cX0_init 6 = .ok (.iconst 4, 1) := by decide +kernel
theorem dX0_init_7 : decode cX0_init 7 = .ok (.multianewarray 9 2, 4) := by decide +kernel
theorem dX0_init_11 : decode cX0_init 11 = .ok (.putfield 11, 3) := by decide +kernel
theorem dX0_init_14 : decode cX0_init 14 = .ok (.aload_n 0, 1) := by decide +kernel
theorem dX0_init_15 : decode cX0_init 15 = .ok (.iconst 3, 1) := by decide +kernel
theorem dX0_init_16 : decode cX0_init 16 = .ok (.bipush 40, 2) := by decide +kernel
theorem dX0_init_18 : decode cX0_init 18 = .ok (.multianewarray 9 2, 4) := by decide +kernel
theorem dX0_init_22 : decode cX0_init 22 = .ok (.putfield 14, 3) := by decide +kernel
theorem dX0_init_25 : decode cX0_init 25 = .ok (.aload_n 0, 1) := by decide +kernel
theorem dX0_init_26 : decode cX0_init 26 = .ok (.bipush 40, 2) := by decide +kernel
theorem dX0_init_28 : decode cX0_init 28 = .ok (.newarray .long, 2) := by decide +kernel
theorem dX0_init_30 : decode cX0_init 30 = .ok (.putfield 17, 3) := by decide +kernel
theorem dX0_init_33 : decode cX0_init 33 = .ok (.aload_n 0, 1) := by decide +kernel
theorem dX0_init_34 : decode cX0_init 34 = .ok (.bipush 40, 2) := by decide +kernel
theorem dX0_init_36 : decode cX0_init 36 = .ok (.newarray .long, 2) := by decide +kernel
theorem dX0_init_38 : decode cX0_init 38 = .ok (.putfield 21, 3) := by decide +kernel
theorem dX0_init_41 : decode cX0_init 41 = .ok (.aload_n 0, 1) := by decide +kernel
theorem dX0_init_42 : decode cX0_init 42 = .ok (.bipush 40, 2) := by decide +kernel
theorem dX0_init_44 : decode cX0_init 44 = .ok (.newarray .long, 2) := by decide +kernel
theorem dX0_init_46 : decode cX0_init 46 = .ok (.putfield 24, 3) := by decide +kernel
theorem dX0_init_49 : decode cX0_init 49 = .ok (.aload_n 0, 1) := by decide +kernel
theorem dX0_init_50 : decode cX0_init 50 = .ok (.bipush 40, 2) := by decide +kernel
theorem dX0_init_52 : decode cX0_init 52 = .ok (.newarray .int, 2) := by decide +kernel
theorem dX0_init_54 : decode cX0_init 54 = .ok (.putfield 27, 3) := by decide +kernel
theorem dX0_init_57 : decode cX0_init 57 = .ok (.aload_n 0, 1) := by decide +kernel
theorem dX0_init_58 : decode cX0_init 58 = .ok (.bipush 40, 2) := by decide +kernel
theorem dX0_init_60 : decode cX0_init 60 = .ok (.newarray .boolean, 2) := by decide +kernel
theorem dX0_init_62 : decode cX0_init 62 = .ok (.putfield 31, 3) := by decide +kernel
theorem dX0_init_65 : decode cX0_init 65 = .ok (.aload_n 0, 1) := by decide +kernel
theorem dX0_init_66 : decode cX0_init 66 = .ok (.iconst 0, 1) := by decide +kernel
theorem dX0_init_67 : decode cX0_init 67 = .ok (.putfield 35, 3) := by decide +kernel
theorem dX0_init_70 : decode cX0_init 70 = .ok (.aload_n 0, 1) := by decide +kernel
theorem dX0_init_71 : decode cX0_init 71 = .ok (.iconst 0, 1) := by decide +kernel
theorem dX0_init_72 : decode cX0_init 72 = .ok (.putfield 39, 3) := by decide +kernel
theorem dX0_init_75 : decode cX0_init 75 = .ok (.aload_n 0, 1) := by decide +kernel
theorem dX0_init_76 : decode cX0_init 76 = .ok (.iconst 0, 1) := by decide +kernel
theorem dX0_init_77 : decode cX0_init 77 = .ok (.putfield 42, 3) := by decide +kernel
theorem dX0_init_80 : decode cX0_init 80 = .ok (.aload_n 0, 1) := by decide +kernel
theorem dX0_init_81 : decode cX0_init 81 = .ok (.iconst (-1), 1) := by decide +kernel
theorem dX0_init_82 : decode cX0_init 82 = .ok (.putfield 45, 3) := by decide +kernel
theorem dX0_init_85 : decode cX0_init 85 = .ok (.aload_n 0, 1) := by decide +kernel
theorem dX0_init_86 : decode cX0_init 86 = .ok (.sipush 10000, 3) := by decide +kernel
theorem dX0_init_89 : decode cX0_init 89 = .ok (.putfield 48, 3) := by decide +kernel
theorem dX0_init_92 : decode cX0_init 92 = .ok (.aload_n 0, 1) := by decide +kernel
theorem dX0_init_93 : decode cX0_init 93 = .ok (.lconst 0, 1) := by decide +kernel
theorem dX0_init_94 : decode cX0_init 94 = .ok (.putfield 51, 3) := by decide +kernel
theorem dX0_init_97 : decode cX0_init 97 = .ok (.aload_n 0, 1) := by decide +kernel
theorem dX0_init_98 : decode cX0_init 98 = .ok (.bipush 40, 2) := by decide +kernel
theorem dX0_init_100 : decode cX0_init 100 = .ok (.newarray .long, 2) := by decide +kernel
theorem dX0_init_102 : decode cX0_init 102 = .ok (.putfield 55, 3) := by decide +kernel
theorem dX0_init_105 : decode cX0_init 105 = .ok (.aload_n 0, 1) := by decide +kernel
theorem dX0_init_106 : decode cX0_init 106 = .ok (.iconst 4, 1) := by decide +kernel
theorem dX0_init_107 : decode cX0_init 107 = .ok (.newarray .int, 2) := by decide +kernel
theorem dX0_init_109 : decode cX0_init 109 = .ok (.putfield 58, 3) := by decide +kernel
theorem dX0_init_112 : decode cX0_init 112 = .ok (.aload_n 0, 1) := by decide +kernel
theorem dX0_init_113 : decode cX0_init 113 = .ok (.iconst 4, 1) := by decide +kernel
theorem dX0_init_114 : decode cX0_init 114 = .ok (.newarray .int, 2) := by decide +kernel
theorem dX0_init_116 : decode cX0_init 116 = .ok (.putfield 61, 3) := by decide +kernel
theorem dX0_init_119 : decode cX0_init 119 = .ok (.iconst 0, 1) := by decide +kernel
theorem dX0_init_120 : decode cX0_init 120 = .ok (.istore_n 1, 1) := by decide +kernel
theorem dX0_init_121 : decode cX0_init 121 = .ok (.iload_n 1, 1) := by decide +kernel
theorem dX0_init_122 : decode cX0_init 122 = .ok (.iconst 3, 1) := by decide +kernel
theorem dX0_init_123 : decode cX0_init 123 = .ok (.if_icmp .ge 21, 3) := by decide +kernel
theorem dX0_init_126 : decode cX0_init 126 = .ok (.aload_n 0, 1) := by decide +kernel
theorem dX0_init_127 : decode cX0_init 127 = .ok (.getfield 11, 3) := by decide +kernel
theorem dX0_init_130 : decode cX0_init 130 = .ok (.iload_n 1, 1) := by decide +kernel
theorem dX0_init_131 : decode cX0_init 131 = .ok (.aaload, 1) := by decide +kernel
theorem dX0_init_132 : decode cX0_init 132 = .ok (.sipush 10000, 3) := by decide +kernel
theorem dX0_init_135 : decode cX0_init 135 = .ok (.invokestatic 64, 3) := by decide +kernel
theorem dX0_init_138 : decode cX0_init 138 = .ok (.iinc 1 1, 3) := by decide +kernel
theorem dX0_init_141 : decode cX0_init 141 = .ok (.goto (-20), 3) := by decide +kernel
theorem dX0_init_144 : decode cX0_init 144 = .ok (.return_, 1) := by decide +kernel
theorem dX0_add_0 : decode cX0_add 0 = .ok (.iconst 0, 1) := by decide +kernel
theorem dX0_add_1 : decode cX0_add 1 = .ok (.iload_n 1, 1) := by decide +kernel
theorem dX0_add_2 : decode cX0_add 2 = .ok (.invokestatic 70, 3) := by decide +kernel
theorem dX0_add_5 : decode cX0_add 5 = .ok (.ifCond .eq 19, 3) := by decide +kernel
theorem dX0_add_8 : decode cX0_add 8 = .ok (.iconst 1, 1) := by decide +kernel
theorem dX0_add_9 : decode cX0_add 9 = .ok (.iload_n 2, 1) := by decide +kernel
theorem dX0_add_10 : decode cX0_add 10 = .ok (.invokestatic 70, 3) := by decide +kernel
theorem dX0_add_13 : decode cX0_add 13 = .ok (.ifCond .eq 11, 3) := by decide +kernel
theorem dX0_add_16 : decode cX0_add 16 = .ok (.iconst 2, 1) := by decide +kernel
theorem dX0_add_17 : decode cX0_add 17 = .ok (.iload_n 3, 1) := by decide +kernel
theorem dX0_add_18 : decode cX0_add 18 = .ok (.invokestatic 70, 3) := by decide +kernel
theorem dX0_add_21 : decode cX0_add 21 = .ok (.ifCond .ne 13, 3) := by decide +kernel
theorem dX0_add_24 : decode cX0_add 24 = .ok (.new 74, 3) := by decide +kernel
theorem dX0_add_27 : decode cX0_add 27 = .ok (.dup, 1) := by decide +kernel
theorem dX0_add_28 : decode cX0_add 28 = .ok (.ldc 76, 2) := by decide +kernel
theorem dX0_add_30 : decode cX0_add 30 = .ok (.invokespecial 78, 3) := by decide +kernel
theorem dX0_add_33 : decode cX0_add 33 = .ok (.athrow, 1) := by decide +kernel
theorem dX0_add_34 : decode cX0_add 34 = .ok (.iload 4, 2) := by decide +kernel
theorem dX0_add_36 : decode cX0_add 36 = .ok (.iconst 1, 1) := by decide +kernel
theorem dX0_add_37 : decode cX0_add 37 = .ok (.sipush 1000, 3) := by decide +kernel
theorem dX0_add_40 : decode cX0_add 40 = .ok (.invokestatic 81, 3) := by decide +kernel
theorem dX0_add_43 : decode cX0_add 43 = .ok (.ifCond .eq 26, 3) := by decide +kernel
theorem dX0_add_46 : decode cX0_add 46 = .ok (.iload 5, 2) := by decide +kernel
theorem dX0_add_48 : decode cX0_add 48 = .ok (.iconst 0, 1) := by decide +kernel
theorem dX0_add_49 : decode cX0_add 49 = .ok (.sipush 1000, 3) := by decide +kernel
theorem dX0_add_52 : decode cX0_add 52 = .ok (.invokestatic 81, 3) := by decide +kernel
theorem dX0_add_55 : decode cX0_add 55 = .ok (.ifCond .eq 14, 3) := by decide +kernel
theorem dX0_add_58 : decode cX0_add 58 = .ok (.iload 6, 2) := by decide +kernel
theorem dX0_add_60 : decode cX0_add 60 = .ok (.iconst 0, 1) := by decide +kernel
theorem dX0_add_61 : decode cX0_add 61 = .ok (.ldc 85, 2) := by decide +kernel
theorem dX0_add_63 : decode cX0_add 63 = .ok (.invokestatic 81, 3) := by decide +kernel
theorem dX0_add_66 : decode cX0_add 66 = .ok (.ifCond .ne 13, 3) := by decide +kernel
theorem dX0_add_69 : decode cX0_add 69 = .ok (.new 74, 3) := by decide +kernel
theorem dX0_add_72 : decode cX0_add 72 = .ok (.dup, 1) := by decide +kernel
theorem dX0_add_73 : decode cX0_add 73 = .ok (.ldc 86, 2) := by decide +kernel
theorem dX0_add_75 : decode cX0_add 75 = .ok (.invokespecial 78, 3) := by decide +kernel
theorem dX0_add_78 : decode cX0_add 78 = .ok (.athrow, 1) := by decide +kernel
theorem dX0_add_79 : decode cX0_add 79 = .ok (.aload_n 0, 1) := by decide +kernel
theorem dX0_add_80 : decode cX0_add 80 = .ok (.getfield 35, 3) := by decide +kernel
theorem dX0_add_83 : decode cX0_add 83 = .ok (.bipush 40, 2) := by decide +kernel
theorem dX0_add_85 : decode cX0_add 85 = .ok (.if_icmp .lt 13, 3) := by decide +kernel
theorem dX0_add_88 : decode cX0_add 88 = .ok (.new 88, 3) := by decide +kernel
theorem dX0_add_91 : decode cX0_add 91 = .ok (.dup, 1) := by decide +kernel
theorem dX0_add_92 : decode cX0_add 92 = .ok (.ldc 90, 2) := by decide +kernel
theorem dX0_add_94 : decode cX0_add 94 = .ok (.invokespecial 92, 3) := by decide +kernel
theorem dX0_add_97 : decode cX0_add 97 = .ok (.athrow, 1) := by decide +kernel
theorem dX0_add_98 : decode cX0_add 98 = .ok (.aload_n 0, 1) := by decide +kernel
theorem dX0_add_99 : decode cX0_add 99 = .ok (.getfield 35, 3) := by decide +kernel
theorem dX0_add_102 : decode cX0_add 102 = .ok (.istore 7, 2) := by decide +kernel
theorem dX0_add_104 : decode cX0_add 104 = .ok (.aload_n 0, 1) := by decide +kernel
theorem dX0_add_105 : decode cX0_add 105 = .ok (.getfield 14, 3) := by decide +kernel
theorem dX0_add_108 : decode cX0_add 108 = .ok (.iconst 0, 1) := by decide +kernel
theorem dX0_add_109 : decode cX0_add 109 = .ok (.aaload, 1) := by decide +kernel
theorem dX0_add_110 : decode cX0_add 110 = .ok (.iload 7, 2) := by decide +kernel
theorem dX0_add_112 : decode cX0_add 112 = .ok (.iload_n 1, 1) := by decide +kernel
theorem dX0_add_113 : decode cX0_add 113 = .ok (.iastore, 1) := by decide +kernel
theorem dX0_add_114 : decode cX0_add 114 = .ok (.aload_n 0, 1) := by decide +kernel
theorem dX0_add_115 : decode cX0_add 115 = .ok (.getfield 14, 3) := by decide +kernel
theorem dX0_add_118 : decode cX0_add 118 = .ok (.iconst 1, 1) := by decide +kernel
theorem dX0_add_119 : decode cX0_add 119 = .ok (.aaload, 1) := by decide +kernel
theorem dX0_add_120 : decode cX0_add 120 = .ok (.iload 7, 2) := by decide +kernel
theorem dX0_add_122 : decode cX0_add 122 = .ok (.iload_n 2, 1) := by decide +kernel
theorem dX0_add_123 : decode cX0_add 123 = .ok (.iastore, 1) := by decide +kernel
theorem dX0_add_124 : decode cX0_add 124 = .ok (.aload_n 0, 1) := by decide +kernel
theorem dX0_add_125 : decode cX0_add 125 = .ok (.getfield 14, 3) := by decide +kernel
theorem dX0_add_128 : decode cX0_add 128 = .ok (.iconst 2, 1) := by decide +kernel
theorem dX0_add_129 : decode cX0_add 129 = .ok (.aaload, 1) := by decide +kernel
theorem dX0_add_130 : decode cX0_add 130 = .ok (.iload 7, 2) := by decide +kernel
theorem dX0_add_132 : decode cX0_add 132 = .ok (.iload_n 3, 1) := by decide +kernel
theorem dX0_add_133 : decode cX0_add 133 = .ok (.iastore, 1) := by decide +kernel
theorem dX0_add_134 : decode cX0_add 134 = .ok (.aload_n 0, 1) := by decide +kernel
theorem dX0_add_135 : decode cX0_add 135 = .ok (.getfield 17, 3) := by decide +kernel
theorem dX0_add_138 : decode cX0_add 138 = .ok (.iload 7, 2) := by decide +kernel
theorem dX0_add_140 : decode cX0_add 140 = .ok (.iload 4, 2) := by decide +kernel
theorem dX0_add_142 : decode cX0_add 142 = .ok (.i2l, 1) := by decide +kernel
theorem dX0_add_143 : decode cX0_add 143 = .ok (.lastore, 1) := by decide +kernel
theorem dX0_add_144 : decode cX0_add 144 = .ok (.aload_n 0, 1) := by decide +kernel
theorem dX0_add_145 : decode cX0_add 145 = .ok (.getfield 21, 3) := by decide +kernel
theorem dX0_add_148 : decode cX0_add 148 = .ok (.iload 7, 2) := by decide +kernel
theorem dX0_add_150 : decode cX0_add 150 = .ok (.iload 5, 2) := by decide +kernel
theorem dX0_add_152 : decode cX0_add 152 = .ok (.i2l, 1) := by decide +kernel
theorem dX0_add_153 : decode cX0_add 153 = .ok (.lastore, 1) := by decide +kernel
theorem dX0_add_154 : decode cX0_add 154 = .ok (.aload_n 0, 1) := by decide +kernel
theorem dX0_add_155 : decode cX0_add 155 = .ok (.getfield 24, 3) := by decide +kernel
theorem dX0_add_158 : decode cX0_add 158 = .ok (.iload 7, 2) := by decide +kernel
theorem dX0_add_160 : decode cX0_add 160 = .ok (.iload 6, 2) := by decide +kernel
theorem dX0_add_162 : decode cX0_add 162 = .ok (.i2l, 1) := by decide +kernel
theorem dX0_add_163 : decode cX0_add 163 = .ok (.lastore, 1) := by decide +kernel
theorem dX0_add_164 : decode cX0_add 164 = .ok (.aload_n 0, 1) := by decide +kernel
theorem dX0_add_165 : decode cX0_add 165 = .ok (.getfield 27, 3) := by decide +kernel
theorem dX0_add_168 : decode cX0_add 168 = .ok (.iload 7, 2) := by decide +kernel
theorem dX0_add_170 : decode cX0_add 170 = .ok (.iconst (-1), 1) := by decide +kernel
theorem dX0_add_171 : decode cX0_add 171 = .ok (.iastore, 1) := by decide +kernel
theorem dX0_add_172 : decode cX0_add 172 = .ok (.aload_n 0, 1) := by decide +kernel
theorem dX0_add_173 : decode cX0_add 173 = .ok (.getfield 31, 3) := by decide +kernel
theorem dX0_add_176 : decode cX0_add 176 = .ok (.iload 7, 2) := by decide +kernel
theorem dX0_add_178 : decode cX0_add 178 = .ok (.iconst 1, 1) := by decide +kernel
theorem dX0_add_179 : decode cX0_add 179 = .ok (.bastore, 1) := by decide +kernel
theorem dX0_add_180 : decode cX0_add 180 = .ok (.aload_n 0, 1) := by decide +kernel
theorem dX0_add_181 : decode cX0_add 181 = .ok (.dup, 1) := by decide +kernel
theorem dX0_add_182 : decode cX0_add 182 = .ok (.getfield 35, 3) := by decide +kernel
theorem dX0_add_185 : decode cX0_add 185 = .ok (.iconst 1, 1) := by decide +kernel
theorem dX0_add_186 : decode cX0_add 186 = .ok (.iadd, 1) := by decide +kernel
theorem dX0_add_187 : decode cX0_add 187 = .ok (.putfield 35, 3) := by decide +kernel
theorem dX0_add_190 : decode cX0_add 190 = .ok (.aload_n 0, 1) := by decide +kernel
theorem dX0_add_191 : decode cX0_add 191 = .ok (.dup, 1) := by decide +kernel
theorem dX0_add_192 : decode cX0_add 192 = .ok (.getfield 39, 3) := by decide +kernel
theorem dX0_add_195 : decode cX0_add 195 = .ok (.iconst 1, 1) := by decide +kernel
theorem dX0_add_196 : decode cX0_add 196 = .ok (.iadd, 1) := by decide +kernel
theorem dX0_add_197 : decode cX0_add 197 = .ok (.putfield 39, 3) := by decide +kernel
theorem dX0_add_200 : decode cX0_add 200 = .ok (.aload_n 0, 1) := by decide +kernel
theorem dX0_add_201 : decode cX0_add 201 = .ok (.invokevirtual 93, 3) := by decide +kernel
theorem dX0_add_204 : decode cX0_add 204 = .ok (.iload 7, 2) := by decide +kernel
theorem dX0_add_206 : decode cX0_add 206 = .ok (.ireturn, 1) := by decide +kernel
theorem dX0_withdraw_0 : decode cX0_withdraw 0 = .ok (.aload_n 0, 1) := by decide +kernel
theorem dX0_withdraw_1 : decode cX0_withdraw 1 = .ok (.iload_n 1, 1) := by decide +kernel
theorem dX0_withdraw_2 : decode cX0_withdraw 2 = .ok (.invokevirtual 96, 3) := by decide +kernel
theorem dX0_withdraw_5 : decode cX0_withdraw 5 = .ok (.ifCond .ne 13, 3) := by decide +kernel
theorem dX0_withdraw_8 : decode cX0_withdraw 8 = .ok (.new 100, 3) := by decide +kernel
theorem dX0_withdraw_11 : decode cX0_withdraw 11 = .ok (.dup, 1) := by decide +kernel
theorem dX0_withdraw_12 : decode cX0_withdraw 12 = .ok (.ldc 102, 2) := by decide +kernel
theorem dX0_withdraw_14 : decode cX0_withdraw 14 = .ok (.invokespecial 104, 3) := by decide +kernel
theorem dX0_withdraw_17 : decode cX0_withdraw 17 = .ok (.athrow, 1) := by decide +kernel
theorem dX0_withdraw_18 : decode cX0_withdraw 18 = .ok (.aload_n 0, 1) := by decide +kernel
theorem dX0_withdraw_19 : decode cX0_withdraw 19 = .ok (.getfield 31, 3) := by decide +kernel
theorem dX0_withdraw_22 : decode cX0_withdraw 22 = .ok (.iload_n 1, 1) := by decide +kernel
theorem dX0_withdraw_23 : decode cX0_withdraw 23 = .ok (.iconst 0, 1) := by decide +kernel
theorem dX0_withdraw_24 : decode cX0_withdraw 24 = .ok (.bastore, 1) := by decide +kernel
theorem dX0_withdraw_25 : decode cX0_withdraw 25 = .ok (.aload_n 0, 1) := by decide +kernel
theorem dX0_withdraw_26 : decode cX0_withdraw 26 = .ok (.dup, 1) := by decide +kernel
theorem dX0_withdraw_27 : decode cX0_withdraw 27 = .ok (.getfield 39, 3) := by decide +kernel
theorem dX0_withdraw_30 : decode cX0_withdraw 30 = .ok (.iconst 1, 1) := by decide +kernel
theorem dX0_withdraw_31 : decode cX0_withdraw 31 = .ok (.isub, 1) := by decide +kernel
theorem dX0_withdraw_32 : decode cX0_withdraw 32 = .ok (.putfield 39, 3) := by decide +kernel
theorem dX0_withdraw_35 : decode cX0_withdraw 35 = .ok (.aload_n 0, 1) := by decide +kernel
theorem dX0_withdraw_36 : decode cX0_withdraw 36 = .ok (.invokevirtual 93, 3) := by decide +kernel
theorem dX0_withdraw_39 : decode cX0_withdraw 39 = .ok (.aload_n 0, 1) := by decide +kernel
theorem dX0_withdraw_40 : decode cX0_withdraw 40 = .ok (.getfield 39, 3) := by decide +kernel
theorem dX0_withdraw_43 : decode cX0_withdraw 43 = .ok (.ireturn, 1) := by decide +kernel
theorem dX0_setOld_0 : decode cX0_setOld 0 = .ok (.aload_n 0, 1) := by decide +kernel
theorem dX0_setOld_1 : decode cX0_setOld 1 = .ok (.iload_n 1, 1) := by decide +kernel
theorem dX0_setOld_2 : decode cX0_setOld 2 = .ok (.invokevirtual 96, 3) := by decide +kernel
theorem dX0_setOld_5 : decode cX0_setOld 5 = .ok (.ifCond .ne 13, 3) := by decide +kernel
theorem dX0_setOld_8 : decode cX0_setOld 8 = .ok (.new 100, 3) := by decide +kernel
theorem dX0_setOld_11 : decode cX0_setOld 11 = .ok (.dup, 1) := by decide +kernel
theorem dX0_setOld_12 : decode cX0_setOld 12 = .ok (.ldc 102, 2) := by decide +kernel
theorem dX0_setOld_14 : decode cX0_setOld 14 = .ok (.invokespecial 104, 3) := by decide +kernel
theorem dX0_setOld_17 : decode cX0_setOld 17 = .ok (.athrow, 1) := by decide +kernel
theorem dX0_setOld_18 : decode cX0_setOld 18 = .ok (.iload_n 2, 1) := by decide +kernel
theorem dX0_setOld_19 : decode cX0_setOld 19 = .ok (.iconst (-1), 1) := by decide +kernel
theorem dX0_setOld_20 : decode cX0_setOld 20 = .ok (.if_icmp .eq 23, 3) := by decide +kernel
theorem dX0_setOld_23 : decode cX0_setOld 23 = .ok (.iload_n 2, 1) := by decide +kernel
theorem dX0_setOld_24 : decode cX0_setOld 24 = .ok (.iconst 0, 1) := by decide +kernel
theorem dX0_setOld_25 : decode cX0_setOld 25 = .ok (.ldc 105, 2) := by decide +kernel
theorem dX0_setOld_27 : decode cX0_setOld 27 = .ok (.invokestatic 81, 3) := by decide +kernel
theorem dX0_setOld_30 : decode cX0_setOld 30 = .ok (.ifCond .ne 13, 3) := by decide +kernel
theorem dX0_setOld_33 : decode cX0_setOld 33 = .ok (.new 74, 3) := by decide +kernel
theorem dX0_setOld_36 : decode cX0_setOld 36 = .ok (.dup, 1) := by decide +kernel
theorem dX0_setOld_37 : decode cX0_setOld 37 = .ok (.ldc 106, 2) := by decide +kernel
theorem dX0_setOld_39 : decode cX0_setOld 39 = .ok (.invokespecial 78, 3) := by decide +kernel
theorem dX0_setOld_42 : decode cX0_setOld 42 = .ok (.athrow, 1) := by decide +kernel
theorem dX0_setOld_43 : decode cX0_setOld 43 = .ok (.aload_n 0, 1) := by decide +kernel
theorem dX0_setOld_44 : decode cX0_setOld 44 = .ok (.getfield 27, 3) := by decide +kernel
theorem dX0_setOld_47 : decode cX0_setOld 47 = .ok (.iload_n 1, 1) := by decide +kernel
theorem dX0_setOld_48 : decode cX0_setOld 48 = .ok (.iaload, 1) := by decide +kernel
theorem dX0_setOld_49 : decode cX0_setOld 49 = .ok (.istore_n 3, 1) := by decide +kernel
theorem dX0_setOld_50 : decode cX0_setOld 50 = .ok (.aload_n 0, 1) := by decide +kernel
theorem dX0_setOld_51 : decode cX0_setOld 51 = .ok (.getfield 27, 3) := by decide +kernel
theorem dX0_setOld_54 : decode cX0_setOld 54 = .ok (.iload_n 1, 1) := by decide +kernel
theorem dX0_setOld_55 : decode cX0_setOld 55 = .ok (.iload_n 2, 1) := by decide +kernel
theorem dX0_setOld_56 : decode cX0_setOld 56 = .ok (.iastore, 1) := by decide +kernel
theorem dX0_setOld_57 : decode cX0_setOld 57 = .ok (.iload_n 3, 1) := by decide +kernel
theorem dX0_setOld_58 : decode cX0_setOld 58 = .ok (.ireturn, 1) := by decide +kernel
theorem dX0_setRules_0 : decode cX0_setRules 0 = .ok (.iload_n 1, 1) := by decide +kernel
theorem dX0_setRules_1 : decode cX0_setRules 1 = .ok (.iconst 0, 1) := by decide +kernel
theorem dX0_setRules_2 : decode cX0_setRules 2 = .ok (.sipush 1000, 3) := by decide +kernel
theorem dX0_setRules_5 : decode cX0_setRules 5 = .ok (.invokestatic 81, 3) := by decide +kernel
theorem dX0_setRules_8 : decode cX0_setRules 8 = .ok (.ifCond .ne 13, 3) := by decide +kernel
theorem dX0_setRules_11 : decode cX0_setRules 11 = .ok (.new 74, 3) := by decide +kernel
theorem dX0_setRules_14 : decode cX0_setRules 14 = .ok (.dup, 1) := by decide +kernel
theorem dX0_setRules_15 : decode cX0_setRules 15 = .ok (.ldc 108, 2) := by decide +kernel
theorem dX0_setRules_17 : decode cX0_setRules 17 = .ok (.invokespecial 78, 3) := by decide +kernel
theorem dX0_setRules_20 : decode cX0_setRules 20 = .ok (.athrow, 1) := by decide +kernel
theorem dX0_setRules_21 : decode cX0_setRules 21 = .ok (.iload_n 2, 1) := by decide +kernel
theorem dX0_setRules_22 : decode cX0_setRules 22 = .ok (.iconst (-1), 1) := by decide +kernel
theorem dX0_setRules_23 : decode cX0_setRules 23 = .ok (.if_icmp .eq 24, 3) := by decide +kernel
theorem dX0_setRules_26 : decode cX0_setRules 26 = .ok (.iload_n 2, 1) := by decide +kernel
theorem dX0_setRules_27 : decode cX0_setRules 27 = .ok (.iconst 0, 1) := by decide +kernel
theorem dX0_setRules_28 : decode cX0_setRules 28 = .ok (.sipush 1000, 3) := by decide +kernel
theorem dX0_setRules_31 : decode cX0_setRules 31 = .ok (.invokestatic 81, 3) := by decide +kernel
theorem dX0_setRules_34 : decode cX0_setRules 34 = .ok (.ifCond .ne 13, 3) := by decide +kernel
theorem dX0_setRules_37 : decode cX0_setRules 37 = .ok (.new 74, 3) := by decide +kernel
theorem dX0_setRules_40 : decode cX0_setRules 40 = .ok (.dup, 1) := by decide +kernel
theorem dX0_setRules_41 : decode cX0_setRules 41 = .ok (.ldc 110, 2) := by decide +kernel
theorem dX0_setRules_43 : decode cX0_setRules 43 = .ok (.invokespecial 78, 3) := by decide +kernel
theorem dX0_setRules_46 : decode cX0_setRules 46 = .ok (.athrow, 1) := by decide +kernel
theorem dX0_setRules_47 : decode cX0_setRules 47 = .ok (.aload_n 0, 1) := by decide +kernel
theorem dX0_setRules_48 : decode cX0_setRules 48 = .ok (.getfield 42, 3) := by decide +kernel
theorem dX0_setRules_51 : decode cX0_setRules 51 = .ok (.istore_n 3, 1) := by decide +kernel
theorem dX0_setRules_52 : decode cX0_setRules 52 = .ok (.aload_n 0, 1) := by decide +kernel
theorem dX0_setRules_53 : decode cX0_setRules 53 = .ok (.iload_n 1, 1) := by decide +kernel
theorem dX0_setRules_54 : decode cX0_setRules 54 = .ok (.putfield 42, 3) := by decide +kernel
theorem dX0_setRules_57 : decode cX0_setRules 57 = .ok (.aload_n 0, 1) := by decide +kernel
theorem dX0_setRules_58 : decode cX0_setRules 58 = .ok (.iload_n 2, 1) := by decide +kernel
theorem dX0_setRules_59 : decode cX0_setRules 59 = .ok (.putfield 45, 3) := by decide +kernel
theorem dX0_setRules_62 : decode cX0_setRules 62 = .ok (.iload_n 3, 1) := by decide +kernel
theorem dX0_setRules_63 : decode cX0_setRules 63 = .ok (.ireturn, 1) := by decide +kernel
theorem dX0_setFactor_0 : decode cX0_setFactor 0 = .ok (.iload_n 1, 1) := by decide +kernel
theorem dX0_setFactor_1 : decode cX0_setFactor 1 = .ok (.iload_n 2, 1) := by decide +kernel
theorem dX0_setFactor_2 : decode cX0_setFactor 2 = .ok (.invokestatic 70, 3) := by decide +kernel
theorem dX0_setFactor_5 : decode cX0_setFactor 5 = .ok (.ifCond .ne 13, 3) := by decide +kernel
theorem dX0_setFactor_8 : decode cX0_setFactor 8 = .ok (.new 100, 3) := by decide +kernel
theorem dX0_setFactor_11 : decode cX0_setFactor 11 = .ok (.dup, 1) := by decide +kernel
theorem dX0_setFactor_12 : decode cX0_setFactor 12 = .ok (.ldc 112, 2) := by decide +kernel
theorem dX0_setFactor_14 : decode cX0_setFactor 14 = .ok (.invokespecial 104, 3) := by decide +kernel
theorem dX0_setFactor_17 : decode cX0_setFactor 17 = .ok (.athrow, 1) := by decide +kernel
theorem dX0_setFactor_18 : decode cX0_setFactor 18 = .ok (.iload_n 3, 1) := by decide +kernel
theorem dX0_setFactor_19 : decode cX0_setFactor 19 = .ok (.bipush 100, 2) := by decide +kernel
theorem dX0_setFactor_21 : decode cX0_setFactor 21 = .ok (.ldc 114, 2) := by decide +kernel
theorem dX0_setFactor_23 : decode cX0_setFactor 23 = .ok (.invokestatic 81, 3) := by decide +kernel
theorem dX0_setFactor_26 : decode cX0_setFactor 26 = .ok (.ifCond .ne 13, 3) := by decide +kernel
theorem dX0_setFactor_29 : decode cX0_setFactor 29 = .ok (.new 74, 3) := by decide +kernel
theorem dX0_setFactor_32 : decode cX0_setFactor 32 = .ok (.dup, 1) := by decide +kernel
theorem dX0_setFactor_33 : decode cX0_setFactor 33 = .ok (.ldc 115, 2) := by decide +kernel
theorem dX0_setFactor_35 : decode cX0_setFactor 35 = .ok (.invokespecial 78, 3) := by decide +kernel
theorem dX0_setFactor_38 : decode cX0_setFactor 38 = .ok (.athrow, 1) := by decide +kernel
theorem dX0_setFactor_39 : decode cX0_setFactor 39 = .ok (.aload_n 0, 1) := by decide +kernel
theorem dX0_setFactor_40 : decode cX0_setFactor 40 = .ok (.getfield 11, 3) := by decide +kernel
theorem dX0_setFactor_43 : decode cX0_setFactor 43 = .ok (.iload_n 1, 1) := by decide +kernel
theorem dX0_setFactor_44 : decode cX0_setFactor 44 = .ok (.aaload, 1) := by decide +kernel
theorem dX0_setFactor_45 : decode cX0_setFactor 45 = .ok (.iload_n 2, 1) := by decide +kernel
theorem dX0_setFactor_46 : decode cX0_setFactor 46 = .ok (.iaload, 1) := by decide +kernel
theorem dX0_setFactor_47 : decode cX0_setFactor 47 = .ok (.istore 4, 2) := by decide +kernel
theorem dX0_setFactor_49 : decode cX0_setFactor 49 = .ok (.aload_n 0, 1) := by decide +kernel
theorem dX0_setFactor_50 : decode cX0_setFactor 50 = .ok (.getfield 11, 3) := by decide +kernel
theorem dX0_setFactor_53 : decode cX0_setFactor 53 = .ok (.iload_n 1, 1) := by decide +kernel
theorem dX0_setFactor_54 : decode cX0_setFactor 54 = .ok (.aaload, 1) := by decide +kernel
theorem dX0_setFactor_55 : decode cX0_setFactor 55 = .ok (.iload_n 2, 1) := by decide +kernel
theorem dX0_setFactor_56 : decode cX0_setFactor 56 = .ok (.iload_n 3, 1) := by decide +kernel
theorem dX0_setFactor_57 : decode cX0_setFactor 57 = .ok (.iastore, 1) := by decide +kernel
theorem dX0_setFactor_58 : decode cX0_setFactor 58 = .ok (.aload_n 0, 1) := by decide +kernel
theorem dX0_setFactor_59 : decode cX0_setFactor 59 = .ok (.invokevirtual 93, 3) := by decide +kernel
theorem dX0_setFactor_62 : decode cX0_setFactor 62 = .ok (.iload 4, 2) := by decide +kernel
theorem dX0_setFactor_64 : decode cX0_setFactor 64 = .ok (.ireturn, 1) := by decide +kernel
theorem dX0_pass_0 : decode cX0_pass 0 = .ok (.iload_n 1, 1) := by decide +kernel
theorem dX0_pass_1 : decode cX0_pass 1 = .ok (.invokestatic 117, 3) := by decide +kernel
theorem dX0_pass_4 : decode cX0_pass 4 = .ok (.ifCond .ne 13, 3) := by decide +kernel
theorem dX0_pass_7 : decode cX0_pass 7 = .ok (.new 100, 3) := by decide +kernel
theorem dX0_pass_10 : decode cX0_pass 10 = .ok (.dup, 1) := by decide +kernel
theorem dX0_pass_11 : decode cX0_pass 11 = .ok (.ldc 120, 2) := by decide +kernel
theorem dX0_pass_13 : decode cX0_pass 13 = .ok (.invokespecial 104, 3) := by decide +kernel
theorem dX0_pass_16 : decode cX0_pass 16 = .ok (.athrow, 1) := by decide +kernel
theorem dX0_pass_17 : decode cX0_pass 17 = .ok (.aload_n 0, 1) := by decide +kernel
theorem dX0_pass_18 : decode cX0_pass 18 = .ok (.iload_n 1, 1) := by decide +kernel
theorem dX0_pass_19 : decode cX0_pass 19 = .ok (.invokevirtual 122, 3) := by decide +kernel
theorem dX0_pass_22 : decode cX0_pass 22 = .ok (.ireturn, 1) := by decide +kernel
theorem dX0_settle_0 : decode cX0_settle 0 = .ok (.iconst 1, 1) := by decide +kernel
theorem dX0_settle_1 : decode cX0_settle 1 = .ok (.istore_n 1, 1) := by decide +kernel
theorem dX0_settle_2 : decode cX0_settle 2 = .ok (.iload_n 1, 1) := by decide +kernel
theorem dX0_settle_3 : decode cX0_settle 3 = .ok (.bipush 60, 2) := by decide +kernel
theorem dX0_settle_5 : decode cX0_settle 5 = .ok (.if_icmp .gt 18, 3) := by decide +kernel
theorem dX0_settle_8 : decode cX0_settle 8 = .ok (.aload_n 0, 1) := by decide +kernel
theorem dX0_settle_9 : decode cX0_settle 9 = .ok (.invokevirtual 126, 3) := by decide +kernel
theorem dX0_settle_12 : decode cX0_settle 12 = .ok (.ifCond .ne 5, 3) := by decide +kernel
theorem dX0_settle_15 : decode cX0_settle 15 = .ok (.iload_n 1, 1) := by decide +kernel
theorem dX0_settle_16 : decode cX0_settle 16 = .ok (.ireturn, 1) := by decide +kernel
theorem dX0_settle_17 : decode cX0_settle 17 = .ok (.iinc 1 1, 3) := by decide +kernel
theorem dX0_settle_20 : decode cX0_settle 20 = .ok (.goto (-18), 3) := by decide +kernel
theorem dX0_settle_23 : decode cX0_settle 23 = .ok (.bipush 60, 2) := by decide +kernel
theorem dX0_settle_25 : decode cX0_settle 25 = .ok (.ireturn, 1) := by decide +kernel
theorem dX0_smooth_0 : decode cX0_smooth 0 = .ok (.iload_n 1, 1) := by decide +kernel
theorem dX0_smooth_1 : decode cX0_smooth 1 = .ok (.invokestatic 117, 3) := by decide +kernel
theorem dX0_smooth_4 : decode cX0_smooth 4 = .ok (.ifCond .ne 13, 3) := by decide +kernel
theorem dX0_smooth_7 : decode cX0_smooth 7 = .ok (.new 100, 3) := by decide +kernel
theorem dX0_smooth_10 : decode cX0_smooth 10 = .ok (.dup, 1) := by decide +kernel
theorem dX0_smooth_11 : decode cX0_smooth 11 = .ok (.ldc 120, 2) := by decide +kernel
theorem dX0_smooth_13 : decode cX0_smooth 13 = .ok (.invokespecial 104, 3) := by decide +kernel
theorem dX0_smooth_16 : decode cX0_smooth 16 = .ok (.athrow, 1) := by decide +kernel
theorem dX0_smooth_17 : decode cX0_smooth 17 = .ok (.iconst 0, 1) := by decide +kernel
theorem dX0_smooth_18 : decode cX0_smooth 18 = .ok (.istore_n 2, 1) := by decide +kernel
theorem dX0_smooth_19 : decode cX0_smooth 19 = .ok (.iload_n 2, 1) := by decide +kernel
theorem dX0_smooth_20 : decode cX0_smooth 20 = .ok (.getstatic 130, 3) := by decide +kernel
theorem dX0_smooth_23 : decode cX0_smooth 23 = .ok (.iload_n 1, 1) := by decide +kernel
theorem dX0_smooth_24 : decode cX0_smooth 24 = .ok (.iaload, 1) := by decide +kernel
theorem dX0_smooth_25 : decode cX0_smooth 25 = .ok (.if_icmp .ge 30, 3) := by decide +kernel
theorem dX0_smooth_28 : decode cX0_smooth 28 = .ok (.aload_n 0, 1) := by decide +kernel
theorem dX0_smooth_29 : decode cX0_smooth 29 = .ok (.getfield 61, 3) := by decide +kernel
theorem dX0_smooth_32 : decode cX0_smooth 32 = .ok (.iload_n 2, 1) := by decide +kernel
theorem dX0_smooth_33 : decode cX0_smooth 33 = .ok (.aload_n 0, 1) := by decide +kernel
theorem dX0_smooth_34 : decode cX0_smooth 34 = .ok (.getfield 11, 3) := by decide +kernel
theorem dX0_smooth_37 : decode cX0_smooth 37 = .ok (.iload_n 1, 1) := by decide +kernel
theorem dX0_smooth_38 : decode cX0_smooth 38 = .ok (.aaload, 1) := by decide +kernel
theorem dX0_smooth_39 : decode cX0_smooth 39 = .ok (.iload_n 2, 1) := by decide +kernel
theorem dX0_smooth_40 : decode cX0_smooth 40 = .ok (.iaload, 1) := by decide +kernel
theorem dX0_smooth_41 : decode cX0_smooth 41 = .ok (.iastore, 1) := by decide +kernel
theorem dX0_smooth_42 : decode cX0_smooth 42 = .ok (.aload_n 0, 1) := by decide +kernel
theorem dX0_smooth_43 : decode cX0_smooth 43 = .ok (.getfield 58, 3) := by decide +kernel
theorem dX0_smooth_46 : decode cX0_smooth 46 = .ok (.iload_n 2, 1) := by decide +kernel
theorem dX0_smooth_47 : decode cX0_smooth 47 = .ok (.iload_n 2, 1) := by decide +kernel
theorem dX0_smooth_48 : decode cX0_smooth 48 = .ok (.iastore, 1) := by decide +kernel
theorem dX0_smooth_49 : decode cX0_smooth 49 = .ok (.iinc 2 1, 3) := by decide +kernel
theorem dX0_smooth_52 : decode cX0_smooth 52 = .ok (.goto (-33), 3) := by decide +kernel
theorem dX0_smooth_55 : decode cX0_smooth 55 = .ok (.iconst 0, 1) := by decide +kernel
theorem dX0_smooth_56 : decode cX0_smooth 56 = .ok (.istore_n 2, 1) := by decide +kernel
theorem dX0_smooth_57 : decode cX0_smooth 57 = .ok (.iload_n 2, 1) := by decide +kernel
theorem dX0_smooth_58 : decode cX0_smooth 58 = .ok (.getstatic 130, 3) := by decide +kernel
theorem dX0_smooth_61 : decode cX0_smooth 61 = .ok (.iload_n 1, 1) := by decide +kernel
theorem dX0_smooth_62 : decode cX0_smooth 62 = .ok (.iaload, 1) := by decide +kernel
theorem dX0_smooth_63 : decode cX0_smooth 63 = .ok (.if_icmp .ge 29, 3) := by decide +kernel
theorem dX0_smooth_66 : decode cX0_smooth 66 = .ok (.aload_n 0, 1) := by decide +kernel
theorem dX0_smooth_67 : decode cX0_smooth 67 = .ok (.iload_n 1, 1) := by decide +kernel
theorem dX0_smooth_68 : decode cX0_smooth 68 = .ok (.invokevirtual 133, 3) := by decide +kernel
theorem dX0_smooth_71 : decode cX0_smooth 71 = .ok (.istore_n 3, 1) := by decide +kernel
theorem dX0_smooth_72 : decode cX0_smooth 72 = .ok (.iload_n 3, 1) := by decide +kernel
theorem dX0_smooth_73 : decode cX0_smooth 73 = .ok (.iconst (-1), 1) := by decide +kernel
theorem dX0_smooth_74 : decode cX0_smooth 74 = .ok (.if_icmp .ne 6, 3) := by decide +kernel
theorem dX0_smooth_77 : decode cX0_smooth 77 = .ok (.goto 15, 3) := by decide +kernel
theorem dX0_smooth_80 : decode cX0_smooth 80 = .ok (.aload_n 0, 1) := by decide +kernel
theorem dX0_smooth_81 : decode cX0_smooth 81 = .ok (.iload_n 1, 1) := by decide +kernel
theorem dX0_smooth_82 : decode cX0_smooth 82 = .ok (.iload_n 3, 1) := by decide +kernel
theorem dX0_smooth_83 : decode cX0_smooth 83 = .ok (.invokevirtual 136, 3) := by decide +kernel
theorem dX0_smooth_86 : decode cX0_smooth 86 = .ok (.iinc 2 1, 3) := by decide +kernel
theorem dX0_smooth_89 : decode cX0_smooth 89 = .ok (.goto (-32), 3) := by decide +kernel
theorem dX0_smooth_92 : decode cX0_smooth 92 = .ok (.aload_n 0, 1) := by decide +kernel
theorem dX0_smooth_93 : decode cX0_smooth 93 = .ok (.invokevirtual 93, 3) := by decide +kernel
theorem dX0_smooth_96 : decode cX0_smooth 96 = .ok (.aload_n 0, 1) := by decide +kernel
theorem dX0_smooth_97 : decode cX0_smooth 97 = .ok (.iload_n 1, 1) := by decide +kernel
theorem dX0_smooth_98 : decode cX0_smooth 98 = .ok (.invokevirtual 140, 3) := by decide +kernel
theorem dX0_smooth_101 : decode cX0_smooth 101 = .ok (.ireturn, 1) := by decide +kernel
theorem dX0_spread_0 : decode cX0_spread 0 = .ok (.aload_n 0, 1) := by decide +kernel
theorem dX0_spread_1 : decode cX0_spread 1 = .ok (.invokevirtual 143, 3) := by decide +kernel
theorem dX0_spread_4 : decode cX0_spread 4 = .ok (.lstore_n 1, 1) := by decide +kernel
theorem dX0_spread_5 : decode cX0_spread 5 = .ok (.lload_n 1, 1) := by decide +kernel
theorem dX0_spread_6 : decode cX0_spread 6 = .ok (.lconst 0, 1) := by decide +kernel
theorem dX0_spread_7 : decode cX0_spread 7 = .ok (.lcmp, 1) := by decide +kernel
theorem dX0_spread_8 : decode cX0_spread 8 = .ok (.ifCond .le 47, 3) := by decide +kernel
theorem dX0_spread_11 : decode cX0_spread 11 = .ok (.ldc2_w 147, 3) := by decide +kernel
theorem dX0_spread_14 : decode cX0_spread 14 = .ok (.aload_n 0, 1) := by decide +kernel
theorem dX0_spread_15 : decode cX0_spread 15 = .ok (.aload_n 0, 1) := by decide +kernel
theorem dX0_spread_16 : decode cX0_spread 16 = .ok (.getfield 55, 3) := by decide +kernel
theorem dX0_spread_19 : decode cX0_spread 19 = .ok (.invokevirtual 149, 3) := by decide +kernel
theorem dX0_spread_22 : decode cX0_spread 22 = .ok (.lmul, 1) := by decide +kernel
theorem dX0_spread_23 : decode cX0_spread 23 = .ok (.lload_n 1, 1) := by decide +kernel
theorem dX0_spread_24 : decode cX0_spread 24 = .ok (.ldiv, 1) := by decide +kernel
theorem dX0_spread_25 : decode cX0_spread 25 = .ok (.ldc2_w 153, 3) := by decide +kernel
theorem dX0_spread_28 : decode cX0_spread 28 = .ok (.invokestatic 155, 3) := by decide +kernel
theorem dX0_spread_31 : decode cX0_spread 31 = .ok (.lstore_n 3, 1) := by decide +kernel
theorem dX0_spread_32 : decode cX0_spread 32 = .ok (.aload_n 0, 1) := by decide +kernel
theorem dX0_spread_33 : decode cX0_spread 33 = .ok (.aload_n 0, 1) := by decide +kernel
theorem dX0_spread_34 : decode cX0_spread 34 = .ok (.getfield 48, 3) := by decide +kernel
theorem dX0_spread_37 : decode cX0_spread 37 = .ok (.i2l, 1) := by decide +kernel
theorem dX0_spread_38 : decode cX0_spread 38 = .ok (.lload_n 3, 1) := by decide +kernel
theorem dX0_spread_39 : decode cX0_spread 39 = .ok (.lmul, 1) := by decide +kernel
theorem dX0_spread_40 : decode cX0_spread 40 = .ok (.ldc2_w 147, 3) := by decide +kernel
theorem dX0_spread_43 : decode cX0_spread 43 = .ok (.ldiv, 1) := by decide +kernel
theorem dX0_spread_44 : decode cX0_spread 44 = .ok (.lconst 1, 1) := by decide +kernel
theorem dX0_spread_45 : decode cX0_spread 45 = .ok (.ldc2_w 153, 3) := by decide +kernel
theorem dX0_spread_48 : decode cX0_spread 48 = .ok (.invokestatic 161, 3) := by decide +kernel
theorem dX0_spread_51 : decode cX0_spread 51 = .ok (.l2i, 1) := by decide +kernel
theorem dX0_spread_52 : decode cX0_spread 52 = .ok (.putfield 48, 3) := by decide +kernel
theorem dX0_spread_55 : decode cX0_spread 55 = .ok (.aload_n 0, 1) := by decide +kernel
theorem dX0_spread_56 : decode cX0_spread 56 = .ok (.getfield 48, 3) := by decide +kernel
theorem dX0_spread_59 : decode cX0_spread 59 = .ok (.ireturn, 1) := by decide +kernel
theorem dX0_rows_0 : decode cX0_rows 0 = .ok (.aload_n 0, 1) := by decide +kernel
theorem dX0_rows_1 : decode cX0_rows 1 = .ok (.getfield 39, 3) := by decide +kernel
theorem dX0_rows_4 : decode cX0_rows 4 = .ok (.ireturn, 1) := by decide +kernel
theorem dX0_base_0 : decode cX0_base 0 = .ok (.aload_n 0, 1) := by decide +kernel
theorem dX0_base_1 : decode cX0_base 1 = .ok (.getfield 51, 3) := by decide +kernel
theorem dX0_base_4 : decode cX0_base 4 = .ok (.lreturn, 1) := by decide +kernel
theorem dX0_factor_0 : decode cX0_factor 0 = .ok (.iload_n 1, 1) := by decide +kernel
theorem dX0_factor_1 : decode cX0_factor 1 = .ok (.iload_n 2, 1) := by decide +kernel
theorem dX0_factor_2 : decode cX0_factor 2 = .ok (.invokestatic 70, 3) := by decide +kernel
theorem dX0_factor_5 : decode cX0_factor 5 = .ok (.ifCond .ne 13, 3) := by decide +kernel
theorem dX0_factor_8 : decode cX0_factor 8 = .ok (.new 100, 3) := by decide +kernel
theorem dX0_factor_11 : decode cX0_factor 11 = .ok (.dup, 1) := by decide +kernel
theorem dX0_factor_12 : decode cX0_factor 12 = .ok (.ldc 112, 2) := by decide +kernel
theorem dX0_factor_14 : decode cX0_factor 14 = .ok (.invokespecial 104, 3) := by decide +kernel
theorem dX0_factor_17 : decode cX0_factor 17 = .ok (.athrow, 1) := by decide +kernel
theorem dX0_factor_18 : decode cX0_factor 18 = .ok (.aload_n 0, 1) := by decide +kernel
theorem dX0_factor_19 : decode cX0_factor 19 = .ok (.getfield 11, 3) := by decide +kernel
theorem dX0_factor_22 : decode cX0_factor 22 = .ok (.iload_n 1, 1) := by decide +kernel
theorem dX0_factor_23 : decode cX0_factor 23 = .ok (.aaload, 1) := by decide +kernel
theorem dX0_factor_24 : decode cX0_factor 24 = .ok (.iload_n 2, 1) := by decide +kernel
theorem dX0_factor_25 : decode cX0_factor 25 = .ok (.iaload, 1) := by decide +kernel
theorem dX0_factor_26 : decode cX0_factor 26 = .ok (.ireturn, 1) := by decide +kernel
theorem dX0_fitted_0 : decode cX0_fitted 0 = .ok (.aload_n 0, 1) := by decide +kernel
theorem dX0_fitted_1 : decode cX0_fitted 1 = .ok (.iload_n 1, 1) := by decide +kernel
theorem dX0_fitted_2 : decode cX0_fitted 2 = .ok (.invokevirtual 96, 3) := by decide +kernel
theorem dX0_fitted_5 : decode cX0_fitted 5 = .ok (.ifCond .ne 13, 3) := by decide +kernel
theorem dX0_fitted_8 : decode cX0_fitted 8 = .ok (.new 100, 3) := by decide +kernel
theorem dX0_fitted_11 : decode cX0_fitted 11 = .ok (.dup, 1) := by decide +kernel
theorem dX0_fitted_12 : decode cX0_fitted 12 = .ok (.ldc 102, 2) := by decide +kernel
theorem dX0_fitted_14 : decode cX0_fitted 14 = .ok (.invokespecial 104, 3) := by decide +kernel
theorem dX0_fitted_17 : decode cX0_fitted 17 = .ok (.athrow, 1) := by decide +kernel
theorem dX0_fitted_18 : decode cX0_fitted 18 = .ok (.aload_n 0, 1) := by decide +kernel
theorem dX0_fitted_19 : decode cX0_fitted 19 = .ok (.getfield 55, 3) := by decide +kernel
theorem dX0_fitted_22 : decode cX0_fitted 22 = .ok (.iload_n 1, 1) := by decide +kernel
theorem dX0_fitted_23 : decode cX0_fitted 23 = .ok (.laload, 1) := by decide +kernel
theorem dX0_fitted_24 : decode cX0_fitted 24 = .ok (.lreturn, 1) := by decide +kernel
theorem dX0_toldSum_0 : decode cX0_toldSum 0 = .ok (.iload_n 1, 1) := by decide +kernel
theorem dX0_toldSum_1 : decode cX0_toldSum 1 = .ok (.iload_n 2, 1) := by decide +kernel
theorem dX0_toldSum_2 : decode cX0_toldSum 2 = .ok (.invokestatic 70, 3) := by decide +kernel
theorem dX0_toldSum_5 : decode cX0_toldSum 5 = .ok (.ifCond .ne 13, 3) := by decide +kernel
theorem dX0_toldSum_8 : decode cX0_toldSum 8 = .ok (.new 100, 3) := by decide +kernel
theorem dX0_toldSum_11 : decode cX0_toldSum 11 = .ok (.dup, 1) := by decide +kernel
theorem dX0_toldSum_12 : decode cX0_toldSum 12 = .ok (.ldc 112, 2) := by decide +kernel
theorem dX0_toldSum_14 : decode cX0_toldSum 14 = .ok (.invokespecial 104, 3) := by decide +kernel
theorem dX0_toldSum_17 : decode cX0_toldSum 17 = .ok (.athrow, 1) := by decide +kernel
theorem dX0_toldSum_18 : decode cX0_toldSum 18 = .ok (.aload_n 0, 1) := by decide +kernel
theorem dX0_toldSum_19 : decode cX0_toldSum 19 = .ok (.aload_n 0, 1) := by decide +kernel
theorem dX0_toldSum_20 : decode cX0_toldSum 20 = .ok (.getfield 24, 3) := by decide +kernel
theorem dX0_toldSum_23 : decode cX0_toldSum 23 = .ok (.iload_n 1, 1) := by decide +kernel
theorem dX0_toldSum_24 : decode cX0_toldSum 24 = .ok (.iload_n 2, 1) := by decide +kernel
theorem dX0_toldSum_25 : decode cX0_toldSum 25 = .ok (.invokevirtual 165, 3) := by decide +kernel
theorem dX0_toldSum_28 : decode cX0_toldSum 28 = .ok (.lreturn, 1) := by decide +kernel
theorem dX0_fittedSum_0 : decode cX0_fittedSum 0 = .ok (.iload_n 1, 1) := by decide +kernel
theorem dX0_fittedSum_1 : decode cX0_fittedSum 1 = .ok (.iload_n 2, 1) := by decide +kernel
theorem dX0_fittedSum_2 : decode cX0_fittedSum 2 = .ok (.invokestatic 70, 3) := by decide +kernel
theorem dX0_fittedSum_5 : decode cX0_fittedSum 5 = .ok (.ifCond .ne 13, 3) := by decide +kernel
theorem dX0_fittedSum_8 : decode cX0_fittedSum 8 = .ok (.new 100, 3) := by decide +kernel
theorem dX0_fittedSum_11 : decode cX0_fittedSum 11 = .ok (.dup, 1) := by decide +kernel
theorem dX0_fittedSum_12 : decode cX0_fittedSum 12 = .ok (.ldc 112, 2) := by decide +kernel
theorem dX0_fittedSum_14 : decode cX0_fittedSum 14 = .ok (.invokespecial 104, 3) := by decide +kernel
theorem dX0_fittedSum_17 : decode cX0_fittedSum 17 = .ok (.athrow, 1) := by decide +kernel
theorem dX0_fittedSum_18 : decode cX0_fittedSum 18 = .ok (.aload_n 0, 1) := by decide +kernel
theorem dX0_fittedSum_19 : decode cX0_fittedSum 19 = .ok (.aload_n 0, 1) := by decide +kernel
theorem dX0_fittedSum_20 : decode cX0_fittedSum 20 = .ok (.getfield 55, 3) := by decide +kernel
theorem dX0_fittedSum_23 : decode cX0_fittedSum 23 = .ok (.iload_n 1, 1) := by decide +kernel
theorem dX0_fittedSum_24 : decode cX0_fittedSum 24 = .ok (.iload_n 2, 1) := by decide +kernel
theorem dX0_fittedSum_25 : decode cX0_fittedSum 25 = .ok (.invokevirtual 165, 3) := by decide +kernel
theorem dX0_fittedSum_28 : decode cX0_fittedSum 28 = .ok (.lreturn, 1) := by decide +kernel
theorem dX0_worst_0 : decode cX0_worst 0 = .ok (.iload_n 1, 1) := by decide +kernel
theorem dX0_worst_1 : decode cX0_worst 1 = .ok (.invokestatic 117, 3) := by decide +kernel
theorem dX0_worst_4 : decode cX0_worst 4 = .ok (.ifCond .ne 13, 3) := by decide +kernel
theorem dX0_worst_7 : decode cX0_worst 7 = .ok (.new 100, 3) := by decide +kernel
theorem dX0_worst_10 : decode cX0_worst 10 = .ok (.dup, 1) := by decide +kernel
theorem dX0_worst_11 : decode cX0_worst 11 = .ok (.ldc 120, 2) := by decide +kernel
theorem dX0_worst_13 : decode cX0_worst 13 = .ok (.invokespecial 104, 3) := by decide +kernel
theorem dX0_worst_16 : decode cX0_worst 16 = .ok (.athrow, 1) := by decide +kernel
theorem dX0_worst_17 : decode cX0_worst 17 = .ok (.lconst 0, 1) := by decide +kernel
theorem dX0_worst_18 : decode cX0_worst 18 = .ok (.lstore_n 2, 1) := by decide +kernel
theorem dX0_worst_19 : decode cX0_worst 19 = .ok (.iconst 0, 1) := by decide +kernel
theorem dX0_worst_20 : decode cX0_worst 20 = .ok (.istore 4, 2) := by decide +kernel
theorem dX0_worst_22 : decode cX0_worst 22 = .ok (.iload 4, 2) := by decide +kernel
theorem dX0_worst_24 : decode cX0_worst 24 = .ok (.getstatic 130, 3) := by decide +kernel
theorem dX0_worst_27 : decode cX0_worst 27 = .ok (.iload_n 1, 1) := by decide +kernel
theorem dX0_worst_28 : decode cX0_worst 28 = .ok (.iaload, 1) := by decide +kernel
theorem dX0_worst_29 : decode cX0_worst 29 = .ok (.if_icmp .ge 44, 3) := by decide +kernel
theorem dX0_worst_32 : decode cX0_worst 32 = .ok (.aload_n 0, 1) := by decide +kernel
theorem dX0_worst_33 : decode cX0_worst 33 = .ok (.aload_n 0, 1) := by decide +kernel
theorem dX0_worst_34 : decode cX0_worst 34 = .ok (.getfield 24, 3) := by decide +kernel
theorem dX0_worst_37 : decode cX0_worst 37 = .ok (.iload_n 1, 1) := by decide +kernel
theorem dX0_worst_38 : decode cX0_worst 38 = .ok (.iload 4, 2) := by decide +kernel
theorem dX0_worst_40 : decode cX0_worst 40 = .ok (.invokevirtual 165, 3) := by decide +kernel
theorem dX0_worst_43 : decode cX0_worst 43 = .ok (.aload_n 0, 1) := by decide +kernel
theorem dX0_worst_44 : decode cX0_worst 44 = .ok (.aload_n 0, 1) := by decide +kernel
theorem dX0_worst_45 : decode cX0_worst 45 = .ok (.getfield 55, 3) := by decide +kernel
theorem dX0_worst_48 : decode cX0_worst 48 = .ok (.iload_n 1, 1) := by decide +kernel
theorem dX0_worst_49 : decode cX0_worst 49 = .ok (.iload 4, 2) := by decide +kernel
theorem dX0_worst_51 : decode cX0_worst 51 = .ok (.invokevirtual 165, 3) := by decide +kernel
theorem dX0_worst_54 : decode cX0_worst 54 = .ok (.lsub, 1) := by decide +kernel
theorem dX0_worst_55 : decode cX0_worst 55 = .ok (.lstore 5, 2) := by decide +kernel
theorem dX0_worst_57 : decode cX0_worst 57 = .ok (.lload_n 2, 1) := by decide +kernel
theorem dX0_worst_58 : decode cX0_worst 58 = .ok (.lload 5, 2) := by decide +kernel
theorem dX0_worst_60 : decode cX0_worst 60 = .ok (.invokestatic 169, 3) := by decide +kernel
theorem dX0_worst_63 : decode cX0_worst 63 = .ok (.invokestatic 173, 3) := by decide +kernel
theorem dX0_worst_66 : decode cX0_worst 66 = .ok (.lstore_n 2, 1) := by decide +kernel
theorem dX0_worst_67 : decode cX0_worst 67 = .ok (.iinc 4 1, 3) := by decide +kernel
theorem dX0_worst_70 : decode cX0_worst 70 = .ok (.goto (-48), 3) := by decide +kernel
theorem dX0_worst_73 : decode cX0_worst 73 = .ok (.lload_n 2, 1) := by decide +kernel
theorem dX0_worst_74 : decode cX0_worst 74 = .ok (.lreturn, 1) := by decide +kernel
theorem dX0_premium_0 : decode cX0_premium 0 = .ok (.aload_n 0, 1) := by decide +kernel
theorem dX0_premium_1 : decode cX0_premium 1 = .ok (.iload_n 1, 1) := by decide +kernel
theorem dX0_premium_2 : decode cX0_premium 2 = .ok (.invokevirtual 96, 3) := by decide +kernel
theorem dX0_premium_5 : decode cX0_premium 5 = .ok (.ifCond .ne 13, 3) := by decide +kernel
theorem dX0_premium_8 : decode cX0_premium 8 = .ok (.new 100, 3) := by decide +kernel
theorem dX0_premium_11 : decode cX0_premium 11 = .ok (.dup, 1) := by decide +kernel
theorem dX0_premium_12 : decode cX0_premium 12 = .ok (.ldc 102, 2) := by decide +kernel
theorem dX0_premium_14 : decode cX0_premium 14 = .ok (.invokespecial 104, 3) := by decide +kernel
theorem dX0_premium_17 : decode cX0_premium 17 = .ok (.athrow, 1) := by decide +kernel
theorem dX0_premium_18 : decode cX0_premium 18 = .ok (.aload_n 0, 1) := by decide +kernel
theorem dX0_premium_19 : decode cX0_premium 19 = .ok (.iload_n 1, 1) := by decide +kernel
theorem dX0_premium_20 : decode cX0_premium 20 = .ok (.invokevirtual 176, 3) := by decide +kernel
theorem dX0_premium_23 : decode cX0_premium 23 = .ok (.lreturn, 1) := by decide +kernel
theorem dX0_capped_0 : decode cX0_capped 0 = .ok (.aload_n 0, 1) := by decide +kernel
theorem dX0_capped_1 : decode cX0_capped 1 = .ok (.iload_n 1, 1) := by decide +kernel
theorem dX0_capped_2 : decode cX0_capped 2 = .ok (.invokevirtual 96, 3) := by decide +kernel
theorem dX0_capped_5 : decode cX0_capped 5 = .ok (.ifCond .ne 13, 3) := by decide +kernel
theorem dX0_capped_8 : decode cX0_capped 8 = .ok (.new 100, 3) := by decide +kernel
theorem dX0_capped_11 : decode cX0_capped 11 = .ok (.dup, 1) := by decide +kernel
theorem dX0_capped_12 : decode cX0_capped 12 = .ok (.ldc 102, 2) := by decide +kernel
theorem dX0_capped_14 : decode cX0_capped 14 = .ok (.invokespecial 104, 3) := by decide +kernel
theorem dX0_capped_17 : decode cX0_capped 17 = .ok (.athrow, 1) := by decide +kernel
theorem dX0_capped_18 : decode cX0_capped 18 = .ok (.aload_n 0, 1) := by decide +kernel
theorem dX0_capped_19 : decode cX0_capped 19 = .ok (.iload_n 1, 1) := by decide +kernel
theorem dX0_capped_20 : decode cX0_capped 20 = .ok (.invokevirtual 180, 3) := by decide +kernel
theorem dX0_capped_23 : decode cX0_capped 23 = .ok (.lreturn, 1) := by decide +kernel
theorem dX0_lost_0 : decode cX0_lost 0 = .ok (.aload_n 0, 1) := by decide +kernel
theorem dX0_lost_1 : decode cX0_lost 1 = .ok (.aload_n 0, 1) := by decide +kernel
theorem dX0_lost_2 : decode cX0_lost 2 = .ok (.getfield 55, 3) := by decide +kernel
theorem dX0_lost_5 : decode cX0_lost 5 = .ok (.invokevirtual 149, 3) := by decide +kernel
theorem dX0_lost_8 : decode cX0_lost 8 = .ok (.aload_n 0, 1) := by decide +kernel
theorem dX0_lost_9 : decode cX0_lost 9 = .ok (.invokevirtual 143, 3) := by decide +kernel
theorem dX0_lost_12 : decode cX0_lost 12 = .ok (.lsub, 1) := by decide +kernel
theorem dX0_lost_13 : decode cX0_lost 13 = .ok (.lreturn, 1) := by decide +kernel
theorem dX0_rankedAt_0 : decode cX0_rankedAt 0 = .ok (.iconst 0, 1) := by decide +kernel
theorem dX0_rankedAt_1 : decode cX0_rankedAt 1 = .ok (.istore_n 2, 1) := by decide +kernel
theorem dX0_rankedAt_2 : decode cX0_rankedAt 2 = .ok (.iload_n 2, 1) := by decide +kernel
theorem dX0_rankedAt_3 : decode cX0_rankedAt 3 = .ok (.aload_n 0, 1) := by decide +kernel
theorem dX0_rankedAt_4 : decode cX0_rankedAt 4 = .ok (.getfield 35, 3) := by decide +kernel
theorem dX0_rankedAt_7 : decode cX0_rankedAt 7 = .ok (.if_icmp .ge 29, 3) := by decide +kernel
theorem dX0_rankedAt_10 : decode cX0_rankedAt 10 = .ok (.aload_n 0, 1) := by decide +kernel
theorem dX0_rankedAt_11 : decode cX0_rankedAt 11 = .ok (.getfield 31, 3) := by decide +kernel
theorem dX0_rankedAt_14 : decode cX0_rankedAt 14 = .ok (.iload_n 2, 1) := by decide +kernel
theorem dX0_rankedAt_15 : decode cX0_rankedAt 15 = .ok (.baload, 1) := by decide +kernel
theorem dX0_rankedAt_16 : decode cX0_rankedAt 16 = .ok (.ifCond .eq 14, 3) := by decide +kernel
theorem dX0_rankedAt_19 : decode cX0_rankedAt 19 = .ok (.aload_n 0, 1) := by decide +kernel
theorem dX0_rankedAt_20 : decode cX0_rankedAt 20 = .ok (.iload_n 2, 1) := by decide +kernel
theorem dX0_rankedAt_21 : decode cX0_rankedAt 21 = .ok (.invokevirtual 183, 3) := by decide +kernel
theorem dX0_rankedAt_24 : decode cX0_rankedAt 24 = .ok (.iload_n 1, 1) := by decide +kernel
theorem dX0_rankedAt_25 : decode cX0_rankedAt 25 = .ok (.if_icmp .ne 5, 3) := by decide +kernel
theorem dX0_rankedAt_28 : decode cX0_rankedAt 28 = .ok (.iload_n 2, 1) := by decide +kernel
theorem dX0_rankedAt_29 : decode cX0_rankedAt 29 = .ok (.ireturn, 1) := by decide +kernel
theorem dX0_rankedAt_30 : decode cX0_rankedAt 30 = .ok (.iinc 2 1, 3) := by decide +kernel
theorem dX0_rankedAt_33 : decode cX0_rankedAt 33 = .ok (.goto (-31), 3) := by decide +kernel
theorem dX0_rankedAt_36 : decode cX0_rankedAt 36 = .ok (.new 100, 3) := by decide +kernel
theorem dX0_rankedAt_39 : decode cX0_rankedAt 39 = .ok (.dup, 1) := by decide +kernel
theorem dX0_rankedAt_40 : decode cX0_rankedAt 40 = .ok (.ldc 186, 2) := by decide +kernel
theorem dX0_rankedAt_42 : decode cX0_rankedAt 42 = .ok (.invokespecial 104, 3) := by decide +kernel
theorem dX0_rankedAt_45 : decode cX0_rankedAt 45 = .ok (.athrow, 1) := by decide +kernel
theorem dX0_isWithin_0 : decode cX0_isWithin 0 = .ok (.iload_n 0, 1) := by decide +kernel
theorem dX0_isWithin_1 : decode cX0_isWithin 1 = .ok (.iload_n 1, 1) := by decide +kernel
theorem dX0_isWithin_2 : decode cX0_isWithin 2 = .ok (.if_icmp .lt 12, 3) := by decide +kernel
theorem dX0_isWithin_5 : decode cX0_isWithin 5 = .ok (.iload_n 0, 1) := by decide +kernel
theorem dX0_isWithin_6 : decode cX0_isWithin 6 = .ok (.iload_n 2, 1) := by decide +kernel
theorem dX0_isWithin_7 : decode cX0_isWithin 7 = .ok (.if_icmp .gt 7, 3) := by decide +kernel
theorem dX0_isWithin_10 : decode cX0_isWithin 10 = .ok (.iconst 1, 1) := by decide +kernel
theorem dX0_isWithin_11 : decode cX0_isWithin 11 = .ok (.goto 4, 3) := by decide +kernel
theorem dX0_isWithin_14 : decode cX0_isWithin 14 = .ok (.iconst 0, 1) := by decide +kernel
theorem dX0_isWithin_15 : decode cX0_isWithin 15 = .ok (.ireturn, 1) := by decide +kernel
theorem dX0_hasTrait_0 : decode cX0_hasTrait 0 = .ok (.iload_n 0, 1) := by decide +kernel
theorem dX0_hasTrait_1 : decode cX0_hasTrait 1 = .ok (.ifCond .lt 12, 3) := by decide +kernel
theorem dX0_hasTrait_4 : decode cX0_hasTrait 4 = .ok (.iload_n 0, 1) := by decide +kernel
theorem dX0_hasTrait_5 : decode cX0_hasTrait 5 = .ok (.iconst 3, 1) := by decide +kernel
theorem dX0_hasTrait_6 : decode cX0_hasTrait 6 = .ok (.if_icmp .ge 7, 3) := by decide +kernel
theorem dX0_hasTrait_9 : decode cX0_hasTrait 9 = .ok (.iconst 1, 1) := by decide +kernel
theorem dX0_hasTrait_10 : decode cX0_hasTrait 10 = .ok (.goto 4, 3) := by decide +kernel
theorem dX0_hasTrait_13 : decode cX0_hasTrait 13 = .ok (.iconst 0, 1) := by decide +kernel
theorem dX0_hasTrait_14 : decode cX0_hasTrait 14 = .ok (.ireturn, 1) := by decide +kernel
theorem dX0_hasLevel_0 : decode cX0_hasLevel 0 = .ok (.iload_n 0, 1) := by decide +kernel
theorem dX0_hasLevel_1 : decode cX0_hasLevel 1 = .ok (.invokestatic 117, 3) := by decide +kernel
theorem dX0_hasLevel_4 : decode cX0_hasLevel 4 = .ok (.ifCond .eq 20, 3) := by decide +kernel
theorem dX0_hasLevel_7 : decode cX0_hasLevel 7 = .ok (.iload_n 1, 1) := by decide +kernel
theorem dX0_hasLevel_8 : decode cX0_hasLevel 8 = .ok (.ifCond .lt 16, 3) := by decide +kernel
theorem dX0_hasLevel_11 : decode cX0_hasLevel 11 = .ok (.iload_n 1, 1) := by decide +kernel
theorem dX0_hasLevel_12 : decode cX0_hasLevel 12 = .ok (.getstatic 130, 3) := by decide +kernel
theorem dX0_hasLevel_15 : decode cX0_hasLevel 15 = .ok (.iload_n 0, 1) := by decide +kernel
theorem dX0_hasLevel_16 : decode cX0_hasLevel 16 = .ok (.iaload, 1) := by decide +kernel
theorem dX0_hasLevel_17 : decode cX0_hasLevel 17 = .ok (.if_icmp .ge 7, 3) := by decide +kernel
theorem dX0_hasLevel_20 : decode cX0_hasLevel 20 = .ok (.iconst 1, 1) := by decide +kernel
theorem dX0_hasLevel_21 : decode cX0_hasLevel 21 = .ok (.goto 4, 3) := by decide +kernel
theorem dX0_hasLevel_24 : decode cX0_hasLevel 24 = .ok (.iconst 0, 1) := by decide +kernel
theorem dX0_hasLevel_25 : decode cX0_hasLevel 25 = .ok (.ireturn, 1) := by decide +kernel
theorem dX0_hasRow_0 : decode cX0_hasRow 0 = .ok (.iload_n 1, 1) := by decide +kernel
theorem dX0_hasRow_1 : decode cX0_hasRow 1 = .ok (.ifCond .lt 24, 3) := by decide +kernel
theorem dX0_hasRow_4 : decode cX0_hasRow 4 = .ok (.iload_n 1, 1) := by decide +kernel
theorem dX0_hasRow_5 : decode cX0_hasRow 5 = .ok (.aload_n 0, 1) := by decide +kernel
theorem dX0_hasRow_6 : decode cX0_hasRow 6 = .ok (.getfield 35, 3) := by decide +kernel
theorem dX0_hasRow_9 : decode cX0_hasRow 9 = .ok (.if_icmp .ge 16, 3) := by decide +kernel
theorem dX0_hasRow_12 : decode cX0_hasRow 12 = .ok (.aload_n 0, 1) := by decide +kernel
theorem dX0_hasRow_13 : decode cX0_hasRow 13 = .ok (.getfield 31, 3) := by decide +kernel
theorem dX0_hasRow_16 : decode cX0_hasRow 16 = .ok (.iload_n 1, 1) := by decide +kernel
theorem dX0_hasRow_17 : decode cX0_hasRow 17 = .ok (.baload, 1) := by decide +kernel
theorem dX0_hasRow_18 : decode cX0_hasRow 18 = .ok (.ifCond .eq 7, 3) := by decide +kernel
theorem dX0_hasRow_21 : decode cX0_hasRow 21 = .ok (.iconst 1, 1) := by decide +kernel
theorem dX0_hasRow_22 : decode cX0_hasRow 22 = .ok (.goto 4, 3) := by decide +kernel
theorem dX0_hasRow_25 : decode cX0_hasRow 25 = .ok (.iconst 0, 1) := by decide +kernel
theorem dX0_hasRow_26 : decode cX0_hasRow 26 = .ok (.ireturn, 1) := by decide +kernel
theorem dX0_total_0 : decode cX0_total 0 = .ok (.lconst 0, 1) := by decide +kernel
theorem dX0_total_1 : decode cX0_total 1 = .ok (.lstore_n 2, 1) := by decide +kernel
theorem dX0_total_2 : decode cX0_total 2 = .ok (.iconst 0, 1) := by decide +kernel
theorem dX0_total_3 : decode cX0_total 3 = .ok (.istore 4, 2) := by decide +kernel
theorem dX0_total_5 : decode cX0_total 5 = .ok (.iload 4, 2) := by decide +kernel
theorem dX0_total_7 : decode cX0_total 7 = .ok (.aload_n 0, 1) := by decide +kernel
theorem dX0_total_8 : decode cX0_total 8 = .ok (.getfield 35, 3) := by decide +kernel
theorem dX0_total_11 : decode cX0_total 11 = .ok (.if_icmp .ge 26, 3) := by decide +kernel
theorem dX0_total_14 : decode cX0_total 14 = .ok (.aload_n 0, 1) := by decide +kernel
theorem dX0_total_15 : decode cX0_total 15 = .ok (.getfield 31, 3) := by decide +kernel
theorem dX0_total_18 : decode cX0_total 18 = .ok (.iload 4, 2) := by decide +kernel
theorem dX0_total_20 : decode cX0_total 20 = .ok (.baload, 1) := by decide +kernel
theorem dX0_total_21 : decode cX0_total 21 = .ok (.ifCond .eq 10, 3) := by decide +kernel
theorem dX0_total_24 : decode cX0_total 24 = .ok (.lload_n 2, 1) := by decide +kernel
theorem dX0_total_25 : decode cX0_total 25 = .ok (.aload_n 1, 1) := by decide +kernel
theorem dX0_total_26 : decode cX0_total 26 = .ok (.iload 4, 2) := by decide +kernel
theorem dX0_total_28 : decode cX0_total 28 = .ok (.laload, 1) := by decide +kernel
theorem dX0_total_29 : decode cX0_total 29 = .ok (.ladd, 1) := by decide +kernel
theorem dX0_total_30 : decode cX0_total 30 = .ok (.lstore_n 2, 1) := by decide +kernel
theorem dX0_total_31 : decode cX0_total 31 = .ok (.iinc 4 1, 3) := by decide +kernel
theorem dX0_total_34 : decode cX0_total 34 = .ok (.goto (-29), 3) := by decide +kernel
theorem dX0_total_37 : decode cX0_total 37 = .ok (.lload_n 2, 1) := by decide +kernel
theorem dX0_total_38 : decode cX0_total 38 = .ok (.lreturn, 1) := by decide +kernel
theorem dX0_levelTotal_0 : decode cX0_levelTotal 0 = .ok (.lconst 0, 1) := by decide +kernel
theorem dX0_levelTotal_1 : decode cX0_levelTotal 1 = .ok (.lstore 4, 2) := by decide +kernel
theorem dX0_levelTotal_3 : decode cX0_levelTotal 3 = .ok (.iconst 0, 1) := by decide +kernel
theorem dX0_levelTotal_4 : decode cX0_levelTotal 4 = .ok (.istore 6, 2) := by decide +kernel
theorem dX0_levelTotal_6 : decode cX0_levelTotal 6 = .ok (.iload 6, 2) := by decide +kernel
theorem dX0_levelTotal_8 : decode cX0_levelTotal 8 = .ok (.aload_n 0, 1) := by decide +kernel
theorem dX0_levelTotal_9 : decode cX0_levelTotal 9 = .ok (.getfield 35, 3) := by decide +kernel
theorem dX0_levelTotal_12 : decode cX0_levelTotal 12 = .ok (.if_icmp .ge 41, 3) := by decide +kernel
theorem dX0_levelTotal_15 : decode cX0_levelTotal 15 = .ok (.aload_n 0, 1) := by decide +kernel
theorem dX0_levelTotal_16 : decode cX0_levelTotal 16 = .ok (.getfield 31, 3) := by decide +kernel
theorem dX0_levelTotal_19 : decode cX0_levelTotal 19 = .ok (.iload 6, 2) := by decide +kernel
theorem dX0_levelTotal_21 : decode cX0_levelTotal 21 = .ok (.baload, 1) := by decide +kernel
theorem dX0_levelTotal_22 : decode cX0_levelTotal 22 = .ok (.ifCond .eq 25, 3) := by decide +kernel
theorem dX0_levelTotal_25 : decode cX0_levelTotal 25 = .ok (.aload_n 0, 1) := by decide +kernel
theorem dX0_levelTotal_26 : decode cX0_levelTotal 26 = .ok (.getfield 14, 3) := by decide +kernel
theorem dX0_levelTotal_29 : decode cX0_levelTotal 29 = .ok (.iload_n 2, 1) := by decide +kernel
theorem dX0_levelTotal_30 : decode cX0_levelTotal 30 = .ok (.aaload, 1) := by decide +kernel
theorem dX0_levelTotal_31 : decode cX0_levelTotal 31 = .ok (.iload 6, 2) := by decide +kernel
theorem dX0_levelTotal_33 : decode cX0_levelTotal 33 = .ok (.iaload, 1) := by decide +kernel
theorem dX0_levelTotal_34 : decode cX0_levelTotal 34 = .ok (.iload_n 3, 1) := by decide +kernel
theorem dX0_levelTotal_35 : decode cX0_levelTotal 35 = .ok (.if_icmp .ne 12, 3) := by decide +kernel
theorem dX0_levelTotal_38 : decode cX0_levelTotal 38 = .ok (.lload 4, 2) := by decide +kernel
theorem dX0_levelTotal_40 : decode cX0_levelTotal 40 = .ok (.aload_n 1, 1) := by decide +kernel
end
section
theorem dX0_levelTotal_41 : decode cX0_levelTotal 41 = .ok (.iload 6, 2) := by decide +kernel
theorem dX0_levelTotal_43 : decode cX0_levelTotal 43 = .ok (.laload, 1) := by decide +kernel
theorem dX0_levelTotal_44 : decode cX0_levelTotal 44 = .ok (.ladd, 1) := by decide +kernel
theorem dX0_levelTotal_45 : decode cX0_levelTotal 45 = .ok (.lstore 4, 2) := by decide +kernel
theorem dX0_levelTotal_47 : decode cX0_levelTotal 47 = .ok (.iinc 6 1, 3) := by decide +kernel
theorem dX0_levelTotal_50 : decode cX0_levelTotal 50 = .ok (.goto (-44), 3) := by decide +kernel
theorem dX0_levelTotal_53 : decode cX0_levelTotal 53 = .ok (.lload 4, 2) := by decide +kernel
theorem dX0_levelTotal_55 : decode cX0_levelTotal 55 = .ok (.lreturn, 1) := by decide +kernel
theorem dX0_cappedTotal_0 : decode cX0_cappedTotal 0 = .ok (.lconst 0, 1) := by decide +kernel
theorem dX0_cappedTotal_1 : decode cX0_cappedTotal 1 = .ok (.lstore_n 1, 1) := by decide +kernel
theorem dX0_cappedTotal_2 : decode cX0_cappedTotal 2 = .ok (.iconst 0, 1) := by decide +kernel
theorem dX0_cappedTotal_3 : decode cX0_cappedTotal 3 = .ok (.istore_n 3, 1) := by decide +kernel
theorem dX0_cappedTotal_4 : decode cX0_cappedTotal 4 = .ok (.iload_n 3, 1) := by decide +kernel
theorem dX0_cappedTotal_5 : decode cX0_cappedTotal 5 = .ok (.aload_n 0, 1) := by decide +kernel
theorem dX0_cappedTotal_6 : decode cX0_cappedTotal 6 = .ok (.getfield 35, 3) := by decide +kernel
theorem dX0_cappedTotal_9 : decode cX0_cappedTotal 9 = .ok (.if_icmp .ge 26, 3) := by decide +kernel
theorem dX0_cappedTotal_12 : decode cX0_cappedTotal 12 = .ok (.aload_n 0, 1) := by decide +kernel
theorem dX0_cappedTotal_13 : decode cX0_cappedTotal 13 = .ok (.getfield 31, 3) := by decide +kernel
theorem dX0_cappedTotal_16 : decode cX0_cappedTotal 16 = .ok (.iload_n 3, 1) := by decide +kernel
theorem dX0_cappedTotal_17 : decode cX0_cappedTotal 17 = .ok (.baload, 1) := by decide +kernel
theorem dX0_cappedTotal_18 : decode cX0_cappedTotal 18 = .ok (.ifCond .eq 11, 3) := by decide +kernel
theorem dX0_cappedTotal_21 : decode cX0_cappedTotal 21 = .ok (.lload_n 1, 1) := by decide +kernel
theorem dX0_cappedTotal_22 : decode cX0_cappedTotal 22 = .ok (.aload_n 0, 1) := by decide +kernel
theorem dX0_cappedTotal_23 : decode cX0_cappedTotal 23 = .ok (.iload_n 3, 1) := by decide +kernel
theorem dX0_cappedTotal_24 : decode cX0_cappedTotal 24 = .ok (.invokevirtual 180, 3) := by decide +kernel
theorem dX0_cappedTotal_27 : decode cX0_cappedTotal 27 = .ok (.ladd, 1) := by decide +kernel
theorem dX0_cappedTotal_28 : decode cX0_cappedTotal 28 = .ok (.lstore_n 1, 1) := by decide +kernel
theorem dX0_cappedTotal_29 : decode cX0_cappedTotal 29 = .ok (.iinc 3 1, 3) := by decide +kernel
theorem dX0_cappedTotal_32 : decode cX0_cappedTotal 32 = .ok (.goto (-28), 3) := by decide +kernel
theorem dX0_cappedTotal_35 : decode cX0_cappedTotal 35 = .ok (.lload_n 1, 1) := by decide +kernel
theorem dX0_cappedTotal_36 : decode cX0_cappedTotal 36 = .ok (.lreturn, 1) := by decide +kernel
theorem dX0_refit_0 : decode cX0_refit 0 = .ok (.aload_n 0, 1) := by decide +kernel
theorem dX0_refit_1 : decode cX0_refit 1 = .ok (.aload_n 0, 1) := by decide +kernel
theorem dX0_refit_2 : decode cX0_refit 2 = .ok (.getfield 17, 3) := by decide +kernel
theorem dX0_refit_5 : decode cX0_refit 5 = .ok (.invokevirtual 149, 3) := by decide +kernel
theorem dX0_refit_8 : decode cX0_refit 8 = .ok (.lstore_n 1, 1) := by decide +kernel
theorem dX0_refit_9 : decode cX0_refit 9 = .ok (.aload_n 0, 1) := by decide +kernel
theorem dX0_refit_10 : decode cX0_refit 10 = .ok (.lload_n 1, 1) := by decide +kernel
theorem dX0_refit_11 : decode cX0_refit 11 = .ok (.lconst 0, 1) := by decide +kernel
theorem dX0_refit_12 : decode cX0_refit 12 = .ok (.lcmp, 1) := by decide +kernel
theorem dX0_refit_13 : decode cX0_refit 13 = .ok (.ifCond .le 20, 3) := by decide +kernel
theorem dX0_refit_16 : decode cX0_refit 16 = .ok (.ldc2_w 147, 3) := by decide +kernel
theorem dX0_refit_19 : decode cX0_refit 19 = .ok (.aload_n 0, 1) := by decide +kernel
theorem dX0_refit_20 : decode cX0_refit 20 = .ok (.aload_n 0, 1) := by decide +kernel
theorem dX0_refit_21 : decode cX0_refit 21 = .ok (.getfield 24, 3) := by decide +kernel
theorem dX0_refit_24 : decode cX0_refit 24 = .ok (.invokevirtual 149, 3) := by decide +kernel
theorem dX0_refit_27 : decode cX0_refit 27 = .ok (.lmul, 1) := by decide +kernel
theorem dX0_refit_28 : decode cX0_refit 28 = .ok (.lload_n 1, 1) := by decide +kernel
theorem dX0_refit_29 : decode cX0_refit 29 = .ok (.ldiv, 1) := by decide +kernel
theorem dX0_refit_30 : decode cX0_refit 30 = .ok (.goto 4, 3) := by decide +kernel
theorem dX0_refit_33 : decode cX0_refit 33 = .ok (.lconst 0, 1) := by decide +kernel
theorem dX0_refit_34 : decode cX0_refit 34 = .ok (.putfield 51, 3) := by decide +kernel
theorem dX0_refit_37 : decode cX0_refit 37 = .ok (.iconst 0, 1) := by decide +kernel
theorem dX0_refit_38 : decode cX0_refit 38 = .ok (.istore_n 3, 1) := by decide +kernel
theorem dX0_refit_39 : decode cX0_refit 39 = .ok (.iload_n 3, 1) := by decide +kernel
theorem dX0_refit_40 : decode cX0_refit 40 = .ok (.aload_n 0, 1) := by decide +kernel
theorem dX0_refit_41 : decode cX0_refit 41 = .ok (.getfield 35, 3) := by decide +kernel
theorem dX0_refit_44 : decode cX0_refit 44 = .ok (.if_icmp .ge 20, 3) := by decide +kernel
theorem dX0_refit_47 : decode cX0_refit 47 = .ok (.aload_n 0, 1) := by decide +kernel
theorem dX0_refit_48 : decode cX0_refit 48 = .ok (.getfield 55, 3) := by decide +kernel
theorem dX0_refit_51 : decode cX0_refit 51 = .ok (.iload_n 3, 1) := by decide +kernel
theorem dX0_refit_52 : decode cX0_refit 52 = .ok (.aload_n 0, 1) := by decide +kernel
theorem dX0_refit_53 : decode cX0_refit 53 = .ok (.iload_n 3, 1) := by decide +kernel
theorem dX0_refit_54 : decode cX0_refit 54 = .ok (.invokevirtual 188, 3) := by decide +kernel
theorem dX0_refit_57 : decode cX0_refit 57 = .ok (.lastore, 1) := by decide +kernel
theorem dX0_refit_58 : decode cX0_refit 58 = .ok (.iinc 3 1, 3) := by decide +kernel
theorem dX0_refit_61 : decode cX0_refit 61 = .ok (.goto (-22), 3) := by decide +kernel
theorem dX0_refit_64 : decode cX0_refit 64 = .ok (.return_, 1) := by decide +kernel
theorem dX0_fittedLoss_0 : decode cX0_fittedLoss 0 = .ok (.aload_n 0, 1) := by decide +kernel
theorem dX0_fittedLoss_1 : decode cX0_fittedLoss 1 = .ok (.getfield 17, 3) := by decide +kernel
theorem dX0_fittedLoss_4 : decode cX0_fittedLoss 4 = .ok (.iload_n 1, 1) := by decide +kernel
theorem dX0_fittedLoss_5 : decode cX0_fittedLoss 5 = .ok (.laload, 1) := by decide +kernel
theorem dX0_fittedLoss_6 : decode cX0_fittedLoss 6 = .ok (.aload_n 0, 1) := by decide +kernel
theorem dX0_fittedLoss_7 : decode cX0_fittedLoss 7 = .ok (.getfield 51, 3) := by decide +kernel
theorem dX0_fittedLoss_10 : decode cX0_fittedLoss 10 = .ok (.lmul, 1) := by decide +kernel
theorem dX0_fittedLoss_11 : decode cX0_fittedLoss 11 = .ok (.ldc2_w 147, 3) := by decide +kernel
theorem dX0_fittedLoss_14 : decode cX0_fittedLoss 14 = .ok (.ldiv, 1) := by decide +kernel
theorem dX0_fittedLoss_15 : decode cX0_fittedLoss 15 = .ok (.lstore_n 2, 1) := by decide +kernel
theorem dX0_fittedLoss_16 : decode cX0_fittedLoss 16 = .ok (.iconst 0, 1) := by decide +kernel
theorem dX0_fittedLoss_17 : decode cX0_fittedLoss 17 = .ok (.istore 4, 2) := by decide +kernel
theorem dX0_fittedLoss_19 : decode cX0_fittedLoss 19 = .ok (.iload 4, 2) := by decide +kernel
theorem dX0_fittedLoss_21 : decode cX0_fittedLoss 21 = .ok (.iconst 3, 1) := by decide +kernel
theorem dX0_fittedLoss_22 : decode cX0_fittedLoss 22 = .ok (.if_icmp .ge 34, 3) := by decide +kernel
theorem dX0_fittedLoss_25 : decode cX0_fittedLoss 25 = .ok (.lload_n 2, 1) := by decide +kernel
theorem dX0_fittedLoss_26 : decode cX0_fittedLoss 26 = .ok (.aload_n 0, 1) := by decide +kernel
theorem dX0_fittedLoss_27 : decode cX0_fittedLoss 27 = .ok (.getfield 11, 3) := by decide +kernel
theorem dX0_fittedLoss_30 : decode cX0_fittedLoss 30 = .ok (.iload 4, 2) := by decide +kernel
theorem dX0_fittedLoss_32 : decode cX0_fittedLoss 32 = .ok (.aaload, 1) := by decide +kernel
theorem dX0_fittedLoss_33 : decode cX0_fittedLoss 33 = .ok (.aload_n 0, 1) := by decide +kernel
theorem dX0_fittedLoss_34 : decode cX0_fittedLoss 34 = .ok (.getfield 14, 3) := by decide +kernel
theorem dX0_fittedLoss_37 : decode cX0_fittedLoss 37 = .ok (.iload 4, 2) := by decide +kernel
theorem dX0_fittedLoss_39 : decode cX0_fittedLoss 39 = .ok (.aaload, 1) := by decide +kernel
theorem dX0_fittedLoss_40 : decode cX0_fittedLoss 40 = .ok (.iload_n 1, 1) := by decide +kernel
theorem dX0_fittedLoss_41 : decode cX0_fittedLoss 41 = .ok (.iaload, 1) := by decide +kernel
theorem dX0_fittedLoss_42 : decode cX0_fittedLoss 42 = .ok (.iaload, 1) := by decide +kernel
theorem dX0_fittedLoss_43 : decode cX0_fittedLoss 43 = .ok (.i2l, 1) := by decide +kernel
theorem dX0_fittedLoss_44 : decode cX0_fittedLoss 44 = .ok (.lmul, 1) := by decide +kernel
theorem dX0_fittedLoss_45 : decode cX0_fittedLoss 45 = .ok (.ldc2_w 147, 3) := by decide +kernel
theorem dX0_fittedLoss_48 : decode cX0_fittedLoss 48 = .ok (.ldiv, 1) := by decide +kernel
theorem dX0_fittedLoss_49 : decode cX0_fittedLoss 49 = .ok (.lstore_n 2, 1) := by decide +kernel
theorem dX0_fittedLoss_50 : decode cX0_fittedLoss 50 = .ok (.iinc 4 1, 3) := by decide +kernel
theorem dX0_fittedLoss_53 : decode cX0_fittedLoss 53 = .ok (.goto (-34), 3) := by decide +kernel
theorem dX0_fittedLoss_56 : decode cX0_fittedLoss 56 = .ok (.lload_n 2, 1) := by decide +kernel
theorem dX0_fittedLoss_57 : decode cX0_fittedLoss 57 = .ok (.lreturn, 1) := by decide +kernel
theorem dX0_changedByRound_0 : decode cX0_changedByRound 0 = .ok (.iconst 0, 1) := by decide +kernel
theorem dX0_changedByRound_1 : decode cX0_changedByRound 1 = .ok (.istore_n 1, 1) := by decide +kernel
theorem dX0_changedByRound_2 : decode cX0_changedByRound 2 = .ok (.iconst 0, 1) := by decide +kernel
theorem dX0_changedByRound_3 : decode cX0_changedByRound 3 = .ok (.istore_n 2, 1) := by decide +kernel
theorem dX0_changedByRound_4 : decode cX0_changedByRound 4 = .ok (.iload_n 2, 1) := by decide +kernel
theorem dX0_changedByRound_5 : decode cX0_changedByRound 5 = .ok (.iconst 3, 1) := by decide +kernel
theorem dX0_changedByRound_6 : decode cX0_changedByRound 6 = .ok (.if_icmp .ge 17, 3) := by decide +kernel
theorem dX0_changedByRound_9 : decode cX0_changedByRound 9 = .ok (.iload_n 1, 1) := by decide +kernel
theorem dX0_changedByRound_10 : decode cX0_changedByRound 10 = .ok (.aload_n 0, 1) := by decide +kernel
theorem dX0_changedByRound_11 : decode cX0_changedByRound 11 = .ok (.iload_n 2, 1) := by decide +kernel
theorem dX0_changedByRound_12 : decode cX0_changedByRound 12 = .ok (.invokevirtual 122, 3) := by decide +kernel
theorem dX0_changedByRound_15 : decode cX0_changedByRound 15 = .ok (.iadd, 1) := by decide +kernel
theorem dX0_changedByRound_16 : decode cX0_changedByRound 16 = .ok (.istore_n 1, 1) := by decide +kernel
theorem dX0_changedByRound_17 : decode cX0_changedByRound 17 = .ok (.iinc 2 1, 3) := by decide +kernel
theorem dX0_changedByRound_20 : decode cX0_changedByRound 20 = .ok (.goto (-16), 3) := by decide +kernel
theorem dX0_changedByRound_23 : decode cX0_changedByRound 23 = .ok (.iload_n 1, 1) := by decide +kernel
theorem dX0_changedByRound_24 : decode cX0_changedByRound 24 = .ok (.ireturn, 1) := by decide +kernel
theorem dX0_passOver_0 : decode cX0_passOver 0 = .ok (.iconst 0, 1) := by decide +kernel
theorem dX0_passOver_1 : decode cX0_passOver 1 = .ok (.istore_n 2, 1) := by decide +kernel
theorem dX0_passOver_2 : decode cX0_passOver 2 = .ok (.iconst 0, 1) := by decide +kernel
theorem dX0_passOver_3 : decode cX0_passOver 3 = .ok (.istore_n 3, 1) := by decide +kernel
theorem dX0_passOver_4 : decode cX0_passOver 4 = .ok (.iload_n 3, 1) := by decide +kernel
theorem dX0_passOver_5 : decode cX0_passOver 5 = .ok (.getstatic 130, 3) := by decide +kernel
theorem dX0_passOver_8 : decode cX0_passOver 8 = .ok (.iload_n 1, 1) := by decide +kernel
theorem dX0_passOver_9 : decode cX0_passOver 9 = .ok (.iaload, 1) := by decide +kernel
theorem dX0_passOver_10 : decode cX0_passOver 10 = .ok (.if_icmp .ge 43, 3) := by decide +kernel
theorem dX0_passOver_13 : decode cX0_passOver 13 = .ok (.aload_n 0, 1) := by decide +kernel
theorem dX0_passOver_14 : decode cX0_passOver 14 = .ok (.iload_n 1, 1) := by decide +kernel
theorem dX0_passOver_15 : decode cX0_passOver 15 = .ok (.iload_n 3, 1) := by decide +kernel
theorem dX0_passOver_16 : decode cX0_passOver 16 = .ok (.invokevirtual 191, 3) := by decide +kernel
theorem dX0_passOver_19 : decode cX0_passOver 19 = .ok (.istore 4, 2) := by decide +kernel
theorem dX0_passOver_21 : decode cX0_passOver 21 = .ok (.iload 4, 2) := by decide +kernel
theorem dX0_passOver_23 : decode cX0_passOver 23 = .ok (.aload_n 0, 1) := by decide +kernel
theorem dX0_passOver_24 : decode cX0_passOver 24 = .ok (.getfield 11, 3) := by decide +kernel
theorem dX0_passOver_27 : decode cX0_passOver 27 = .ok (.iload_n 1, 1) := by decide +kernel
theorem dX0_passOver_28 : decode cX0_passOver 28 = .ok (.aaload, 1) := by decide +kernel
theorem dX0_passOver_29 : decode cX0_passOver 29 = .ok (.iload_n 3, 1) := by decide +kernel
theorem dX0_passOver_30 : decode cX0_passOver 30 = .ok (.iaload, 1) := by decide +kernel
theorem dX0_passOver_31 : decode cX0_passOver 31 = .ok (.if_icmp .eq 16, 3) := by decide +kernel
theorem dX0_passOver_34 : decode cX0_passOver 34 = .ok (.aload_n 0, 1) := by decide +kernel
theorem dX0_passOver_35 : decode cX0_passOver 35 = .ok (.getfield 11, 3) := by decide +kernel
theorem dX0_passOver_38 : decode cX0_passOver 38 = .ok (.iload_n 1, 1) := by decide +kernel
theorem dX0_passOver_39 : decode cX0_passOver 39 = .ok (.aaload, 1) := by decide +kernel
theorem dX0_passOver_40 : decode cX0_passOver 40 = .ok (.iload_n 3, 1) := by decide +kernel
theorem dX0_passOver_41 : decode cX0_passOver 41 = .ok (.iload 4, 2) := by decide +kernel
theorem dX0_passOver_43 : decode cX0_passOver 43 = .ok (.iastore, 1) := by decide +kernel
theorem dX0_passOver_44 : decode cX0_passOver 44 = .ok (.iinc 2 1, 3) := by decide +kernel
theorem dX0_passOver_47 : decode cX0_passOver 47 = .ok (.iinc 3 1, 3) := by decide +kernel
theorem dX0_passOver_50 : decode cX0_passOver 50 = .ok (.goto (-46), 3) := by decide +kernel
theorem dX0_passOver_53 : decode cX0_passOver 53 = .ok (.aload_n 0, 1) := by decide +kernel
theorem dX0_passOver_54 : decode cX0_passOver 54 = .ok (.invokevirtual 93, 3) := by decide +kernel
theorem dX0_passOver_57 : decode cX0_passOver 57 = .ok (.iload_n 2, 1) := by decide +kernel
theorem dX0_passOver_58 : decode cX0_passOver 58 = .ok (.ireturn, 1) := by decide +kernel
theorem dX0_foundFactor_0 : decode cX0_foundFactor 0 = .ok (.aload_n 0, 1) := by decide +kernel
theorem dX0_foundFactor_1 : decode cX0_foundFactor 1 = .ok (.getfield 11, 3) := by decide +kernel
theorem dX0_foundFactor_4 : decode cX0_foundFactor 4 = .ok (.iload_n 1, 1) := by decide +kernel
theorem dX0_foundFactor_5 : decode cX0_foundFactor 5 = .ok (.aaload, 1) := by decide +kernel
theorem dX0_foundFactor_6 : decode cX0_foundFactor 6 = .ok (.iload_n 2, 1) := by decide +kernel
theorem dX0_foundFactor_7 : decode cX0_foundFactor 7 = .ok (.iaload, 1) := by decide +kernel
theorem dX0_foundFactor_8 : decode cX0_foundFactor 8 = .ok (.istore_n 3, 1) := by decide +kernel
theorem dX0_foundFactor_9 : decode cX0_foundFactor 9 = .ok (.aload_n 0, 1) := by decide +kernel
theorem dX0_foundFactor_10 : decode cX0_foundFactor 10 = .ok (.aload_n 0, 1) := by decide +kernel
theorem dX0_foundFactor_11 : decode cX0_foundFactor 11 = .ok (.getfield 55, 3) := by decide +kernel
theorem dX0_foundFactor_14 : decode cX0_foundFactor 14 = .ok (.iload_n 1, 1) := by decide +kernel
theorem dX0_foundFactor_15 : decode cX0_foundFactor 15 = .ok (.iload_n 2, 1) := by decide +kernel
theorem dX0_foundFactor_16 : decode cX0_foundFactor 16 = .ok (.invokevirtual 165, 3) := by decide +kernel
theorem dX0_foundFactor_19 : decode cX0_foundFactor 19 = .ok (.lstore 4, 2) := by decide +kernel
theorem dX0_foundFactor_21 : decode cX0_foundFactor 21 = .ok (.aload_n 0, 1) := by decide +kernel
theorem dX0_foundFactor_22 : decode cX0_foundFactor 22 = .ok (.aload_n 0, 1) := by decide +kernel
theorem dX0_foundFactor_23 : decode cX0_foundFactor 23 = .ok (.getfield 21, 3) := by decide +kernel
theorem dX0_foundFactor_26 : decode cX0_foundFactor 26 = .ok (.iload_n 1, 1) := by decide +kernel
theorem dX0_foundFactor_27 : decode cX0_foundFactor 27 = .ok (.iload_n 2, 1) := by decide +kernel
theorem dX0_foundFactor_28 : decode cX0_foundFactor 28 = .ok (.invokevirtual 165, 3) := by decide +kernel
theorem dX0_foundFactor_31 : decode cX0_foundFactor 31 = .ok (.lstore 6, 2) := by decide +kernel
theorem dX0_foundFactor_33 : decode cX0_foundFactor 33 = .ok (.lload 4, 2) := by decide +kernel
theorem dX0_foundFactor_35 : decode cX0_foundFactor 35 = .ok (.lconst 0, 1) := by decide +kernel
theorem dX0_foundFactor_36 : decode cX0_foundFactor 36 = .ok (.lcmp, 1) := by decide +kernel
theorem dX0_foundFactor_37 : decode cX0_foundFactor 37 = .ok (.ifCond .le 10, 3) := by decide +kernel
theorem dX0_foundFactor_40 : decode cX0_foundFactor 40 = .ok (.lload 6, 2) := by decide +kernel
theorem dX0_foundFactor_42 : decode cX0_foundFactor 42 = .ok (.lconst 0, 1) := by decide +kernel
theorem dX0_foundFactor_43 : decode cX0_foundFactor 43 = .ok (.lcmp, 1) := by decide +kernel
theorem dX0_foundFactor_44 : decode cX0_foundFactor 44 = .ok (.ifCond .gt 5, 3) := by decide +kernel
theorem dX0_foundFactor_47 : decode cX0_foundFactor 47 = .ok (.iload_n 3, 1) := by decide +kernel
theorem dX0_foundFactor_48 : decode cX0_foundFactor 48 = .ok (.ireturn, 1) := by decide +kernel
theorem dX0_foundFactor_49 : decode cX0_foundFactor 49 = .ok (.iload_n 3, 1) := by decide +kernel
theorem dX0_foundFactor_50 : decode cX0_foundFactor 50 = .ok (.i2l, 1) := by decide +kernel
theorem dX0_foundFactor_51 : decode cX0_foundFactor 51 = .ok (.aload_n 0, 1) := by decide +kernel
theorem dX0_foundFactor_52 : decode cX0_foundFactor 52 = .ok (.aload_n 0, 1) := by decide +kernel
theorem dX0_foundFactor_53 : decode cX0_foundFactor 53 = .ok (.getfield 24, 3) := by decide +kernel
theorem dX0_foundFactor_56 : decode cX0_foundFactor 56 = .ok (.iload_n 1, 1) := by decide +kernel
theorem dX0_foundFactor_57 : decode cX0_foundFactor 57 = .ok (.iload_n 2, 1) := by decide +kernel
theorem dX0_foundFactor_58 : decode cX0_foundFactor 58 = .ok (.invokevirtual 165, 3) := by decide +kernel
theorem dX0_foundFactor_61 : decode cX0_foundFactor 61 = .ok (.lmul, 1) := by decide +kernel
theorem dX0_foundFactor_62 : decode cX0_foundFactor 62 = .ok (.lload 4, 2) := by decide +kernel
theorem dX0_foundFactor_64 : decode cX0_foundFactor 64 = .ok (.ldiv, 1) := by decide +kernel
theorem dX0_foundFactor_65 : decode cX0_foundFactor 65 = .ok (.lstore 8, 2) := by decide +kernel
theorem dX0_foundFactor_67 : decode cX0_foundFactor 67 = .ok (.lload 8, 2) := by decide +kernel
theorem dX0_foundFactor_69 : decode cX0_foundFactor 69 = .ok (.iload_n 3, 1) := by decide +kernel
theorem dX0_foundFactor_70 : decode cX0_foundFactor 70 = .ok (.i2l, 1) := by decide +kernel
theorem dX0_foundFactor_71 : decode cX0_foundFactor 71 = .ok (.lsub, 1) := by decide +kernel
theorem dX0_foundFactor_72 : decode cX0_foundFactor 72 = .ok (.lload 6, 2) := by decide +kernel
theorem dX0_foundFactor_74 : decode cX0_foundFactor 74 = .ok (.lmul, 1) := by decide +kernel
theorem dX0_foundFactor_75 : decode cX0_foundFactor 75 = .ok (.lload 6, 2) := by decide +kernel
theorem dX0_foundFactor_77 : decode cX0_foundFactor 77 = .ok (.aload_n 0, 1) := by decide +kernel
theorem dX0_foundFactor_78 : decode cX0_foundFactor 78 = .ok (.getfield 42, 3) := by decide +kernel
theorem dX0_foundFactor_81 : decode cX0_foundFactor 81 = .ok (.i2l, 1) := by decide +kernel
theorem dX0_foundFactor_82 : decode cX0_foundFactor 82 = .ok (.ladd, 1) := by decide +kernel
theorem dX0_foundFactor_83 : decode cX0_foundFactor 83 = .ok (.ldiv, 1) := by decide +kernel
theorem dX0_foundFactor_84 : decode cX0_foundFactor 84 = .ok (.lstore 10, 2) := by decide +kernel
theorem dX0_foundFactor_86 : decode cX0_foundFactor 86 = .ok (.iload_n 3, 1) := by decide +kernel
theorem dX0_foundFactor_87 : decode cX0_foundFactor 87 = .ok (.i2l, 1) := by decide +kernel
theorem dX0_foundFactor_88 : decode cX0_foundFactor 88 = .ok (.lload 10, 2) := by decide +kernel
theorem dX0_foundFactor_90 : decode cX0_foundFactor 90 = .ok (.ladd, 1) := by decide +kernel
theorem dX0_foundFactor_91 : decode cX0_foundFactor 91 = .ok (.ldc2_w 195, 3) := by decide +kernel
theorem dX0_foundFactor_94 : decode cX0_foundFactor 94 = .ok (.ldc2_w 197, 3) := by decide +kernel
theorem dX0_foundFactor_97 : decode cX0_foundFactor 97 = .ok (.invokestatic 161, 3) := by decide +kernel
theorem dX0_foundFactor_100 : decode cX0_foundFactor 100 = .ok (.l2i, 1) := by decide +kernel
theorem dX0_foundFactor_101 : decode cX0_foundFactor 101 = .ok (.ireturn, 1) := by decide +kernel
theorem dX0_bounded_0 : decode cX0_bounded 0 = .ok (.lload_n 0, 1) := by decide +kernel
theorem dX0_bounded_1 : decode cX0_bounded 1 = .ok (.lload_n 2, 1) := by decide +kernel
theorem dX0_bounded_2 : decode cX0_bounded 2 = .ok (.invokestatic 173, 3) := by decide +kernel
theorem dX0_bounded_5 : decode cX0_bounded 5 = .ok (.lload 4, 2) := by decide +kernel
theorem dX0_bounded_7 : decode cX0_bounded 7 = .ok (.invokestatic 155, 3) := by decide +kernel
theorem dX0_bounded_10 : decode cX0_bounded 10 = .ok (.lreturn, 1) := by decide +kernel
theorem dX0_lowestFallingLevel_0 : decode cX0_lowestFallingLevel 0 = .ok (.iconst 1, 1) := by decide +kernel
theorem dX0_lowestFallingLevel_1 : decode cX0_lowestFallingLevel 1 = .ok (.istore_n 2, 1) := by decide +kernel
theorem dX0_lowestFallingLevel_2 : decode cX0_lowestFallingLevel 2 = .ok (.iload_n 2, 1) := by decide +kernel
theorem dX0_lowestFallingLevel_3 : decode cX0_lowestFallingLevel 3 = .ok (.getstatic 130, 3) := by decide +kernel
theorem dX0_lowestFallingLevel_6 : decode cX0_lowestFallingLevel 6 = .ok (.iload_n 1, 1) := by decide +kernel
theorem dX0_lowestFallingLevel_7 : decode cX0_lowestFallingLevel 7 = .ok (.iaload, 1) := by decide +kernel
theorem dX0_lowestFallingLevel_8 : decode cX0_lowestFallingLevel 8 = .ok (.if_icmp .ge 32, 3) := by decide +kernel
theorem dX0_lowestFallingLevel_11 : decode cX0_lowestFallingLevel 11 = .ok (.aload_n 0, 1) := by decide +kernel
theorem dX0_lowestFallingLevel_12 : decode cX0_lowestFallingLevel 12 = .ok (.getfield 11, 3) := by decide +kernel
theorem dX0_lowestFallingLevel_15 : decode cX0_lowestFallingLevel 15 = .ok (.iload_n 1, 1) := by decide +kernel
theorem dX0_lowestFallingLevel_16 : decode cX0_lowestFallingLevel 16 = .ok (.aaload, 1) := by decide +kernel
theorem dX0_lowestFallingLevel_17 : decode cX0_lowestFallingLevel 17 = .ok (.iload_n 2, 1) := by decide +kernel
theorem dX0_lowestFallingLevel_18 : decode cX0_lowestFallingLevel 18 = .ok (.iaload, 1) := by decide +kernel
theorem dX0_lowestFallingLevel_19 : decode cX0_lowestFallingLevel 19 = .ok (.aload_n 0, 1) := by decide +kernel
theorem dX0_lowestFallingLevel_20 : decode cX0_lowestFallingLevel 20 = .ok (.getfield 11, 3) := by decide +kernel
theorem dX0_lowestFallingLevel_23 : decode cX0_lowestFallingLevel 23 = .ok (.iload_n 1, 1) := by decide +kernel
theorem dX0_lowestFallingLevel_24 : decode cX0_lowestFallingLevel 24 = .ok (.aaload, 1) := by decide +kernel
theorem dX0_lowestFallingLevel_25 : decode cX0_lowestFallingLevel 25 = .ok (.iload_n 2, 1) := by decide +kernel
theorem dX0_lowestFallingLevel_26 : decode cX0_lowestFallingLevel 26 = .ok (.iconst 1, 1) := by decide +kernel
theorem dX0_lowestFallingLevel_27 : decode cX0_lowestFallingLevel 27 = .ok (.isub, 1) := by decide +kernel
theorem dX0_lowestFallingLevel_28 : decode cX0_lowestFallingLevel 28 = .ok (.iaload, 1) := by decide +kernel
theorem dX0_lowestFallingLevel_29 : decode cX0_lowestFallingLevel 29 = .ok (.if_icmp .ge 5, 3) := by decide +kernel
theorem dX0_lowestFallingLevel_32 : decode cX0_lowestFallingLevel 32 = .ok (.iload_n 2, 1) := by decide +kernel
theorem dX0_lowestFallingLevel_33 : decode cX0_lowestFallingLevel 33 = .ok (.ireturn, 1) := by decide +kernel
theorem dX0_lowestFallingLevel_34 : decode cX0_lowestFallingLevel 34 = .ok (.iinc 2 1, 3) := by decide +kernel
theorem dX0_lowestFallingLevel_37 : decode cX0_lowestFallingLevel 37 = .ok (.goto (-35), 3) := by decide +kernel
theorem dX0_lowestFallingLevel_40 : decode cX0_lowestFallingLevel 40 = .ok (.iconst (-1), 1) := by decide +kernel
theorem dX0_lowestFallingLevel_41 : decode cX0_lowestFallingLevel 41 = .ok (.ireturn, 1) := by decide +kernel
theorem dX0_joinToLevelAhead_0 : decode cX0_joinToLevelAhead 0 = .ok (.aload_n 0, 1) := by decide +kernel
theorem dX0_joinToLevelAhead_1 : decode cX0_joinToLevelAhead 1 = .ok (.getfield 58, 3) := by decide +kernel
theorem dX0_joinToLevelAhead_4 : decode cX0_joinToLevelAhead 4 = .ok (.iload_n 2, 1) := by decide +kernel
theorem dX0_joinToLevelAhead_5 : decode cX0_joinToLevelAhead 5 = .ok (.iconst 1, 1) := by decide +kernel
theorem dX0_joinToLevelAhead_6 : decode cX0_joinToLevelAhead 6 = .ok (.isub, 1) := by decide +kernel
theorem dX0_joinToLevelAhead_7 : decode cX0_joinToLevelAhead 7 = .ok (.iaload, 1) := by decide +kernel
theorem dX0_joinToLevelAhead_8 : decode cX0_joinToLevelAhead 8 = .ok (.istore_n 3, 1) := by decide +kernel
theorem dX0_joinToLevelAhead_9 : decode cX0_joinToLevelAhead 9 = .ok (.iload_n 2, 1) := by decide +kernel
theorem dX0_joinToLevelAhead_10 : decode cX0_joinToLevelAhead 10 = .ok (.istore 4, 2) := by decide +kernel
theorem dX0_joinToLevelAhead_12 : decode cX0_joinToLevelAhead 12 = .ok (.iload 4, 2) := by decide +kernel
theorem dX0_joinToLevelAhead_14 : decode cX0_joinToLevelAhead 14 = .ok (.getstatic 130, 3) := by decide +kernel
theorem dX0_joinToLevelAhead_17 : decode cX0_joinToLevelAhead 17 = .ok (.iload_n 1, 1) := by decide +kernel
theorem dX0_joinToLevelAhead_18 : decode cX0_joinToLevelAhead 18 = .ok (.iaload, 1) := by decide +kernel
theorem dX0_joinToLevelAhead_19 : decode cX0_joinToLevelAhead 19 = .ok (.if_icmp .ge 28, 3) := by decide +kernel
theorem dX0_joinToLevelAhead_22 : decode cX0_joinToLevelAhead 22 = .ok (.aload_n 0, 1) := by decide +kernel
theorem dX0_joinToLevelAhead_23 : decode cX0_joinToLevelAhead 23 = .ok (.getfield 58, 3) := by decide +kernel
theorem dX0_joinToLevelAhead_26 : decode cX0_joinToLevelAhead 26 = .ok (.iload 4, 2) := by decide +kernel
theorem dX0_joinToLevelAhead_28 : decode cX0_joinToLevelAhead 28 = .ok (.iaload, 1) := by decide +kernel
theorem dX0_joinToLevelAhead_29 : decode cX0_joinToLevelAhead 29 = .ok (.iload_n 2, 1) := by decide +kernel
theorem dX0_joinToLevelAhead_30 : decode cX0_joinToLevelAhead 30 = .ok (.if_icmp .ne 11, 3) := by decide +kernel
theorem dX0_joinToLevelAhead_33 : decode cX0_joinToLevelAhead 33 = .ok (.aload_n 0, 1) := by decide +kernel
theorem dX0_joinToLevelAhead_34 : decode cX0_joinToLevelAhead 34 = .ok (.getfield 58, 3) := by decide +kernel
theorem dX0_joinToLevelAhead_37 : decode cX0_joinToLevelAhead 37 = .ok (.iload 4, 2) := by decide +kernel
theorem dX0_joinToLevelAhead_39 : decode cX0_joinToLevelAhead 39 = .ok (.iload_n 3, 1) := by decide +kernel
theorem dX0_joinToLevelAhead_40 : decode cX0_joinToLevelAhead 40 = .ok (.iastore, 1) := by decide +kernel
theorem dX0_joinToLevelAhead_41 : decode cX0_joinToLevelAhead 41 = .ok (.iinc 4 1, 3) := by decide +kernel
theorem dX0_joinToLevelAhead_44 : decode cX0_joinToLevelAhead 44 = .ok (.goto (-32), 3) := by decide +kernel
theorem dX0_joinToLevelAhead_47 : decode cX0_joinToLevelAhead 47 = .ok (.aload_n 0, 1) := by decide +kernel
theorem dX0_joinToLevelAhead_48 : decode cX0_joinToLevelAhead 48 = .ok (.iload_n 1, 1) := by decide +kernel
theorem dX0_joinToLevelAhead_49 : decode cX0_joinToLevelAhead 49 = .ok (.iload_n 3, 1) := by decide +kernel
theorem dX0_joinToLevelAhead_50 : decode cX0_joinToLevelAhead 50 = .ok (.invokevirtual 199, 3) := by decide +kernel
theorem dX0_joinToLevelAhead_53 : decode cX0_joinToLevelAhead 53 = .ok (.istore 4, 2) := by decide +kernel
theorem dX0_joinToLevelAhead_55 : decode cX0_joinToLevelAhead 55 = .ok (.iload_n 3, 1) := by decide +kernel
theorem dX0_joinToLevelAhead_56 : decode cX0_joinToLevelAhead 56 = .ok (.istore 5, 2) := by decide +kernel
theorem dX0_joinToLevelAhead_58 : decode cX0_joinToLevelAhead 58 = .ok (.iload 5, 2) := by decide +kernel
theorem dX0_joinToLevelAhead_60 : decode cX0_joinToLevelAhead 60 = .ok (.getstatic 130, 3) := by decide +kernel
theorem dX0_joinToLevelAhead_63 : decode cX0_joinToLevelAhead 63 = .ok (.iload_n 1, 1) := by decide +kernel
theorem dX0_joinToLevelAhead_64 : decode cX0_joinToLevelAhead 64 = .ok (.iaload, 1) := by decide +kernel
theorem dX0_joinToLevelAhead_65 : decode cX0_joinToLevelAhead 65 = .ok (.if_icmp .ge 31, 3) := by decide +kernel
theorem dX0_joinToLevelAhead_68 : decode cX0_joinToLevelAhead 68 = .ok (.aload_n 0, 1) := by decide +kernel
theorem dX0_joinToLevelAhead_69 : decode cX0_joinToLevelAhead 69 = .ok (.getfield 58, 3) := by decide +kernel
theorem dX0_joinToLevelAhead_72 : decode cX0_joinToLevelAhead 72 = .ok (.iload 5, 2) := by decide +kernel
theorem dX0_joinToLevelAhead_74 : decode cX0_joinToLevelAhead 74 = .ok (.iaload, 1) := by decide +kernel
theorem dX0_joinToLevelAhead_75 : decode cX0_joinToLevelAhead 75 = .ok (.iload_n 3, 1) := by decide +kernel
theorem dX0_joinToLevelAhead_76 : decode cX0_joinToLevelAhead 76 = .ok (.if_icmp .ne 14, 3) := by decide +kernel
theorem dX0_joinToLevelAhead_79 : decode cX0_joinToLevelAhead 79 = .ok (.aload_n 0, 1) := by decide +kernel
theorem dX0_joinToLevelAhead_80 : decode cX0_joinToLevelAhead 80 = .ok (.getfield 11, 3) := by decide +kernel
theorem dX0_joinToLevelAhead_83 : decode cX0_joinToLevelAhead 83 = .ok (.iload_n 1, 1) := by decide +kernel
theorem dX0_joinToLevelAhead_84 : decode cX0_joinToLevelAhead 84 = .ok (.aaload, 1) := by decide +kernel
theorem dX0_joinToLevelAhead_85 : decode cX0_joinToLevelAhead 85 = .ok (.iload 5, 2) := by decide +kernel
theorem dX0_joinToLevelAhead_87 : decode cX0_joinToLevelAhead 87 = .ok (.iload 4, 2) := by decide +kernel
theorem dX0_joinToLevelAhead_89 : decode cX0_joinToLevelAhead 89 = .ok (.iastore, 1) := by decide +kernel
theorem dX0_joinToLevelAhead_90 : decode cX0_joinToLevelAhead 90 = .ok (.iinc 5 1, 3) := by decide +kernel
theorem dX0_joinToLevelAhead_93 : decode cX0_joinToLevelAhead 93 = .ok (.goto (-35), 3) := by decide +kernel
theorem dX0_joinToLevelAhead_96 : decode cX0_joinToLevelAhead 96 = .ok (.return_, 1) := by decide +kernel
theorem dX0_groupMean_0 : decode cX0_groupMean 0 = .ok (.lconst 0, 1) := by decide +kernel
theorem dX0_groupMean_1 : decode cX0_groupMean 1 = .ok (.lstore_n 3, 1) := by decide +kernel
theorem dX0_groupMean_2 : decode cX0_groupMean 2 = .ok (.iconst 0, 1) := by decide +kernel
theorem dX0_groupMean_3 : decode cX0_groupMean 3 = .ok (.istore 5, 2) := by decide +kernel
theorem dX0_groupMean_5 : decode cX0_groupMean 5 = .ok (.lconst 0, 1) := by decide +kernel
theorem dX0_groupMean_6 : decode cX0_groupMean 6 = .ok (.lstore 6, 2) := by decide +kernel
theorem dX0_groupMean_8 : decode cX0_groupMean 8 = .ok (.lconst 0, 1) := by decide +kernel
theorem dX0_groupMean_9 : decode cX0_groupMean 9 = .ok (.lstore 8, 2) := by decide +kernel
theorem dX0_groupMean_11 : decode cX0_groupMean 11 = .ok (.iload_n 2, 1) := by decide +kernel
theorem dX0_groupMean_12 : decode cX0_groupMean 12 = .ok (.istore 10, 2) := by decide +kernel
theorem dX0_groupMean_14 : decode cX0_groupMean 14 = .ok (.iload 10, 2) := by decide +kernel
theorem dX0_groupMean_16 : decode cX0_groupMean 16 = .ok (.getstatic 130, 3) := by decide +kernel
theorem dX0_groupMean_19 : decode cX0_groupMean 19 = .ok (.iload_n 1, 1) := by decide +kernel
theorem dX0_groupMean_20 : decode cX0_groupMean 20 = .ok (.iaload, 1) := by decide +kernel
theorem dX0_groupMean_21 : decode cX0_groupMean 21 = .ok (.if_icmp .ge 74, 3) := by decide +kernel
theorem dX0_groupMean_24 : decode cX0_groupMean 24 = .ok (.aload_n 0, 1) := by decide +kernel
theorem dX0_groupMean_25 : decode cX0_groupMean 25 = .ok (.getfield 58, 3) := by decide +kernel
theorem dX0_groupMean_28 : decode cX0_groupMean 28 = .ok (.iload 10, 2) := by decide +kernel
theorem dX0_groupMean_30 : decode cX0_groupMean 30 = .ok (.iaload, 1) := by decide +kernel
theorem dX0_groupMean_31 : decode cX0_groupMean 31 = .ok (.iload_n 2, 1) := by decide +kernel
theorem dX0_groupMean_32 : decode cX0_groupMean 32 = .ok (.if_icmp .ne 57, 3) := by decide +kernel
theorem dX0_groupMean_35 : decode cX0_groupMean 35 = .ok (.aload_n 0, 1) := by decide +kernel
theorem dX0_groupMean_36 : decode cX0_groupMean 36 = .ok (.aload_n 0, 1) := by decide +kernel
theorem dX0_groupMean_37 : decode cX0_groupMean 37 = .ok (.getfield 17, 3) := by decide +kernel
theorem dX0_groupMean_40 : decode cX0_groupMean 40 = .ok (.iload_n 1, 1) := by decide +kernel
theorem dX0_groupMean_41 : decode cX0_groupMean 41 = .ok (.iload 10, 2) := by decide +kernel
theorem dX0_groupMean_43 : decode cX0_groupMean 43 = .ok (.invokevirtual 165, 3) := by decide +kernel
theorem dX0_groupMean_46 : decode cX0_groupMean 46 = .ok (.lstore 11, 2) := by decide +kernel
theorem dX0_groupMean_48 : decode cX0_groupMean 48 = .ok (.lload_n 3, 1) := by decide +kernel
theorem dX0_groupMean_49 : decode cX0_groupMean 49 = .ok (.aload_n 0, 1) := by decide +kernel
theorem dX0_groupMean_50 : decode cX0_groupMean 50 = .ok (.getfield 11, 3) := by decide +kernel
theorem dX0_groupMean_53 : decode cX0_groupMean 53 = .ok (.iload_n 1, 1) := by decide +kernel
theorem dX0_groupMean_54 : decode cX0_groupMean 54 = .ok (.aaload, 1) := by decide +kernel
theorem dX0_groupMean_55 : decode cX0_groupMean 55 = .ok (.iload 10, 2) := by decide +kernel
theorem dX0_groupMean_57 : decode cX0_groupMean 57 = .ok (.iaload, 1) := by decide +kernel
theorem dX0_groupMean_58 : decode cX0_groupMean 58 = .ok (.i2l, 1) := by decide +kernel
theorem dX0_groupMean_59 : decode cX0_groupMean 59 = .ok (.ladd, 1) := by decide +kernel
theorem dX0_groupMean_60 : decode cX0_groupMean 60 = .ok (.lstore_n 3, 1) := by decide +kernel
theorem dX0_groupMean_61 : decode cX0_groupMean 61 = .ok (.iinc 5 1, 3) := by decide +kernel
theorem dX0_groupMean_64 : decode cX0_groupMean 64 = .ok (.lload 6, 2) := by decide +kernel
theorem dX0_groupMean_66 : decode cX0_groupMean 66 = .ok (.lload 11, 2) := by decide +kernel
theorem dX0_groupMean_68 : decode cX0_groupMean 68 = .ok (.aload_n 0, 1) := by decide +kernel
theorem dX0_groupMean_69 : decode cX0_groupMean 69 = .ok (.getfield 11, 3) := by decide +kernel
theorem dX0_groupMean_72 : decode cX0_groupMean 72 = .ok (.iload_n 1, 1) := by decide +kernel
theorem dX0_groupMean_73 : decode cX0_groupMean 73 = .ok (.aaload, 1) := by decide +kernel
theorem dX0_groupMean_74 : decode cX0_groupMean 74 = .ok (.iload 10, 2) := by decide +kernel
theorem dX0_groupMean_76 : decode cX0_groupMean 76 = .ok (.iaload, 1) := by decide +kernel
theorem dX0_groupMean_77 : decode cX0_groupMean 77 = .ok (.i2l, 1) := by decide +kernel
theorem dX0_groupMean_78 : decode cX0_groupMean 78 = .ok (.lmul, 1) := by decide +kernel
theorem dX0_groupMean_79 : decode cX0_groupMean 79 = .ok (.ladd, 1) := by decide +kernel
theorem dX0_groupMean_80 : decode cX0_groupMean 80 = .ok (.lstore 6, 2) := by decide +kernel
theorem dX0_groupMean_82 : decode cX0_groupMean 82 = .ok (.lload 8, 2) := by decide +kernel
theorem dX0_groupMean_84 : decode cX0_groupMean 84 = .ok (.lload 11, 2) := by decide +kernel
theorem dX0_groupMean_86 : decode cX0_groupMean 86 = .ok (.ladd, 1) := by decide +kernel
theorem dX0_groupMean_87 : decode cX0_groupMean 87 = .ok (.lstore 8, 2) := by decide +kernel
theorem dX0_groupMean_89 : decode cX0_groupMean 89 = .ok (.iinc 10 1, 3) := by decide +kernel
theorem dX0_groupMean_92 : decode cX0_groupMean 92 = .ok (.goto (-78), 3) := by decide +kernel
theorem dX0_groupMean_95 : decode cX0_groupMean 95 = .ok (.lload 8, 2) := by decide +kernel
theorem dX0_groupMean_97 : decode cX0_groupMean 97 = .ok (.lconst 0, 1) := by decide +kernel
theorem dX0_groupMean_98 : decode cX0_groupMean 98 = .ok (.lcmp, 1) := by decide +kernel
theorem dX0_groupMean_99 : decode cX0_groupMean 99 = .ok (.ifCond .le 11, 3) := by decide +kernel
theorem dX0_groupMean_102 : decode cX0_groupMean 102 = .ok (.lload 6, 2) := by decide +kernel
theorem dX0_groupMean_104 : decode cX0_groupMean 104 = .ok (.lload 8, 2) := by decide +kernel
theorem dX0_groupMean_106 : decode cX0_groupMean 106 = .ok (.ldiv, 1) := by decide +kernel
theorem dX0_groupMean_107 : decode cX0_groupMean 107 = .ok (.goto 12, 3) := by decide +kernel
theorem dX0_groupMean_110 : decode cX0_groupMean 110 = .ok (.lload_n 3, 1) := by decide +kernel
theorem dX0_groupMean_111 : decode cX0_groupMean 111 = .ok (.iload 5, 2) := by decide +kernel
theorem dX0_groupMean_113 : decode cX0_groupMean 113 = .ok (.iconst 1, 1) := by decide +kernel
theorem dX0_groupMean_114 : decode cX0_groupMean 114 = .ok (.invokestatic 202, 3) := by decide +kernel
theorem dX0_groupMean_117 : decode cX0_groupMean 117 = .ok (.i2l, 1) := by decide +kernel
theorem dX0_groupMean_118 : decode cX0_groupMean 118 = .ok (.ldiv, 1) := by decide +kernel
theorem dX0_groupMean_119 : decode cX0_groupMean 119 = .ok (.l2i, 1) := by decide +kernel
theorem dX0_groupMean_120 : decode cX0_groupMean 120 = .ok (.ireturn, 1) := by decide +kernel
theorem dX0_changedSinceBefore_0 : decode cX0_changedSinceBefore 0 = .ok (.iconst 0, 1) := by decide +kernel
theorem dX0_changedSinceBefore_1 : decode cX0_changedSinceBefore 1 = .ok (.istore_n 2, 1) := by decide +kernel
theorem dX0_changedSinceBefore_2 : decode cX0_changedSinceBefore 2 = .ok (.iconst 0, 1) := by decide +kernel
theorem dX0_changedSinceBefore_3 : decode cX0_changedSinceBefore 3 = .ok (.istore_n 3, 1) := by decide +kernel
theorem dX0_changedSinceBefore_4 : decode cX0_changedSinceBefore 4 = .ok (.iload_n 3, 1) := by decide +kernel
theorem dX0_changedSinceBefore_5 : decode cX0_changedSinceBefore 5 = .ok (.getstatic 130, 3) := by decide +kernel
theorem dX0_changedSinceBefore_8 : decode cX0_changedSinceBefore 8 = .ok (.iload_n 1, 1) := by decide +kernel
theorem dX0_changedSinceBefore_9 : decode cX0_changedSinceBefore 9 = .ok (.iaload, 1) := by decide +kernel
theorem dX0_changedSinceBefore_10 : decode cX0_changedSinceBefore 10 = .ok (.if_icmp .ge 29, 3) := by decide +kernel
theorem dX0_changedSinceBefore_13 : decode cX0_changedSinceBefore 13 = .ok (.aload_n 0, 1) := by decide +kernel
theorem dX0_changedSinceBefore_14 : decode cX0_changedSinceBefore 14 = .ok (.getfield 11, 3) := by decide +kernel
theorem dX0_changedSinceBefore_17 : decode cX0_changedSinceBefore 17 = .ok (.iload_n 1, 1) := by decide +kernel
theorem dX0_changedSinceBefore_18 : decode cX0_changedSinceBefore 18 = .ok (.aaload, 1) := by decide +kernel
theorem dX0_changedSinceBefore_19 : decode cX0_changedSinceBefore 19 = .ok (.iload_n 3, 1) := by decide +kernel
theorem dX0_changedSinceBefore_20 : decode cX0_changedSinceBefore 20 = .ok (.iaload, 1) := by decide +kernel
theorem dX0_changedSinceBefore_21 : decode cX0_changedSinceBefore 21 = .ok (.aload_n 0, 1) := by decide +kernel
theorem dX0_changedSinceBefore_22 : decode cX0_changedSinceBefore 22 = .ok (.getfield 61, 3) := by decide +kernel
theorem dX0_changedSinceBefore_25 : decode cX0_changedSinceBefore 25 = .ok (.iload_n 3, 1) := by decide +kernel
theorem dX0_changedSinceBefore_26 : decode cX0_changedSinceBefore 26 = .ok (.iaload, 1) := by decide +kernel
theorem dX0_changedSinceBefore_27 : decode cX0_changedSinceBefore 27 = .ok (.if_icmp .eq 6, 3) := by decide +kernel
theorem dX0_changedSinceBefore_30 : decode cX0_changedSinceBefore 30 = .ok (.iinc 2 1, 3) := by decide +kernel
theorem dX0_changedSinceBefore_33 : decode cX0_changedSinceBefore 33 = .ok (.iinc 3 1, 3) := by decide +kernel
theorem dX0_changedSinceBefore_36 : decode cX0_changedSinceBefore 36 = .ok (.goto (-32), 3) := by decide +kernel
theorem dX0_changedSinceBefore_39 : decode cX0_changedSinceBefore 39 = .ok (.iload_n 2, 1) := by decide +kernel
theorem dX0_changedSinceBefore_40 : decode cX0_changedSinceBefore 40 = .ok (.ireturn, 1) := by decide +kernel
theorem dX0_newPremium_0 : decode cX0_newPremium 0 = .ok (.aload_n 0, 1) := by decide +kernel
theorem dX0_newPremium_1 : decode cX0_newPremium 1 = .ok (.getfield 55, 3) := by decide +kernel
theorem dX0_newPremium_4 : decode cX0_newPremium 4 = .ok (.iload_n 1, 1) := by decide +kernel
theorem dX0_newPremium_5 : decode cX0_newPremium 5 = .ok (.laload, 1) := by decide +kernel
theorem dX0_newPremium_6 : decode cX0_newPremium 6 = .ok (.aload_n 0, 1) := by decide +kernel
theorem dX0_newPremium_7 : decode cX0_newPremium 7 = .ok (.getfield 48, 3) := by decide +kernel
theorem dX0_newPremium_10 : decode cX0_newPremium 10 = .ok (.i2l, 1) := by decide +kernel
theorem dX0_newPremium_11 : decode cX0_newPremium 11 = .ok (.lmul, 1) := by decide +kernel
theorem dX0_newPremium_12 : decode cX0_newPremium 12 = .ok (.ldc2_w 147, 3) := by decide +kernel
theorem dX0_newPremium_15 : decode cX0_newPremium 15 = .ok (.ldiv, 1) := by decide +kernel
theorem dX0_newPremium_16 : decode cX0_newPremium 16 = .ok (.lreturn, 1) := by decide +kernel
theorem dX0_cappedPremium_0 : decode cX0_cappedPremium 0 = .ok (.aload_n 0, 1) := by decide +kernel
theorem dX0_cappedPremium_1 : decode cX0_cappedPremium 1 = .ok (.getfield 45, 3) := by decide +kernel
theorem dX0_cappedPremium_4 : decode cX0_cappedPremium 4 = .ok (.iconst (-1), 1) := by decide +kernel
theorem dX0_cappedPremium_5 : decode cX0_cappedPremium 5 = .ok (.if_icmp .eq 13, 3) := by decide +kernel
theorem dX0_cappedPremium_8 : decode cX0_cappedPremium 8 = .ok (.aload_n 0, 1) := by decide +kernel
theorem dX0_cappedPremium_9 : decode cX0_cappedPremium 9 = .ok (.getfield 27, 3) := by decide +kernel
theorem dX0_cappedPremium_12 : decode cX0_cappedPremium 12 = .ok (.iload_n 1, 1) := by decide +kernel
theorem dX0_cappedPremium_13 : decode cX0_cappedPremium 13 = .ok (.iaload, 1) := by decide +kernel
theorem dX0_cappedPremium_14 : decode cX0_cappedPremium 14 = .ok (.iconst (-1), 1) := by decide +kernel
theorem dX0_cappedPremium_15 : decode cX0_cappedPremium 15 = .ok (.if_icmp .ne 9, 3) := by decide +kernel
theorem dX0_cappedPremium_18 : decode cX0_cappedPremium 18 = .ok (.aload_n 0, 1) := by decide +kernel
theorem dX0_cappedPremium_19 : decode cX0_cappedPremium 19 = .ok (.iload_n 1, 1) := by decide +kernel
theorem dX0_cappedPremium_20 : decode cX0_cappedPremium 20 = .ok (.invokevirtual 176, 3) := by decide +kernel
theorem dX0_cappedPremium_23 : decode cX0_cappedPremium 23 = .ok (.lreturn, 1) := by decide +kernel
theorem dX0_cappedPremium_24 : decode cX0_cappedPremium 24 = .ok (.aload_n 0, 1) := by decide +kernel
theorem dX0_cappedPremium_25 : decode cX0_cappedPremium 25 = .ok (.getfield 27, 3) := by decide +kernel
theorem dX0_cappedPremium_28 : decode cX0_cappedPremium 28 = .ok (.iload_n 1, 1) := by decide +kernel
theorem dX0_cappedPremium_29 : decode cX0_cappedPremium 29 = .ok (.iaload, 1) := by decide +kernel
theorem dX0_cappedPremium_30 : decode cX0_cappedPremium 30 = .ok (.i2l, 1) := by decide +kernel
theorem dX0_cappedPremium_31 : decode cX0_cappedPremium 31 = .ok (.lstore_n 2, 1) := by decide +kernel
theorem dX0_cappedPremium_32 : decode cX0_cappedPremium 32 = .ok (.lload_n 2, 1) := by decide +kernel
theorem dX0_cappedPremium_33 : decode cX0_cappedPremium 33 = .ok (.bipush 100, 2) := by decide +kernel
theorem dX0_cappedPremium_35 : decode cX0_cappedPremium 35 = .ok (.aload_n 0, 1) := by decide +kernel
theorem dX0_cappedPremium_36 : decode cX0_cappedPremium 36 = .ok (.getfield 45, 3) := by decide +kernel
theorem dX0_cappedPremium_39 : decode cX0_cappedPremium 39 = .ok (.isub, 1) := by decide +kernel
theorem dX0_cappedPremium_40 : decode cX0_cappedPremium 40 = .ok (.iconst 0, 1) := by decide +kernel
theorem dX0_cappedPremium_41 : decode cX0_cappedPremium 41 = .ok (.invokestatic 202, 3) := by decide +kernel
theorem dX0_cappedPremium_44 : decode cX0_cappedPremium 44 = .ok (.i2l, 1) := by decide +kernel
theorem dX0_cappedPremium_45 : decode cX0_cappedPremium 45 = .ok (.lmul, 1) := by decide +kernel
theorem dX0_cappedPremium_46 : decode cX0_cappedPremium 46 = .ok (.ldc2_w 195, 3) := by decide +kernel
theorem dX0_cappedPremium_49 : decode cX0_cappedPremium 49 = .ok (.ldiv, 1) := by decide +kernel
theorem dX0_cappedPremium_50 : decode cX0_cappedPremium 50 = .ok (.lstore 4, 2) := by decide +kernel
theorem dX0_cappedPremium_52 : decode cX0_cappedPremium 52 = .ok (.lload_n 2, 1) := by decide +kernel
theorem dX0_cappedPremium_53 : decode cX0_cappedPremium 53 = .ok (.bipush 100, 2) := by decide +kernel
theorem dX0_cappedPremium_55 : decode cX0_cappedPremium 55 = .ok (.aload_n 0, 1) := by decide +kernel
theorem dX0_cappedPremium_56 : decode cX0_cappedPremium 56 = .ok (.getfield 45, 3) := by decide +kernel
theorem dX0_cappedPremium_59 : decode cX0_cappedPremium 59 = .ok (.iadd, 1) := by decide +kernel
theorem dX0_cappedPremium_60 : decode cX0_cappedPremium 60 = .ok (.i2l, 1) := by decide +kernel
theorem dX0_cappedPremium_61 : decode cX0_cappedPremium 61 = .ok (.lmul, 1) := by decide +kernel
theorem dX0_cappedPremium_62 : decode cX0_cappedPremium 62 = .ok (.ldc2_w 195, 3) := by decide +kernel
theorem dX0_cappedPremium_65 : decode cX0_cappedPremium 65 = .ok (.ldiv, 1) := by decide +kernel
theorem dX0_cappedPremium_66 : decode cX0_cappedPremium 66 = .ok (.lstore 6, 2) := by decide +kernel
theorem dX0_cappedPremium_68 : decode cX0_cappedPremium 68 = .ok (.aload_n 0, 1) := by decide +kernel
theorem dX0_cappedPremium_69 : decode cX0_cappedPremium 69 = .ok (.iload_n 1, 1) := by decide +kernel
theorem dX0_cappedPremium_70 : decode cX0_cappedPremium 70 = .ok (.invokevirtual 176, 3) := by decide +kernel
theorem dX0_cappedPremium_73 : decode cX0_cappedPremium 73 = .ok (.lload 4, 2) := by decide +kernel
theorem dX0_cappedPremium_75 : decode cX0_cappedPremium 75 = .ok (.lload 6, 2) := by decide +kernel
theorem dX0_cappedPremium_77 : decode cX0_cappedPremium 77 = .ok (.invokestatic 161, 3) := by decide +kernel
theorem dX0_cappedPremium_80 : decode cX0_cappedPremium 80 = .ok (.lreturn, 1) := by decide +kernel
theorem dX0_placeOf_0 : decode cX0_placeOf 0 = .ok (.iconst 0, 1) := by decide +kernel
theorem dX0_placeOf_1 : decode cX0_placeOf 1 = .ok (.istore_n 2, 1) := by decide +kernel
theorem dX0_placeOf_2 : decode cX0_placeOf 2 = .ok (.iconst 0, 1) := by decide +kernel
theorem dX0_placeOf_3 : decode cX0_placeOf 3 = .ok (.istore_n 3, 1) := by decide +kernel
theorem dX0_placeOf_4 : decode cX0_placeOf 4 = .ok (.iload_n 3, 1) := by decide +kernel
theorem dX0_placeOf_5 : decode cX0_placeOf 5 = .ok (.aload_n 0, 1) := by decide +kernel
theorem dX0_placeOf_6 : decode cX0_placeOf 6 = .ok (.getfield 35, 3) := by decide +kernel
theorem dX0_placeOf_9 : decode cX0_placeOf 9 = .ok (.if_icmp .ge 30, 3) := by decide +kernel
theorem dX0_placeOf_12 : decode cX0_placeOf 12 = .ok (.aload_n 0, 1) := by decide +kernel
theorem dX0_placeOf_13 : decode cX0_placeOf 13 = .ok (.getfield 31, 3) := by decide +kernel
theorem dX0_placeOf_16 : decode cX0_placeOf 16 = .ok (.iload_n 3, 1) := by decide +kernel
theorem dX0_placeOf_17 : decode cX0_placeOf 17 = .ok (.baload, 1) := by decide +kernel
theorem dX0_placeOf_18 : decode cX0_placeOf 18 = .ok (.ifCond .eq 15, 3) := by decide +kernel
theorem dX0_placeOf_21 : decode cX0_placeOf 21 = .ok (.aload_n 0, 1) := by decide +kernel
theorem dX0_placeOf_22 : decode cX0_placeOf 22 = .ok (.iload_n 3, 1) := by decide +kernel
theorem dX0_placeOf_23 : decode cX0_placeOf 23 = .ok (.iload_n 1, 1) := by decide +kernel
theorem dX0_placeOf_24 : decode cX0_placeOf 24 = .ok (.invokevirtual 204, 3) := by decide +kernel
theorem dX0_placeOf_27 : decode cX0_placeOf 27 = .ok (.ifCond .eq 6, 3) := by decide +kernel
theorem dX0_placeOf_30 : decode cX0_placeOf 30 = .ok (.iinc 2 1, 3) := by decide +kernel
theorem dX0_placeOf_33 : decode cX0_placeOf 33 = .ok (.iinc 3 1, 3) := by decide +kernel
theorem dX0_placeOf_36 : decode cX0_placeOf 36 = .ok (.goto (-32), 3) := by decide +kernel
theorem dX0_placeOf_39 : decode cX0_placeOf 39 = .ok (.iload_n 2, 1) := by decide +kernel
theorem dX0_placeOf_40 : decode cX0_placeOf 40 = .ok (.ireturn, 1) := by decide +kernel
theorem dX0_isAhead_0 : decode cX0_isAhead 0 = .ok (.aload_n 0, 1) := by decide +kernel
theorem dX0_isAhead_1 : decode cX0_isAhead 1 = .ok (.getfield 24, 3) := by decide +kernel
theorem dX0_isAhead_4 : decode cX0_isAhead 4 = .ok (.iload_n 1, 1) := by decide +kernel
theorem dX0_isAhead_5 : decode cX0_isAhead 5 = .ok (.laload, 1) := by decide +kernel
theorem dX0_isAhead_6 : decode cX0_isAhead 6 = .ok (.lconst 1, 1) := by decide +kernel
theorem dX0_isAhead_7 : decode cX0_isAhead 7 = .ok (.aload_n 0, 1) := by decide +kernel
theorem dX0_isAhead_8 : decode cX0_isAhead 8 = .ok (.getfield 55, 3) := by decide +kernel
theorem dX0_isAhead_11 : decode cX0_isAhead 11 = .ok (.iload_n 2, 1) := by decide +kernel
theorem dX0_isAhead_12 : decode cX0_isAhead 12 = .ok (.laload, 1) := by decide +kernel
theorem dX0_isAhead_13 : decode cX0_isAhead 13 = .ok (.ladd, 1) := by decide +kernel
theorem dX0_isAhead_14 : decode cX0_isAhead 14 = .ok (.lmul, 1) := by decide +kernel
theorem dX0_isAhead_15 : decode cX0_isAhead 15 = .ok (.lstore_n 3, 1) := by decide +kernel
theorem dX0_isAhead_16 : decode cX0_isAhead 16 = .ok (.aload_n 0, 1) := by decide +kernel
theorem dX0_isAhead_17 : decode cX0_isAhead 17 = .ok (.getfield 24, 3) := by decide +kernel
theorem dX0_isAhead_20 : decode cX0_isAhead 20 = .ok (.iload_n 2, 1) := by decide +kernel
theorem dX0_isAhead_21 : decode cX0_isAhead 21 = .ok (.laload, 1) := by decide +kernel
theorem dX0_isAhead_22 : decode cX0_isAhead 22 = .ok (.lconst 1, 1) := by decide +kernel
theorem dX0_isAhead_23 : decode cX0_isAhead 23 = .ok (.aload_n 0, 1) := by decide +kernel
theorem dX0_isAhead_24 : decode cX0_isAhead 24 = .ok (.getfield 55, 3) := by decide +kernel
theorem dX0_isAhead_27 : decode cX0_isAhead 27 = .ok (.iload_n 1, 1) := by decide +kernel
theorem dX0_isAhead_28 : decode cX0_isAhead 28 = .ok (.laload, 1) := by decide +kernel
theorem dX0_isAhead_29 : decode cX0_isAhead 29 = .ok (.ladd, 1) := by decide +kernel
theorem dX0_isAhead_30 : decode cX0_isAhead 30 = .ok (.lmul, 1) := by decide +kernel
theorem dX0_isAhead_31 : decode cX0_isAhead 31 = .ok (.lstore 5, 2) := by decide +kernel
theorem dX0_isAhead_33 : decode cX0_isAhead 33 = .ok (.lload_n 3, 1) := by decide +kernel
theorem dX0_isAhead_34 : decode cX0_isAhead 34 = .ok (.lload 5, 2) := by decide +kernel
theorem dX0_isAhead_36 : decode cX0_isAhead 36 = .ok (.lcmp, 1) := by decide +kernel
theorem dX0_isAhead_37 : decode cX0_isAhead 37 = .ok (.ifCond .gt 15, 3) := by decide +kernel
theorem dX0_isAhead_40 : decode cX0_isAhead 40 = .ok (.lload_n 3, 1) := by decide +kernel
theorem dX0_isAhead_41 : decode cX0_isAhead 41 = .ok (.lload 5, 2) := by decide +kernel
theorem dX0_isAhead_43 : decode cX0_isAhead 43 = .ok (.lcmp, 1) := by decide +kernel
theorem dX0_isAhead_44 : decode cX0_isAhead 44 = .ok (.ifCond .ne 12, 3) := by decide +kernel
theorem dX0_isAhead_47 : decode cX0_isAhead 47 = .ok (.iload_n 1, 1) := by decide +kernel
theorem dX0_isAhead_48 : decode cX0_isAhead 48 = .ok (.iload_n 2, 1) := by decide +kernel
theorem dX0_isAhead_49 : decode cX0_isAhead 49 = .ok (.if_icmp .ge 7, 3) := by decide +kernel
theorem dX0_isAhead_52 : decode cX0_isAhead 52 = .ok (.iconst 1, 1) := by decide +kernel
theorem dX0_isAhead_53 : decode cX0_isAhead 53 = .ok (.goto 4, 3) := by decide +kernel
theorem dX0_isAhead_56 : decode cX0_isAhead 56 = .ok (.iconst 0, 1) := by decide +kernel
theorem dX0_isAhead_57 : decode cX0_isAhead 57 = .ok (.ireturn, 1) := by decide +kernel
end
section
theorem dL_law_0 : decode cL_law 0 = .ok (.aload_n 0, 1) := by decide +kernel
theorem dL_law_1 : decode cL_law 1 = .ok (.invokestatic 151, 3) := by decide +kernel
theorem dL_law_4 : decode cL_law 4 = .ok (.ireturn, 1) := by decide +kernel
end
section
theorem dL_from_0 : decode cL_from 0 = .ok (.aload_n 0, 1) := by decide +kernel
theorem dL_from_1 : decode cL_from 1 = .ok (.arraylength, 1) := by decide +kernel
theorem dL_from_2 : decode cL_from 2 = .ok (.ifCond .ne 15, 3) := by decide +kernel
theorem dL_from_5 : decode cL_from 5 = .ok (.sipush 181, 3) := by decide +kernel
theorem dL_from_8 : decode cL_from 8 = .ok (.iload_n 1, 1) := by decide +kernel
theorem dL_from_9 : decode cL_from 9 = .ok (.imul, 1) := by decide +kernel
theorem dL_from_10 : decode cL_from 10 = .ok (.sipush 157, 3) := by decide +kernel
theorem dL_from_13 : decode cL_from 13 = .ok (.iadd, 1) := by decide +kernel
theorem dL_from_14 : decode cL_from 14 = .ok (.goto 14, 3) := by decide +kernel
theorem dL_from_17 : decode cL_from 17 = .ok (.aload_n 0, 1) := by decide +kernel
theorem dL_from_18 : decode cL_from 18 = .ok (.iload_n 1, 1) := by decide +kernel
theorem dL_from_19 : decode cL_from 19 = .ok (.aload_n 0, 1) := by decide +kernel
theorem dL_from_20 : decode cL_from 20 = .ok (.arraylength, 1) := by decide +kernel
theorem dL_from_21 : decode cL_from 21 = .ok (.irem, 1) := by decide +kernel
theorem dL_from_22 : decode cL_from 22 = .ok (.iaload, 1) := by decide +kernel
theorem dL_from_23 : decode cL_from 23 = .ok (.ldc 7, 2) := by decide +kernel
theorem dL_from_25 : decode cL_from 25 = .ok (.iload_n 1, 1) := by decide +kernel
theorem dL_from_26 : decode cL_from 26 = .ok (.imul, 1) := by decide +kernel
theorem dL_from_27 : decode cL_from 27 = .ok (.ixor, 1) := by decide +kernel
theorem dL_from_28 : decode cL_from 28 = .ok (.istore_n 3, 1) := by decide +kernel
theorem dL_from_29 : decode cL_from 29 = .ok (.iload_n 3, 1) := by decide +kernel
theorem dL_from_30 : decode cL_from 30 = .ok (.ldc 8, 2) := by decide +kernel
theorem dL_from_32 : decode cL_from 32 = .ok (.iand, 1) := by decide +kernel
theorem dL_from_33 : decode cL_from 33 = .ok (.iload_n 2, 1) := by decide +kernel
theorem dL_from_34 : decode cL_from 34 = .ok (.irem, 1) := by decide +kernel
theorem dL_from_35 : decode cL_from 35 = .ok (.ireturn, 1) := by decide +kernel
theorem dL_many_0 : decode cL_many 0 = .ok (.iload_n 0, 1) := by decide +kernel
theorem dL_many_1 : decode cL_many 1 = .ok (.iconst 1, 1) := by decide +kernel
theorem dL_many_2 : decode cL_many 2 = .ok (.if_icmp .ne 7, 3) := by decide +kernel
theorem dL_many_5 : decode cL_many 5 = .ok (.iconst 3, 1) := by decide +kernel
theorem dL_many_6 : decode cL_many 6 = .ok (.goto 4, 3) := by decide +kernel
theorem dL_many_9 : decode cL_many 9 = .ok (.iconst 4, 1) := by decide +kernel
theorem dL_many_10 : decode cL_many 10 = .ok (.ireturn, 1) := by decide +kernel
theorem dL_base_0 : decode cL_base 0 = .ok (.lconst 0, 1) := by decide +kernel
theorem dL_base_1 : decode cL_base 1 = .ok (.lstore 4, 2) := by decide +kernel
theorem dL_base_3 : decode cL_base 3 = .ok (.lconst 0, 1) := by decide +kernel
theorem dL_base_4 : decode cL_base 4 = .ok (.lstore 6, 2) := by decide +kernel
theorem dL_base_6 : decode cL_base 6 = .ok (.iconst 0, 1) := by decide +kernel
theorem dL_base_7 : decode cL_base 7 = .ok (.istore 8, 2) := by decide +kernel
theorem dL_base_9 : decode cL_base 9 = .ok (.iload 8, 2) := by decide +kernel
theorem dL_base_11 : decode cL_base 11 = .ok (.aload_n 3, 1) := by decide +kernel
theorem dL_base_12 : decode cL_base 12 = .ok (.iconst 0, 1) := by decide +kernel
theorem dL_base_13 : decode cL_base 13 = .ok (.iaload, 1) := by decide +kernel
theorem dL_base_14 : decode cL_base 14 = .ok (.if_icmp .ge 53, 3) := by decide +kernel
theorem dL_base_17 : decode cL_base 17 = .ok (.lload 4, 2) := by decide +kernel
theorem dL_base_19 : decode cL_base 19 = .ok (.aload_n 2, 1) := by decide +kernel
theorem dL_base_20 : decode cL_base 20 = .ok (.iload 8, 2) := by decide +kernel
theorem dL_base_22 : decode cL_base 22 = .ok (.iaload, 1) := by decide +kernel
theorem dL_base_23 : decode cL_base 23 = .ok (.iconst 1, 1) := by decide +kernel
theorem dL_base_24 : decode cL_base 24 = .ok (.if_icmp .ne 7, 3) := by decide +kernel
theorem dL_base_27 : decode cL_base 27 = .ok (.lconst 0, 1) := by decide +kernel
theorem dL_base_28 : decode cL_base 28 = .ok (.goto 8, 3) := by decide +kernel
theorem dL_base_31 : decode cL_base 31 = .ok (.aload_n 1, 1) := by decide +kernel
theorem dL_base_32 : decode cL_base 32 = .ok (.iload 8, 2) := by decide +kernel
theorem dL_base_34 : decode cL_base 34 = .ok (.iaload, 1) := by decide +kernel
theorem dL_base_35 : decode cL_base 35 = .ok (.i2l, 1) := by decide +kernel
theorem dL_base_36 : decode cL_base 36 = .ok (.ladd, 1) := by decide +kernel
theorem dL_base_37 : decode cL_base 37 = .ok (.lstore 4, 2) := by decide +kernel
theorem dL_base_39 : decode cL_base 39 = .ok (.lload 6, 2) := by decide +kernel
theorem dL_base_41 : decode cL_base 41 = .ok (.aload_n 2, 1) := by decide +kernel
theorem dL_base_42 : decode cL_base 42 = .ok (.iload 8, 2) := by decide +kernel
theorem dL_base_44 : decode cL_base 44 = .ok (.iaload, 1) := by decide +kernel
theorem dL_base_45 : decode cL_base 45 = .ok (.iconst 1, 1) := by decide +kernel
theorem dL_base_46 : decode cL_base 46 = .ok (.if_icmp .ne 7, 3) := by decide +kernel
theorem dL_base_49 : decode cL_base 49 = .ok (.lconst 0, 1) := by decide +kernel
theorem dL_base_50 : decode cL_base 50 = .ok (.goto 8, 3) := by decide +kernel
theorem dL_base_53 : decode cL_base 53 = .ok (.aload_n 0, 1) := by decide +kernel
theorem dL_base_54 : decode cL_base 54 = .ok (.iload 8, 2) := by decide +kernel
theorem dL_base_56 : decode cL_base 56 = .ok (.iaload, 1) := by decide +kernel
theorem dL_base_57 : decode cL_base 57 = .ok (.i2l, 1) := by decide +kernel
theorem dL_base_58 : decode cL_base 58 = .ok (.ladd, 1) := by decide +kernel
theorem dL_base_59 : decode cL_base 59 = .ok (.lstore 6, 2) := by decide +kernel
theorem dL_base_61 : decode cL_base 61 = .ok (.iinc 8 1, 3) := by decide +kernel
theorem dL_base_64 : decode cL_base 64 = .ok (.goto (-55), 3) := by decide +kernel
theorem dL_base_67 : decode cL_base 67 = .ok (.lload 6, 2) := by decide +kernel
theorem dL_base_69 : decode cL_base 69 = .ok (.lconst 0, 1) := by decide +kernel
theorem dL_base_70 : decode cL_base 70 = .ok (.lcmp, 1) := by decide +kernel
theorem dL_base_71 : decode cL_base 71 = .ok (.ifCond .ne 7, 3) := by decide +kernel
theorem dL_base_74 : decode cL_base 74 = .ok (.lconst 0, 1) := by decide +kernel
theorem dL_base_75 : decode cL_base 75 = .ok (.goto 12, 3) := by decide +kernel
theorem dL_base_78 : decode cL_base 78 = .ok (.lload 4, 2) := by decide +kernel
theorem dL_base_80 : decode cL_base 80 = .ok (.ldc2_w 9, 3) := by decide +kernel
theorem dL_base_83 : decode cL_base 83 = .ok (.lmul, 1) := by decide +kernel
theorem dL_base_84 : decode cL_base 84 = .ok (.lload 6, 2) := by decide +kernel
theorem dL_base_86 : decode cL_base 86 = .ok (.ldiv, 1) := by decide +kernel
theorem dL_base_87 : decode cL_base 87 = .ok (.lreturn, 1) := by decide +kernel
theorem dL_fitted_0 : decode cL_fitted 0 = .ok (.lload 4, 2) := by decide +kernel
theorem dL_fitted_2 : decode cL_fitted 2 = .ok (.aload_n 1, 1) := by decide +kernel
theorem dL_fitted_3 : decode cL_fitted 3 = .ok (.iload_n 3, 1) := by decide +kernel
theorem dL_fitted_4 : decode cL_fitted 4 = .ok (.iaload, 1) := by decide +kernel
theorem dL_fitted_5 : decode cL_fitted 5 = .ok (.i2l, 1) := by decide +kernel
theorem dL_fitted_6 : decode cL_fitted 6 = .ok (.lmul, 1) := by decide +kernel
theorem dL_fitted_7 : decode cL_fitted 7 = .ok (.ldc2_w 9, 3) := by decide +kernel
theorem dL_fitted_10 : decode cL_fitted 10 = .ok (.ldiv, 1) := by decide +kernel
theorem dL_fitted_11 : decode cL_fitted 11 = .ok (.lstore 6, 2) := by decide +kernel
theorem dL_fitted_13 : decode cL_fitted 13 = .ok (.lload 6, 2) := by decide +kernel
theorem dL_fitted_15 : decode cL_fitted 15 = .ok (.aload_n 2, 1) := by decide +kernel
theorem dL_fitted_16 : decode cL_fitted 16 = .ok (.aload_n 0, 1) := by decide +kernel
theorem dL_fitted_17 : decode cL_fitted 17 = .ok (.iconst 3, 1) := by decide +kernel
theorem dL_fitted_18 : decode cL_fitted 18 = .ok (.iload_n 3, 1) := by decide +kernel
theorem dL_fitted_19 : decode cL_fitted 19 = .ok (.imul, 1) := by decide +kernel
theorem dL_fitted_20 : decode cL_fitted 20 = .ok (.iaload, 1) := by decide +kernel
theorem dL_fitted_21 : decode cL_fitted 21 = .ok (.iaload, 1) := by decide +kernel
theorem dL_fitted_22 : decode cL_fitted 22 = .ok (.i2l, 1) := by decide +kernel
theorem dL_fitted_23 : decode cL_fitted 23 = .ok (.lmul, 1) := by decide +kernel
theorem dL_fitted_24 : decode cL_fitted 24 = .ok (.ldc2_w 9, 3) := by decide +kernel
theorem dL_fitted_27 : decode cL_fitted 27 = .ok (.ldiv, 1) := by decide +kernel
theorem dL_fitted_28 : decode cL_fitted 28 = .ok (.lstore 8, 2) := by decide +kernel
theorem dL_fitted_30 : decode cL_fitted 30 = .ok (.lload 8, 2) := by decide +kernel
theorem dL_fitted_32 : decode cL_fitted 32 = .ok (.aload_n 2, 1) := by decide +kernel
theorem dL_fitted_33 : decode cL_fitted 33 = .ok (.iconst 4, 1) := by decide +kernel
theorem dL_fitted_34 : decode cL_fitted 34 = .ok (.aload_n 0, 1) := by decide +kernel
theorem dL_fitted_35 : decode cL_fitted 35 = .ok (.iconst 3, 1) := by decide +kernel
theorem dL_fitted_36 : decode cL_fitted 36 = .ok (.iload_n 3, 1) := by decide +kernel
theorem dL_fitted_37 : decode cL_fitted 37 = .ok (.imul, 1) := by decide +kernel
theorem dL_fitted_38 : decode cL_fitted 38 = .ok (.iconst 1, 1) := by decide +kernel
theorem dL_fitted_39 : decode cL_fitted 39 = .ok (.iadd, 1) := by decide +kernel
theorem dL_fitted_40 : decode cL_fitted 40 = .ok (.iaload, 1) := by decide +kernel
theorem dL_fitted_41 : decode cL_fitted 41 = .ok (.iadd, 1) := by decide +kernel
theorem dL_fitted_42 : decode cL_fitted 42 = .ok (.iaload, 1) := by decide +kernel
theorem dL_fitted_43 : decode cL_fitted 43 = .ok (.i2l, 1) := by decide +kernel
theorem dL_fitted_44 : decode cL_fitted 44 = .ok (.lmul, 1) := by decide +kernel
theorem dL_fitted_45 : decode cL_fitted 45 = .ok (.ldc2_w 9, 3) := by decide +kernel
theorem dL_fitted_48 : decode cL_fitted 48 = .ok (.ldiv, 1) := by decide +kernel
theorem dL_fitted_49 : decode cL_fitted 49 = .ok (.lstore 10, 2) := by decide +kernel
theorem dL_fitted_51 : decode cL_fitted 51 = .ok (.lload 10, 2) := by decide +kernel
theorem dL_fitted_53 : decode cL_fitted 53 = .ok (.aload_n 2, 1) := by decide +kernel
theorem dL_fitted_54 : decode cL_fitted 54 = .ok (.bipush 8, 2) := by decide +kernel
theorem dL_fitted_56 : decode cL_fitted 56 = .ok (.aload_n 0, 1) := by decide +kernel
theorem dL_fitted_57 : decode cL_fitted 57 = .ok (.iconst 3, 1) := by decide +kernel
theorem dL_fitted_58 : decode cL_fitted 58 = .ok (.iload_n 3, 1) := by decide +kernel
theorem dL_fitted_59 : decode cL_fitted 59 = .ok (.imul, 1) := by decide +kernel
theorem dL_fitted_60 : decode cL_fitted 60 = .ok (.iconst 2, 1) := by decide +kernel
theorem dL_fitted_61 : decode cL_fitted 61 = .ok (.iadd, 1) := by decide +kernel
theorem dL_fitted_62 : decode cL_fitted 62 = .ok (.iaload, 1) := by decide +kernel
theorem dL_fitted_63 : decode cL_fitted 63 = .ok (.iadd, 1) := by decide +kernel
theorem dL_fitted_64 : decode cL_fitted 64 = .ok (.iaload, 1) := by decide +kernel
theorem dL_fitted_65 : decode cL_fitted 65 = .ok (.i2l, 1) := by decide +kernel
theorem dL_fitted_66 : decode cL_fitted 66 = .ok (.lmul, 1) := by decide +kernel
theorem dL_fitted_67 : decode cL_fitted 67 = .ok (.ldc2_w 9, 3) := by decide +kernel
theorem dL_fitted_70 : decode cL_fitted 70 = .ok (.ldiv, 1) := by decide +kernel
theorem dL_fitted_71 : decode cL_fitted 71 = .ok (.lreturn, 1) := by decide +kernel
theorem dL_sum_0 : decode cL_sum 0 = .ok (.aload_n 1, 1) := by decide +kernel
theorem dL_sum_1 : decode cL_sum 1 = .ok (.aload_n 3, 1) := by decide +kernel
theorem dL_sum_2 : decode cL_sum 2 = .ok (.aload 4, 2) := by decide +kernel
theorem dL_sum_4 : decode cL_sum 4 = .ok (.aload 6, 2) := by decide +kernel
theorem dL_sum_6 : decode cL_sum 6 = .ok (.invokestatic 11, 3) := by decide +kernel
theorem dL_sum_9 : decode cL_sum 9 = .ok (.lstore 10, 2) := by decide +kernel
theorem dL_sum_11 : decode cL_sum 11 = .ok (.lconst 0, 1) := by decide +kernel
theorem dL_sum_12 : decode cL_sum 12 = .ok (.lstore 12, 2) := by decide +kernel
theorem dL_sum_14 : decode cL_sum 14 = .ok (.iconst 0, 1) := by decide +kernel
theorem dL_sum_15 : decode cL_sum 15 = .ok (.istore 14, 2) := by decide +kernel
theorem dL_sum_17 : decode cL_sum 17 = .ok (.iload 14, 2) := by decide +kernel
theorem dL_sum_19 : decode cL_sum 19 = .ok (.aload 6, 2) := by decide +kernel
theorem dL_sum_21 : decode cL_sum 21 = .ok (.iconst 0, 1) := by decide +kernel
theorem dL_sum_22 : decode cL_sum 22 = .ok (.iaload, 1) := by decide +kernel
theorem dL_sum_23 : decode cL_sum 23 = .ok (.if_icmp .ge 114, 3) := by decide +kernel
theorem dL_sum_26 : decode cL_sum 26 = .ok (.aload 4, 2) := by decide +kernel
theorem dL_sum_28 : decode cL_sum 28 = .ok (.iload 14, 2) := by decide +kernel
theorem dL_sum_30 : decode cL_sum 30 = .ok (.iaload, 1) := by decide +kernel
theorem dL_sum_31 : decode cL_sum 31 = .ok (.ifCond .ne 21, 3) := by decide +kernel
theorem dL_sum_34 : decode cL_sum 34 = .ok (.aload_n 0, 1) := by decide +kernel
theorem dL_sum_35 : decode cL_sum 35 = .ok (.iconst 3, 1) := by decide +kernel
theorem dL_sum_36 : decode cL_sum 36 = .ok (.iload 14, 2) := by decide +kernel
theorem dL_sum_38 : decode cL_sum 38 = .ok (.imul, 1) := by decide +kernel
theorem dL_sum_39 : decode cL_sum 39 = .ok (.iload 8, 2) := by decide +kernel
theorem dL_sum_41 : decode cL_sum 41 = .ok (.iadd, 1) := by decide +kernel
theorem dL_sum_42 : decode cL_sum 42 = .ok (.iaload, 1) := by decide +kernel
theorem dL_sum_43 : decode cL_sum 43 = .ok (.iload 9, 2) := by decide +kernel
theorem dL_sum_45 : decode cL_sum 45 = .ok (.if_icmp .ne 7, 3) := by decide +kernel
theorem dL_sum_48 : decode cL_sum 48 = .ok (.iconst 1, 1) := by decide +kernel
theorem dL_sum_49 : decode cL_sum 49 = .ok (.goto 4, 3) := by decide +kernel
theorem dL_sum_52 : decode cL_sum 52 = .ok (.iconst 0, 1) := by decide +kernel
theorem dL_sum_53 : decode cL_sum 53 = .ok (.istore 15, 2) := by decide +kernel
theorem dL_sum_55 : decode cL_sum 55 = .ok (.lload 12, 2) := by decide +kernel
theorem dL_sum_57 : decode cL_sum 57 = .ok (.iload 15, 2) := by decide +kernel
theorem dL_sum_59 : decode cL_sum 59 = .ok (.ifCond .ne 7, 3) := by decide +kernel
theorem dL_sum_62 : decode cL_sum 62 = .ok (.lconst 0, 1) := by decide +kernel
theorem dL_sum_63 : decode cL_sum 63 = .ok (.goto 65, 3) := by decide +kernel
theorem dL_sum_66 : decode cL_sum 66 = .ok (.iload 7, 2) := by decide +kernel
theorem dL_sum_68 : decode cL_sum 68 = .ok (.ifCond .ne 11, 3) := by decide +kernel
theorem dL_sum_71 : decode cL_sum 71 = .ok (.aload_n 3, 1) := by decide +kernel
theorem dL_sum_72 : decode cL_sum 72 = .ok (.iload 14, 2) := by decide +kernel
theorem dL_sum_74 : decode cL_sum 74 = .ok (.iaload, 1) := by decide +kernel
theorem dL_sum_75 : decode cL_sum 75 = .ok (.i2l, 1) := by decide +kernel
theorem dL_sum_76 : decode cL_sum 76 = .ok (.goto 52, 3) := by decide +kernel
theorem dL_sum_79 : decode cL_sum 79 = .ok (.iload 7, 2) := by decide +kernel
theorem dL_sum_81 : decode cL_sum 81 = .ok (.iconst 1, 1) := by decide +kernel
theorem dL_sum_82 : decode cL_sum 82 = .ok (.if_icmp .ne 17, 3) := by decide +kernel
theorem dL_sum_85 : decode cL_sum 85 = .ok (.aload_n 0, 1) := by decide +kernel
theorem dL_sum_86 : decode cL_sum 86 = .ok (.aload_n 1, 1) := by decide +kernel
theorem dL_sum_87 : decode cL_sum 87 = .ok (.aload 5, 2) := by decide +kernel
theorem dL_sum_89 : decode cL_sum 89 = .ok (.iload 14, 2) := by decide +kernel
theorem dL_sum_91 : decode cL_sum 91 = .ok (.lload 10, 2) := by decide +kernel
theorem dL_sum_93 : decode cL_sum 93 = .ok (.invokestatic 17, 3) := by decide +kernel
theorem dL_sum_96 : decode cL_sum 96 = .ok (.goto 32, 3) := by decide +kernel
theorem dL_sum_99 : decode cL_sum 99 = .ok (.iload 7, 2) := by decide +kernel
theorem dL_sum_101 : decode cL_sum 101 = .ok (.iconst 2, 1) := by decide +kernel
theorem dL_sum_102 : decode cL_sum 102 = .ok (.if_icmp .ne 11, 3) := by decide +kernel
theorem dL_sum_105 : decode cL_sum 105 = .ok (.aload_n 2, 1) := by decide +kernel
theorem dL_sum_106 : decode cL_sum 106 = .ok (.iload 14, 2) := by decide +kernel
theorem dL_sum_108 : decode cL_sum 108 = .ok (.iaload, 1) := by decide +kernel
theorem dL_sum_109 : decode cL_sum 109 = .ok (.i2l, 1) := by decide +kernel
theorem dL_sum_110 : decode cL_sum 110 = .ok (.goto 18, 3) := by decide +kernel
theorem dL_sum_113 : decode cL_sum 113 = .ok (.iload 7, 2) := by decide +kernel
theorem dL_sum_115 : decode cL_sum 115 = .ok (.iconst 3, 1) := by decide +kernel
theorem dL_sum_116 : decode cL_sum 116 = .ok (.if_icmp .ne 11, 3) := by decide +kernel
theorem dL_sum_119 : decode cL_sum 119 = .ok (.aload_n 1, 1) := by decide +kernel
theorem dL_sum_120 : decode cL_sum 120 = .ok (.iload 14, 2) := by decide +kernel
theorem dL_sum_122 : decode cL_sum 122 = .ok (.iaload, 1) := by decide +kernel
theorem dL_sum_123 : decode cL_sum 123 = .ok (.i2l, 1) := by decide +kernel
theorem dL_sum_124 : decode cL_sum 124 = .ok (.goto 4, 3) := by decide +kernel
theorem dL_sum_127 : decode cL_sum 127 = .ok (.lconst 1, 1) := by decide +kernel
theorem dL_sum_128 : decode cL_sum 128 = .ok (.ladd, 1) := by decide +kernel
theorem dL_sum_129 : decode cL_sum 129 = .ok (.lstore 12, 2) := by decide +kernel
theorem dL_sum_131 : decode cL_sum 131 = .ok (.iinc 14 1, 3) := by decide +kernel
theorem dL_sum_134 : decode cL_sum 134 = .ok (.goto (-117), 3) := by decide +kernel
theorem dL_sum_137 : decode cL_sum 137 = .ok (.lload 12, 2) := by decide +kernel
theorem dL_sum_139 : decode cL_sum 139 = .ok (.lreturn, 1) := by decide +kernel
theorem dL_pass_0 : decode cL_pass 0 = .ok (.iconst 4, 1) := by decide +kernel
theorem dL_pass_1 : decode cL_pass 1 = .ok (.newarray .long, 2) := by decide +kernel
theorem dL_pass_3 : decode cL_pass 3 = .ok (.astore 8, 2) := by decide +kernel
theorem dL_pass_5 : decode cL_pass 5 = .ok (.iconst 0, 1) := by decide +kernel
theorem dL_pass_6 : decode cL_pass 6 = .ok (.istore 9, 2) := by decide +kernel
theorem dL_pass_8 : decode cL_pass 8 = .ok (.iconst 0, 1) := by decide +kernel
theorem dL_pass_9 : decode cL_pass 9 = .ok (.istore 10, 2) := by decide +kernel
theorem dL_pass_11 : decode cL_pass 11 = .ok (.iload 10, 2) := by decide +kernel
theorem dL_pass_13 : decode cL_pass 13 = .ok (.iload 7, 2) := by decide +kernel
theorem dL_pass_15 : decode cL_pass 15 = .ok (.invokestatic 21, 3) := by decide +kernel
theorem dL_pass_18 : decode cL_pass 18 = .ok (.if_icmp .ge 186, 3) := by decide +kernel
theorem dL_pass_21 : decode cL_pass 21 = .ok (.aload 5, 2) := by decide +kernel
theorem dL_pass_23 : decode cL_pass 23 = .ok (.iconst 4, 1) := by decide +kernel
theorem dL_pass_24 : decode cL_pass 24 = .ok (.iload 7, 2) := by decide +kernel
theorem dL_pass_26 : decode cL_pass 26 = .ok (.imul, 1) := by decide +kernel
theorem dL_pass_27 : decode cL_pass 27 = .ok (.iload 10, 2) := by decide +kernel
theorem dL_pass_29 : decode cL_pass 29 = .ok (.iadd, 1) := by decide +kernel
theorem dL_pass_30 : decode cL_pass 30 = .ok (.iaload, 1) := by decide +kernel
theorem dL_pass_31 : decode cL_pass 31 = .ok (.i2l, 1) := by decide +kernel
theorem dL_pass_32 : decode cL_pass 32 = .ok (.lstore 11, 2) := by decide +kernel
theorem dL_pass_34 : decode cL_pass 34 = .ok (.aload_n 0, 1) := by decide +kernel
theorem dL_pass_35 : decode cL_pass 35 = .ok (.aload_n 1, 1) := by decide +kernel
theorem dL_pass_36 : decode cL_pass 36 = .ok (.aload_n 2, 1) := by decide +kernel
theorem dL_pass_37 : decode cL_pass 37 = .ok (.aload_n 3, 1) := by decide +kernel
theorem dL_pass_38 : decode cL_pass 38 = .ok (.aload 4, 2) := by decide +kernel
theorem dL_pass_40 : decode cL_pass 40 = .ok (.aload 5, 2) := by decide +kernel
theorem dL_pass_42 : decode cL_pass 42 = .ok (.aload 6, 2) := by decide +kernel
theorem dL_pass_44 : decode cL_pass 44 = .ok (.iconst 1, 1) := by decide +kernel
theorem dL_pass_45 : decode cL_pass 45 = .ok (.iload 7, 2) := by decide +kernel
theorem dL_pass_47 : decode cL_pass 47 = .ok (.iload 10, 2) := by decide +kernel
theorem dL_pass_49 : decode cL_pass 49 = .ok (.invokestatic 25, 3) := by decide +kernel
theorem dL_pass_52 : decode cL_pass 52 = .ok (.lstore 13, 2) := by decide +kernel
theorem dL_pass_54 : decode cL_pass 54 = .ok (.aload_n 0, 1) := by decide +kernel
theorem dL_pass_55 : decode cL_pass 55 = .ok (.aload_n 1, 1) := by decide +kernel
theorem dL_pass_56 : decode cL_pass 56 = .ok (.aload_n 2, 1) := by decide +kernel
theorem dL_pass_57 : decode cL_pass 57 = .ok (.aload_n 3, 1) := by decide +kernel
theorem dL_pass_58 : decode cL_pass 58 = .ok (.aload 4, 2) := by decide +kernel
theorem dL_pass_60 : decode cL_pass 60 = .ok (.aload 5, 2) := by decide +kernel
theorem dL_pass_62 : decode cL_pass 62 = .ok (.aload 6, 2) := by decide +kernel
theorem dL_pass_64 : decode cL_pass 64 = .ok (.iconst 2, 1) := by decide +kernel
theorem dL_pass_65 : decode cL_pass 65 = .ok (.iload 7, 2) := by decide +kernel
theorem dL_pass_67 : decode cL_pass 67 = .ok (.iload 10, 2) := by decide +kernel
theorem dL_pass_69 : decode cL_pass 69 = .ok (.invokestatic 25, 3) := by decide +kernel
theorem dL_pass_72 : decode cL_pass 72 = .ok (.lstore 15, 2) := by decide +kernel
theorem dL_pass_74 : decode cL_pass 74 = .ok (.lload 13, 2) := by decide +kernel
theorem dL_pass_76 : decode cL_pass 76 = .ok (.lconst 0, 1) := by decide +kernel
theorem dL_pass_77 : decode cL_pass 77 = .ok (.lcmp, 1) := by decide +kernel
theorem dL_pass_78 : decode cL_pass 78 = .ok (.ifCond .eq 113, 3) := by decide +kernel
theorem dL_pass_81 : decode cL_pass 81 = .ok (.lload 15, 2) := by decide +kernel
theorem dL_pass_83 : decode cL_pass 83 = .ok (.lconst 0, 1) := by decide +kernel
theorem dL_pass_84 : decode cL_pass 84 = .ok (.lcmp, 1) := by decide +kernel
theorem dL_pass_85 : decode cL_pass 85 = .ok (.ifCond .eq 106, 3) := by decide +kernel
theorem dL_pass_88 : decode cL_pass 88 = .ok (.lload 11, 2) := by decide +kernel
theorem dL_pass_90 : decode cL_pass 90 = .ok (.aload_n 0, 1) := by decide +kernel
theorem dL_pass_91 : decode cL_pass 91 = .ok (.aload_n 1, 1) := by decide +kernel
theorem dL_pass_92 : decode cL_pass 92 = .ok (.aload_n 2, 1) := by decide +kernel
theorem dL_pass_93 : decode cL_pass 93 = .ok (.aload_n 3, 1) := by decide +kernel
theorem dL_pass_94 : decode cL_pass 94 = .ok (.aload 4, 2) := by decide +kernel
theorem dL_pass_96 : decode cL_pass 96 = .ok (.aload 5, 2) := by decide +kernel
theorem dL_pass_98 : decode cL_pass 98 = .ok (.aload 6, 2) := by decide +kernel
theorem dL_pass_100 : decode cL_pass 100 = .ok (.iconst 0, 1) := by decide +kernel
theorem dL_pass_101 : decode cL_pass 101 = .ok (.iload 7, 2) := by decide +kernel
theorem dL_pass_103 : decode cL_pass 103 = .ok (.iload 10, 2) := by decide +kernel
theorem dL_pass_105 : decode cL_pass 105 = .ok (.invokestatic 25, 3) := by decide +kernel
theorem dL_pass_108 : decode cL_pass 108 = .ok (.lmul, 1) := by decide +kernel
theorem dL_pass_109 : decode cL_pass 109 = .ok (.lload 13, 2) := by decide +kernel
theorem dL_pass_111 : decode cL_pass 111 = .ok (.ldiv, 1) := by decide +kernel
theorem dL_pass_112 : decode cL_pass 112 = .ok (.lload 11, 2) := by decide +kernel
theorem dL_pass_114 : decode cL_pass 114 = .ok (.lsub, 1) := by decide +kernel
theorem dL_pass_115 : decode cL_pass 115 = .ok (.lload 15, 2) := by decide +kernel
theorem dL_pass_117 : decode cL_pass 117 = .ok (.lmul, 1) := by decide +kernel
theorem dL_pass_118 : decode cL_pass 118 = .ok (.lstore 17, 2) := by decide +kernel
theorem dL_pass_120 : decode cL_pass 120 = .ok (.lload 15, 2) := by decide +kernel
theorem dL_pass_122 : decode cL_pass 122 = .ok (.aload 6, 2) := by decide +kernel
theorem dL_pass_124 : decode cL_pass 124 = .ok (.iconst 1, 1) := by decide +kernel
theorem dL_pass_125 : decode cL_pass 125 = .ok (.iaload, 1) := by decide +kernel
theorem dL_pass_126 : decode cL_pass 126 = .ok (.i2l, 1) := by decide +kernel
theorem dL_pass_127 : decode cL_pass 127 = .ok (.ladd, 1) := by decide +kernel
theorem dL_pass_128 : decode cL_pass 128 = .ok (.lstore 19, 2) := by decide +kernel
theorem dL_pass_130 : decode cL_pass 130 = .ok (.lload 11, 2) := by decide +kernel
theorem dL_pass_132 : decode cL_pass 132 = .ok (.lload 17, 2) := by decide +kernel
theorem dL_pass_134 : decode cL_pass 134 = .ok (.lconst 0, 1) := by decide +kernel
theorem dL_pass_135 : decode cL_pass 135 = .ok (.lcmp, 1) := by decide +kernel
theorem dL_pass_136 : decode cL_pass 136 = .ok (.ifCond .ge 13, 3) := by decide +kernel
theorem dL_pass_139 : decode cL_pass 139 = .ok (.lload 17, 2) := by decide +kernel
theorem dL_pass_141 : decode cL_pass 141 = .ok (.lneg, 1) := by decide +kernel
theorem dL_pass_142 : decode cL_pass 142 = .ok (.lload 19, 2) := by decide +kernel
theorem dL_pass_144 : decode cL_pass 144 = .ok (.ldiv, 1) := by decide +kernel
theorem dL_pass_145 : decode cL_pass 145 = .ok (.lneg, 1) := by decide +kernel
theorem dL_pass_146 : decode cL_pass 146 = .ok (.goto 8, 3) := by decide +kernel
theorem dL_pass_149 : decode cL_pass 149 = .ok (.lload 17, 2) := by decide +kernel
theorem dL_pass_151 : decode cL_pass 151 = .ok (.lload 19, 2) := by decide +kernel
theorem dL_pass_153 : decode cL_pass 153 = .ok (.ldiv, 1) := by decide +kernel
theorem dL_pass_154 : decode cL_pass 154 = .ok (.ladd, 1) := by decide +kernel
theorem dL_pass_155 : decode cL_pass 155 = .ok (.lstore 11, 2) := by decide +kernel
theorem dL_pass_157 : decode cL_pass 157 = .ok (.lload 11, 2) := by decide +kernel
theorem dL_pass_159 : decode cL_pass 159 = .ok (.ldc2_w 29, 3) := by decide +kernel
theorem dL_pass_162 : decode cL_pass 162 = .ok (.lcmp, 1) := by decide +kernel
theorem dL_pass_163 : decode cL_pass 163 = .ok (.ifCond .ge 9, 3) := by decide +kernel
theorem dL_pass_166 : decode cL_pass 166 = .ok (.ldc2_w 29, 3) := by decide +kernel
theorem dL_pass_169 : decode cL_pass 169 = .ok (.goto 20, 3) := by decide +kernel
end
section
theorem dL_pass_172 : decode cL_pass 172 = .ok (.lload 11, 2) := by decide +kernel
theorem dL_pass_174 : decode cL_pass 174 = .ok (.ldc2_w 31, 3) := by decide +kernel
theorem dL_pass_177 : decode cL_pass 177 = .ok (.lcmp, 1) := by decide +kernel
theorem dL_pass_178 : decode cL_pass 178 = .ok (.ifCond .le 9, 3) := by decide +kernel
theorem dL_pass_181 : decode cL_pass 181 = .ok (.ldc2_w 31, 3) := by decide +kernel
theorem dL_pass_184 : decode cL_pass 184 = .ok (.goto 5, 3) := by decide +kernel
theorem dL_pass_187 : decode cL_pass 187 = .ok (.lload 11, 2) := by decide +kernel
theorem dL_pass_189 : decode cL_pass 189 = .ok (.lstore 11, 2) := by decide +kernel
theorem dL_pass_191 : decode cL_pass 191 = .ok (.aload 8, 2) := by decide +kernel
theorem dL_pass_193 : decode cL_pass 193 = .ok (.iload 10, 2) := by decide +kernel
theorem dL_pass_195 : decode cL_pass 195 = .ok (.lload 11, 2) := by decide +kernel
theorem dL_pass_197 : decode cL_pass 197 = .ok (.lastore, 1) := by decide +kernel
theorem dL_pass_198 : decode cL_pass 198 = .ok (.iinc 10 1, 3) := by decide +kernel
theorem dL_pass_201 : decode cL_pass 201 = .ok (.goto (-190), 3) := by decide +kernel
theorem dL_pass_204 : decode cL_pass 204 = .ok (.iconst 0, 1) := by decide +kernel
theorem dL_pass_205 : decode cL_pass 205 = .ok (.istore 10, 2) := by decide +kernel
theorem dL_pass_207 : decode cL_pass 207 = .ok (.iload 10, 2) := by decide +kernel
theorem dL_pass_209 : decode cL_pass 209 = .ok (.iload 7, 2) := by decide +kernel
theorem dL_pass_211 : decode cL_pass 211 = .ok (.invokestatic 21, 3) := by decide +kernel
theorem dL_pass_214 : decode cL_pass 214 = .ok (.if_icmp .ge 55, 3) := by decide +kernel
theorem dL_pass_217 : decode cL_pass 217 = .ok (.iload 9, 2) := by decide +kernel
theorem dL_pass_219 : decode cL_pass 219 = .ok (.aload 8, 2) := by decide +kernel
theorem dL_pass_221 : decode cL_pass 221 = .ok (.iload 10, 2) := by decide +kernel
theorem dL_pass_223 : decode cL_pass 223 = .ok (.laload, 1) := by decide +kernel
theorem dL_pass_224 : decode cL_pass 224 = .ok (.aload 5, 2) := by decide +kernel
theorem dL_pass_226 : decode cL_pass 226 = .ok (.iconst 4, 1) := by decide +kernel
theorem dL_pass_227 : decode cL_pass 227 = .ok (.iload 7, 2) := by decide +kernel
theorem dL_pass_229 : decode cL_pass 229 = .ok (.imul, 1) := by decide +kernel
theorem dL_pass_230 : decode cL_pass 230 = .ok (.iload 10, 2) := by decide +kernel
theorem dL_pass_232 : decode cL_pass 232 = .ok (.iadd, 1) := by decide +kernel
theorem dL_pass_233 : decode cL_pass 233 = .ok (.iaload, 1) := by decide +kernel
theorem dL_pass_234 : decode cL_pass 234 = .ok (.i2l, 1) := by decide +kernel
theorem dL_pass_235 : decode cL_pass 235 = .ok (.lcmp, 1) := by decide +kernel
theorem dL_pass_236 : decode cL_pass 236 = .ok (.ifCond .ne 7, 3) := by decide +kernel
theorem dL_pass_239 : decode cL_pass 239 = .ok (.iconst 0, 1) := by decide +kernel
theorem dL_pass_240 : decode cL_pass 240 = .ok (.goto 4, 3) := by decide +kernel
theorem dL_pass_243 : decode cL_pass 243 = .ok (.iconst 1, 1) := by decide +kernel
theorem dL_pass_244 : decode cL_pass 244 = .ok (.iadd, 1) := by decide +kernel
theorem dL_pass_245 : decode cL_pass 245 = .ok (.istore 9, 2) := by decide +kernel
theorem dL_pass_247 : decode cL_pass 247 = .ok (.aload 5, 2) := by decide +kernel
theorem dL_pass_249 : decode cL_pass 249 = .ok (.iconst 4, 1) := by decide +kernel
theorem dL_pass_250 : decode cL_pass 250 = .ok (.iload 7, 2) := by decide +kernel
theorem dL_pass_252 : decode cL_pass 252 = .ok (.imul, 1) := by decide +kernel
theorem dL_pass_253 : decode cL_pass 253 = .ok (.iload 10, 2) := by decide +kernel
theorem dL_pass_255 : decode cL_pass 255 = .ok (.iadd, 1) := by decide +kernel
theorem dL_pass_256 : decode cL_pass 256 = .ok (.aload 8, 2) := by decide +kernel
theorem dL_pass_258 : decode cL_pass 258 = .ok (.iload 10, 2) := by decide +kernel
theorem dL_pass_260 : decode cL_pass 260 = .ok (.laload, 1) := by decide +kernel
theorem dL_pass_261 : decode cL_pass 261 = .ok (.l2i, 1) := by decide +kernel
theorem dL_pass_262 : decode cL_pass 262 = .ok (.iastore, 1) := by decide +kernel
theorem dL_pass_263 : decode cL_pass 263 = .ok (.iinc 10 1, 3) := by decide +kernel
theorem dL_pass_266 : decode cL_pass 266 = .ok (.goto (-59), 3) := by decide +kernel
theorem dL_pass_269 : decode cL_pass 269 = .ok (.iload 9, 2) := by decide +kernel
theorem dL_pass_271 : decode cL_pass 271 = .ok (.ireturn, 1) := by decide +kernel
theorem dL_smooth_0 : decode cL_smooth 0 = .ok (.iconst 4, 1) := by decide +kernel
theorem dL_smooth_1 : decode cL_smooth 1 = .ok (.newarray .long, 2) := by decide +kernel
theorem dL_smooth_3 : decode cL_smooth 3 = .ok (.astore 8, 2) := by decide +kernel
theorem dL_smooth_5 : decode cL_smooth 5 = .ok (.iconst 4, 1) := by decide +kernel
theorem dL_smooth_6 : decode cL_smooth 6 = .ok (.newarray .long, 2) := by decide +kernel
theorem dL_smooth_8 : decode cL_smooth 8 = .ok (.astore 9, 2) := by decide +kernel
theorem dL_smooth_10 : decode cL_smooth 10 = .ok (.iconst 4, 1) := by decide +kernel
theorem dL_smooth_11 : decode cL_smooth 11 = .ok (.newarray .int, 2) := by decide +kernel
theorem dL_smooth_13 : decode cL_smooth 13 = .ok (.astore 10, 2) := by decide +kernel
theorem dL_smooth_15 : decode cL_smooth 15 = .ok (.iload 7, 2) := by decide +kernel
theorem dL_smooth_17 : decode cL_smooth 17 = .ok (.invokestatic 21, 3) := by decide +kernel
theorem dL_smooth_20 : decode cL_smooth 20 = .ok (.istore 11, 2) := by decide +kernel
theorem dL_smooth_22 : decode cL_smooth 22 = .ok (.iconst 0, 1) := by decide +kernel
theorem dL_smooth_23 : decode cL_smooth 23 = .ok (.istore 12, 2) := by decide +kernel
theorem dL_smooth_25 : decode cL_smooth 25 = .ok (.iload 12, 2) := by decide +kernel
theorem dL_smooth_27 : decode cL_smooth 27 = .ok (.iload 11, 2) := by decide +kernel
theorem dL_smooth_29 : decode cL_smooth 29 = .ok (.if_icmp .ge 54, 3) := by decide +kernel
theorem dL_smooth_32 : decode cL_smooth 32 = .ok (.aload 8, 2) := by decide +kernel
theorem dL_smooth_34 : decode cL_smooth 34 = .ok (.iload 12, 2) := by decide +kernel
theorem dL_smooth_36 : decode cL_smooth 36 = .ok (.aload 5, 2) := by decide +kernel
theorem dL_smooth_38 : decode cL_smooth 38 = .ok (.iconst 4, 1) := by decide +kernel
theorem dL_smooth_39 : decode cL_smooth 39 = .ok (.iload 7, 2) := by decide +kernel
theorem dL_smooth_41 : decode cL_smooth 41 = .ok (.imul, 1) := by decide +kernel
theorem dL_smooth_42 : decode cL_smooth 42 = .ok (.iload 12, 2) := by decide +kernel
theorem dL_smooth_44 : decode cL_smooth 44 = .ok (.iadd, 1) := by decide +kernel
theorem dL_smooth_45 : decode cL_smooth 45 = .ok (.iaload, 1) := by decide +kernel
theorem dL_smooth_46 : decode cL_smooth 46 = .ok (.i2l, 1) := by decide +kernel
theorem dL_smooth_47 : decode cL_smooth 47 = .ok (.lastore, 1) := by decide +kernel
theorem dL_smooth_48 : decode cL_smooth 48 = .ok (.aload 9, 2) := by decide +kernel
theorem dL_smooth_50 : decode cL_smooth 50 = .ok (.iload 12, 2) := by decide +kernel
theorem dL_smooth_52 : decode cL_smooth 52 = .ok (.aload_n 0, 1) := by decide +kernel
theorem dL_smooth_53 : decode cL_smooth 53 = .ok (.aload_n 1, 1) := by decide +kernel
theorem dL_smooth_54 : decode cL_smooth 54 = .ok (.aload_n 2, 1) := by decide +kernel
theorem dL_smooth_55 : decode cL_smooth 55 = .ok (.aload_n 3, 1) := by decide +kernel
theorem dL_smooth_56 : decode cL_smooth 56 = .ok (.aload 4, 2) := by decide +kernel
theorem dL_smooth_58 : decode cL_smooth 58 = .ok (.aload 5, 2) := by decide +kernel
theorem dL_smooth_60 : decode cL_smooth 60 = .ok (.aload 6, 2) := by decide +kernel
theorem dL_smooth_62 : decode cL_smooth 62 = .ok (.iconst 3, 1) := by decide +kernel
theorem dL_smooth_63 : decode cL_smooth 63 = .ok (.iload 7, 2) := by decide +kernel
theorem dL_smooth_65 : decode cL_smooth 65 = .ok (.iload 12, 2) := by decide +kernel
theorem dL_smooth_67 : decode cL_smooth 67 = .ok (.invokestatic 25, 3) := by decide +kernel
theorem dL_smooth_70 : decode cL_smooth 70 = .ok (.lastore, 1) := by decide +kernel
theorem dL_smooth_71 : decode cL_smooth 71 = .ok (.aload 10, 2) := by decide +kernel
theorem dL_smooth_73 : decode cL_smooth 73 = .ok (.iload 12, 2) := by decide +kernel
theorem dL_smooth_75 : decode cL_smooth 75 = .ok (.iconst 1, 1) := by decide +kernel
theorem dL_smooth_76 : decode cL_smooth 76 = .ok (.iastore, 1) := by decide +kernel
theorem dL_smooth_77 : decode cL_smooth 77 = .ok (.iinc 12 1, 3) := by decide +kernel
theorem dL_smooth_80 : decode cL_smooth 80 = .ok (.goto (-55), 3) := by decide +kernel
theorem dL_smooth_83 : decode cL_smooth 83 = .ok (.iconst 1, 1) := by decide +kernel
theorem dL_smooth_84 : decode cL_smooth 84 = .ok (.istore 12, 2) := by decide +kernel
theorem dL_smooth_86 : decode cL_smooth 86 = .ok (.iload 12, 2) := by decide +kernel
theorem dL_smooth_88 : decode cL_smooth 88 = .ok (.iload 11, 2) := by decide +kernel
theorem dL_smooth_90 : decode cL_smooth 90 = .ok (.if_icmp .ge 217, 3) := by decide +kernel
theorem dL_smooth_93 : decode cL_smooth 93 = .ok (.aload 8, 2) := by decide +kernel
theorem dL_smooth_95 : decode cL_smooth 95 = .ok (.iload 12, 2) := by decide +kernel
theorem dL_smooth_97 : decode cL_smooth 97 = .ok (.laload, 1) := by decide +kernel
theorem dL_smooth_98 : decode cL_smooth 98 = .ok (.aload 8, 2) := by decide +kernel
theorem dL_smooth_100 : decode cL_smooth 100 = .ok (.iload 12, 2) := by decide +kernel
theorem dL_smooth_102 : decode cL_smooth 102 = .ok (.iconst 1, 1) := by decide +kernel
theorem dL_smooth_103 : decode cL_smooth 103 = .ok (.isub, 1) := by decide +kernel
theorem dL_smooth_104 : decode cL_smooth 104 = .ok (.laload, 1) := by decide +kernel
theorem dL_smooth_105 : decode cL_smooth 105 = .ok (.lcmp, 1) := by decide +kernel
theorem dL_smooth_106 : decode cL_smooth 106 = .ok (.ifCond .lt 9, 3) := by decide +kernel
theorem dL_smooth_109 : decode cL_smooth 109 = .ok (.iinc 12 1, 3) := by decide +kernel
theorem dL_smooth_112 : decode cL_smooth 112 = .ok (.goto (-26), 3) := by decide +kernel
theorem dL_smooth_115 : decode cL_smooth 115 = .ok (.aload 9, 2) := by decide +kernel
theorem dL_smooth_117 : decode cL_smooth 117 = .ok (.iload 12, 2) := by decide +kernel
theorem dL_smooth_119 : decode cL_smooth 119 = .ok (.iconst 1, 1) := by decide +kernel
theorem dL_smooth_120 : decode cL_smooth 120 = .ok (.isub, 1) := by decide +kernel
theorem dL_smooth_121 : decode cL_smooth 121 = .ok (.laload, 1) := by decide +kernel
theorem dL_smooth_122 : decode cL_smooth 122 = .ok (.aload 9, 2) := by decide +kernel
theorem dL_smooth_124 : decode cL_smooth 124 = .ok (.iload 12, 2) := by decide +kernel
theorem dL_smooth_126 : decode cL_smooth 126 = .ok (.laload, 1) := by decide +kernel
theorem dL_smooth_127 : decode cL_smooth 127 = .ok (.ladd, 1) := by decide +kernel
theorem dL_smooth_128 : decode cL_smooth 128 = .ok (.lstore 13, 2) := by decide +kernel
theorem dL_smooth_130 : decode cL_smooth 130 = .ok (.aload 8, 2) := by decide +kernel
theorem dL_smooth_132 : decode cL_smooth 132 = .ok (.iload 12, 2) := by decide +kernel
theorem dL_smooth_134 : decode cL_smooth 134 = .ok (.iconst 1, 1) := by decide +kernel
theorem dL_smooth_135 : decode cL_smooth 135 = .ok (.isub, 1) := by decide +kernel
theorem dL_smooth_136 : decode cL_smooth 136 = .ok (.lload 13, 2) := by decide +kernel
theorem dL_smooth_138 : decode cL_smooth 138 = .ok (.lconst 0, 1) := by decide +kernel
theorem dL_smooth_139 : decode cL_smooth 139 = .ok (.lcmp, 1) := by decide +kernel
theorem dL_smooth_140 : decode cL_smooth 140 = .ok (.ifCond .ne 50, 3) := by decide +kernel
theorem dL_smooth_143 : decode cL_smooth 143 = .ok (.aload 8, 2) := by decide +kernel
theorem dL_smooth_145 : decode cL_smooth 145 = .ok (.iload 12, 2) := by decide +kernel
theorem dL_smooth_147 : decode cL_smooth 147 = .ok (.iconst 1, 1) := by decide +kernel
theorem dL_smooth_148 : decode cL_smooth 148 = .ok (.isub, 1) := by decide +kernel
theorem dL_smooth_149 : decode cL_smooth 149 = .ok (.laload, 1) := by decide +kernel
theorem dL_smooth_150 : decode cL_smooth 150 = .ok (.aload 10, 2) := by decide +kernel
theorem dL_smooth_152 : decode cL_smooth 152 = .ok (.iload 12, 2) := by decide +kernel
theorem dL_smooth_154 : decode cL_smooth 154 = .ok (.iconst 1, 1) := by decide +kernel
theorem dL_smooth_155 : decode cL_smooth 155 = .ok (.isub, 1) := by decide +kernel
theorem dL_smooth_156 : decode cL_smooth 156 = .ok (.iaload, 1) := by decide +kernel
theorem dL_smooth_157 : decode cL_smooth 157 = .ok (.i2l, 1) := by decide +kernel
theorem dL_smooth_158 : decode cL_smooth 158 = .ok (.lmul, 1) := by decide +kernel
theorem dL_smooth_159 : decode cL_smooth 159 = .ok (.aload 8, 2) := by decide +kernel
theorem dL_smooth_161 : decode cL_smooth 161 = .ok (.iload 12, 2) := by decide +kernel
theorem dL_smooth_163 : decode cL_smooth 163 = .ok (.laload, 1) := by decide +kernel
theorem dL_smooth_164 : decode cL_smooth 164 = .ok (.aload 10, 2) := by decide +kernel
theorem dL_smooth_166 : decode cL_smooth 166 = .ok (.iload 12, 2) := by decide +kernel
theorem dL_smooth_168 : decode cL_smooth 168 = .ok (.iaload, 1) := by decide +kernel
theorem dL_smooth_169 : decode cL_smooth 169 = .ok (.i2l, 1) := by decide +kernel
theorem dL_smooth_170 : decode cL_smooth 170 = .ok (.lmul, 1) := by decide +kernel
theorem dL_smooth_171 : decode cL_smooth 171 = .ok (.ladd, 1) := by decide +kernel
theorem dL_smooth_172 : decode cL_smooth 172 = .ok (.aload 10, 2) := by decide +kernel
theorem dL_smooth_174 : decode cL_smooth 174 = .ok (.iload 12, 2) := by decide +kernel
theorem dL_smooth_176 : decode cL_smooth 176 = .ok (.iconst 1, 1) := by decide +kernel
theorem dL_smooth_177 : decode cL_smooth 177 = .ok (.isub, 1) := by decide +kernel
theorem dL_smooth_178 : decode cL_smooth 178 = .ok (.iaload, 1) := by decide +kernel
theorem dL_smooth_179 : decode cL_smooth 179 = .ok (.aload 10, 2) := by decide +kernel
theorem dL_smooth_181 : decode cL_smooth 181 = .ok (.iload 12, 2) := by decide +kernel
theorem dL_smooth_183 : decode cL_smooth 183 = .ok (.iaload, 1) := by decide +kernel
theorem dL_smooth_184 : decode cL_smooth 184 = .ok (.iadd, 1) := by decide +kernel
theorem dL_smooth_185 : decode cL_smooth 185 = .ok (.i2l, 1) := by decide +kernel
theorem dL_smooth_186 : decode cL_smooth 186 = .ok (.ldiv, 1) := by decide +kernel
theorem dL_smooth_187 : decode cL_smooth 187 = .ok (.goto 33, 3) := by decide +kernel
theorem dL_smooth_190 : decode cL_smooth 190 = .ok (.aload 8, 2) := by decide +kernel
theorem dL_smooth_192 : decode cL_smooth 192 = .ok (.iload 12, 2) := by decide +kernel
theorem dL_smooth_194 : decode cL_smooth 194 = .ok (.iconst 1, 1) := by decide +kernel
theorem dL_smooth_195 : decode cL_smooth 195 = .ok (.isub, 1) := by decide +kernel
theorem dL_smooth_196 : decode cL_smooth 196 = .ok (.laload, 1) := by decide +kernel
theorem dL_smooth_197 : decode cL_smooth 197 = .ok (.aload 9, 2) := by decide +kernel
theorem dL_smooth_199 : decode cL_smooth 199 = .ok (.iload 12, 2) := by decide +kernel
theorem dL_smooth_201 : decode cL_smooth 201 = .ok (.iconst 1, 1) := by decide +kernel
theorem dL_smooth_202 : decode cL_smooth 202 = .ok (.isub, 1) := by decide +kernel
theorem dL_smooth_203 : decode cL_smooth 203 = .ok (.laload, 1) := by decide +kernel
theorem dL_smooth_204 : decode cL_smooth 204 = .ok (.lmul, 1) := by decide +kernel
theorem dL_smooth_205 : decode cL_smooth 205 = .ok (.aload 8, 2) := by decide +kernel
theorem dL_smooth_207 : decode cL_smooth 207 = .ok (.iload 12, 2) := by decide +kernel
theorem dL_smooth_209 : decode cL_smooth 209 = .ok (.laload, 1) := by decide +kernel
theorem dL_smooth_210 : decode cL_smooth 210 = .ok (.aload 9, 2) := by decide +kernel
theorem dL_smooth_212 : decode cL_smooth 212 = .ok (.iload 12, 2) := by decide +kernel
theorem dL_smooth_214 : decode cL_smooth 214 = .ok (.laload, 1) := by decide +kernel
theorem dL_smooth_215 : decode cL_smooth 215 = .ok (.lmul, 1) := by decide +kernel
theorem dL_smooth_216 : decode cL_smooth 216 = .ok (.ladd, 1) := by decide +kernel
theorem dL_smooth_217 : decode cL_smooth 217 = .ok (.lload 13, 2) := by decide +kernel
theorem dL_smooth_219 : decode cL_smooth 219 = .ok (.ldiv, 1) := by decide +kernel
theorem dL_smooth_220 : decode cL_smooth 220 = .ok (.lastore, 1) := by decide +kernel
theorem dL_smooth_221 : decode cL_smooth 221 = .ok (.aload 9, 2) := by decide +kernel
theorem dL_smooth_223 : decode cL_smooth 223 = .ok (.iload 12, 2) := by decide +kernel
theorem dL_smooth_225 : decode cL_smooth 225 = .ok (.iconst 1, 1) := by decide +kernel
theorem dL_smooth_226 : decode cL_smooth 226 = .ok (.isub, 1) := by decide +kernel
theorem dL_smooth_227 : decode cL_smooth 227 = .ok (.lload 13, 2) := by decide +kernel
theorem dL_smooth_229 : decode cL_smooth 229 = .ok (.lastore, 1) := by decide +kernel
theorem dL_smooth_230 : decode cL_smooth 230 = .ok (.aload 10, 2) := by decide +kernel
theorem dL_smooth_232 : decode cL_smooth 232 = .ok (.iload 12, 2) := by decide +kernel
theorem dL_smooth_234 : decode cL_smooth 234 = .ok (.iconst 1, 1) := by decide +kernel
theorem dL_smooth_235 : decode cL_smooth 235 = .ok (.isub, 1) := by decide +kernel
theorem dL_smooth_236 : decode cL_smooth 236 = .ok (.dup2, 1) := by decide +kernel
theorem dL_smooth_237 : decode cL_smooth 237 = .ok (.iaload, 1) := by decide +kernel
theorem dL_smooth_238 : decode cL_smooth 238 = .ok (.aload 10, 2) := by decide +kernel
theorem dL_smooth_240 : decode cL_smooth 240 = .ok (.iload 12, 2) := by decide +kernel
theorem dL_smooth_242 : decode cL_smooth 242 = .ok (.iaload, 1) := by decide +kernel
theorem dL_smooth_243 : decode cL_smooth 243 = .ok (.iadd, 1) := by decide +kernel
theorem dL_smooth_244 : decode cL_smooth 244 = .ok (.iastore, 1) := by decide +kernel
theorem dL_smooth_245 : decode cL_smooth 245 = .ok (.iinc 11 (-1), 3) := by decide +kernel
theorem dL_smooth_248 : decode cL_smooth 248 = .ok (.iload 12, 2) := by decide +kernel
theorem dL_smooth_250 : decode cL_smooth 250 = .ok (.istore 15, 2) := by decide +kernel
theorem dL_smooth_252 : decode cL_smooth 252 = .ok (.iload 15, 2) := by decide +kernel
theorem dL_smooth_254 : decode cL_smooth 254 = .ok (.iload 11, 2) := by decide +kernel
theorem dL_smooth_256 : decode cL_smooth 256 = .ok (.if_icmp .ge 45, 3) := by decide +kernel
theorem dL_smooth_259 : decode cL_smooth 259 = .ok (.aload 8, 2) := by decide +kernel
theorem dL_smooth_261 : decode cL_smooth 261 = .ok (.iload 15, 2) := by decide +kernel
theorem dL_smooth_263 : decode cL_smooth 263 = .ok (.aload 8, 2) := by decide +kernel
theorem dL_smooth_265 : decode cL_smooth 265 = .ok (.iload 15, 2) := by decide +kernel
theorem dL_smooth_267 : decode cL_smooth 267 = .ok (.iconst 1, 1) := by decide +kernel
theorem dL_smooth_268 : decode cL_smooth 268 = .ok (.iadd, 1) := by decide +kernel
theorem dL_smooth_269 : decode cL_smooth 269 = .ok (.laload, 1) := by decide +kernel
theorem dL_smooth_270 : decode cL_smooth 270 = .ok (.lastore, 1) := by decide +kernel
theorem dL_smooth_271 : decode cL_smooth 271 = .ok (.aload 9, 2) := by decide +kernel
theorem dL_smooth_273 : decode cL_smooth 273 = .ok (.iload 15, 2) := by decide +kernel
theorem dL_smooth_275 : decode cL_smooth 275 = .ok (.aload 9, 2) := by decide +kernel
theorem dL_smooth_277 : decode cL_smooth 277 = .ok (.iload 15, 2) := by decide +kernel
theorem dL_smooth_279 : decode cL_smooth 279 = .ok (.iconst 1, 1) := by decide +kernel
theorem dL_smooth_280 : decode cL_smooth 280 = .ok (.iadd, 1) := by decide +kernel
theorem dL_smooth_281 : decode cL_smooth 281 = .ok (.laload, 1) := by decide +kernel
theorem dL_smooth_282 : decode cL_smooth 282 = .ok (.lastore, 1) := by decide +kernel
theorem dL_smooth_283 : decode cL_smooth 283 = .ok (.aload 10, 2) := by decide +kernel
theorem dL_smooth_285 : decode cL_smooth 285 = .ok (.iload 15, 2) := by decide +kernel
theorem dL_smooth_287 : decode cL_smooth 287 = .ok (.aload 10, 2) := by decide +kernel
theorem dL_smooth_289 : decode cL_smooth 289 = .ok (.iload 15, 2) := by decide +kernel
theorem dL_smooth_291 : decode cL_smooth 291 = .ok (.iconst 1, 1) := by decide +kernel
theorem dL_smooth_292 : decode cL_smooth 292 = .ok (.iadd, 1) := by decide +kernel
theorem dL_smooth_293 : decode cL_smooth 293 = .ok (.iaload, 1) := by decide +kernel
theorem dL_smooth_294 : decode cL_smooth 294 = .ok (.iastore, 1) := by decide +kernel
theorem dL_smooth_295 : decode cL_smooth 295 = .ok (.iinc 15 1, 3) := by decide +kernel
theorem dL_smooth_298 : decode cL_smooth 298 = .ok (.goto (-46), 3) := by decide +kernel
theorem dL_smooth_301 : decode cL_smooth 301 = .ok (.iconst 1, 1) := by decide +kernel
theorem dL_smooth_302 : decode cL_smooth 302 = .ok (.istore 12, 2) := by decide +kernel
theorem dL_smooth_304 : decode cL_smooth 304 = .ok (.goto (-218), 3) := by decide +kernel
theorem dL_smooth_307 : decode cL_smooth 307 = .ok (.iconst 0, 1) := by decide +kernel
theorem dL_smooth_308 : decode cL_smooth 308 = .ok (.istore 12, 2) := by decide +kernel
theorem dL_smooth_310 : decode cL_smooth 310 = .ok (.iconst 0, 1) := by decide +kernel
theorem dL_smooth_311 : decode cL_smooth 311 = .ok (.istore 13, 2) := by decide +kernel
theorem dL_smooth_313 : decode cL_smooth 313 = .ok (.iconst 0, 1) := by decide +kernel
theorem dL_smooth_314 : decode cL_smooth 314 = .ok (.istore 14, 2) := by decide +kernel
theorem dL_smooth_316 : decode cL_smooth 316 = .ok (.iload 14, 2) := by decide +kernel
theorem dL_smooth_318 : decode cL_smooth 318 = .ok (.iload 11, 2) := by decide +kernel
theorem dL_smooth_320 : decode cL_smooth 320 = .ok (.if_icmp .ge 77, 3) := by decide +kernel
theorem dL_smooth_323 : decode cL_smooth 323 = .ok (.iconst 0, 1) := by decide +kernel
theorem dL_smooth_324 : decode cL_smooth 324 = .ok (.istore 15, 2) := by decide +kernel
theorem dL_smooth_326 : decode cL_smooth 326 = .ok (.iload 15, 2) := by decide +kernel
theorem dL_smooth_328 : decode cL_smooth 328 = .ok (.aload 10, 2) := by decide +kernel
theorem dL_smooth_330 : decode cL_smooth 330 = .ok (.iload 14, 2) := by decide +kernel
theorem dL_smooth_332 : decode cL_smooth 332 = .ok (.iaload, 1) := by decide +kernel
theorem dL_smooth_333 : decode cL_smooth 333 = .ok (.if_icmp .ge 58, 3) := by decide +kernel
theorem dL_smooth_336 : decode cL_smooth 336 = .ok (.iload 12, 2) := by decide +kernel
theorem dL_smooth_338 : decode cL_smooth 338 = .ok (.aload 5, 2) := by decide +kernel
theorem dL_smooth_340 : decode cL_smooth 340 = .ok (.iconst 4, 1) := by decide +kernel
theorem dL_smooth_341 : decode cL_smooth 341 = .ok (.iload 7, 2) := by decide +kernel
theorem dL_smooth_343 : decode cL_smooth 343 = .ok (.imul, 1) := by decide +kernel
theorem dL_smooth_344 : decode cL_smooth 344 = .ok (.iload 13, 2) := by decide +kernel
theorem dL_smooth_346 : decode cL_smooth 346 = .ok (.iadd, 1) := by decide +kernel
theorem dL_smooth_347 : decode cL_smooth 347 = .ok (.iaload, 1) := by decide +kernel
theorem dL_smooth_348 : decode cL_smooth 348 = .ok (.i2l, 1) := by decide +kernel
theorem dL_smooth_349 : decode cL_smooth 349 = .ok (.aload 8, 2) := by decide +kernel
theorem dL_smooth_351 : decode cL_smooth 351 = .ok (.iload 14, 2) := by decide +kernel
theorem dL_smooth_353 : decode cL_smooth 353 = .ok (.laload, 1) := by decide +kernel
theorem dL_smooth_354 : decode cL_smooth 354 = .ok (.lcmp, 1) := by decide +kernel
theorem dL_smooth_355 : decode cL_smooth 355 = .ok (.ifCond .ne 7, 3) := by decide +kernel
theorem dL_smooth_358 : decode cL_smooth 358 = .ok (.iconst 0, 1) := by decide +kernel
theorem dL_smooth_359 : decode cL_smooth 359 = .ok (.goto 4, 3) := by decide +kernel
theorem dL_smooth_362 : decode cL_smooth 362 = .ok (.iconst 1, 1) := by decide +kernel
theorem dL_smooth_363 : decode cL_smooth 363 = .ok (.iadd, 1) := by decide +kernel
theorem dL_smooth_364 : decode cL_smooth 364 = .ok (.istore 12, 2) := by decide +kernel
theorem dL_smooth_366 : decode cL_smooth 366 = .ok (.aload 5, 2) := by decide +kernel
theorem dL_smooth_368 : decode cL_smooth 368 = .ok (.iconst 4, 1) := by decide +kernel
theorem dL_smooth_369 : decode cL_smooth 369 = .ok (.iload 7, 2) := by decide +kernel
theorem dL_smooth_371 : decode cL_smooth 371 = .ok (.imul, 1) := by decide +kernel
theorem dL_smooth_372 : decode cL_smooth 372 = .ok (.iload 13, 2) := by decide +kernel
theorem dL_smooth_374 : decode cL_smooth 374 = .ok (.iadd, 1) := by decide +kernel
theorem dL_smooth_375 : decode cL_smooth 375 = .ok (.aload 8, 2) := by decide +kernel
theorem dL_smooth_377 : decode cL_smooth 377 = .ok (.iload 14, 2) := by decide +kernel
theorem dL_smooth_379 : decode cL_smooth 379 = .ok (.laload, 1) := by decide +kernel
theorem dL_smooth_380 : decode cL_smooth 380 = .ok (.l2i, 1) := by decide +kernel
theorem dL_smooth_381 : decode cL_smooth 381 = .ok (.iastore, 1) := by decide +kernel
theorem dL_smooth_382 : decode cL_smooth 382 = .ok (.iinc 13 1, 3) := by decide +kernel
theorem dL_smooth_385 : decode cL_smooth 385 = .ok (.iinc 15 1, 3) := by decide +kernel
theorem dL_smooth_388 : decode cL_smooth 388 = .ok (.goto (-62), 3) := by decide +kernel
theorem dL_smooth_391 : decode cL_smooth 391 = .ok (.iinc 14 1, 3) := by decide +kernel
theorem dL_smooth_394 : decode cL_smooth 394 = .ok (.goto (-78), 3) := by decide +kernel
theorem dL_smooth_397 : decode cL_smooth 397 = .ok (.iload 12, 2) := by decide +kernel
theorem dL_smooth_399 : decode cL_smooth 399 = .ok (.ireturn, 1) := by decide +kernel
theorem dL_capped_0 : decode cL_capped 0 = .ok (.aload_n 0, 1) := by decide +kernel
theorem dL_capped_1 : decode cL_capped 1 = .ok (.aload_n 1, 1) := by decide +kernel
theorem dL_capped_2 : decode cL_capped 2 = .ok (.aload 5, 2) := by decide +kernel
theorem dL_capped_4 : decode cL_capped 4 = .ok (.iload 7, 2) := by decide +kernel
theorem dL_capped_6 : decode cL_capped 6 = .ok (.aload_n 1, 1) := by decide +kernel
theorem dL_capped_7 : decode cL_capped 7 = .ok (.aload_n 2, 1) := by decide +kernel
theorem dL_capped_8 : decode cL_capped 8 = .ok (.aload 4, 2) := by decide +kernel
theorem dL_capped_10 : decode cL_capped 10 = .ok (.aload 6, 2) := by decide +kernel
theorem dL_capped_12 : decode cL_capped 12 = .ok (.invokestatic 11, 3) := by decide +kernel
theorem dL_capped_15 : decode cL_capped 15 = .ok (.invokestatic 17, 3) := by decide +kernel
theorem dL_capped_18 : decode cL_capped 18 = .ok (.aload 6, 2) := by decide +kernel
theorem dL_capped_20 : decode cL_capped 20 = .ok (.iconst 3, 1) := by decide +kernel
theorem dL_capped_21 : decode cL_capped 21 = .ok (.iaload, 1) := by decide +kernel
theorem dL_capped_22 : decode cL_capped 22 = .ok (.i2l, 1) := by decide +kernel
theorem dL_capped_23 : decode cL_capped 23 = .ok (.lmul, 1) := by decide +kernel
theorem dL_capped_24 : decode cL_capped 24 = .ok (.ldc2_w 9, 3) := by decide +kernel
theorem dL_capped_27 : decode cL_capped 27 = .ok (.ldiv, 1) := by decide +kernel
theorem dL_capped_28 : decode cL_capped 28 = .ok (.lstore 8, 2) := by decide +kernel
theorem dL_capped_30 : decode cL_capped 30 = .ok (.aload 6, 2) := by decide +kernel
theorem dL_capped_32 : decode cL_capped 32 = .ok (.iconst 2, 1) := by decide +kernel
theorem dL_capped_33 : decode cL_capped 33 = .ok (.iaload, 1) := by decide +kernel
theorem dL_capped_34 : decode cL_capped 34 = .ok (.ifCond .lt 10, 3) := by decide +kernel
theorem dL_capped_37 : decode cL_capped 37 = .ok (.aload_n 3, 1) := by decide +kernel
end
section
theorem dL_capped_38 : decode cL_capped 38 = .ok (.iload 7, 2) := by decide +kernel
theorem dL_capped_40 : decode cL_capped 40 = .ok (.iaload, 1) := by decide +kernel
theorem dL_capped_41 : decode cL_capped 41 = .ok (.ifCond .ge 6, 3) := by decide +kernel
theorem dL_capped_44 : decode cL_capped 44 = .ok (.lload 8, 2) := by decide +kernel
theorem dL_capped_46 : decode cL_capped 46 = .ok (.lreturn, 1) := by decide +kernel
theorem dL_capped_47 : decode cL_capped 47 = .ok (.aload 6, 2) := by decide +kernel
theorem dL_capped_49 : decode cL_capped 49 = .ok (.iconst 2, 1) := by decide +kernel
theorem dL_capped_50 : decode cL_capped 50 = .ok (.iaload, 1) := by decide +kernel
theorem dL_capped_51 : decode cL_capped 51 = .ok (.bipush 100, 2) := by decide +kernel
theorem dL_capped_53 : decode cL_capped 53 = .ok (.if_icmp .le 7, 3) := by decide +kernel
theorem dL_capped_56 : decode cL_capped 56 = .ok (.lconst 0, 1) := by decide +kernel
theorem dL_capped_57 : decode cL_capped 57 = .ok (.goto 22, 3) := by decide +kernel
theorem dL_capped_60 : decode cL_capped 60 = .ok (.ldc2_w 29, 3) := by decide +kernel
theorem dL_capped_63 : decode cL_capped 63 = .ok (.aload 6, 2) := by decide +kernel
theorem dL_capped_65 : decode cL_capped 65 = .ok (.iconst 2, 1) := by decide +kernel
theorem dL_capped_66 : decode cL_capped 66 = .ok (.iaload, 1) := by decide +kernel
theorem dL_capped_67 : decode cL_capped 67 = .ok (.i2l, 1) := by decide +kernel
theorem dL_capped_68 : decode cL_capped 68 = .ok (.lsub, 1) := by decide +kernel
theorem dL_capped_69 : decode cL_capped 69 = .ok (.aload_n 3, 1) := by decide +kernel
theorem dL_capped_70 : decode cL_capped 70 = .ok (.iload 7, 2) := by decide +kernel
theorem dL_capped_72 : decode cL_capped 72 = .ok (.iaload, 1) := by decide +kernel
theorem dL_capped_73 : decode cL_capped 73 = .ok (.i2l, 1) := by decide +kernel
theorem dL_capped_74 : decode cL_capped 74 = .ok (.lmul, 1) := by decide +kernel
theorem dL_capped_75 : decode cL_capped 75 = .ok (.ldc2_w 29, 3) := by decide +kernel
theorem dL_capped_78 : decode cL_capped 78 = .ok (.ldiv, 1) := by decide +kernel
theorem dL_capped_79 : decode cL_capped 79 = .ok (.lstore 10, 2) := by decide +kernel
theorem dL_capped_81 : decode cL_capped 81 = .ok (.ldc2_w 29, 3) := by decide +kernel
theorem dL_capped_84 : decode cL_capped 84 = .ok (.aload 6, 2) := by decide +kernel
theorem dL_capped_86 : decode cL_capped 86 = .ok (.iconst 2, 1) := by decide +kernel
theorem dL_capped_87 : decode cL_capped 87 = .ok (.iaload, 1) := by decide +kernel
theorem dL_capped_88 : decode cL_capped 88 = .ok (.i2l, 1) := by decide +kernel
theorem dL_capped_89 : decode cL_capped 89 = .ok (.ladd, 1) := by decide +kernel
theorem dL_capped_90 : decode cL_capped 90 = .ok (.aload_n 3, 1) := by decide +kernel
theorem dL_capped_91 : decode cL_capped 91 = .ok (.iload 7, 2) := by decide +kernel
theorem dL_capped_93 : decode cL_capped 93 = .ok (.iaload, 1) := by decide +kernel
theorem dL_capped_94 : decode cL_capped 94 = .ok (.i2l, 1) := by decide +kernel
theorem dL_capped_95 : decode cL_capped 95 = .ok (.lmul, 1) := by decide +kernel
theorem dL_capped_96 : decode cL_capped 96 = .ok (.ldc2_w 29, 3) := by decide +kernel
theorem dL_capped_99 : decode cL_capped 99 = .ok (.ldiv, 1) := by decide +kernel
theorem dL_capped_100 : decode cL_capped 100 = .ok (.lstore 12, 2) := by decide +kernel
theorem dL_capped_102 : decode cL_capped 102 = .ok (.lload 8, 2) := by decide +kernel
theorem dL_capped_104 : decode cL_capped 104 = .ok (.lload 10, 2) := by decide +kernel
theorem dL_capped_106 : decode cL_capped 106 = .ok (.lcmp, 1) := by decide +kernel
theorem dL_capped_107 : decode cL_capped 107 = .ok (.ifCond .ge 8, 3) := by decide +kernel
theorem dL_capped_110 : decode cL_capped 110 = .ok (.lload 10, 2) := by decide +kernel
theorem dL_capped_112 : decode cL_capped 112 = .ok (.goto 18, 3) := by decide +kernel
theorem dL_capped_115 : decode cL_capped 115 = .ok (.lload 8, 2) := by decide +kernel
theorem dL_capped_117 : decode cL_capped 117 = .ok (.lload 12, 2) := by decide +kernel
theorem dL_capped_119 : decode cL_capped 119 = .ok (.lcmp, 1) := by decide +kernel
theorem dL_capped_120 : decode cL_capped 120 = .ok (.ifCond .le 8, 3) := by decide +kernel
theorem dL_capped_123 : decode cL_capped 123 = .ok (.lload 12, 2) := by decide +kernel
theorem dL_capped_125 : decode cL_capped 125 = .ok (.goto 5, 3) := by decide +kernel
theorem dL_capped_128 : decode cL_capped 128 = .ok (.lload 8, 2) := by decide +kernel
theorem dL_capped_130 : decode cL_capped 130 = .ok (.lreturn, 1) := by decide +kernel
theorem dL_all_0 : decode cL_all 0 = .ok (.aload_n 1, 1) := by decide +kernel
theorem dL_all_1 : decode cL_all 1 = .ok (.aload_n 2, 1) := by decide +kernel
theorem dL_all_2 : decode cL_all 2 = .ok (.aload 4, 2) := by decide +kernel
theorem dL_all_4 : decode cL_all 4 = .ok (.aload 6, 2) := by decide +kernel
theorem dL_all_6 : decode cL_all 6 = .ok (.invokestatic 11, 3) := by decide +kernel
theorem dL_all_9 : decode cL_all 9 = .ok (.lstore 8, 2) := by decide +kernel
theorem dL_all_11 : decode cL_all 11 = .ok (.lconst 0, 1) := by decide +kernel
theorem dL_all_12 : decode cL_all 12 = .ok (.lstore 10, 2) := by decide +kernel
theorem dL_all_14 : decode cL_all 14 = .ok (.iconst 0, 1) := by decide +kernel
theorem dL_all_15 : decode cL_all 15 = .ok (.istore 12, 2) := by decide +kernel
theorem dL_all_17 : decode cL_all 17 = .ok (.iload 12, 2) := by decide +kernel
theorem dL_all_19 : decode cL_all 19 = .ok (.aload 6, 2) := by decide +kernel
theorem dL_all_21 : decode cL_all 21 = .ok (.iconst 0, 1) := by decide +kernel
theorem dL_all_22 : decode cL_all 22 = .ok (.iaload, 1) := by decide +kernel
theorem dL_all_23 : decode cL_all 23 = .ok (.if_icmp .ge 61, 3) := by decide +kernel
theorem dL_all_26 : decode cL_all 26 = .ok (.lload 10, 2) := by decide +kernel
theorem dL_all_28 : decode cL_all 28 = .ok (.aload 4, 2) := by decide +kernel
theorem dL_all_30 : decode cL_all 30 = .ok (.iload 12, 2) := by decide +kernel
theorem dL_all_32 : decode cL_all 32 = .ok (.iaload, 1) := by decide +kernel
theorem dL_all_33 : decode cL_all 33 = .ok (.iconst 1, 1) := by decide +kernel
theorem dL_all_34 : decode cL_all 34 = .ok (.if_icmp .ne 7, 3) := by decide +kernel
theorem dL_all_37 : decode cL_all 37 = .ok (.lconst 0, 1) := by decide +kernel
theorem dL_all_38 : decode cL_all 38 = .ok (.goto 37, 3) := by decide +kernel
theorem dL_all_41 : decode cL_all 41 = .ok (.iload 7, 2) := by decide +kernel
theorem dL_all_43 : decode cL_all 43 = .ok (.ifCond .eq 21, 3) := by decide +kernel
theorem dL_all_46 : decode cL_all 46 = .ok (.aload_n 0, 1) := by decide +kernel
theorem dL_all_47 : decode cL_all 47 = .ok (.aload_n 1, 1) := by decide +kernel
theorem dL_all_48 : decode cL_all 48 = .ok (.aload_n 2, 1) := by decide +kernel
theorem dL_all_49 : decode cL_all 49 = .ok (.aload_n 3, 1) := by decide +kernel
theorem dL_all_50 : decode cL_all 50 = .ok (.aload 4, 2) := by decide +kernel
theorem dL_all_52 : decode cL_all 52 = .ok (.aload 5, 2) := by decide +kernel
theorem dL_all_54 : decode cL_all 54 = .ok (.aload 6, 2) := by decide +kernel
theorem dL_all_56 : decode cL_all 56 = .ok (.iload 12, 2) := by decide +kernel
theorem dL_all_58 : decode cL_all 58 = .ok (.invokestatic 33, 3) := by decide +kernel
theorem dL_all_61 : decode cL_all 61 = .ok (.goto 14, 3) := by decide +kernel
theorem dL_all_64 : decode cL_all 64 = .ok (.aload_n 0, 1) := by decide +kernel
theorem dL_all_65 : decode cL_all 65 = .ok (.aload_n 1, 1) := by decide +kernel
theorem dL_all_66 : decode cL_all 66 = .ok (.aload 5, 2) := by decide +kernel
theorem dL_all_68 : decode cL_all 68 = .ok (.iload 12, 2) := by decide +kernel
theorem dL_all_70 : decode cL_all 70 = .ok (.lload 8, 2) := by decide +kernel
theorem dL_all_72 : decode cL_all 72 = .ok (.invokestatic 17, 3) := by decide +kernel
theorem dL_all_75 : decode cL_all 75 = .ok (.ladd, 1) := by decide +kernel
theorem dL_all_76 : decode cL_all 76 = .ok (.lstore 10, 2) := by decide +kernel
theorem dL_all_78 : decode cL_all 78 = .ok (.iinc 12 1, 3) := by decide +kernel
theorem dL_all_81 : decode cL_all 81 = .ok (.goto (-64), 3) := by decide +kernel
theorem dL_all_84 : decode cL_all 84 = .ok (.lload 10, 2) := by decide +kernel
theorem dL_all_86 : decode cL_all 86 = .ok (.lreturn, 1) := by decide +kernel
theorem dL_rowTold_0 : decode cL_rowTold 0 = .ok (.iload_n 1, 1) := by decide +kernel
theorem dL_rowTold_1 : decode cL_rowTold 1 = .ok (.ifCond .ne 11, 3) := by decide +kernel
theorem dL_rowTold_4 : decode cL_rowTold 4 = .ok (.aload_n 0, 1) := by decide +kernel
theorem dL_rowTold_5 : decode cL_rowTold 5 = .ok (.iload_n 2, 1) := by decide +kernel
theorem dL_rowTold_6 : decode cL_rowTold 6 = .ok (.invokevirtual 37, 3) := by decide +kernel
theorem dL_rowTold_9 : decode cL_rowTold 9 = .ok (.goto 36, 3) := by decide +kernel
theorem dL_rowTold_12 : decode cL_rowTold 12 = .ok (.iload_n 1, 1) := by decide +kernel
theorem dL_rowTold_13 : decode cL_rowTold 13 = .ok (.iconst 1, 1) := by decide +kernel
theorem dL_rowTold_14 : decode cL_rowTold 14 = .ok (.if_icmp .ne 11, 3) := by decide +kernel
theorem dL_rowTold_17 : decode cL_rowTold 17 = .ok (.aload_n 0, 1) := by decide +kernel
theorem dL_rowTold_18 : decode cL_rowTold 18 = .ok (.iload_n 2, 1) := by decide +kernel
theorem dL_rowTold_19 : decode cL_rowTold 19 = .ok (.invokevirtual 42, 3) := by decide +kernel
theorem dL_rowTold_22 : decode cL_rowTold 22 = .ok (.goto 23, 3) := by decide +kernel
theorem dL_rowTold_25 : decode cL_rowTold 25 = .ok (.iload_n 1, 1) := by decide +kernel
theorem dL_rowTold_26 : decode cL_rowTold 26 = .ok (.iconst 2, 1) := by decide +kernel
theorem dL_rowTold_27 : decode cL_rowTold 27 = .ok (.if_icmp .ne 11, 3) := by decide +kernel
theorem dL_rowTold_30 : decode cL_rowTold 30 = .ok (.aload_n 0, 1) := by decide +kernel
theorem dL_rowTold_31 : decode cL_rowTold 31 = .ok (.iload_n 2, 1) := by decide +kernel
theorem dL_rowTold_32 : decode cL_rowTold 32 = .ok (.invokevirtual 45, 3) := by decide +kernel
theorem dL_rowTold_35 : decode cL_rowTold 35 = .ok (.goto 10, 3) := by decide +kernel
theorem dL_rowTold_38 : decode cL_rowTold 38 = .ok (.aload_n 0, 1) := by decide +kernel
theorem dL_rowTold_39 : decode cL_rowTold 39 = .ok (.iload_n 2, 1) := by decide +kernel
theorem dL_rowTold_40 : decode cL_rowTold 40 = .ok (.iconst (-1), 1) := by decide +kernel
theorem dL_rowTold_41 : decode cL_rowTold 41 = .ok (.invokevirtual 47, 3) := by decide +kernel
theorem dL_rowTold_44 : decode cL_rowTold 44 = .ok (.i2l, 1) := by decide +kernel
theorem dL_rowTold_45 : decode cL_rowTold 45 = .ok (.lreturn, 1) := by decide +kernel
theorem dL_rowTold_46 : decode cL_rowTold 46 = .ok (.astore_n 3, 1) := by decide +kernel
theorem dL_rowTold_47 : decode cL_rowTold 47 = .ok (.ldc2_w 53, 3) := by decide +kernel
theorem dL_rowTold_50 : decode cL_rowTold 50 = .ok (.lreturn, 1) := by decide +kernel
theorem dL_isRanked_0 : decode cL_isRanked 0 = .ok (.aload_n 2, 1) := by decide +kernel
theorem dL_isRanked_1 : decode cL_isRanked 1 = .ok (.aload_n 3, 1) := by decide +kernel
theorem dL_isRanked_2 : decode cL_isRanked 2 = .ok (.aload 4, 2) := by decide +kernel
theorem dL_isRanked_4 : decode cL_isRanked 4 = .ok (.aload 6, 2) := by decide +kernel
theorem dL_isRanked_6 : decode cL_isRanked 6 = .ok (.invokestatic 11, 3) := by decide +kernel
theorem dL_isRanked_9 : decode cL_isRanked 9 = .ok (.lstore 8, 2) := by decide +kernel
theorem dL_isRanked_11 : decode cL_isRanked 11 = .ok (.iconst 0, 1) := by decide +kernel
theorem dL_isRanked_12 : decode cL_isRanked 12 = .ok (.istore 10, 2) := by decide +kernel
theorem dL_isRanked_14 : decode cL_isRanked 14 = .ok (.iconst 1, 1) := by decide +kernel
theorem dL_isRanked_15 : decode cL_isRanked 15 = .ok (.istore 11, 2) := by decide +kernel
theorem dL_isRanked_17 : decode cL_isRanked 17 = .ok (.iconst 0, 1) := by decide +kernel
theorem dL_isRanked_18 : decode cL_isRanked 18 = .ok (.istore 12, 2) := by decide +kernel
theorem dL_isRanked_20 : decode cL_isRanked 20 = .ok (.iload 12, 2) := by decide +kernel
theorem dL_isRanked_22 : decode cL_isRanked 22 = .ok (.iload 7, 2) := by decide +kernel
theorem dL_isRanked_24 : decode cL_isRanked 24 = .ok (.if_icmp .ge 148, 3) := by decide +kernel
theorem dL_isRanked_27 : decode cL_isRanked 27 = .ok (.iload 11, 2) := by decide +kernel
theorem dL_isRanked_29 : decode cL_isRanked 29 = .ok (.ifCond .eq 143, 3) := by decide +kernel
theorem dL_isRanked_32 : decode cL_isRanked 32 = .ok (.iconst (-1), 1) := by decide +kernel
theorem dL_isRanked_33 : decode cL_isRanked 33 = .ok (.istore 13, 2) := by decide +kernel
theorem dL_isRanked_35 : decode cL_isRanked 35 = .ok (.iconst 0, 1) := by decide +kernel
theorem dL_isRanked_36 : decode cL_isRanked 36 = .ok (.istore 14, 2) := by decide +kernel
theorem dL_isRanked_38 : decode cL_isRanked 38 = .ok (.iload 14, 2) := by decide +kernel
theorem dL_isRanked_40 : decode cL_isRanked 40 = .ok (.aload 6, 2) := by decide +kernel
theorem dL_isRanked_42 : decode cL_isRanked 42 = .ok (.iconst 0, 1) := by decide +kernel
theorem dL_isRanked_43 : decode cL_isRanked 43 = .ok (.iaload, 1) := by decide +kernel
theorem dL_isRanked_44 : decode cL_isRanked 44 = .ok (.if_icmp .ge 95, 3) := by decide +kernel
theorem dL_isRanked_47 : decode cL_isRanked 47 = .ok (.aload 4, 2) := by decide +kernel
theorem dL_isRanked_49 : decode cL_isRanked 49 = .ok (.iload 14, 2) := by decide +kernel
theorem dL_isRanked_51 : decode cL_isRanked 51 = .ok (.iaload, 1) := by decide +kernel
theorem dL_isRanked_52 : decode cL_isRanked 52 = .ok (.ifCond .ne 81, 3) := by decide +kernel
theorem dL_isRanked_55 : decode cL_isRanked 55 = .ok (.iload 10, 2) := by decide +kernel
theorem dL_isRanked_57 : decode cL_isRanked 57 = .ok (.iload 14, 2) := by decide +kernel
theorem dL_isRanked_59 : decode cL_isRanked 59 = .ok (.ishr, 1) := by decide +kernel
theorem dL_isRanked_60 : decode cL_isRanked 60 = .ok (.iconst 1, 1) := by decide +kernel
theorem dL_isRanked_61 : decode cL_isRanked 61 = .ok (.iand, 1) := by decide +kernel
theorem dL_isRanked_62 : decode cL_isRanked 62 = .ok (.ifCond .ne 71, 3) := by decide +kernel
theorem dL_isRanked_65 : decode cL_isRanked 65 = .ok (.iload 13, 2) := by decide +kernel
theorem dL_isRanked_67 : decode cL_isRanked 67 = .ok (.ifCond .lt 45, 3) := by decide +kernel
theorem dL_isRanked_70 : decode cL_isRanked 70 = .ok (.aload_n 3, 1) := by decide +kernel
theorem dL_isRanked_71 : decode cL_isRanked 71 = .ok (.iload 14, 2) := by decide +kernel
theorem dL_isRanked_73 : decode cL_isRanked 73 = .ok (.iaload, 1) := by decide +kernel
theorem dL_isRanked_74 : decode cL_isRanked 74 = .ok (.i2l, 1) := by decide +kernel
theorem dL_isRanked_75 : decode cL_isRanked 75 = .ok (.aload_n 1, 1) := by decide +kernel
theorem dL_isRanked_76 : decode cL_isRanked 76 = .ok (.aload_n 2, 1) := by decide +kernel
theorem dL_isRanked_77 : decode cL_isRanked 77 = .ok (.aload 5, 2) := by decide +kernel
theorem dL_isRanked_79 : decode cL_isRanked 79 = .ok (.iload 13, 2) := by decide +kernel
theorem dL_isRanked_81 : decode cL_isRanked 81 = .ok (.lload 8, 2) := by decide +kernel
theorem dL_isRanked_83 : decode cL_isRanked 83 = .ok (.invokestatic 17, 3) := by decide +kernel
theorem dL_isRanked_86 : decode cL_isRanked 86 = .ok (.lconst 1, 1) := by decide +kernel
theorem dL_isRanked_87 : decode cL_isRanked 87 = .ok (.ladd, 1) := by decide +kernel
theorem dL_isRanked_88 : decode cL_isRanked 88 = .ok (.lmul, 1) := by decide +kernel
theorem dL_isRanked_89 : decode cL_isRanked 89 = .ok (.aload_n 3, 1) := by decide +kernel
theorem dL_isRanked_90 : decode cL_isRanked 90 = .ok (.iload 13, 2) := by decide +kernel
theorem dL_isRanked_92 : decode cL_isRanked 92 = .ok (.iaload, 1) := by decide +kernel
theorem dL_isRanked_93 : decode cL_isRanked 93 = .ok (.i2l, 1) := by decide +kernel
theorem dL_isRanked_94 : decode cL_isRanked 94 = .ok (.aload_n 1, 1) := by decide +kernel
theorem dL_isRanked_95 : decode cL_isRanked 95 = .ok (.aload_n 2, 1) := by decide +kernel
theorem dL_isRanked_96 : decode cL_isRanked 96 = .ok (.aload 5, 2) := by decide +kernel
theorem dL_isRanked_98 : decode cL_isRanked 98 = .ok (.iload 14, 2) := by decide +kernel
theorem dL_isRanked_100 : decode cL_isRanked 100 = .ok (.lload 8, 2) := by decide +kernel
theorem dL_isRanked_102 : decode cL_isRanked 102 = .ok (.invokestatic 17, 3) := by decide +kernel
theorem dL_isRanked_105 : decode cL_isRanked 105 = .ok (.lconst 1, 1) := by decide +kernel
theorem dL_isRanked_106 : decode cL_isRanked 106 = .ok (.ladd, 1) := by decide +kernel
theorem dL_isRanked_107 : decode cL_isRanked 107 = .ok (.lmul, 1) := by decide +kernel
theorem dL_isRanked_108 : decode cL_isRanked 108 = .ok (.lcmp, 1) := by decide +kernel
theorem dL_isRanked_109 : decode cL_isRanked 109 = .ok (.ifCond .le 7, 3) := by decide +kernel
theorem dL_isRanked_112 : decode cL_isRanked 112 = .ok (.iconst 1, 1) := by decide +kernel
theorem dL_isRanked_113 : decode cL_isRanked 113 = .ok (.goto 4, 3) := by decide +kernel
theorem dL_isRanked_116 : decode cL_isRanked 116 = .ok (.iconst 0, 1) := by decide +kernel
theorem dL_isRanked_117 : decode cL_isRanked 117 = .ok (.istore 15, 2) := by decide +kernel
theorem dL_isRanked_119 : decode cL_isRanked 119 = .ok (.iload 15, 2) := by decide +kernel
theorem dL_isRanked_121 : decode cL_isRanked 121 = .ok (.ifCond .eq 8, 3) := by decide +kernel
theorem dL_isRanked_124 : decode cL_isRanked 124 = .ok (.iload 14, 2) := by decide +kernel
theorem dL_isRanked_126 : decode cL_isRanked 126 = .ok (.goto 5, 3) := by decide +kernel
theorem dL_isRanked_129 : decode cL_isRanked 129 = .ok (.iload 13, 2) := by decide +kernel
theorem dL_isRanked_131 : decode cL_isRanked 131 = .ok (.istore 13, 2) := by decide +kernel
theorem dL_isRanked_133 : decode cL_isRanked 133 = .ok (.iinc 14 1, 3) := by decide +kernel
theorem dL_isRanked_136 : decode cL_isRanked 136 = .ok (.goto (-98), 3) := by decide +kernel
theorem dL_isRanked_139 : decode cL_isRanked 139 = .ok (.iload 10, 2) := by decide +kernel
theorem dL_isRanked_141 : decode cL_isRanked 141 = .ok (.iconst 1, 1) := by decide +kernel
theorem dL_isRanked_142 : decode cL_isRanked 142 = .ok (.iload 13, 2) := by decide +kernel
theorem dL_isRanked_144 : decode cL_isRanked 144 = .ok (.ishl, 1) := by decide +kernel
theorem dL_isRanked_145 : decode cL_isRanked 145 = .ok (.ior, 1) := by decide +kernel
theorem dL_isRanked_146 : decode cL_isRanked 146 = .ok (.istore 10, 2) := by decide +kernel
theorem dL_isRanked_148 : decode cL_isRanked 148 = .ok (.aload_n 0, 1) := by decide +kernel
theorem dL_isRanked_149 : decode cL_isRanked 149 = .ok (.iload 12, 2) := by decide +kernel
theorem dL_isRanked_151 : decode cL_isRanked 151 = .ok (.invokevirtual 55, 3) := by decide +kernel
theorem dL_isRanked_154 : decode cL_isRanked 154 = .ok (.iload 13, 2) := by decide +kernel
theorem dL_isRanked_156 : decode cL_isRanked 156 = .ok (.if_icmp .ne 7, 3) := by decide +kernel
theorem dL_isRanked_159 : decode cL_isRanked 159 = .ok (.iconst 1, 1) := by decide +kernel
theorem dL_isRanked_160 : decode cL_isRanked 160 = .ok (.goto 4, 3) := by decide +kernel
theorem dL_isRanked_163 : decode cL_isRanked 163 = .ok (.iconst 0, 1) := by decide +kernel
theorem dL_isRanked_164 : decode cL_isRanked 164 = .ok (.istore 11, 2) := by decide +kernel
theorem dL_isRanked_166 : decode cL_isRanked 166 = .ok (.iinc 12 1, 3) := by decide +kernel
theorem dL_isRanked_169 : decode cL_isRanked 169 = .ok (.goto (-149), 3) := by decide +kernel
theorem dL_isRanked_172 : decode cL_isRanked 172 = .ok (.iload 11, 2) := by decide +kernel
theorem dL_isRanked_174 : decode cL_isRanked 174 = .ok (.ireturn, 1) := by decide +kernel
theorem dL_isTold_0 : decode cL_isTold 0 = .ok (.iconst 0, 1) := by decide +kernel
theorem dL_isTold_1 : decode cL_isTold 1 = .ok (.istore 9, 2) := by decide +kernel
theorem dL_isTold_3 : decode cL_isTold 3 = .ok (.aload_n 2, 1) := by decide +kernel
theorem dL_isTold_4 : decode cL_isTold 4 = .ok (.aload 4, 2) := by decide +kernel
theorem dL_isTold_6 : decode cL_isTold 6 = .ok (.aload 6, 2) := by decide +kernel
theorem dL_isTold_8 : decode cL_isTold 8 = .ok (.aload 8, 2) := by decide +kernel
theorem dL_isTold_10 : decode cL_isTold 10 = .ok (.invokestatic 11, 3) := by decide +kernel
theorem dL_isTold_13 : decode cL_isTold 13 = .ok (.lstore 10, 2) := by decide +kernel
theorem dL_isTold_15 : decode cL_isTold 15 = .ok (.aload_n 0, 1) := by decide +kernel
theorem dL_isTold_16 : decode cL_isTold 16 = .ok (.invokevirtual 58, 3) := by decide +kernel
theorem dL_isTold_19 : decode cL_isTold 19 = .ok (.lload 10, 2) := by decide +kernel
theorem dL_isTold_21 : decode cL_isTold 21 = .ok (.lcmp, 1) := by decide +kernel
theorem dL_isTold_22 : decode cL_isTold 22 = .ok (.ifCond .ne 48, 3) := by decide +kernel
theorem dL_isTold_25 : decode cL_isTold 25 = .ok (.aload_n 0, 1) := by decide +kernel
theorem dL_isTold_26 : decode cL_isTold 26 = .ok (.invokevirtual 61, 3) := by decide +kernel
theorem dL_isTold_29 : decode cL_isTold 29 = .ok (.aload_n 1, 1) := by decide +kernel
theorem dL_isTold_30 : decode cL_isTold 30 = .ok (.aload_n 2, 1) := by decide +kernel
theorem dL_isTold_31 : decode cL_isTold 31 = .ok (.aload 4, 2) := by decide +kernel
theorem dL_isTold_33 : decode cL_isTold 33 = .ok (.aload 5, 2) := by decide +kernel
theorem dL_isTold_35 : decode cL_isTold 35 = .ok (.aload 6, 2) := by decide +kernel
theorem dL_isTold_37 : decode cL_isTold 37 = .ok (.aload 7, 2) := by decide +kernel
theorem dL_isTold_39 : decode cL_isTold 39 = .ok (.aload 8, 2) := by decide +kernel
theorem dL_isTold_41 : decode cL_isTold 41 = .ok (.iconst 0, 1) := by decide +kernel
theorem dL_isTold_42 : decode cL_isTold 42 = .ok (.invokestatic 64, 3) := by decide +kernel
theorem dL_isTold_45 : decode cL_isTold 45 = .ok (.aload_n 1, 1) := by decide +kernel
theorem dL_isTold_46 : decode cL_isTold 46 = .ok (.aload_n 2, 1) := by decide +kernel
theorem dL_isTold_47 : decode cL_isTold 47 = .ok (.aload 4, 2) := by decide +kernel
theorem dL_isTold_49 : decode cL_isTold 49 = .ok (.aload 5, 2) := by decide +kernel
theorem dL_isTold_51 : decode cL_isTold 51 = .ok (.aload 6, 2) := by decide +kernel
theorem dL_isTold_53 : decode cL_isTold 53 = .ok (.aload 7, 2) := by decide +kernel
theorem dL_isTold_55 : decode cL_isTold 55 = .ok (.aload 8, 2) := by decide +kernel
theorem dL_isTold_57 : decode cL_isTold 57 = .ok (.iconst 1, 1) := by decide +kernel
theorem dL_isTold_58 : decode cL_isTold 58 = .ok (.invokestatic 64, 3) := by decide +kernel
theorem dL_isTold_61 : decode cL_isTold 61 = .ok (.lsub, 1) := by decide +kernel
theorem dL_isTold_62 : decode cL_isTold 62 = .ok (.lcmp, 1) := by decide +kernel
theorem dL_isTold_63 : decode cL_isTold 63 = .ok (.ifCond .ne 7, 3) := by decide +kernel
theorem dL_isTold_66 : decode cL_isTold 66 = .ok (.iconst 1, 1) := by decide +kernel
theorem dL_isTold_67 : decode cL_isTold 67 = .ok (.goto 4, 3) := by decide +kernel
theorem dL_isTold_70 : decode cL_isTold 70 = .ok (.iconst 0, 1) := by decide +kernel
theorem dL_isTold_71 : decode cL_isTold 71 = .ok (.istore 12, 2) := by decide +kernel
theorem dL_isTold_73 : decode cL_isTold 73 = .ok (.iconst 0, 1) := by decide +kernel
theorem dL_isTold_74 : decode cL_isTold 74 = .ok (.istore 13, 2) := by decide +kernel
theorem dL_isTold_76 : decode cL_isTold 76 = .ok (.iload 13, 2) := by decide +kernel
theorem dL_isTold_78 : decode cL_isTold 78 = .ok (.aload 8, 2) := by decide +kernel
theorem dL_isTold_80 : decode cL_isTold 80 = .ok (.iconst 0, 1) := by decide +kernel
theorem dL_isTold_81 : decode cL_isTold 81 = .ok (.iaload, 1) := by decide +kernel
theorem dL_isTold_82 : decode cL_isTold 82 = .ok (.if_icmp .ge 155, 3) := by decide +kernel
theorem dL_isTold_85 : decode cL_isTold 85 = .ok (.iload 12, 2) := by decide +kernel
theorem dL_isTold_87 : decode cL_isTold 87 = .ok (.ifCond .eq 150, 3) := by decide +kernel
theorem dL_isTold_90 : decode cL_isTold 90 = .ok (.aload_n 1, 1) := by decide +kernel
theorem dL_isTold_91 : decode cL_isTold 91 = .ok (.aload_n 2, 1) := by decide +kernel
theorem dL_isTold_92 : decode cL_isTold 92 = .ok (.aload 7, 2) := by decide +kernel
theorem dL_isTold_94 : decode cL_isTold 94 = .ok (.iload 13, 2) := by decide +kernel
theorem dL_isTold_96 : decode cL_isTold 96 = .ok (.lload 10, 2) := by decide +kernel
theorem dL_isTold_98 : decode cL_isTold 98 = .ok (.invokestatic 17, 3) := by decide +kernel
theorem dL_isTold_101 : decode cL_isTold 101 = .ok (.lstore 14, 2) := by decide +kernel
theorem dL_isTold_103 : decode cL_isTold 103 = .ok (.iload 9, 2) := by decide +kernel
theorem dL_isTold_105 : decode cL_isTold 105 = .ok (.iconst 1, 1) := by decide +kernel
theorem dL_isTold_106 : decode cL_isTold 106 = .ok (.aload 6, 2) := by decide +kernel
theorem dL_isTold_108 : decode cL_isTold 108 = .ok (.iload 13, 2) := by decide +kernel
theorem dL_isTold_110 : decode cL_isTold 110 = .ok (.iaload, 1) := by decide +kernel
theorem dL_isTold_111 : decode cL_isTold 111 = .ok (.isub, 1) := by decide +kernel
theorem dL_isTold_112 : decode cL_isTold 112 = .ok (.iadd, 1) := by decide +kernel
theorem dL_isTold_113 : decode cL_isTold 113 = .ok (.istore 9, 2) := by decide +kernel
theorem dL_isTold_115 : decode cL_isTold 115 = .ok (.aload_n 0, 1) := by decide +kernel
theorem dL_isTold_116 : decode cL_isTold 116 = .ok (.iconst 0, 1) := by decide +kernel
theorem dL_isTold_117 : decode cL_isTold 117 = .ok (.iload 13, 2) := by decide +kernel
theorem dL_isTold_119 : decode cL_isTold 119 = .ok (.invokestatic 68, 3) := by decide +kernel
theorem dL_isTold_122 : decode cL_isTold 122 = .ok (.aload 6, 2) := by decide +kernel
theorem dL_isTold_124 : decode cL_isTold 124 = .ok (.iload 13, 2) := by decide +kernel
theorem dL_isTold_126 : decode cL_isTold 126 = .ok (.iaload, 1) := by decide +kernel
theorem dL_isTold_127 : decode cL_isTold 127 = .ok (.iconst 1, 1) := by decide +kernel
theorem dL_isTold_128 : decode cL_isTold 128 = .ok (.if_icmp .ne 9, 3) := by decide +kernel
theorem dL_isTold_131 : decode cL_isTold 131 = .ok (.ldc2_w 53, 3) := by decide +kernel
theorem dL_isTold_134 : decode cL_isTold 134 = .ok (.goto 5, 3) := by decide +kernel
theorem dL_isTold_137 : decode cL_isTold 137 = .ok (.lload 14, 2) := by decide +kernel
theorem dL_isTold_139 : decode cL_isTold 139 = .ok (.lcmp, 1) := by decide +kernel
theorem dL_isTold_140 : decode cL_isTold 140 = .ok (.ifCond .ne 88, 3) := by decide +kernel
theorem dL_isTold_143 : decode cL_isTold 143 = .ok (.aload_n 0, 1) := by decide +kernel
theorem dL_isTold_144 : decode cL_isTold 144 = .ok (.iconst 1, 1) := by decide +kernel
theorem dL_isTold_145 : decode cL_isTold 145 = .ok (.iload 13, 2) := by decide +kernel
theorem dL_isTold_147 : decode cL_isTold 147 = .ok (.invokestatic 68, 3) := by decide +kernel
theorem dL_isTold_150 : decode cL_isTold 150 = .ok (.aload 6, 2) := by decide +kernel
theorem dL_isTold_152 : decode cL_isTold 152 = .ok (.iload 13, 2) := by decide +kernel
theorem dL_isTold_154 : decode cL_isTold 154 = .ok (.iaload, 1) := by decide +kernel
theorem dL_isTold_155 : decode cL_isTold 155 = .ok (.iconst 1, 1) := by decide +kernel
theorem dL_isTold_156 : decode cL_isTold 156 = .ok (.if_icmp .ne 9, 3) := by decide +kernel
theorem dL_isTold_159 : decode cL_isTold 159 = .ok (.ldc2_w 53, 3) := by decide +kernel
theorem dL_isTold_162 : decode cL_isTold 162 = .ok (.goto 15, 3) := by decide +kernel
theorem dL_isTold_165 : decode cL_isTold 165 = .ok (.lload 14, 2) := by decide +kernel
theorem dL_isTold_167 : decode cL_isTold 167 = .ok (.aload 8, 2) := by decide +kernel
theorem dL_isTold_169 : decode cL_isTold 169 = .ok (.iconst 3, 1) := by decide +kernel
theorem dL_isTold_170 : decode cL_isTold 170 = .ok (.iaload, 1) := by decide +kernel
end
section
theorem dL_isTold_171 : decode cL_isTold 171 = .ok (.i2l, 1) := by decide +kernel
theorem dL_isTold_172 : decode cL_isTold 172 = .ok (.lmul, 1) := by decide +kernel
theorem dL_isTold_173 : decode cL_isTold 173 = .ok (.ldc2_w 9, 3) := by decide +kernel
theorem dL_isTold_176 : decode cL_isTold 176 = .ok (.ldiv, 1) := by decide +kernel
theorem dL_isTold_177 : decode cL_isTold 177 = .ok (.lcmp, 1) := by decide +kernel
theorem dL_isTold_178 : decode cL_isTold 178 = .ok (.ifCond .ne 50, 3) := by decide +kernel
theorem dL_isTold_181 : decode cL_isTold 181 = .ok (.aload_n 0, 1) := by decide +kernel
theorem dL_isTold_182 : decode cL_isTold 182 = .ok (.iconst 2, 1) := by decide +kernel
theorem dL_isTold_183 : decode cL_isTold 183 = .ok (.iload 13, 2) := by decide +kernel
theorem dL_isTold_185 : decode cL_isTold 185 = .ok (.invokestatic 68, 3) := by decide +kernel
theorem dL_isTold_188 : decode cL_isTold 188 = .ok (.aload 6, 2) := by decide +kernel
theorem dL_isTold_190 : decode cL_isTold 190 = .ok (.iload 13, 2) := by decide +kernel
theorem dL_isTold_192 : decode cL_isTold 192 = .ok (.iaload, 1) := by decide +kernel
theorem dL_isTold_193 : decode cL_isTold 193 = .ok (.iconst 1, 1) := by decide +kernel
theorem dL_isTold_194 : decode cL_isTold 194 = .ok (.if_icmp .ne 9, 3) := by decide +kernel
theorem dL_isTold_197 : decode cL_isTold 197 = .ok (.ldc2_w 53, 3) := by decide +kernel
theorem dL_isTold_200 : decode cL_isTold 200 = .ok (.goto 20, 3) := by decide +kernel
theorem dL_isTold_203 : decode cL_isTold 203 = .ok (.aload_n 1, 1) := by decide +kernel
theorem dL_isTold_204 : decode cL_isTold 204 = .ok (.aload_n 2, 1) := by decide +kernel
theorem dL_isTold_205 : decode cL_isTold 205 = .ok (.aload 4, 2) := by decide +kernel
theorem dL_isTold_207 : decode cL_isTold 207 = .ok (.aload 5, 2) := by decide +kernel
theorem dL_isTold_209 : decode cL_isTold 209 = .ok (.aload 6, 2) := by decide +kernel
theorem dL_isTold_211 : decode cL_isTold 211 = .ok (.aload 7, 2) := by decide +kernel
theorem dL_isTold_213 : decode cL_isTold 213 = .ok (.aload 8, 2) := by decide +kernel
theorem dL_isTold_215 : decode cL_isTold 215 = .ok (.iload 13, 2) := by decide +kernel
theorem dL_isTold_217 : decode cL_isTold 217 = .ok (.invokestatic 33, 3) := by decide +kernel
theorem dL_isTold_220 : decode cL_isTold 220 = .ok (.lcmp, 1) := by decide +kernel
theorem dL_isTold_221 : decode cL_isTold 221 = .ok (.ifCond .ne 7, 3) := by decide +kernel
theorem dL_isTold_224 : decode cL_isTold 224 = .ok (.iconst 1, 1) := by decide +kernel
theorem dL_isTold_225 : decode cL_isTold 225 = .ok (.goto 4, 3) := by decide +kernel
theorem dL_isTold_228 : decode cL_isTold 228 = .ok (.iconst 0, 1) := by decide +kernel
theorem dL_isTold_229 : decode cL_isTold 229 = .ok (.istore 12, 2) := by decide +kernel
theorem dL_isTold_231 : decode cL_isTold 231 = .ok (.iinc 13 1, 3) := by decide +kernel
theorem dL_isTold_234 : decode cL_isTold 234 = .ok (.goto (-158), 3) := by decide +kernel
theorem dL_isTold_237 : decode cL_isTold 237 = .ok (.iconst 0, 1) := by decide +kernel
theorem dL_isTold_238 : decode cL_isTold 238 = .ok (.istore 13, 2) := by decide +kernel
theorem dL_isTold_240 : decode cL_isTold 240 = .ok (.iload 13, 2) := by decide +kernel
theorem dL_isTold_242 : decode cL_isTold 242 = .ok (.iconst 3, 1) := by decide +kernel
theorem dL_isTold_243 : decode cL_isTold 243 = .ok (.if_icmp .ge 203, 3) := by decide +kernel
theorem dL_isTold_246 : decode cL_isTold 246 = .ok (.iload 12, 2) := by decide +kernel
theorem dL_isTold_248 : decode cL_isTold 248 = .ok (.ifCond .eq 198, 3) := by decide +kernel
theorem dL_isTold_251 : decode cL_isTold 251 = .ok (.lconst 0, 1) := by decide +kernel
theorem dL_isTold_252 : decode cL_isTold 252 = .ok (.lstore 14, 2) := by decide +kernel
theorem dL_isTold_254 : decode cL_isTold 254 = .ok (.iconst 0, 1) := by decide +kernel
theorem dL_isTold_255 : decode cL_isTold 255 = .ok (.istore 16, 2) := by decide +kernel
theorem dL_isTold_257 : decode cL_isTold 257 = .ok (.iload 16, 2) := by decide +kernel
theorem dL_isTold_259 : decode cL_isTold 259 = .ok (.iload 13, 2) := by decide +kernel
theorem dL_isTold_261 : decode cL_isTold 261 = .ok (.invokestatic 21, 3) := by decide +kernel
theorem dL_isTold_264 : decode cL_isTold 264 = .ok (.if_icmp .ge 152, 3) := by decide +kernel
theorem dL_isTold_267 : decode cL_isTold 267 = .ok (.iload 12, 2) := by decide +kernel
theorem dL_isTold_269 : decode cL_isTold 269 = .ok (.ifCond .eq 147, 3) := by decide +kernel
theorem dL_isTold_272 : decode cL_isTold 272 = .ok (.aload_n 1, 1) := by decide +kernel
theorem dL_isTold_273 : decode cL_isTold 273 = .ok (.aload_n 2, 1) := by decide +kernel
theorem dL_isTold_274 : decode cL_isTold 274 = .ok (.aload_n 3, 1) := by decide +kernel
theorem dL_isTold_275 : decode cL_isTold 275 = .ok (.aload 4, 2) := by decide +kernel
theorem dL_isTold_277 : decode cL_isTold 277 = .ok (.aload 6, 2) := by decide +kernel
theorem dL_isTold_279 : decode cL_isTold 279 = .ok (.aload 7, 2) := by decide +kernel
theorem dL_isTold_281 : decode cL_isTold 281 = .ok (.aload 8, 2) := by decide +kernel
theorem dL_isTold_283 : decode cL_isTold 283 = .ok (.iconst 0, 1) := by decide +kernel
theorem dL_isTold_284 : decode cL_isTold 284 = .ok (.iload 13, 2) := by decide +kernel
theorem dL_isTold_286 : decode cL_isTold 286 = .ok (.iload 16, 2) := by decide +kernel
theorem dL_isTold_288 : decode cL_isTold 288 = .ok (.invokestatic 25, 3) := by decide +kernel
theorem dL_isTold_291 : decode cL_isTold 291 = .ok (.lstore 17, 2) := by decide +kernel
theorem dL_isTold_293 : decode cL_isTold 293 = .ok (.aload_n 1, 1) := by decide +kernel
theorem dL_isTold_294 : decode cL_isTold 294 = .ok (.aload_n 2, 1) := by decide +kernel
theorem dL_isTold_295 : decode cL_isTold 295 = .ok (.aload_n 3, 1) := by decide +kernel
theorem dL_isTold_296 : decode cL_isTold 296 = .ok (.aload 4, 2) := by decide +kernel
theorem dL_isTold_298 : decode cL_isTold 298 = .ok (.aload 6, 2) := by decide +kernel
theorem dL_isTold_300 : decode cL_isTold 300 = .ok (.aload 7, 2) := by decide +kernel
theorem dL_isTold_302 : decode cL_isTold 302 = .ok (.aload 8, 2) := by decide +kernel
theorem dL_isTold_304 : decode cL_isTold 304 = .ok (.iconst 1, 1) := by decide +kernel
theorem dL_isTold_305 : decode cL_isTold 305 = .ok (.iload 13, 2) := by decide +kernel
theorem dL_isTold_307 : decode cL_isTold 307 = .ok (.iload 16, 2) := by decide +kernel
theorem dL_isTold_309 : decode cL_isTold 309 = .ok (.invokestatic 25, 3) := by decide +kernel
theorem dL_isTold_312 : decode cL_isTold 312 = .ok (.lstore 19, 2) := by decide +kernel
theorem dL_isTold_314 : decode cL_isTold 314 = .ok (.lload 17, 2) := by decide +kernel
theorem dL_isTold_316 : decode cL_isTold 316 = .ok (.lload 19, 2) := by decide +kernel
theorem dL_isTold_318 : decode cL_isTold 318 = .ok (.lcmp, 1) := by decide +kernel
theorem dL_isTold_319 : decode cL_isTold 319 = .ok (.ifCond .le 11, 3) := by decide +kernel
theorem dL_isTold_322 : decode cL_isTold 322 = .ok (.lload 17, 2) := by decide +kernel
theorem dL_isTold_324 : decode cL_isTold 324 = .ok (.lload 19, 2) := by decide +kernel
theorem dL_isTold_326 : decode cL_isTold 326 = .ok (.lsub, 1) := by decide +kernel
theorem dL_isTold_327 : decode cL_isTold 327 = .ok (.goto 8, 3) := by decide +kernel
theorem dL_isTold_330 : decode cL_isTold 330 = .ok (.lload 19, 2) := by decide +kernel
theorem dL_isTold_332 : decode cL_isTold 332 = .ok (.lload 17, 2) := by decide +kernel
theorem dL_isTold_334 : decode cL_isTold 334 = .ok (.lsub, 1) := by decide +kernel
theorem dL_isTold_335 : decode cL_isTold 335 = .ok (.lstore 21, 2) := by decide +kernel
theorem dL_isTold_337 : decode cL_isTold 337 = .ok (.lload 21, 2) := by decide +kernel
theorem dL_isTold_339 : decode cL_isTold 339 = .ok (.lload 14, 2) := by decide +kernel
theorem dL_isTold_341 : decode cL_isTold 341 = .ok (.lcmp, 1) := by decide +kernel
theorem dL_isTold_342 : decode cL_isTold 342 = .ok (.ifCond .le 8, 3) := by decide +kernel
theorem dL_isTold_345 : decode cL_isTold 345 = .ok (.lload 21, 2) := by decide +kernel
theorem dL_isTold_347 : decode cL_isTold 347 = .ok (.goto 5, 3) := by decide +kernel
theorem dL_isTold_350 : decode cL_isTold 350 = .ok (.lload 14, 2) := by decide +kernel
theorem dL_isTold_352 : decode cL_isTold 352 = .ok (.lstore 14, 2) := by decide +kernel
theorem dL_isTold_354 : decode cL_isTold 354 = .ok (.aload_n 0, 1) := by decide +kernel
theorem dL_isTold_355 : decode cL_isTold 355 = .ok (.iload 13, 2) := by decide +kernel
theorem dL_isTold_357 : decode cL_isTold 357 = .ok (.iload 16, 2) := by decide +kernel
theorem dL_isTold_359 : decode cL_isTold 359 = .ok (.invokevirtual 72, 3) := by decide +kernel
theorem dL_isTold_362 : decode cL_isTold 362 = .ok (.aload 7, 2) := by decide +kernel
theorem dL_isTold_364 : decode cL_isTold 364 = .ok (.iconst 4, 1) := by decide +kernel
theorem dL_isTold_365 : decode cL_isTold 365 = .ok (.iload 13, 2) := by decide +kernel
theorem dL_isTold_367 : decode cL_isTold 367 = .ok (.imul, 1) := by decide +kernel
theorem dL_isTold_368 : decode cL_isTold 368 = .ok (.iload 16, 2) := by decide +kernel
theorem dL_isTold_370 : decode cL_isTold 370 = .ok (.iadd, 1) := by decide +kernel
theorem dL_isTold_371 : decode cL_isTold 371 = .ok (.iaload, 1) := by decide +kernel
theorem dL_isTold_372 : decode cL_isTold 372 = .ok (.if_icmp .ne 35, 3) := by decide +kernel
theorem dL_isTold_375 : decode cL_isTold 375 = .ok (.aload_n 0, 1) := by decide +kernel
theorem dL_isTold_376 : decode cL_isTold 376 = .ok (.iload 13, 2) := by decide +kernel
theorem dL_isTold_378 : decode cL_isTold 378 = .ok (.iload 16, 2) := by decide +kernel
theorem dL_isTold_380 : decode cL_isTold 380 = .ok (.invokevirtual 75, 3) := by decide +kernel
theorem dL_isTold_383 : decode cL_isTold 383 = .ok (.lload 17, 2) := by decide +kernel
theorem dL_isTold_385 : decode cL_isTold 385 = .ok (.lcmp, 1) := by decide +kernel
theorem dL_isTold_386 : decode cL_isTold 386 = .ok (.ifCond .ne 21, 3) := by decide +kernel
theorem dL_isTold_389 : decode cL_isTold 389 = .ok (.aload_n 0, 1) := by decide +kernel
theorem dL_isTold_390 : decode cL_isTold 390 = .ok (.iload 13, 2) := by decide +kernel
theorem dL_isTold_392 : decode cL_isTold 392 = .ok (.iload 16, 2) := by decide +kernel
theorem dL_isTold_394 : decode cL_isTold 394 = .ok (.invokevirtual 79, 3) := by decide +kernel
theorem dL_isTold_397 : decode cL_isTold 397 = .ok (.lload 19, 2) := by decide +kernel
theorem dL_isTold_399 : decode cL_isTold 399 = .ok (.lcmp, 1) := by decide +kernel
theorem dL_isTold_400 : decode cL_isTold 400 = .ok (.ifCond .ne 7, 3) := by decide +kernel
theorem dL_isTold_403 : decode cL_isTold 403 = .ok (.iconst 1, 1) := by decide +kernel
theorem dL_isTold_404 : decode cL_isTold 404 = .ok (.goto 4, 3) := by decide +kernel
theorem dL_isTold_407 : decode cL_isTold 407 = .ok (.iconst 0, 1) := by decide +kernel
theorem dL_isTold_408 : decode cL_isTold 408 = .ok (.istore 12, 2) := by decide +kernel
theorem dL_isTold_410 : decode cL_isTold 410 = .ok (.iinc 16 1, 3) := by decide +kernel
theorem dL_isTold_413 : decode cL_isTold 413 = .ok (.goto (-156), 3) := by decide +kernel
theorem dL_isTold_416 : decode cL_isTold 416 = .ok (.iload 12, 2) := by decide +kernel
theorem dL_isTold_418 : decode cL_isTold 418 = .ok (.ifCond .eq 19, 3) := by decide +kernel
theorem dL_isTold_421 : decode cL_isTold 421 = .ok (.aload_n 0, 1) := by decide +kernel
theorem dL_isTold_422 : decode cL_isTold 422 = .ok (.iload 13, 2) := by decide +kernel
theorem dL_isTold_424 : decode cL_isTold 424 = .ok (.invokevirtual 82, 3) := by decide +kernel
theorem dL_isTold_427 : decode cL_isTold 427 = .ok (.lload 14, 2) := by decide +kernel
theorem dL_isTold_429 : decode cL_isTold 429 = .ok (.lcmp, 1) := by decide +kernel
theorem dL_isTold_430 : decode cL_isTold 430 = .ok (.ifCond .ne 7, 3) := by decide +kernel
theorem dL_isTold_433 : decode cL_isTold 433 = .ok (.iconst 1, 1) := by decide +kernel
theorem dL_isTold_434 : decode cL_isTold 434 = .ok (.goto 4, 3) := by decide +kernel
theorem dL_isTold_437 : decode cL_isTold 437 = .ok (.iconst 0, 1) := by decide +kernel
theorem dL_isTold_438 : decode cL_isTold 438 = .ok (.istore 12, 2) := by decide +kernel
theorem dL_isTold_440 : decode cL_isTold 440 = .ok (.iinc 13 1, 3) := by decide +kernel
theorem dL_isTold_443 : decode cL_isTold 443 = .ok (.goto (-203), 3) := by decide +kernel
theorem dL_isTold_446 : decode cL_isTold 446 = .ok (.iload 12, 2) := by decide +kernel
theorem dL_isTold_448 : decode cL_isTold 448 = .ok (.ifCond .eq 35, 3) := by decide +kernel
theorem dL_isTold_451 : decode cL_isTold 451 = .ok (.aload_n 0, 1) := by decide +kernel
theorem dL_isTold_452 : decode cL_isTold 452 = .ok (.invokevirtual 85, 3) := by decide +kernel
theorem dL_isTold_455 : decode cL_isTold 455 = .ok (.iload 9, 2) := by decide +kernel
theorem dL_isTold_457 : decode cL_isTold 457 = .ok (.if_icmp .ne 26, 3) := by decide +kernel
theorem dL_isTold_460 : decode cL_isTold 460 = .ok (.aload_n 0, 1) := by decide +kernel
theorem dL_isTold_461 : decode cL_isTold 461 = .ok (.aload_n 1, 1) := by decide +kernel
theorem dL_isTold_462 : decode cL_isTold 462 = .ok (.aload_n 2, 1) := by decide +kernel
theorem dL_isTold_463 : decode cL_isTold 463 = .ok (.aload 4, 2) := by decide +kernel
theorem dL_isTold_465 : decode cL_isTold 465 = .ok (.aload 6, 2) := by decide +kernel
theorem dL_isTold_467 : decode cL_isTold 467 = .ok (.aload 7, 2) := by decide +kernel
theorem dL_isTold_469 : decode cL_isTold 469 = .ok (.aload 8, 2) := by decide +kernel
theorem dL_isTold_471 : decode cL_isTold 471 = .ok (.iload 9, 2) := by decide +kernel
theorem dL_isTold_473 : decode cL_isTold 473 = .ok (.invokestatic 89, 3) := by decide +kernel
theorem dL_isTold_476 : decode cL_isTold 476 = .ok (.ifCond .eq 7, 3) := by decide +kernel
theorem dL_isTold_479 : decode cL_isTold 479 = .ok (.iconst 1, 1) := by decide +kernel
theorem dL_isTold_480 : decode cL_isTold 480 = .ok (.goto 4, 3) := by decide +kernel
theorem dL_isTold_483 : decode cL_isTold 483 = .ok (.iconst 0, 1) := by decide +kernel
theorem dL_isTold_484 : decode cL_isTold 484 = .ok (.ireturn, 1) := by decide +kernel
theorem dL_acts_0 : decode cL_acts 0 = .ok (.iload 9, 2) := by decide +kernel
theorem dL_acts_2 : decode cL_acts 2 = .ok (.iconst 4, 1) := by decide +kernel
theorem dL_acts_3 : decode cL_acts 3 = .ok (.if_icmp .ge 217, 3) := by decide +kernel
theorem dL_acts_6 : decode cL_acts 6 = .ok (.aload 8, 2) := by decide +kernel
theorem dL_acts_8 : decode cL_acts 8 = .ok (.iconst 0, 1) := by decide +kernel
theorem dL_acts_9 : decode cL_acts 9 = .ok (.iaload, 1) := by decide +kernel
theorem dL_acts_10 : decode cL_acts 10 = .ok (.bipush 12, 2) := by decide +kernel
theorem dL_acts_12 : decode cL_acts 12 = .ok (.if_icmp .ge 208, 3) := by decide +kernel
theorem dL_acts_15 : decode cL_acts 15 = .ok (.aload 8, 2) := by decide +kernel
theorem dL_acts_17 : decode cL_acts 17 = .ok (.iconst 0, 1) := by decide +kernel
theorem dL_acts_18 : decode cL_acts 18 = .ok (.iaload, 1) := by decide +kernel
theorem dL_acts_19 : decode cL_acts 19 = .ok (.istore 11, 2) := by decide +kernel
theorem dL_acts_21 : decode cL_acts 21 = .ok (.aload_n 1, 1) := by decide +kernel
theorem dL_acts_22 : decode cL_acts 22 = .ok (.iconst 3, 1) := by decide +kernel
theorem dL_acts_23 : decode cL_acts 23 = .ok (.iload 11, 2) := by decide +kernel
theorem dL_acts_25 : decode cL_acts 25 = .ok (.imul, 1) := by decide +kernel
theorem dL_acts_26 : decode cL_acts 26 = .ok (.iload 10, 2) := by decide +kernel
theorem dL_acts_28 : decode cL_acts 28 = .ok (.iconst 4, 1) := by decide +kernel
theorem dL_acts_29 : decode cL_acts 29 = .ok (.irem, 1) := by decide +kernel
theorem dL_acts_30 : decode cL_acts 30 = .ok (.iastore, 1) := by decide +kernel
theorem dL_acts_31 : decode cL_acts 31 = .ok (.aload_n 1, 1) := by decide +kernel
theorem dL_acts_32 : decode cL_acts 32 = .ok (.iconst 3, 1) := by decide +kernel
theorem dL_acts_33 : decode cL_acts 33 = .ok (.iload 11, 2) := by decide +kernel
theorem dL_acts_35 : decode cL_acts 35 = .ok (.imul, 1) := by decide +kernel
theorem dL_acts_36 : decode cL_acts 36 = .ok (.iconst 1, 1) := by decide +kernel
theorem dL_acts_37 : decode cL_acts 37 = .ok (.iadd, 1) := by decide +kernel
theorem dL_acts_38 : decode cL_acts 38 = .ok (.iload 10, 2) := by decide +kernel
theorem dL_acts_40 : decode cL_acts 40 = .ok (.iconst 4, 1) := by decide +kernel
theorem dL_acts_41 : decode cL_acts 41 = .ok (.idiv, 1) := by decide +kernel
theorem dL_acts_42 : decode cL_acts 42 = .ok (.iconst 3, 1) := by decide +kernel
theorem dL_acts_43 : decode cL_acts 43 = .ok (.irem, 1) := by decide +kernel
theorem dL_acts_44 : decode cL_acts 44 = .ok (.iastore, 1) := by decide +kernel
theorem dL_acts_45 : decode cL_acts 45 = .ok (.aload_n 1, 1) := by decide +kernel
theorem dL_acts_46 : decode cL_acts 46 = .ok (.iconst 3, 1) := by decide +kernel
theorem dL_acts_47 : decode cL_acts 47 = .ok (.iload 11, 2) := by decide +kernel
theorem dL_acts_49 : decode cL_acts 49 = .ok (.imul, 1) := by decide +kernel
theorem dL_acts_50 : decode cL_acts 50 = .ok (.iconst 2, 1) := by decide +kernel
theorem dL_acts_51 : decode cL_acts 51 = .ok (.iadd, 1) := by decide +kernel
theorem dL_acts_52 : decode cL_acts 52 = .ok (.iload 10, 2) := by decide +kernel
theorem dL_acts_54 : decode cL_acts 54 = .ok (.bipush 12, 2) := by decide +kernel
theorem dL_acts_56 : decode cL_acts 56 = .ok (.idiv, 1) := by decide +kernel
theorem dL_acts_57 : decode cL_acts 57 = .ok (.iconst 4, 1) := by decide +kernel
theorem dL_acts_58 : decode cL_acts 58 = .ok (.irem, 1) := by decide +kernel
theorem dL_acts_59 : decode cL_acts 59 = .ok (.iastore, 1) := by decide +kernel
theorem dL_acts_60 : decode cL_acts 60 = .ok (.aload_n 2, 1) := by decide +kernel
theorem dL_acts_61 : decode cL_acts 61 = .ok (.iload 11, 2) := by decide +kernel
theorem dL_acts_63 : decode cL_acts 63 = .ok (.iconst 1, 1) := by decide +kernel
theorem dL_acts_64 : decode cL_acts 64 = .ok (.iload 10, 2) := by decide +kernel
theorem dL_acts_66 : decode cL_acts 66 = .ok (.bipush 48, 2) := by decide +kernel
theorem dL_acts_68 : decode cL_acts 68 = .ok (.idiv, 1) := by decide +kernel
theorem dL_acts_69 : decode cL_acts 69 = .ok (.iload 10, 2) := by decide +kernel
theorem dL_acts_71 : decode cL_acts 71 = .ok (.iconst 5, 1) := by decide +kernel
theorem dL_acts_72 : decode cL_acts 72 = .ok (.irem, 1) := by decide +kernel
theorem dL_acts_73 : decode cL_acts 73 = .ok (.ifCond .ne 9, 3) := by decide +kernel
theorem dL_acts_76 : decode cL_acts 76 = .ok (.sipush 1000, 3) := by decide +kernel
theorem dL_acts_79 : decode cL_acts 79 = .ok (.goto 5, 3) := by decide +kernel
theorem dL_acts_82 : decode cL_acts 82 = .ok (.bipush 20, 2) := by decide +kernel
theorem dL_acts_84 : decode cL_acts 84 = .ok (.irem, 1) := by decide +kernel
theorem dL_acts_85 : decode cL_acts 85 = .ok (.iadd, 1) := by decide +kernel
theorem dL_acts_86 : decode cL_acts 86 = .ok (.iastore, 1) := by decide +kernel
theorem dL_acts_87 : decode cL_acts 87 = .ok (.aload_n 3, 1) := by decide +kernel
theorem dL_acts_88 : decode cL_acts 88 = .ok (.iload 11, 2) := by decide +kernel
theorem dL_acts_90 : decode cL_acts 90 = .ok (.iload 10, 2) := by decide +kernel
theorem dL_acts_92 : decode cL_acts 92 = .ok (.bipush 7, 2) := by decide +kernel
theorem dL_acts_94 : decode cL_acts 94 = .ok (.irem, 1) := by decide +kernel
theorem dL_acts_95 : decode cL_acts 95 = .ok (.ifCond .ne 7, 3) := by decide +kernel
theorem dL_acts_98 : decode cL_acts 98 = .ok (.iconst 0, 1) := by decide +kernel
theorem dL_acts_99 : decode cL_acts 99 = .ok (.goto 12, 3) := by decide +kernel
theorem dL_acts_102 : decode cL_acts 102 = .ok (.iload 10, 2) := by decide +kernel
theorem dL_acts_104 : decode cL_acts 104 = .ok (.sipush 960, 3) := by decide +kernel
theorem dL_acts_107 : decode cL_acts 107 = .ok (.idiv, 1) := by decide +kernel
theorem dL_acts_108 : decode cL_acts 108 = .ok (.bipush 30, 2) := by decide +kernel
theorem dL_acts_110 : decode cL_acts 110 = .ok (.irem, 1) := by decide +kernel
theorem dL_acts_111 : decode cL_acts 111 = .ok (.iastore, 1) := by decide +kernel
theorem dL_acts_112 : decode cL_acts 112 = .ok (.aload 4, 2) := by decide +kernel
theorem dL_acts_114 : decode cL_acts 114 = .ok (.iload 11, 2) := by decide +kernel
theorem dL_acts_116 : decode cL_acts 116 = .ok (.iload 10, 2) := by decide +kernel
theorem dL_acts_118 : decode cL_acts 118 = .ok (.bipush 11, 2) := by decide +kernel
theorem dL_acts_120 : decode cL_acts 120 = .ok (.irem, 1) := by decide +kernel
theorem dL_acts_121 : decode cL_acts 121 = .ok (.ifCond .ne 7, 3) := by decide +kernel
theorem dL_acts_124 : decode cL_acts 124 = .ok (.iconst 0, 1) := by decide +kernel
theorem dL_acts_125 : decode cL_acts 125 = .ok (.goto 24, 3) := by decide +kernel
theorem dL_acts_128 : decode cL_acts 128 = .ok (.iload 10, 2) := by decide +kernel
theorem dL_acts_130 : decode cL_acts 130 = .ok (.bipush 77, 2) := by decide +kernel
theorem dL_acts_132 : decode cL_acts 132 = .ok (.idiv, 1) := by decide +kernel
theorem dL_acts_133 : decode cL_acts 133 = .ok (.iload 10, 2) := by decide +kernel
theorem dL_acts_135 : decode cL_acts 135 = .ok (.iconst 3, 1) := by decide +kernel
theorem dL_acts_136 : decode cL_acts 136 = .ok (.irem, 1) := by decide +kernel
theorem dL_acts_137 : decode cL_acts 137 = .ok (.ifCond .ne 8, 3) := by decide +kernel
theorem dL_acts_140 : decode cL_acts 140 = .ok (.ldc 93, 2) := by decide +kernel
theorem dL_acts_142 : decode cL_acts 142 = .ok (.goto 6, 3) := by decide +kernel
theorem dL_acts_145 : decode cL_acts 145 = .ok (.sipush 900, 3) := by decide +kernel
theorem dL_acts_148 : decode cL_acts 148 = .ok (.irem, 1) := by decide +kernel
theorem dL_acts_149 : decode cL_acts 149 = .ok (.iastore, 1) := by decide +kernel
theorem dL_acts_150 : decode cL_acts 150 = .ok (.aload 5, 2) := by decide +kernel
theorem dL_acts_152 : decode cL_acts 152 = .ok (.iload 11, 2) := by decide +kernel
theorem dL_acts_154 : decode cL_acts 154 = .ok (.iconst (-1), 1) := by decide +kernel
theorem dL_acts_155 : decode cL_acts 155 = .ok (.iastore, 1) := by decide +kernel
theorem dL_acts_156 : decode cL_acts 156 = .ok (.aload 6, 2) := by decide +kernel
theorem dL_acts_158 : decode cL_acts 158 = .ok (.iload 11, 2) := by decide +kernel
theorem dL_acts_160 : decode cL_acts 160 = .ok (.iconst 0, 1) := by decide +kernel
theorem dL_acts_161 : decode cL_acts 161 = .ok (.iastore, 1) := by decide +kernel
theorem dL_acts_162 : decode cL_acts 162 = .ok (.aload 8, 2) := by decide +kernel
theorem dL_acts_164 : decode cL_acts 164 = .ok (.iconst 0, 1) := by decide +kernel
theorem dL_acts_165 : decode cL_acts 165 = .ok (.dup2, 1) := by decide +kernel
theorem dL_acts_166 : decode cL_acts 166 = .ok (.iaload, 1) := by decide +kernel
theorem dL_acts_167 : decode cL_acts 167 = .ok (.iconst 1, 1) := by decide +kernel
theorem dL_acts_168 : decode cL_acts 168 = .ok (.iadd, 1) := by decide +kernel
theorem dL_acts_169 : decode cL_acts 169 = .ok (.iastore, 1) := by decide +kernel
theorem dL_acts_170 : decode cL_acts 170 = .ok (.aload_n 0, 1) := by decide +kernel
theorem dL_acts_171 : decode cL_acts 171 = .ok (.aload_n 1, 1) := by decide +kernel
theorem dL_acts_172 : decode cL_acts 172 = .ok (.iconst 3, 1) := by decide +kernel
theorem dL_acts_173 : decode cL_acts 173 = .ok (.iload 11, 2) := by decide +kernel
theorem dL_acts_175 : decode cL_acts 175 = .ok (.imul, 1) := by decide +kernel
theorem dL_acts_176 : decode cL_acts 176 = .ok (.iaload, 1) := by decide +kernel
theorem dL_acts_177 : decode cL_acts 177 = .ok (.aload_n 1, 1) := by decide +kernel
theorem dL_acts_178 : decode cL_acts 178 = .ok (.iconst 3, 1) := by decide +kernel
theorem dL_acts_179 : decode cL_acts 179 = .ok (.iload 11, 2) := by decide +kernel
theorem dL_acts_181 : decode cL_acts 181 = .ok (.imul, 1) := by decide +kernel
theorem dL_acts_182 : decode cL_acts 182 = .ok (.iconst 1, 1) := by decide +kernel
theorem dL_acts_183 : decode cL_acts 183 = .ok (.iadd, 1) := by decide +kernel
theorem dL_acts_184 : decode cL_acts 184 = .ok (.iaload, 1) := by decide +kernel
theorem dL_acts_185 : decode cL_acts 185 = .ok (.aload_n 1, 1) := by decide +kernel
theorem dL_acts_186 : decode cL_acts 186 = .ok (.iconst 3, 1) := by decide +kernel
theorem dL_acts_187 : decode cL_acts 187 = .ok (.iload 11, 2) := by decide +kernel
theorem dL_acts_189 : decode cL_acts 189 = .ok (.imul, 1) := by decide +kernel
theorem dL_acts_190 : decode cL_acts 190 = .ok (.iconst 2, 1) := by decide +kernel
theorem dL_acts_191 : decode cL_acts 191 = .ok (.iadd, 1) := by decide +kernel
theorem dL_acts_192 : decode cL_acts 192 = .ok (.iaload, 1) := by decide +kernel
theorem dL_acts_193 : decode cL_acts 193 = .ok (.aload_n 2, 1) := by decide +kernel
theorem dL_acts_194 : decode cL_acts 194 = .ok (.iload 11, 2) := by decide +kernel
theorem dL_acts_196 : decode cL_acts 196 = .ok (.iaload, 1) := by decide +kernel
theorem dL_acts_197 : decode cL_acts 197 = .ok (.aload_n 3, 1) := by decide +kernel
theorem dL_acts_198 : decode cL_acts 198 = .ok (.iload 11, 2) := by decide +kernel
theorem dL_acts_200 : decode cL_acts 200 = .ok (.iaload, 1) := by decide +kernel
theorem dL_acts_201 : decode cL_acts 201 = .ok (.aload 4, 2) := by decide +kernel
theorem dL_acts_203 : decode cL_acts 203 = .ok (.iload 11, 2) := by decide +kernel
theorem dL_acts_205 : decode cL_acts 205 = .ok (.iaload, 1) := by decide +kernel
theorem dL_acts_206 : decode cL_acts 206 = .ok (.invokevirtual 94, 3) := by decide +kernel
theorem dL_acts_209 : decode cL_acts 209 = .ok (.iload 11, 2) := by decide +kernel
theorem dL_acts_211 : decode cL_acts 211 = .ok (.if_icmp .ne 7, 3) := by decide +kernel
theorem dL_acts_214 : decode cL_acts 214 = .ok (.iconst 1, 1) := by decide +kernel
theorem dL_acts_215 : decode cL_acts 215 = .ok (.goto 4, 3) := by decide +kernel
theorem dL_acts_218 : decode cL_acts 218 = .ok (.iconst 0, 1) := by decide +kernel
theorem dL_acts_219 : decode cL_acts 219 = .ok (.ireturn, 1) := by decide +kernel
theorem dL_acts_220 : decode cL_acts 220 = .ok (.aload 8, 2) := by decide +kernel
theorem dL_acts_222 : decode cL_acts 222 = .ok (.iconst 0, 1) := by decide +kernel
theorem dL_acts_223 : decode cL_acts 223 = .ok (.iaload, 1) := by decide +kernel
theorem dL_acts_224 : decode cL_acts 224 = .ok (.ifCond .ne 7, 3) := by decide +kernel
theorem dL_acts_227 : decode cL_acts 227 = .ok (.iconst 0, 1) := by decide +kernel
theorem dL_acts_228 : decode cL_acts 228 = .ok (.goto 10, 3) := by decide +kernel
theorem dL_acts_231 : decode cL_acts 231 = .ok (.iload 10, 2) := by decide +kernel
theorem dL_acts_233 : decode cL_acts 233 = .ok (.aload 8, 2) := by decide +kernel
theorem dL_acts_235 : decode cL_acts 235 = .ok (.iconst 0, 1) := by decide +kernel
theorem dL_acts_236 : decode cL_acts 236 = .ok (.iaload, 1) := by decide +kernel
theorem dL_acts_237 : decode cL_acts 237 = .ok (.irem, 1) := by decide +kernel
theorem dL_acts_238 : decode cL_acts 238 = .ok (.istore 11, 2) := by decide +kernel
theorem dL_acts_240 : decode cL_acts 240 = .ok (.iload 9, 2) := by decide +kernel
theorem dL_acts_242 : decode cL_acts 242 = .ok (.iconst 4, 1) := by decide +kernel
end
section
theorem dL_acts_243 : decode cL_acts 243 = .ok (.if_icmp .ne 115, 3) := by decide +kernel
theorem dL_acts_246 : decode cL_acts 246 = .ok (.iload 10, 2) := by decide +kernel
theorem dL_acts_248 : decode cL_acts 248 = .ok (.iconst 4, 1) := by decide +kernel
theorem dL_acts_249 : decode cL_acts 249 = .ok (.irem, 1) := by decide +kernel
theorem dL_acts_250 : decode cL_acts 250 = .ok (.ifCond .ne 108, 3) := by decide +kernel
theorem dL_acts_253 : decode cL_acts 253 = .ok (.aload 8, 2) := by decide +kernel
theorem dL_acts_255 : decode cL_acts 255 = .ok (.iconst 0, 1) := by decide +kernel
theorem dL_acts_256 : decode cL_acts 256 = .ok (.iaload, 1) := by decide +kernel
theorem dL_acts_257 : decode cL_acts 257 = .ok (.ifCond .le 15, 3) := by decide +kernel
theorem dL_acts_260 : decode cL_acts 260 = .ok (.aload 6, 2) := by decide +kernel
theorem dL_acts_262 : decode cL_acts 262 = .ok (.iload 11, 2) := by decide +kernel
theorem dL_acts_264 : decode cL_acts 264 = .ok (.iaload, 1) := by decide +kernel
theorem dL_acts_265 : decode cL_acts 265 = .ok (.ifCond .ne 7, 3) := by decide +kernel
theorem dL_acts_268 : decode cL_acts 268 = .ok (.iconst 1, 1) := by decide +kernel
theorem dL_acts_269 : decode cL_acts 269 = .ok (.goto 4, 3) := by decide +kernel
theorem dL_acts_272 : decode cL_acts 272 = .ok (.iconst 0, 1) := by decide +kernel
theorem dL_acts_273 : decode cL_acts 273 = .ok (.istore 12, 2) := by decide +kernel
theorem dL_acts_275 : decode cL_acts 275 = .ok (.iconst 0, 1) := by decide +kernel
theorem dL_acts_276 : decode cL_acts 276 = .ok (.istore 13, 2) := by decide +kernel
theorem dL_acts_278 : decode cL_acts 278 = .ok (.iconst 0, 1) := by decide +kernel
theorem dL_acts_279 : decode cL_acts 279 = .ok (.istore 14, 2) := by decide +kernel
theorem dL_acts_281 : decode cL_acts 281 = .ok (.iload 14, 2) := by decide +kernel
theorem dL_acts_283 : decode cL_acts 283 = .ok (.aload 8, 2) := by decide +kernel
theorem dL_acts_285 : decode cL_acts 285 = .ok (.iconst 0, 1) := by decide +kernel
theorem dL_acts_286 : decode cL_acts 286 = .ok (.iaload, 1) := by decide +kernel
theorem dL_acts_287 : decode cL_acts 287 = .ok (.if_icmp .ge 21, 3) := by decide +kernel
theorem dL_acts_290 : decode cL_acts 290 = .ok (.iload 13, 2) := by decide +kernel
theorem dL_acts_292 : decode cL_acts 292 = .ok (.iconst 1, 1) := by decide +kernel
theorem dL_acts_293 : decode cL_acts 293 = .ok (.aload 6, 2) := by decide +kernel
theorem dL_acts_295 : decode cL_acts 295 = .ok (.iload 14, 2) := by decide +kernel
theorem dL_acts_297 : decode cL_acts 297 = .ok (.iaload, 1) := by decide +kernel
theorem dL_acts_298 : decode cL_acts 298 = .ok (.isub, 1) := by decide +kernel
theorem dL_acts_299 : decode cL_acts 299 = .ok (.iadd, 1) := by decide +kernel
theorem dL_acts_300 : decode cL_acts 300 = .ok (.istore 13, 2) := by decide +kernel
theorem dL_acts_302 : decode cL_acts 302 = .ok (.iinc 14 1, 3) := by decide +kernel
theorem dL_acts_305 : decode cL_acts 305 = .ok (.goto (-24), 3) := by decide +kernel
theorem dL_acts_308 : decode cL_acts 308 = .ok (.iload 12, 2) := by decide +kernel
theorem dL_acts_310 : decode cL_acts 310 = .ok (.ifCond .ne 23, 3) := by decide +kernel
theorem dL_acts_313 : decode cL_acts 313 = .ok (.aload_n 0, 1) := by decide +kernel
theorem dL_acts_314 : decode cL_acts 314 = .ok (.iconst 3, 1) := by decide +kernel
theorem dL_acts_315 : decode cL_acts 315 = .ok (.iload 11, 2) := by decide +kernel
theorem dL_acts_317 : decode cL_acts 317 = .ok (.invokestatic 68, 3) := by decide +kernel
theorem dL_acts_320 : decode cL_acts 320 = .ok (.ldc2_w 53, 3) := by decide +kernel
theorem dL_acts_323 : decode cL_acts 323 = .ok (.lcmp, 1) := by decide +kernel
theorem dL_acts_324 : decode cL_acts 324 = .ok (.ifCond .ne 7, 3) := by decide +kernel
theorem dL_acts_327 : decode cL_acts 327 = .ok (.iconst 1, 1) := by decide +kernel
theorem dL_acts_328 : decode cL_acts 328 = .ok (.goto 4, 3) := by decide +kernel
theorem dL_acts_331 : decode cL_acts 331 = .ok (.iconst 0, 1) := by decide +kernel
theorem dL_acts_332 : decode cL_acts 332 = .ok (.ireturn, 1) := by decide +kernel
theorem dL_acts_333 : decode cL_acts 333 = .ok (.aload 6, 2) := by decide +kernel
theorem dL_acts_335 : decode cL_acts 335 = .ok (.iload 11, 2) := by decide +kernel
theorem dL_acts_337 : decode cL_acts 337 = .ok (.iconst 1, 1) := by decide +kernel
theorem dL_acts_338 : decode cL_acts 338 = .ok (.iastore, 1) := by decide +kernel
theorem dL_acts_339 : decode cL_acts 339 = .ok (.aload_n 0, 1) := by decide +kernel
theorem dL_acts_340 : decode cL_acts 340 = .ok (.iload 11, 2) := by decide +kernel
theorem dL_acts_342 : decode cL_acts 342 = .ok (.invokevirtual 98, 3) := by decide +kernel
theorem dL_acts_345 : decode cL_acts 345 = .ok (.iload 13, 2) := by decide +kernel
theorem dL_acts_347 : decode cL_acts 347 = .ok (.iconst 1, 1) := by decide +kernel
theorem dL_acts_348 : decode cL_acts 348 = .ok (.isub, 1) := by decide +kernel
theorem dL_acts_349 : decode cL_acts 349 = .ok (.if_icmp .ne 7, 3) := by decide +kernel
theorem dL_acts_352 : decode cL_acts 352 = .ok (.iconst 1, 1) := by decide +kernel
theorem dL_acts_353 : decode cL_acts 353 = .ok (.goto 4, 3) := by decide +kernel
theorem dL_acts_356 : decode cL_acts 356 = .ok (.iconst 0, 1) := by decide +kernel
theorem dL_acts_357 : decode cL_acts 357 = .ok (.ireturn, 1) := by decide +kernel
theorem dL_acts_358 : decode cL_acts 358 = .ok (.iload 9, 2) := by decide +kernel
theorem dL_acts_360 : decode cL_acts 360 = .ok (.bipush 7, 2) := by decide +kernel
theorem dL_acts_362 : decode cL_acts 362 = .ok (.if_icmp .ge 106, 3) := by decide +kernel
theorem dL_acts_365 : decode cL_acts 365 = .ok (.aload 8, 2) := by decide +kernel
theorem dL_acts_367 : decode cL_acts 367 = .ok (.iconst 0, 1) := by decide +kernel
theorem dL_acts_368 : decode cL_acts 368 = .ok (.iaload, 1) := by decide +kernel
theorem dL_acts_369 : decode cL_acts 369 = .ok (.ifCond .eq 12, 3) := by decide +kernel
theorem dL_acts_372 : decode cL_acts 372 = .ok (.aload 6, 2) := by decide +kernel
theorem dL_acts_374 : decode cL_acts 374 = .ok (.iload 11, 2) := by decide +kernel
theorem dL_acts_376 : decode cL_acts 376 = .ok (.iaload, 1) := by decide +kernel
theorem dL_acts_377 : decode cL_acts 377 = .ok (.iconst 1, 1) := by decide +kernel
theorem dL_acts_378 : decode cL_acts 378 = .ok (.if_icmp .ne 23, 3) := by decide +kernel
theorem dL_acts_381 : decode cL_acts 381 = .ok (.aload_n 0, 1) := by decide +kernel
theorem dL_acts_382 : decode cL_acts 382 = .ok (.iconst 3, 1) := by decide +kernel
theorem dL_acts_383 : decode cL_acts 383 = .ok (.iload 11, 2) := by decide +kernel
theorem dL_acts_385 : decode cL_acts 385 = .ok (.invokestatic 68, 3) := by decide +kernel
theorem dL_acts_388 : decode cL_acts 388 = .ok (.ldc2_w 53, 3) := by decide +kernel
theorem dL_acts_391 : decode cL_acts 391 = .ok (.lcmp, 1) := by decide +kernel
theorem dL_acts_392 : decode cL_acts 392 = .ok (.ifCond .ne 7, 3) := by decide +kernel
theorem dL_acts_395 : decode cL_acts 395 = .ok (.iconst 1, 1) := by decide +kernel
theorem dL_acts_396 : decode cL_acts 396 = .ok (.goto 4, 3) := by decide +kernel
theorem dL_acts_399 : decode cL_acts 399 = .ok (.iconst 0, 1) := by decide +kernel
theorem dL_acts_400 : decode cL_acts 400 = .ok (.ireturn, 1) := by decide +kernel
theorem dL_acts_401 : decode cL_acts 401 = .ok (.aload 5, 2) := by decide +kernel
theorem dL_acts_403 : decode cL_acts 403 = .ok (.iload 11, 2) := by decide +kernel
theorem dL_acts_405 : decode cL_acts 405 = .ok (.iaload, 1) := by decide +kernel
theorem dL_acts_406 : decode cL_acts 406 = .ok (.istore 12, 2) := by decide +kernel
theorem dL_acts_408 : decode cL_acts 408 = .ok (.aload 5, 2) := by decide +kernel
theorem dL_acts_410 : decode cL_acts 410 = .ok (.iload 11, 2) := by decide +kernel
theorem dL_acts_412 : decode cL_acts 412 = .ok (.iload 10, 2) := by decide +kernel
theorem dL_acts_414 : decode cL_acts 414 = .ok (.bipush 9, 2) := by decide +kernel
theorem dL_acts_416 : decode cL_acts 416 = .ok (.irem, 1) := by decide +kernel
theorem dL_acts_417 : decode cL_acts 417 = .ok (.ifCond .ne 7, 3) := by decide +kernel
theorem dL_acts_420 : decode cL_acts 420 = .ok (.iconst (-1), 1) := by decide +kernel
theorem dL_acts_421 : decode cL_acts 421 = .ok (.goto 24, 3) := by decide +kernel
theorem dL_acts_424 : decode cL_acts 424 = .ok (.iload 10, 2) := by decide +kernel
theorem dL_acts_426 : decode cL_acts 426 = .ok (.bipush 12, 2) := by decide +kernel
theorem dL_acts_428 : decode cL_acts 428 = .ok (.idiv, 1) := by decide +kernel
theorem dL_acts_429 : decode cL_acts 429 = .ok (.iload 10, 2) := by decide +kernel
theorem dL_acts_431 : decode cL_acts 431 = .ok (.iconst 3, 1) := by decide +kernel
theorem dL_acts_432 : decode cL_acts 432 = .ok (.irem, 1) := by decide +kernel
theorem dL_acts_433 : decode cL_acts 433 = .ok (.ifCond .ne 8, 3) := by decide +kernel
theorem dL_acts_436 : decode cL_acts 436 = .ok (.ldc 101, 2) := by decide +kernel
theorem dL_acts_438 : decode cL_acts 438 = .ok (.goto 6, 3) := by decide +kernel
theorem dL_acts_441 : decode cL_acts 441 = .ok (.sipush 2000, 3) := by decide +kernel
theorem dL_acts_444 : decode cL_acts 444 = .ok (.irem, 1) := by decide +kernel
theorem dL_acts_445 : decode cL_acts 445 = .ok (.iastore, 1) := by decide +kernel
theorem dL_acts_446 : decode cL_acts 446 = .ok (.aload_n 0, 1) := by decide +kernel
theorem dL_acts_447 : decode cL_acts 447 = .ok (.iload 11, 2) := by decide +kernel
theorem dL_acts_449 : decode cL_acts 449 = .ok (.aload 5, 2) := by decide +kernel
theorem dL_acts_451 : decode cL_acts 451 = .ok (.iload 11, 2) := by decide +kernel
theorem dL_acts_453 : decode cL_acts 453 = .ok (.iaload, 1) := by decide +kernel
theorem dL_acts_454 : decode cL_acts 454 = .ok (.invokevirtual 47, 3) := by decide +kernel
theorem dL_acts_457 : decode cL_acts 457 = .ok (.iload 12, 2) := by decide +kernel
theorem dL_acts_459 : decode cL_acts 459 = .ok (.if_icmp .ne 7, 3) := by decide +kernel
theorem dL_acts_462 : decode cL_acts 462 = .ok (.iconst 1, 1) := by decide +kernel
theorem dL_acts_463 : decode cL_acts 463 = .ok (.goto 4, 3) := by decide +kernel
theorem dL_acts_466 : decode cL_acts 466 = .ok (.iconst 0, 1) := by decide +kernel
theorem dL_acts_467 : decode cL_acts 467 = .ok (.ireturn, 1) := by decide +kernel
theorem dL_acts_468 : decode cL_acts 468 = .ok (.iload 9, 2) := by decide +kernel
theorem dL_acts_470 : decode cL_acts 470 = .ok (.bipush 7, 2) := by decide +kernel
theorem dL_acts_472 : decode cL_acts 472 = .ok (.if_icmp .ne 84, 3) := by decide +kernel
theorem dL_acts_475 : decode cL_acts 475 = .ok (.aload 8, 2) := by decide +kernel
theorem dL_acts_477 : decode cL_acts 477 = .ok (.iconst 1, 1) := by decide +kernel
theorem dL_acts_478 : decode cL_acts 478 = .ok (.iaload, 1) := by decide +kernel
theorem dL_acts_479 : decode cL_acts 479 = .ok (.istore 12, 2) := by decide +kernel
theorem dL_acts_481 : decode cL_acts 481 = .ok (.aload 8, 2) := by decide +kernel
theorem dL_acts_483 : decode cL_acts 483 = .ok (.iconst 1, 1) := by decide +kernel
theorem dL_acts_484 : decode cL_acts 484 = .ok (.iload 10, 2) := by decide +kernel
theorem dL_acts_486 : decode cL_acts 486 = .ok (.iconst 3, 1) := by decide +kernel
theorem dL_acts_487 : decode cL_acts 487 = .ok (.irem, 1) := by decide +kernel
theorem dL_acts_488 : decode cL_acts 488 = .ok (.ifCond .ne 7, 3) := by decide +kernel
theorem dL_acts_491 : decode cL_acts 491 = .ok (.iconst 0, 1) := by decide +kernel
theorem dL_acts_492 : decode cL_acts 492 = .ok (.goto 11, 3) := by decide +kernel
theorem dL_acts_495 : decode cL_acts 495 = .ok (.iload 10, 2) := by decide +kernel
theorem dL_acts_497 : decode cL_acts 497 = .ok (.iconst 3, 1) := by decide +kernel
theorem dL_acts_498 : decode cL_acts 498 = .ok (.idiv, 1) := by decide +kernel
theorem dL_acts_499 : decode cL_acts 499 = .ok (.sipush 200, 3) := by decide +kernel
theorem dL_acts_502 : decode cL_acts 502 = .ok (.irem, 1) := by decide +kernel
theorem dL_acts_503 : decode cL_acts 503 = .ok (.iastore, 1) := by decide +kernel
theorem dL_acts_504 : decode cL_acts 504 = .ok (.aload 8, 2) := by decide +kernel
theorem dL_acts_506 : decode cL_acts 506 = .ok (.iconst 2, 1) := by decide +kernel
theorem dL_acts_507 : decode cL_acts 507 = .ok (.iload 10, 2) := by decide +kernel
theorem dL_acts_509 : decode cL_acts 509 = .ok (.sipush 600, 3) := by decide +kernel
theorem dL_acts_512 : decode cL_acts 512 = .ok (.idiv, 1) := by decide +kernel
theorem dL_acts_513 : decode cL_acts 513 = .ok (.iconst 4, 1) := by decide +kernel
theorem dL_acts_514 : decode cL_acts 514 = .ok (.irem, 1) := by decide +kernel
theorem dL_acts_515 : decode cL_acts 515 = .ok (.ifCond .ne 7, 3) := by decide +kernel
theorem dL_acts_518 : decode cL_acts 518 = .ok (.iconst (-1), 1) := by decide +kernel
theorem dL_acts_519 : decode cL_acts 519 = .ok (.goto 13, 3) := by decide +kernel
theorem dL_acts_522 : decode cL_acts 522 = .ok (.iload 10, 2) := by decide +kernel
theorem dL_acts_524 : decode cL_acts 524 = .ok (.sipush 2400, 3) := by decide +kernel
theorem dL_acts_527 : decode cL_acts 527 = .ok (.idiv, 1) := by decide +kernel
theorem dL_acts_528 : decode cL_acts 528 = .ok (.sipush 150, 3) := by decide +kernel
theorem dL_acts_531 : decode cL_acts 531 = .ok (.irem, 1) := by decide +kernel
theorem dL_acts_532 : decode cL_acts 532 = .ok (.iastore, 1) := by decide +kernel
theorem dL_acts_533 : decode cL_acts 533 = .ok (.aload_n 0, 1) := by decide +kernel
theorem dL_acts_534 : decode cL_acts 534 = .ok (.aload 8, 2) := by decide +kernel
theorem dL_acts_536 : decode cL_acts 536 = .ok (.iconst 1, 1) := by decide +kernel
theorem dL_acts_537 : decode cL_acts 537 = .ok (.iaload, 1) := by decide +kernel
theorem dL_acts_538 : decode cL_acts 538 = .ok (.aload 8, 2) := by decide +kernel
theorem dL_acts_540 : decode cL_acts 540 = .ok (.iconst 2, 1) := by decide +kernel
theorem dL_acts_541 : decode cL_acts 541 = .ok (.iaload, 1) := by decide +kernel
theorem dL_acts_542 : decode cL_acts 542 = .ok (.invokevirtual 102, 3) := by decide +kernel
theorem dL_acts_545 : decode cL_acts 545 = .ok (.iload 12, 2) := by decide +kernel
theorem dL_acts_547 : decode cL_acts 547 = .ok (.if_icmp .ne 7, 3) := by decide +kernel
theorem dL_acts_550 : decode cL_acts 550 = .ok (.iconst 1, 1) := by decide +kernel
theorem dL_acts_551 : decode cL_acts 551 = .ok (.goto 4, 3) := by decide +kernel
theorem dL_acts_554 : decode cL_acts 554 = .ok (.iconst 0, 1) := by decide +kernel
theorem dL_acts_555 : decode cL_acts 555 = .ok (.ireturn, 1) := by decide +kernel
theorem dL_acts_556 : decode cL_acts 556 = .ok (.iload 10, 2) := by decide +kernel
theorem dL_acts_558 : decode cL_acts 558 = .ok (.iconst 3, 1) := by decide +kernel
theorem dL_acts_559 : decode cL_acts 559 = .ok (.irem, 1) := by decide +kernel
theorem dL_acts_560 : decode cL_acts 560 = .ok (.istore 12, 2) := by decide +kernel
theorem dL_acts_562 : decode cL_acts 562 = .ok (.iload 9, 2) := by decide +kernel
theorem dL_acts_564 : decode cL_acts 564 = .ok (.bipush 10, 2) := by decide +kernel
theorem dL_acts_566 : decode cL_acts 566 = .ok (.if_icmp .ge 90, 3) := by decide +kernel
theorem dL_acts_569 : decode cL_acts 569 = .ok (.iload 10, 2) := by decide +kernel
theorem dL_acts_571 : decode cL_acts 571 = .ok (.iconst 3, 1) := by decide +kernel
theorem dL_acts_572 : decode cL_acts 572 = .ok (.idiv, 1) := by decide +kernel
theorem dL_acts_573 : decode cL_acts 573 = .ok (.iload 12, 2) := by decide +kernel
theorem dL_acts_575 : decode cL_acts 575 = .ok (.invokestatic 21, 3) := by decide +kernel
theorem dL_acts_578 : decode cL_acts 578 = .ok (.irem, 1) := by decide +kernel
theorem dL_acts_579 : decode cL_acts 579 = .ok (.istore 13, 2) := by decide +kernel
theorem dL_acts_581 : decode cL_acts 581 = .ok (.aload 7, 2) := by decide +kernel
theorem dL_acts_583 : decode cL_acts 583 = .ok (.iconst 4, 1) := by decide +kernel
theorem dL_acts_584 : decode cL_acts 584 = .ok (.iload 12, 2) := by decide +kernel
theorem dL_acts_586 : decode cL_acts 586 = .ok (.imul, 1) := by decide +kernel
theorem dL_acts_587 : decode cL_acts 587 = .ok (.iload 13, 2) := by decide +kernel
theorem dL_acts_589 : decode cL_acts 589 = .ok (.iadd, 1) := by decide +kernel
theorem dL_acts_590 : decode cL_acts 590 = .ok (.iaload, 1) := by decide +kernel
theorem dL_acts_591 : decode cL_acts 591 = .ok (.istore 14, 2) := by decide +kernel
theorem dL_acts_593 : decode cL_acts 593 = .ok (.aload 7, 2) := by decide +kernel
theorem dL_acts_595 : decode cL_acts 595 = .ok (.iconst 4, 1) := by decide +kernel
theorem dL_acts_596 : decode cL_acts 596 = .ok (.iload 12, 2) := by decide +kernel
theorem dL_acts_598 : decode cL_acts 598 = .ok (.imul, 1) := by decide +kernel
theorem dL_acts_599 : decode cL_acts 599 = .ok (.iload 13, 2) := by decide +kernel
theorem dL_acts_601 : decode cL_acts 601 = .ok (.iadd, 1) := by decide +kernel
theorem dL_acts_602 : decode cL_acts 602 = .ok (.bipush 100, 2) := by decide +kernel
theorem dL_acts_604 : decode cL_acts 604 = .ok (.iload 10, 2) := by decide +kernel
theorem dL_acts_606 : decode cL_acts 606 = .ok (.bipush 12, 2) := by decide +kernel
theorem dL_acts_608 : decode cL_acts 608 = .ok (.idiv, 1) := by decide +kernel
theorem dL_acts_609 : decode cL_acts 609 = .ok (.iload 10, 2) := by decide +kernel
theorem dL_acts_611 : decode cL_acts 611 = .ok (.iconst 4, 1) := by decide +kernel
theorem dL_acts_612 : decode cL_acts 612 = .ok (.irem, 1) := by decide +kernel
theorem dL_acts_613 : decode cL_acts 613 = .ok (.ifCond .ne 8, 3) := by decide +kernel
theorem dL_acts_616 : decode cL_acts 616 = .ok (.ldc 105, 2) := by decide +kernel
theorem dL_acts_618 : decode cL_acts 618 = .ok (.goto 6, 3) := by decide +kernel
theorem dL_acts_621 : decode cL_acts 621 = .ok (.sipush 15000, 3) := by decide +kernel
theorem dL_acts_624 : decode cL_acts 624 = .ok (.irem, 1) := by decide +kernel
theorem dL_acts_625 : decode cL_acts 625 = .ok (.iadd, 1) := by decide +kernel
theorem dL_acts_626 : decode cL_acts 626 = .ok (.iastore, 1) := by decide +kernel
theorem dL_acts_627 : decode cL_acts 627 = .ok (.aload_n 0, 1) := by decide +kernel
theorem dL_acts_628 : decode cL_acts 628 = .ok (.iload 12, 2) := by decide +kernel
theorem dL_acts_630 : decode cL_acts 630 = .ok (.iload 13, 2) := by decide +kernel
theorem dL_acts_632 : decode cL_acts 632 = .ok (.aload 7, 2) := by decide +kernel
theorem dL_acts_634 : decode cL_acts 634 = .ok (.iconst 4, 1) := by decide +kernel
theorem dL_acts_635 : decode cL_acts 635 = .ok (.iload 12, 2) := by decide +kernel
theorem dL_acts_637 : decode cL_acts 637 = .ok (.imul, 1) := by decide +kernel
theorem dL_acts_638 : decode cL_acts 638 = .ok (.iload 13, 2) := by decide +kernel
theorem dL_acts_640 : decode cL_acts 640 = .ok (.iadd, 1) := by decide +kernel
theorem dL_acts_641 : decode cL_acts 641 = .ok (.iaload, 1) := by decide +kernel
theorem dL_acts_642 : decode cL_acts 642 = .ok (.invokevirtual 106, 3) := by decide +kernel
theorem dL_acts_645 : decode cL_acts 645 = .ok (.iload 14, 2) := by decide +kernel
theorem dL_acts_647 : decode cL_acts 647 = .ok (.if_icmp .ne 7, 3) := by decide +kernel
theorem dL_acts_650 : decode cL_acts 650 = .ok (.iconst 1, 1) := by decide +kernel
theorem dL_acts_651 : decode cL_acts 651 = .ok (.goto 4, 3) := by decide +kernel
theorem dL_acts_654 : decode cL_acts 654 = .ok (.iconst 0, 1) := by decide +kernel
theorem dL_acts_655 : decode cL_acts 655 = .ok (.ireturn, 1) := by decide +kernel
theorem dL_acts_656 : decode cL_acts 656 = .ok (.iload 9, 2) := by decide +kernel
theorem dL_acts_658 : decode cL_acts 658 = .ok (.bipush 13, 2) := by decide +kernel
theorem dL_acts_660 : decode cL_acts 660 = .ok (.if_icmp .ge 34, 3) := by decide +kernel
theorem dL_acts_663 : decode cL_acts 663 = .ok (.aload_n 0, 1) := by decide +kernel
theorem dL_acts_664 : decode cL_acts 664 = .ok (.iload 12, 2) := by decide +kernel
theorem dL_acts_666 : decode cL_acts 666 = .ok (.invokevirtual 110, 3) := by decide +kernel
theorem dL_acts_669 : decode cL_acts 669 = .ok (.aload_n 1, 1) := by decide +kernel
theorem dL_acts_670 : decode cL_acts 670 = .ok (.aload_n 2, 1) := by decide +kernel
theorem dL_acts_671 : decode cL_acts 671 = .ok (.aload_n 3, 1) := by decide +kernel
theorem dL_acts_672 : decode cL_acts 672 = .ok (.aload 4, 2) := by decide +kernel
theorem dL_acts_674 : decode cL_acts 674 = .ok (.aload 6, 2) := by decide +kernel
theorem dL_acts_676 : decode cL_acts 676 = .ok (.aload 7, 2) := by decide +kernel
theorem dL_acts_678 : decode cL_acts 678 = .ok (.aload 8, 2) := by decide +kernel
theorem dL_acts_680 : decode cL_acts 680 = .ok (.iload 12, 2) := by decide +kernel
theorem dL_acts_682 : decode cL_acts 682 = .ok (.invokestatic 113, 3) := by decide +kernel
theorem dL_acts_685 : decode cL_acts 685 = .ok (.if_icmp .ne 7, 3) := by decide +kernel
theorem dL_acts_688 : decode cL_acts 688 = .ok (.iconst 1, 1) := by decide +kernel
theorem dL_acts_689 : decode cL_acts 689 = .ok (.goto 4, 3) := by decide +kernel
theorem dL_acts_692 : decode cL_acts 692 = .ok (.iconst 0, 1) := by decide +kernel
theorem dL_acts_693 : decode cL_acts 693 = .ok (.ireturn, 1) := by decide +kernel
theorem dL_acts_694 : decode cL_acts 694 = .ok (.iload 9, 2) := by decide +kernel
theorem dL_acts_696 : decode cL_acts 696 = .ok (.bipush 13, 2) := by decide +kernel
theorem dL_acts_698 : decode cL_acts 698 = .ok (.if_icmp .ne 103, 3) := by decide +kernel
theorem dL_acts_701 : decode cL_acts 701 = .ok (.iconst 0, 1) := by decide +kernel
theorem dL_acts_702 : decode cL_acts 702 = .ok (.istore 13, 2) := by decide +kernel
theorem dL_acts_704 : decode cL_acts 704 = .ok (.iconst 1, 1) := by decide +kernel
theorem dL_acts_705 : decode cL_acts 705 = .ok (.istore 14, 2) := by decide +kernel
theorem dL_acts_707 : decode cL_acts 707 = .ok (.iload 14, 2) := by decide +kernel
theorem dL_acts_709 : decode cL_acts 709 = .ok (.ifCond .eq 77, 3) := by decide +kernel
theorem dL_acts_712 : decode cL_acts 712 = .ok (.iload 13, 2) := by decide +kernel
theorem dL_acts_714 : decode cL_acts 714 = .ok (.bipush 60, 2) := by decide +kernel
theorem dL_acts_716 : decode cL_acts 716 = .ok (.if_icmp .ge 70, 3) := by decide +kernel
theorem dL_acts_719 : decode cL_acts 719 = .ok (.aload_n 1, 1) := by decide +kernel
theorem dL_acts_720 : decode cL_acts 720 = .ok (.aload_n 2, 1) := by decide +kernel
theorem dL_acts_721 : decode cL_acts 721 = .ok (.aload_n 3, 1) := by decide +kernel
theorem dL_acts_722 : decode cL_acts 722 = .ok (.aload 4, 2) := by decide +kernel
theorem dL_acts_724 : decode cL_acts 724 = .ok (.aload 6, 2) := by decide +kernel
theorem dL_acts_726 : decode cL_acts 726 = .ok (.aload 7, 2) := by decide +kernel
theorem dL_acts_728 : decode cL_acts 728 = .ok (.aload 8, 2) := by decide +kernel
theorem dL_acts_730 : decode cL_acts 730 = .ok (.iconst 0, 1) := by decide +kernel
theorem dL_acts_731 : decode cL_acts 731 = .ok (.invokestatic 113, 3) := by decide +kernel
theorem dL_acts_734 : decode cL_acts 734 = .ok (.aload_n 1, 1) := by decide +kernel
theorem dL_acts_735 : decode cL_acts 735 = .ok (.aload_n 2, 1) := by decide +kernel
theorem dL_acts_736 : decode cL_acts 736 = .ok (.aload_n 3, 1) := by decide +kernel
theorem dL_acts_737 : decode cL_acts 737 = .ok (.aload 4, 2) := by decide +kernel
theorem dL_acts_739 : decode cL_acts 739 = .ok (.aload 6, 2) := by decide +kernel
theorem dL_acts_741 : decode cL_acts 741 = .ok (.aload 7, 2) := by decide +kernel
theorem dL_acts_743 : decode cL_acts 743 = .ok (.aload 8, 2) := by decide +kernel
theorem dL_acts_745 : decode cL_acts 745 = .ok (.iconst 1, 1) := by decide +kernel
theorem dL_acts_746 : decode cL_acts 746 = .ok (.invokestatic 113, 3) := by decide +kernel
theorem dL_acts_749 : decode cL_acts 749 = .ok (.iadd, 1) := by decide +kernel
theorem dL_acts_750 : decode cL_acts 750 = .ok (.aload_n 1, 1) := by decide +kernel
theorem dL_acts_751 : decode cL_acts 751 = .ok (.aload_n 2, 1) := by decide +kernel
theorem dL_acts_752 : decode cL_acts 752 = .ok (.aload_n 3, 1) := by decide +kernel
theorem dL_acts_753 : decode cL_acts 753 = .ok (.aload 4, 2) := by decide +kernel
theorem dL_acts_755 : decode cL_acts 755 = .ok (.aload 6, 2) := by decide +kernel
theorem dL_acts_757 : decode cL_acts 757 = .ok (.aload 7, 2) := by decide +kernel
theorem dL_acts_759 : decode cL_acts 759 = .ok (.aload 8, 2) := by decide +kernel
theorem dL_acts_761 : decode cL_acts 761 = .ok (.iconst 2, 1) := by decide +kernel
theorem dL_acts_762 : decode cL_acts 762 = .ok (.invokestatic 113, 3) := by decide +kernel
theorem dL_acts_765 : decode cL_acts 765 = .ok (.iadd, 1) := by decide +kernel
theorem dL_acts_766 : decode cL_acts 766 = .ok (.istore 15, 2) := by decide +kernel
theorem dL_acts_768 : decode cL_acts 768 = .ok (.iload 15, 2) := by decide +kernel
theorem dL_acts_770 : decode cL_acts 770 = .ok (.ifCond .le 7, 3) := by decide +kernel
theorem dL_acts_773 : decode cL_acts 773 = .ok (.iconst 1, 1) := by decide +kernel
theorem dL_acts_774 : decode cL_acts 774 = .ok (.goto 4, 3) := by decide +kernel
theorem dL_acts_777 : decode cL_acts 777 = .ok (.iconst 0, 1) := by decide +kernel
theorem dL_acts_778 : decode cL_acts 778 = .ok (.istore 14, 2) := by decide +kernel
theorem dL_acts_780 : decode cL_acts 780 = .ok (.iinc 13 1, 3) := by decide +kernel
theorem dL_acts_783 : decode cL_acts 783 = .ok (.goto (-76), 3) := by decide +kernel
theorem dL_acts_786 : decode cL_acts 786 = .ok (.aload_n 0, 1) := by decide +kernel
theorem dL_acts_787 : decode cL_acts 787 = .ok (.invokevirtual 116, 3) := by decide +kernel
theorem dL_acts_790 : decode cL_acts 790 = .ok (.iload 13, 2) := by decide +kernel
theorem dL_acts_792 : decode cL_acts 792 = .ok (.if_icmp .ne 7, 3) := by decide +kernel
theorem dL_acts_795 : decode cL_acts 795 = .ok (.iconst 1, 1) := by decide +kernel
theorem dL_acts_796 : decode cL_acts 796 = .ok (.goto 4, 3) := by decide +kernel
theorem dL_acts_799 : decode cL_acts 799 = .ok (.iconst 0, 1) := by decide +kernel
theorem dL_acts_800 : decode cL_acts 800 = .ok (.ireturn, 1) := by decide +kernel
theorem dL_acts_801 : decode cL_acts 801 = .ok (.iload 9, 2) := by decide +kernel
theorem dL_acts_803 : decode cL_acts 803 = .ok (.bipush 16, 2) := by decide +kernel
theorem dL_acts_805 : decode cL_acts 805 = .ok (.if_icmp .ge 34, 3) := by decide +kernel
theorem dL_acts_808 : decode cL_acts 808 = .ok (.aload_n 0, 1) := by decide +kernel
theorem dL_acts_809 : decode cL_acts 809 = .ok (.iload 12, 2) := by decide +kernel
theorem dL_acts_811 : decode cL_acts 811 = .ok (.invokevirtual 119, 3) := by decide +kernel
theorem dL_acts_814 : decode cL_acts 814 = .ok (.aload_n 1, 1) := by decide +kernel
theorem dL_acts_815 : decode cL_acts 815 = .ok (.aload_n 2, 1) := by decide +kernel
theorem dL_acts_816 : decode cL_acts 816 = .ok (.aload_n 3, 1) := by decide +kernel
end
section
theorem dL_acts_817 : decode cL_acts 817 = .ok (.aload 4, 2) := by decide +kernel
theorem dL_acts_819 : decode cL_acts 819 = .ok (.aload 6, 2) := by decide +kernel
theorem dL_acts_821 : decode cL_acts 821 = .ok (.aload 7, 2) := by decide +kernel
theorem dL_acts_823 : decode cL_acts 823 = .ok (.aload 8, 2) := by decide +kernel
theorem dL_acts_825 : decode cL_acts 825 = .ok (.iload 12, 2) := by decide +kernel
theorem dL_acts_827 : decode cL_acts 827 = .ok (.invokestatic 122, 3) := by decide +kernel
theorem dL_acts_830 : decode cL_acts 830 = .ok (.if_icmp .ne 7, 3) := by decide +kernel
theorem dL_acts_833 : decode cL_acts 833 = .ok (.iconst 1, 1) := by decide +kernel
theorem dL_acts_834 : decode cL_acts 834 = .ok (.goto 4, 3) := by decide +kernel
theorem dL_acts_837 : decode cL_acts 837 = .ok (.iconst 0, 1) := by decide +kernel
theorem dL_acts_838 : decode cL_acts 838 = .ok (.ireturn, 1) := by decide +kernel
theorem dL_acts_839 : decode cL_acts 839 = .ok (.aload_n 1, 1) := by decide +kernel
theorem dL_acts_840 : decode cL_acts 840 = .ok (.aload_n 2, 1) := by decide +kernel
theorem dL_acts_841 : decode cL_acts 841 = .ok (.aload 4, 2) := by decide +kernel
theorem dL_acts_843 : decode cL_acts 843 = .ok (.aload 5, 2) := by decide +kernel
theorem dL_acts_845 : decode cL_acts 845 = .ok (.aload 6, 2) := by decide +kernel
theorem dL_acts_847 : decode cL_acts 847 = .ok (.aload 7, 2) := by decide +kernel
theorem dL_acts_849 : decode cL_acts 849 = .ok (.aload 8, 2) := by decide +kernel
theorem dL_acts_851 : decode cL_acts 851 = .ok (.iconst 1, 1) := by decide +kernel
theorem dL_acts_852 : decode cL_acts 852 = .ok (.invokestatic 64, 3) := by decide +kernel
theorem dL_acts_855 : decode cL_acts 855 = .ok (.lstore 13, 2) := by decide +kernel
theorem dL_acts_857 : decode cL_acts 857 = .ok (.lload 13, 2) := by decide +kernel
theorem dL_acts_859 : decode cL_acts 859 = .ok (.lconst 0, 1) := by decide +kernel
theorem dL_acts_860 : decode cL_acts 860 = .ok (.lcmp, 1) := by decide +kernel
theorem dL_acts_861 : decode cL_acts 861 = .ok (.ifCond .eq 89, 3) := by decide +kernel
theorem dL_acts_864 : decode cL_acts 864 = .ok (.aload_n 1, 1) := by decide +kernel
theorem dL_acts_865 : decode cL_acts 865 = .ok (.aload_n 2, 1) := by decide +kernel
theorem dL_acts_866 : decode cL_acts 866 = .ok (.aload 4, 2) := by decide +kernel
theorem dL_acts_868 : decode cL_acts 868 = .ok (.aload 5, 2) := by decide +kernel
theorem dL_acts_870 : decode cL_acts 870 = .ok (.aload 6, 2) := by decide +kernel
theorem dL_acts_872 : decode cL_acts 872 = .ok (.aload 7, 2) := by decide +kernel
theorem dL_acts_874 : decode cL_acts 874 = .ok (.aload 8, 2) := by decide +kernel
theorem dL_acts_876 : decode cL_acts 876 = .ok (.iconst 0, 1) := by decide +kernel
theorem dL_acts_877 : decode cL_acts 877 = .ok (.invokestatic 64, 3) := by decide +kernel
theorem dL_acts_880 : decode cL_acts 880 = .ok (.ldc2_w 9, 3) := by decide +kernel
theorem dL_acts_883 : decode cL_acts 883 = .ok (.lmul, 1) := by decide +kernel
theorem dL_acts_884 : decode cL_acts 884 = .ok (.lload 13, 2) := by decide +kernel
theorem dL_acts_886 : decode cL_acts 886 = .ok (.ldiv, 1) := by decide +kernel
theorem dL_acts_887 : decode cL_acts 887 = .ok (.lstore 15, 2) := by decide +kernel
theorem dL_acts_889 : decode cL_acts 889 = .ok (.aload 8, 2) := by decide +kernel
theorem dL_acts_891 : decode cL_acts 891 = .ok (.iconst 3, 1) := by decide +kernel
theorem dL_acts_892 : decode cL_acts 892 = .ok (.iaload, 1) := by decide +kernel
theorem dL_acts_893 : decode cL_acts 893 = .ok (.i2l, 1) := by decide +kernel
theorem dL_acts_894 : decode cL_acts 894 = .ok (.lload 15, 2) := by decide +kernel
theorem dL_acts_896 : decode cL_acts 896 = .ok (.ldc2_w 124, 3) := by decide +kernel
theorem dL_acts_899 : decode cL_acts 899 = .ok (.lcmp, 1) := by decide +kernel
theorem dL_acts_900 : decode cL_acts 900 = .ok (.ifCond .ge 8, 3) := by decide +kernel
theorem dL_acts_903 : decode cL_acts 903 = .ok (.lload 15, 2) := by decide +kernel
theorem dL_acts_905 : decode cL_acts 905 = .ok (.goto 6, 3) := by decide +kernel
theorem dL_acts_908 : decode cL_acts 908 = .ok (.ldc2_w 124, 3) := by decide +kernel
theorem dL_acts_911 : decode cL_acts 911 = .ok (.lmul, 1) := by decide +kernel
theorem dL_acts_912 : decode cL_acts 912 = .ok (.ldc2_w 9, 3) := by decide +kernel
theorem dL_acts_915 : decode cL_acts 915 = .ok (.ldiv, 1) := by decide +kernel
theorem dL_acts_916 : decode cL_acts 916 = .ok (.lstore 17, 2) := by decide +kernel
theorem dL_acts_918 : decode cL_acts 918 = .ok (.aload 8, 2) := by decide +kernel
theorem dL_acts_920 : decode cL_acts 920 = .ok (.iconst 3, 1) := by decide +kernel
theorem dL_acts_921 : decode cL_acts 921 = .ok (.lload 17, 2) := by decide +kernel
theorem dL_acts_923 : decode cL_acts 923 = .ok (.lconst 1, 1) := by decide +kernel
theorem dL_acts_924 : decode cL_acts 924 = .ok (.lcmp, 1) := by decide +kernel
theorem dL_acts_925 : decode cL_acts 925 = .ok (.ifCond .ge 7, 3) := by decide +kernel
theorem dL_acts_928 : decode cL_acts 928 = .ok (.iconst 1, 1) := by decide +kernel
theorem dL_acts_929 : decode cL_acts 929 = .ok (.goto 20, 3) := by decide +kernel
theorem dL_acts_932 : decode cL_acts 932 = .ok (.lload 17, 2) := by decide +kernel
theorem dL_acts_934 : decode cL_acts 934 = .ok (.ldc2_w 124, 3) := by decide +kernel
theorem dL_acts_937 : decode cL_acts 937 = .ok (.lcmp, 1) := by decide +kernel
theorem dL_acts_938 : decode cL_acts 938 = .ok (.ifCond .le 8, 3) := by decide +kernel
theorem dL_acts_941 : decode cL_acts 941 = .ok (.ldc 93, 2) := by decide +kernel
theorem dL_acts_943 : decode cL_acts 943 = .ok (.goto 6, 3) := by decide +kernel
theorem dL_acts_946 : decode cL_acts 946 = .ok (.lload 17, 2) := by decide +kernel
theorem dL_acts_948 : decode cL_acts 948 = .ok (.l2i, 1) := by decide +kernel
theorem dL_acts_949 : decode cL_acts 949 = .ok (.iastore, 1) := by decide +kernel
theorem dL_acts_950 : decode cL_acts 950 = .ok (.aload_n 0, 1) := by decide +kernel
theorem dL_acts_951 : decode cL_acts 951 = .ok (.invokevirtual 126, 3) := by decide +kernel
theorem dL_acts_954 : decode cL_acts 954 = .ok (.aload 8, 2) := by decide +kernel
theorem dL_acts_956 : decode cL_acts 956 = .ok (.iconst 3, 1) := by decide +kernel
theorem dL_acts_957 : decode cL_acts 957 = .ok (.iaload, 1) := by decide +kernel
theorem dL_acts_958 : decode cL_acts 958 = .ok (.if_icmp .ne 7, 3) := by decide +kernel
theorem dL_acts_961 : decode cL_acts 961 = .ok (.iconst 1, 1) := by decide +kernel
theorem dL_acts_962 : decode cL_acts 962 = .ok (.goto 4, 3) := by decide +kernel
theorem dL_acts_965 : decode cL_acts 965 = .ok (.iconst 0, 1) := by decide +kernel
theorem dL_acts_966 : decode cL_acts 966 = .ok (.ireturn, 1) := by decide +kernel
theorem dL_holds_0 : decode cL_holds 0 = .ok (.new 38, 3) := by decide +kernel
theorem dL_holds_3 : decode cL_holds 3 = .ok (.dup, 1) := by decide +kernel
theorem dL_holds_4 : decode cL_holds 4 = .ok (.invokespecial 129, 3) := by decide +kernel
theorem dL_holds_7 : decode cL_holds 7 = .ok (.astore_n 1, 1) := by decide +kernel
theorem dL_holds_8 : decode cL_holds 8 = .ok (.bipush 36, 2) := by decide +kernel
theorem dL_holds_10 : decode cL_holds 10 = .ok (.newarray .int, 2) := by decide +kernel
theorem dL_holds_12 : decode cL_holds 12 = .ok (.astore_n 2, 1) := by decide +kernel
theorem dL_holds_13 : decode cL_holds 13 = .ok (.bipush 12, 2) := by decide +kernel
theorem dL_holds_15 : decode cL_holds 15 = .ok (.newarray .int, 2) := by decide +kernel
theorem dL_holds_17 : decode cL_holds 17 = .ok (.astore_n 3, 1) := by decide +kernel
theorem dL_holds_18 : decode cL_holds 18 = .ok (.bipush 12, 2) := by decide +kernel
theorem dL_holds_20 : decode cL_holds 20 = .ok (.newarray .int, 2) := by decide +kernel
theorem dL_holds_22 : decode cL_holds 22 = .ok (.astore 4, 2) := by decide +kernel
theorem dL_holds_24 : decode cL_holds 24 = .ok (.bipush 12, 2) := by decide +kernel
theorem dL_holds_26 : decode cL_holds 26 = .ok (.newarray .int, 2) := by decide +kernel
theorem dL_holds_28 : decode cL_holds 28 = .ok (.astore 5, 2) := by decide +kernel
theorem dL_holds_30 : decode cL_holds 30 = .ok (.bipush 12, 2) := by decide +kernel
theorem dL_holds_32 : decode cL_holds 32 = .ok (.newarray .int, 2) := by decide +kernel
theorem dL_holds_34 : decode cL_holds 34 = .ok (.astore 6, 2) := by decide +kernel
theorem dL_holds_36 : decode cL_holds 36 = .ok (.bipush 12, 2) := by decide +kernel
theorem dL_holds_38 : decode cL_holds 38 = .ok (.newarray .int, 2) := by decide +kernel
theorem dL_holds_40 : decode cL_holds 40 = .ok (.astore 7, 2) := by decide +kernel
theorem dL_holds_42 : decode cL_holds 42 = .ok (.bipush 12, 2) := by decide +kernel
theorem dL_holds_44 : decode cL_holds 44 = .ok (.newarray .int, 2) := by decide +kernel
theorem dL_holds_46 : decode cL_holds 46 = .ok (.astore 8, 2) := by decide +kernel
theorem dL_holds_48 : decode cL_holds 48 = .ok (.iconst 4, 1) := by decide +kernel
theorem dL_holds_49 : decode cL_holds 49 = .ok (.newarray .int, 2) := by decide +kernel
theorem dL_holds_51 : decode cL_holds 51 = .ok (.astore 9, 2) := by decide +kernel
theorem dL_holds_53 : decode cL_holds 53 = .ok (.iconst 0, 1) := by decide +kernel
theorem dL_holds_54 : decode cL_holds 54 = .ok (.istore 10, 2) := by decide +kernel
theorem dL_holds_56 : decode cL_holds 56 = .ok (.iload 10, 2) := by decide +kernel
theorem dL_holds_58 : decode cL_holds 58 = .ok (.bipush 12, 2) := by decide +kernel
theorem dL_holds_60 : decode cL_holds 60 = .ok (.if_icmp .ge 17, 3) := by decide +kernel
theorem dL_holds_63 : decode cL_holds 63 = .ok (.aload 8, 2) := by decide +kernel
theorem dL_holds_65 : decode cL_holds 65 = .ok (.iload 10, 2) := by decide +kernel
theorem dL_holds_67 : decode cL_holds 67 = .ok (.sipush 10000, 3) := by decide +kernel
theorem dL_holds_70 : decode cL_holds 70 = .ok (.iastore, 1) := by decide +kernel
theorem dL_holds_71 : decode cL_holds 71 = .ok (.iinc 10 1, 3) := by decide +kernel
theorem dL_holds_74 : decode cL_holds 74 = .ok (.goto (-18), 3) := by decide +kernel
theorem dL_holds_77 : decode cL_holds 77 = .ok (.aload 9, 2) := by decide +kernel
theorem dL_holds_79 : decode cL_holds 79 = .ok (.iconst 2, 1) := by decide +kernel
theorem dL_holds_80 : decode cL_holds 80 = .ok (.iconst (-1), 1) := by decide +kernel
theorem dL_holds_81 : decode cL_holds 81 = .ok (.iastore, 1) := by decide +kernel
theorem dL_holds_82 : decode cL_holds 82 = .ok (.aload 9, 2) := by decide +kernel
theorem dL_holds_84 : decode cL_holds 84 = .ok (.iconst 3, 1) := by decide +kernel
theorem dL_holds_85 : decode cL_holds 85 = .ok (.sipush 10000, 3) := by decide +kernel
theorem dL_holds_88 : decode cL_holds 88 = .ok (.iastore, 1) := by decide +kernel
theorem dL_holds_89 : decode cL_holds 89 = .ok (.aload_n 1, 1) := by decide +kernel
theorem dL_holds_90 : decode cL_holds 90 = .ok (.invokevirtual 85, 3) := by decide +kernel
theorem dL_holds_93 : decode cL_holds 93 = .ok (.ifCond .ne 24, 3) := by decide +kernel
theorem dL_holds_96 : decode cL_holds 96 = .ok (.aload_n 1, 1) := by decide +kernel
theorem dL_holds_97 : decode cL_holds 97 = .ok (.invokevirtual 58, 3) := by decide +kernel
theorem dL_holds_100 : decode cL_holds 100 = .ok (.lconst 0, 1) := by decide +kernel
theorem dL_holds_101 : decode cL_holds 101 = .ok (.lcmp, 1) := by decide +kernel
theorem dL_holds_102 : decode cL_holds 102 = .ok (.ifCond .ne 15, 3) := by decide +kernel
theorem dL_holds_105 : decode cL_holds 105 = .ok (.aload_n 1, 1) := by decide +kernel
theorem dL_holds_106 : decode cL_holds 106 = .ok (.invokevirtual 116, 3) := by decide +kernel
theorem dL_holds_109 : decode cL_holds 109 = .ok (.iconst 1, 1) := by decide +kernel
theorem dL_holds_110 : decode cL_holds 110 = .ok (.if_icmp .ne 7, 3) := by decide +kernel
theorem dL_holds_113 : decode cL_holds 113 = .ok (.iconst 1, 1) := by decide +kernel
theorem dL_holds_114 : decode cL_holds 114 = .ok (.goto 4, 3) := by decide +kernel
theorem dL_holds_117 : decode cL_holds 117 = .ok (.iconst 0, 1) := by decide +kernel
theorem dL_holds_118 : decode cL_holds 118 = .ok (.istore 10, 2) := by decide +kernel
theorem dL_holds_120 : decode cL_holds 120 = .ok (.iconst 0, 1) := by decide +kernel
theorem dL_holds_121 : decode cL_holds 121 = .ok (.istore 11, 2) := by decide +kernel
theorem dL_holds_123 : decode cL_holds 123 = .ok (.iload 11, 2) := by decide +kernel
theorem dL_holds_125 : decode cL_holds 125 = .ok (.bipush 60, 2) := by decide +kernel
theorem dL_holds_127 : decode cL_holds 127 = .ok (.if_icmp .ge 106, 3) := by decide +kernel
theorem dL_holds_130 : decode cL_holds 130 = .ok (.iload 10, 2) := by decide +kernel
theorem dL_holds_132 : decode cL_holds 132 = .ok (.ifCond .eq 101, 3) := by decide +kernel
theorem dL_holds_135 : decode cL_holds 135 = .ok (.iload 11, 2) := by decide +kernel
theorem dL_holds_137 : decode cL_holds 137 = .ok (.iconst 5, 1) := by decide +kernel
theorem dL_holds_138 : decode cL_holds 138 = .ok (.if_icmp .ge 7, 3) := by decide +kernel
theorem dL_holds_141 : decode cL_holds 141 = .ok (.iconst 0, 1) := by decide +kernel
theorem dL_holds_142 : decode cL_holds 142 = .ok (.goto 13, 3) := by decide +kernel
theorem dL_holds_145 : decode cL_holds 145 = .ok (.aload_n 0, 1) := by decide +kernel
theorem dL_holds_146 : decode cL_holds 146 = .ok (.iconst 2, 1) := by decide +kernel
theorem dL_holds_147 : decode cL_holds 147 = .ok (.iload 11, 2) := by decide +kernel
theorem dL_holds_149 : decode cL_holds 149 = .ok (.imul, 1) := by decide +kernel
theorem dL_holds_150 : decode cL_holds 150 = .ok (.bipush 18, 2) := by decide +kernel
theorem dL_holds_152 : decode cL_holds 152 = .ok (.invokestatic 130, 3) := by decide +kernel
theorem dL_holds_155 : decode cL_holds 155 = .ok (.istore 12, 2) := by decide +kernel
theorem dL_holds_157 : decode cL_holds 157 = .ok (.aload_n 1, 1) := by decide +kernel
theorem dL_holds_158 : decode cL_holds 158 = .ok (.aload_n 2, 1) := by decide +kernel
theorem dL_holds_159 : decode cL_holds 159 = .ok (.aload_n 3, 1) := by decide +kernel
theorem dL_holds_160 : decode cL_holds 160 = .ok (.aload 4, 2) := by decide +kernel
theorem dL_holds_162 : decode cL_holds 162 = .ok (.aload 5, 2) := by decide +kernel
theorem dL_holds_164 : decode cL_holds 164 = .ok (.aload 6, 2) := by decide +kernel
theorem dL_holds_166 : decode cL_holds 166 = .ok (.aload 7, 2) := by decide +kernel
theorem dL_holds_168 : decode cL_holds 168 = .ok (.aload 8, 2) := by decide +kernel
theorem dL_holds_170 : decode cL_holds 170 = .ok (.aload 9, 2) := by decide +kernel
theorem dL_holds_172 : decode cL_holds 172 = .ok (.iload 12, 2) := by decide +kernel
theorem dL_holds_174 : decode cL_holds 174 = .ok (.aload_n 0, 1) := by decide +kernel
theorem dL_holds_175 : decode cL_holds 175 = .ok (.iconst 2, 1) := by decide +kernel
theorem dL_holds_176 : decode cL_holds 176 = .ok (.iload 11, 2) := by decide +kernel
theorem dL_holds_178 : decode cL_holds 178 = .ok (.imul, 1) := by decide +kernel
theorem dL_holds_179 : decode cL_holds 179 = .ok (.iconst 1, 1) := by decide +kernel
theorem dL_holds_180 : decode cL_holds 180 = .ok (.iadd, 1) := by decide +kernel
theorem dL_holds_181 : decode cL_holds 181 = .ok (.ldc 134, 2) := by decide +kernel
theorem dL_holds_183 : decode cL_holds 183 = .ok (.invokestatic 130, 3) := by decide +kernel
theorem dL_holds_186 : decode cL_holds 186 = .ok (.invokestatic 135, 3) := by decide +kernel
theorem dL_holds_189 : decode cL_holds 189 = .ok (.ifCond .eq 35, 3) := by decide +kernel
theorem dL_holds_192 : decode cL_holds 192 = .ok (.iload 11, 2) := by decide +kernel
theorem dL_holds_194 : decode cL_holds 194 = .ok (.iconst 2, 1) := by decide +kernel
theorem dL_holds_195 : decode cL_holds 195 = .ok (.irem, 1) := by decide +kernel
theorem dL_holds_196 : decode cL_holds 196 = .ok (.ifCond .eq 24, 3) := by decide +kernel
theorem dL_holds_199 : decode cL_holds 199 = .ok (.aload_n 1, 1) := by decide +kernel
theorem dL_holds_200 : decode cL_holds 200 = .ok (.aload_n 2, 1) := by decide +kernel
theorem dL_holds_201 : decode cL_holds 201 = .ok (.aload_n 3, 1) := by decide +kernel
theorem dL_holds_202 : decode cL_holds 202 = .ok (.aload 4, 2) := by decide +kernel
theorem dL_holds_204 : decode cL_holds 204 = .ok (.aload 5, 2) := by decide +kernel
theorem dL_holds_206 : decode cL_holds 206 = .ok (.aload 6, 2) := by decide +kernel
theorem dL_holds_208 : decode cL_holds 208 = .ok (.aload 7, 2) := by decide +kernel
theorem dL_holds_210 : decode cL_holds 210 = .ok (.aload 8, 2) := by decide +kernel
theorem dL_holds_212 : decode cL_holds 212 = .ok (.aload 9, 2) := by decide +kernel
theorem dL_holds_214 : decode cL_holds 214 = .ok (.invokestatic 139, 3) := by decide +kernel
theorem dL_holds_217 : decode cL_holds 217 = .ok (.ifCond .eq 7, 3) := by decide +kernel
theorem dL_holds_220 : decode cL_holds 220 = .ok (.iconst 1, 1) := by decide +kernel
theorem dL_holds_221 : decode cL_holds 221 = .ok (.goto 4, 3) := by decide +kernel
theorem dL_holds_224 : decode cL_holds 224 = .ok (.iconst 0, 1) := by decide +kernel
theorem dL_holds_225 : decode cL_holds 225 = .ok (.istore 10, 2) := by decide +kernel
theorem dL_holds_227 : decode cL_holds 227 = .ok (.iinc 11 1, 3) := by decide +kernel
theorem dL_holds_230 : decode cL_holds 230 = .ok (.goto (-107), 3) := by decide +kernel
theorem dL_holds_233 : decode cL_holds 233 = .ok (.iload 10, 2) := by decide +kernel
theorem dL_holds_235 : decode cL_holds 235 = .ok (.ifCond .eq 28, 3) := by decide +kernel
theorem dL_holds_238 : decode cL_holds 238 = .ok (.aload_n 1, 1) := by decide +kernel
theorem dL_holds_239 : decode cL_holds 239 = .ok (.aload_n 2, 1) := by decide +kernel
theorem dL_holds_240 : decode cL_holds 240 = .ok (.aload_n 3, 1) := by decide +kernel
theorem dL_holds_241 : decode cL_holds 241 = .ok (.aload 4, 2) := by decide +kernel
theorem dL_holds_243 : decode cL_holds 243 = .ok (.aload 5, 2) := by decide +kernel
theorem dL_holds_245 : decode cL_holds 245 = .ok (.aload 6, 2) := by decide +kernel
theorem dL_holds_247 : decode cL_holds 247 = .ok (.aload 7, 2) := by decide +kernel
theorem dL_holds_249 : decode cL_holds 249 = .ok (.aload 8, 2) := by decide +kernel
theorem dL_holds_251 : decode cL_holds 251 = .ok (.aload 9, 2) := by decide +kernel
theorem dL_holds_253 : decode cL_holds 253 = .ok (.invokestatic 139, 3) := by decide +kernel
theorem dL_holds_256 : decode cL_holds 256 = .ok (.ifCond .eq 7, 3) := by decide +kernel
theorem dL_holds_259 : decode cL_holds 259 = .ok (.iconst 1, 1) := by decide +kernel
theorem dL_holds_260 : decode cL_holds 260 = .ok (.goto 4, 3) := by decide +kernel
theorem dL_holds_263 : decode cL_holds 263 = .ok (.iconst 0, 1) := by decide +kernel
theorem dL_holds_264 : decode cL_holds 264 = .ok (.ireturn, 1) := by decide +kernel
theorem dL_isHeld_0 : decode cL_isHeld 0 = .ok (.aload_n 0, 1) := by decide +kernel
theorem dL_isHeld_1 : decode cL_isHeld 1 = .ok (.invokestatic 143, 3) := by decide +kernel
theorem dL_isHeld_4 : decode cL_isHeld 4 = .ok (.ireturn, 1) := by decide +kernel
theorem dL_isHeld_5 : decode cL_isHeld 5 = .ok (.astore_n 1, 1) := by decide +kernel
theorem dL_isHeld_6 : decode cL_isHeld 6 = .ok (.iconst 0, 1) := by decide +kernel
theorem dL_isHeld_7 : decode cL_isHeld 7 = .ok (.ireturn, 1) := by decide +kernel
theorem dL_isHeld_8 : decode cL_isHeld 8 = .ok (.astore_n 1, 1) := by decide +kernel
theorem dL_isHeld_9 : decode cL_isHeld 9 = .ok (.iconst 0, 1) := by decide +kernel
theorem dL_isHeld_10 : decode cL_isHeld 10 = .ok (.ireturn, 1) := by decide +kernel
theorem dL_isHeld_11 : decode cL_isHeld 11 = .ok (.astore_n 1, 1) := by decide +kernel
theorem dL_isHeld_12 : decode cL_isHeld 12 = .ok (.iconst 0, 1) := by decide +kernel
theorem dL_isHeld_13 : decode cL_isHeld 13 = .ok (.ireturn, 1) := by decide +kernel
end
section
theorem dJ7_fill_53178_0 : decode cJ7_fill_53178 0 = .ok (.iconst 0, 1) := by decide +kernel
theorem dJ7_fill_53178_1 : decode cJ7_fill_53178 1 = .ok (.istore_n 2, 1) := by decide +kernel
theorem dJ7_fill_53178_2 : decode cJ7_fill_53178 2 = .ok (.aload_n 0, 1) := by decide +kernel
theorem dJ7_fill_53178_3 : decode cJ7_fill_53178 3 = .ok (.arraylength, 1) := by decide +kernel
theorem dJ7_fill_53178_4 : decode cJ7_fill_53178 4 = .ok (.istore_n 3, 1) := by decide +kernel
theorem dJ7_fill_53178_5 : decode cJ7_fill_53178 5 = .ok (.iload_n 2, 1) := by decide +kernel
theorem dJ7_fill_53178_6 : decode cJ7_fill_53178 6 = .ok (.iload_n 3, 1) := by decide +kernel
theorem dJ7_fill_53178_7 : decode cJ7_fill_53178 7 = .ok (.if_icmp .ge 13, 3) := by decide +kernel
theorem dJ7_fill_53178_10 : decode cJ7_fill_53178 10 = .ok (.aload_n 0, 1) := by decide +kernel
theorem dJ7_fill_53178_11 : decode cJ7_fill_53178 11 = .ok (.iload_n 2, 1) := by decide +kernel
theorem dJ7_fill_53178_12 : decode cJ7_fill_53178 12 = .ok (.iload_n 1, 1) := by decide +kernel
theorem dJ7_fill_53178_13 : decode cJ7_fill_53178 13 = .ok (.iastore, 1) := by decide +kernel
theorem dJ7_fill_53178_14 : decode cJ7_fill_53178 14 = .ok (.iinc 2 1, 3) := by decide +kernel
theorem dJ7_fill_53178_17 : decode cJ7_fill_53178 17 = .ok (.goto (-12), 3) := by decide +kernel
theorem dJ7_fill_53178_20 : decode cJ7_fill_53178 20 = .ok (.return_, 1) := by decide +kernel
end
