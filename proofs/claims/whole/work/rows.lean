section
-- ===== PART A: goes FIRST, ahead of the names: the tables' words, and 'selects' of the private methods out of them =====
/-- a private method of a class that the tables say can be made, by its rows of tables_1 -/
def lw_okq (q : MethodName × Nat) : Prop := (q.1.cls ≠ "java/lang/invoke/MethodHandle" ∧ q.1.cls ≠ "java/lang/invoke/VarHandle") ∧ Cond.instantiable q.1.cls q.2 ∈ tables_1 ∧ Cond.privateMethod q.1 ∈ tables_1 ∧ Cond.instanceMethod q.1 ∈ tables_1
theorem lw_p0 : lw_okq (⟨"RateFitter", "changedByRound", "()I"⟩, 16) := ⟨⟨by decide +kernel, by decide +kernel⟩, List.mem_of_getElem? (i := 12) (by decide +kernel), List.mem_of_getElem? (i := 81) (by decide +kernel), List.mem_of_getElem? (i := 82) (by decide +kernel)⟩
theorem lw_p1 : lw_okq (⟨"RateFitter", "passOver", "(I)I"⟩, 16) := ⟨⟨by decide +kernel, by decide +kernel⟩, List.mem_of_getElem? (i := 12) (by decide +kernel), List.mem_of_getElem? (i := 85) (by decide +kernel), List.mem_of_getElem? (i := 86) (by decide +kernel)⟩
theorem lw_p2 : lw_okq (⟨"RateFitter", "foundFactor", "(II)I"⟩, 16) := ⟨⟨by decide +kernel, by decide +kernel⟩, List.mem_of_getElem? (i := 12) (by decide +kernel), List.mem_of_getElem? (i := 91) (by decide +kernel), List.mem_of_getElem? (i := 92) (by decide +kernel)⟩
theorem lw_p3 : lw_okq (⟨"RateFitter", "levelTotal", "([JII)J"⟩, 16) := ⟨⟨by decide +kernel, by decide +kernel⟩, List.mem_of_getElem? (i := 12) (by decide +kernel), List.mem_of_getElem? (i := 95) (by decide +kernel), List.mem_of_getElem? (i := 96) (by decide +kernel)⟩
theorem lw_p4 : lw_okq (⟨"RateFitter", "refit", "()V"⟩, 16) := ⟨⟨by decide +kernel, by decide +kernel⟩, List.mem_of_getElem? (i := 12) (by decide +kernel), List.mem_of_getElem? (i := 110) (by decide +kernel), List.mem_of_getElem? (i := 111) (by decide +kernel)⟩
theorem lw_p5 : lw_okq (⟨"RateFitter", "total", "([J)J"⟩, 16) := ⟨⟨by decide +kernel, by decide +kernel⟩, List.mem_of_getElem? (i := 12) (by decide +kernel), List.mem_of_getElem? (i := 114) (by decide +kernel), List.mem_of_getElem? (i := 115) (by decide +kernel)⟩
theorem lw_p6 : lw_okq (⟨"RateFitter", "fittedLoss", "(I)J"⟩, 16) := ⟨⟨by decide +kernel, by decide +kernel⟩, List.mem_of_getElem? (i := 12) (by decide +kernel), List.mem_of_getElem? (i := 119) (by decide +kernel), List.mem_of_getElem? (i := 120) (by decide +kernel)⟩
theorem lw_p7 : lw_okq (⟨"RateFitter", "cappedTotal", "()J"⟩, 16) := ⟨⟨by decide +kernel, by decide +kernel⟩, List.mem_of_getElem? (i := 12) (by decide +kernel), List.mem_of_getElem? (i := 127) (by decide +kernel), List.mem_of_getElem? (i := 128) (by decide +kernel)⟩
theorem lw_p8 : lw_okq (⟨"RateFitter", "cappedPremium", "(I)J"⟩, 16) := ⟨⟨by decide +kernel, by decide +kernel⟩, List.mem_of_getElem? (i := 12) (by decide +kernel), List.mem_of_getElem? (i := 131) (by decide +kernel), List.mem_of_getElem? (i := 132) (by decide +kernel)⟩
theorem lw_p9 : lw_okq (⟨"RateFitter", "newPremium", "(I)J"⟩, 16) := ⟨⟨by decide +kernel, by decide +kernel⟩, List.mem_of_getElem? (i := 12) (by decide +kernel), List.mem_of_getElem? (i := 135) (by decide +kernel), List.mem_of_getElem? (i := 136) (by decide +kernel)⟩
theorem lw_p10 : lw_okq (⟨"java/lang/Throwable", "fillInStackTrace", "(I)Ljava/lang/Throwable;"⟩, 6) := ⟨⟨by decide +kernel, by decide +kernel⟩, List.mem_of_getElem? (i := 208) (by decide +kernel), List.mem_of_getElem? (i := 206) (by decide +kernel), List.mem_of_getElem? (i := 207) (by decide +kernel)⟩
theorem lw_p11 : lw_okq (⟨"RateFitter", "hasRow", "(I)Z"⟩, 16) := ⟨⟨by decide +kernel, by decide +kernel⟩, List.mem_of_getElem? (i := 12) (by decide +kernel), List.mem_of_getElem? (i := 267) (by decide +kernel), List.mem_of_getElem? (i := 268) (by decide +kernel)⟩
theorem lw_p12 : lw_okq (⟨"RateFitter", "lowestFallingLevel", "(I)I"⟩, 16) := ⟨⟨by decide +kernel, by decide +kernel⟩, List.mem_of_getElem? (i := 12) (by decide +kernel), List.mem_of_getElem? (i := 330) (by decide +kernel), List.mem_of_getElem? (i := 331) (by decide +kernel)⟩
theorem lw_p13 : lw_okq (⟨"RateFitter", "joinToLevelAhead", "(II)V"⟩, 16) := ⟨⟨by decide +kernel, by decide +kernel⟩, List.mem_of_getElem? (i := 12) (by decide +kernel), List.mem_of_getElem? (i := 334) (by decide +kernel), List.mem_of_getElem? (i := 335) (by decide +kernel)⟩
theorem lw_p14 : lw_okq (⟨"RateFitter", "groupMean", "(II)I"⟩, 16) := ⟨⟨by decide +kernel, by decide +kernel⟩, List.mem_of_getElem? (i := 12) (by decide +kernel), List.mem_of_getElem? (i := 338) (by decide +kernel), List.mem_of_getElem? (i := 339) (by decide +kernel)⟩
theorem lw_p15 : lw_okq (⟨"RateFitter", "changedSinceBefore", "(I)I"⟩, 16) := ⟨⟨by decide +kernel, by decide +kernel⟩, List.mem_of_getElem? (i := 12) (by decide +kernel), List.mem_of_getElem? (i := 342) (by decide +kernel), List.mem_of_getElem? (i := 343) (by decide +kernel)⟩
def lw_privs_1 : List (MethodName × Nat) := [(⟨"RateFitter", "changedByRound", "()I"⟩, 16), (⟨"RateFitter", "passOver", "(I)I"⟩, 16), (⟨"RateFitter", "foundFactor", "(II)I"⟩, 16), (⟨"RateFitter", "levelTotal", "([JII)J"⟩, 16), (⟨"RateFitter", "refit", "()V"⟩, 16), (⟨"RateFitter", "total", "([J)J"⟩, 16), (⟨"RateFitter", "fittedLoss", "(I)J"⟩, 16), (⟨"RateFitter", "cappedTotal", "()J"⟩, 16), (⟨"RateFitter", "cappedPremium", "(I)J"⟩, 16), (⟨"RateFitter", "newPremium", "(I)J"⟩, 16), (⟨"java/lang/Throwable", "fillInStackTrace", "(I)Ljava/lang/Throwable;"⟩, 6), (⟨"RateFitter", "hasRow", "(I)Z"⟩, 16), (⟨"RateFitter", "lowestFallingLevel", "(I)I"⟩, 16), (⟨"RateFitter", "joinToLevelAhead", "(II)V"⟩, 16), (⟨"RateFitter", "groupMean", "(II)I"⟩, 16), (⟨"RateFitter", "changedSinceBefore", "(I)I"⟩, 16)]
theorem lw_r1 : ∀ q ∈ lw_privs_1, lw_okq q := List.forall_mem_cons.mpr ⟨lw_p0, List.forall_mem_cons.mpr ⟨lw_p1, List.forall_mem_cons.mpr ⟨lw_p2, List.forall_mem_cons.mpr ⟨lw_p3, List.forall_mem_cons.mpr ⟨lw_p4, List.forall_mem_cons.mpr ⟨lw_p5, List.forall_mem_cons.mpr ⟨lw_p6, List.forall_mem_cons.mpr ⟨lw_p7, List.forall_mem_cons.mpr ⟨lw_p8, List.forall_mem_cons.mpr ⟨lw_p9, List.forall_mem_cons.mpr ⟨lw_p10, List.forall_mem_cons.mpr ⟨lw_p11, List.forall_mem_cons.mpr ⟨lw_p12, List.forall_mem_cons.mpr ⟨lw_p13, List.forall_mem_cons.mpr ⟨lw_p14, List.forall_mem_cons.mpr ⟨lw_p15, fun _ h => absurd h List.not_mem_nil⟩⟩⟩⟩⟩⟩⟩⟩⟩⟩⟩⟩⟩⟩⟩⟩
theorem lw_p16 : lw_okq (⟨"RateFitter", "placeOf", "(I)I"⟩, 16) := ⟨⟨by decide +kernel, by decide +kernel⟩, List.mem_of_getElem? (i := 12) (by decide +kernel), List.mem_of_getElem? (i := 405) (by decide +kernel), List.mem_of_getElem? (i := 406) (by decide +kernel)⟩
theorem lw_p17 : lw_okq (⟨"RateFitter", "isAhead", "(II)Z"⟩, 16) := ⟨⟨by decide +kernel, by decide +kernel⟩, List.mem_of_getElem? (i := 12) (by decide +kernel), List.mem_of_getElem? (i := 409) (by decide +kernel), List.mem_of_getElem? (i := 410) (by decide +kernel)⟩
theorem lw_p18 : lw_okq (⟨"RateFitterModel", "goes", "(ZZZ)Z"⟩, 14) := ⟨⟨by decide +kernel, by decide +kernel⟩, List.mem_of_getElem? (i := 414) (by decide +kernel), List.mem_of_getElem? (i := 485) (by decide +kernel), List.mem_of_getElem? (i := 486) (by decide +kernel)⟩
theorem lw_p19 : lw_okq (⟨"RateFitterModel", "isRow", "(I)Z"⟩, 14) := ⟨⟨by decide +kernel, by decide +kernel⟩, List.mem_of_getElem? (i := 414) (by decide +kernel), List.mem_of_getElem? (i := 493) (by decide +kernel), List.mem_of_getElem? (i := 494) (by decide +kernel)⟩
theorem lw_p20 : lw_okq (⟨"RateFitterModel", "count", "()I"⟩, 14) := ⟨⟨by decide +kernel, by decide +kernel⟩, List.mem_of_getElem? (i := 414) (by decide +kernel), List.mem_of_getElem? (i := 497) (by decide +kernel), List.mem_of_getElem? (i := 498) (by decide +kernel)⟩
theorem lw_p21 : lw_okq (⟨"RateFitterModel", "passes", "(I)I"⟩, 14) := ⟨⟨by decide +kernel, by decide +kernel⟩, List.mem_of_getElem? (i := 414) (by decide +kernel), List.mem_of_getElem? (i := 519) (by decide +kernel), List.mem_of_getElem? (i := 520) (by decide +kernel)⟩
theorem lw_p22 : lw_okq (⟨"RateFitterModel", "fittedOf", "(II)J"⟩, 14) := ⟨⟨by decide +kernel, by decide +kernel⟩, List.mem_of_getElem? (i := 414) (by decide +kernel), List.mem_of_getElem? (i := 523) (by decide +kernel), List.mem_of_getElem? (i := 524) (by decide +kernel)⟩
theorem lw_p23 : lw_okq (⟨"RateFitterModel", "baseNow", "()J"⟩, 14) := ⟨⟨by decide +kernel, by decide +kernel⟩, List.mem_of_getElem? (i := 414) (by decide +kernel), List.mem_of_getElem? (i := 527) (by decide +kernel), List.mem_of_getElem? (i := 528) (by decide +kernel)⟩
theorem lw_p24 : lw_okq (⟨"RateFitterModel", "has", "(III)Z"⟩, 14) := ⟨⟨by decide +kernel, by decide +kernel⟩, List.mem_of_getElem? (i := 414) (by decide +kernel), List.mem_of_getElem? (i := 531) (by decide +kernel), List.mem_of_getElem? (i := 532) (by decide +kernel)⟩
theorem lw_p25 : lw_okq (⟨"RateFitterModel", "fit", "(IJ)J"⟩, 14) := ⟨⟨by decide +kernel, by decide +kernel⟩, List.mem_of_getElem? (i := 414) (by decide +kernel), List.mem_of_getElem? (i := 535) (by decide +kernel), List.mem_of_getElem? (i := 536) (by decide +kernel)⟩
theorem lw_p26 : lw_okq (⟨"RateFitterModel", "claimed", "(II)J"⟩, 14) := ⟨⟨by decide +kernel, by decide +kernel⟩, List.mem_of_getElem? (i := 414) (by decide +kernel), List.mem_of_getElem? (i := 539) (by decide +kernel), List.mem_of_getElem? (i := 540) (by decide +kernel)⟩
theorem lw_p27 : lw_okq (⟨"RateFitterModel", "told", "(II)J"⟩, 14) := ⟨⟨by decide +kernel, by decide +kernel⟩, List.mem_of_getElem? (i := 414) (by decide +kernel), List.mem_of_getElem? (i := 543) (by decide +kernel), List.mem_of_getElem? (i := 544) (by decide +kernel)⟩
theorem lw_p28 : lw_okq (⟨"RateFitterModel", "bounded", "(J)I"⟩, 14) := ⟨⟨by decide +kernel, by decide +kernel⟩, List.mem_of_getElem? (i := 414) (by decide +kernel), List.mem_of_getElem? (i := 547) (by decide +kernel), List.mem_of_getElem? (i := 548) (by decide +kernel)⟩
theorem lw_p29 : lw_okq (⟨"RateFitterModel", "lowestLess", "(I)I"⟩, 14) := ⟨⟨by decide +kernel, by decide +kernel⟩, List.mem_of_getElem? (i := 414) (by decide +kernel), List.mem_of_getElem? (i := 561) (by decide +kernel), List.mem_of_getElem? (i := 562) (by decide +kernel)⟩
theorem lw_p30 : lw_okq (⟨"RateFitterModel", "means", "(III)V"⟩, 14) := ⟨⟨by decide +kernel, by decide +kernel⟩, List.mem_of_getElem? (i := 414) (by decide +kernel), List.mem_of_getElem? (i := 565) (by decide +kernel), List.mem_of_getElem? (i := 566) (by decide +kernel)⟩
theorem lw_p31 : lw_okq (⟨"RateFitterModel", "exposed", "(II)J"⟩, 14) := ⟨⟨by decide +kernel, by decide +kernel⟩, List.mem_of_getElem? (i := 414) (by decide +kernel), List.mem_of_getElem? (i := 569) (by decide +kernel), List.mem_of_getElem? (i := 570) (by decide +kernel)⟩
def lw_privs_2 : List (MethodName × Nat) := [(⟨"RateFitter", "placeOf", "(I)I"⟩, 16), (⟨"RateFitter", "isAhead", "(II)Z"⟩, 16), (⟨"RateFitterModel", "goes", "(ZZZ)Z"⟩, 14), (⟨"RateFitterModel", "isRow", "(I)Z"⟩, 14), (⟨"RateFitterModel", "count", "()I"⟩, 14), (⟨"RateFitterModel", "passes", "(I)I"⟩, 14), (⟨"RateFitterModel", "fittedOf", "(II)J"⟩, 14), (⟨"RateFitterModel", "baseNow", "()J"⟩, 14), (⟨"RateFitterModel", "has", "(III)Z"⟩, 14), (⟨"RateFitterModel", "fit", "(IJ)J"⟩, 14), (⟨"RateFitterModel", "claimed", "(II)J"⟩, 14), (⟨"RateFitterModel", "told", "(II)J"⟩, 14), (⟨"RateFitterModel", "bounded", "(J)I"⟩, 14), (⟨"RateFitterModel", "lowestLess", "(I)I"⟩, 14), (⟨"RateFitterModel", "means", "(III)V"⟩, 14), (⟨"RateFitterModel", "exposed", "(II)J"⟩, 14)]
theorem lw_r2 : ∀ q ∈ lw_privs_2, lw_okq q := List.forall_mem_cons.mpr ⟨lw_p16, List.forall_mem_cons.mpr ⟨lw_p17, List.forall_mem_cons.mpr ⟨lw_p18, List.forall_mem_cons.mpr ⟨lw_p19, List.forall_mem_cons.mpr ⟨lw_p20, List.forall_mem_cons.mpr ⟨lw_p21, List.forall_mem_cons.mpr ⟨lw_p22, List.forall_mem_cons.mpr ⟨lw_p23, List.forall_mem_cons.mpr ⟨lw_p24, List.forall_mem_cons.mpr ⟨lw_p25, List.forall_mem_cons.mpr ⟨lw_p26, List.forall_mem_cons.mpr ⟨lw_p27, List.forall_mem_cons.mpr ⟨lw_p28, List.forall_mem_cons.mpr ⟨lw_p29, List.forall_mem_cons.mpr ⟨lw_p30, List.forall_mem_cons.mpr ⟨lw_p31, fun _ h => absurd h List.not_mem_nil⟩⟩⟩⟩⟩⟩⟩⟩⟩⟩⟩⟩⟩⟩⟩⟩
theorem lw_p32 : lw_okq (⟨"RateFitterModel", "allCapped", "()J"⟩, 14) := ⟨⟨by decide +kernel, by decide +kernel⟩, List.mem_of_getElem? (i := 414) (by decide +kernel), List.mem_of_getElem? (i := 577) (by decide +kernel), List.mem_of_getElem? (i := 578) (by decide +kernel)⟩
theorem lw_p33 : lw_okq (⟨"RateFitterModel", "cappedOf", "(I)J"⟩, 14) := ⟨⟨by decide +kernel, by decide +kernel⟩, List.mem_of_getElem? (i := 414) (by decide +kernel), List.mem_of_getElem? (i := 581) (by decide +kernel), List.mem_of_getElem? (i := 582) (by decide +kernel)⟩
theorem lw_p34 : lw_okq (⟨"RateFitterModel", "premiumOf", "(I)J"⟩, 14) := ⟨⟨by decide +kernel, by decide +kernel⟩, List.mem_of_getElem? (i := 414) (by decide +kernel), List.mem_of_getElem? (i := 585) (by decide +kernel), List.mem_of_getElem? (i := 586) (by decide +kernel)⟩
theorem lw_p35 : lw_okq (⟨"RateFitterModel", "allFitted", "()J"⟩, 14) := ⟨⟨by decide +kernel, by decide +kernel⟩, List.mem_of_getElem? (i := 414) (by decide +kernel), List.mem_of_getElem? (i := 589) (by decide +kernel), List.mem_of_getElem? (i := 590) (by decide +kernel)⟩
theorem lw_p36 : lw_okq (⟨"RateFitterModel", "ranked", "(I)I"⟩, 14) := ⟨⟨by decide +kernel, by decide +kernel⟩, List.mem_of_getElem? (i := 414) (by decide +kernel), List.mem_of_getElem? (i := 638) (by decide +kernel), List.mem_of_getElem? (i := 639) (by decide +kernel)⟩
theorem lw_p37 : lw_okq (⟨"RateFitterModel", "isAhead", "(IIJ)Z"⟩, 14) := ⟨⟨by decide +kernel, by decide +kernel⟩, List.mem_of_getElem? (i := 414) (by decide +kernel), List.mem_of_getElem? (i := 642) (by decide +kernel), List.mem_of_getElem? (i := 643) (by decide +kernel)⟩
def lw_privs_3 : List (MethodName × Nat) := [(⟨"RateFitterModel", "allCapped", "()J"⟩, 14), (⟨"RateFitterModel", "cappedOf", "(I)J"⟩, 14), (⟨"RateFitterModel", "premiumOf", "(I)J"⟩, 14), (⟨"RateFitterModel", "allFitted", "()J"⟩, 14), (⟨"RateFitterModel", "ranked", "(I)I"⟩, 14), (⟨"RateFitterModel", "isAhead", "(IIJ)Z"⟩, 14)]
theorem lw_r3 : ∀ q ∈ lw_privs_3, lw_okq q := List.forall_mem_cons.mpr ⟨lw_p32, List.forall_mem_cons.mpr ⟨lw_p33, List.forall_mem_cons.mpr ⟨lw_p34, List.forall_mem_cons.mpr ⟨lw_p35, List.forall_mem_cons.mpr ⟨lw_p36, List.forall_mem_cons.mpr ⟨lw_p37, fun _ h => absurd h List.not_mem_nil⟩⟩⟩⟩⟩⟩
def lw_privs : List (MethodName × Nat) := lw_privs_1 ++ (lw_privs_2 ++ (lw_privs_3))
def lw_tbl : List Cond := k2_sels lw_privs ++ tables_1
theorem lw_privs_ok : ∀ q ∈ lw_privs, lw_okq q := by
  show ∀ q ∈ lw_privs_1 ++ (lw_privs_2 ++ (lw_privs_3)), lw_okq q
  exact List.forall_mem_append.mpr ⟨lw_r1, List.forall_mem_append.mpr ⟨lw_r2, lw_r3⟩⟩
-- ===== end of PART A; then your names; then what follows =====
end
section
/-! ===== BEGIN words of one list among another's, by their places ===== -/
theorem goodIn_r {big : List Cond} (ws : List Cond) (ps : List Nat) (hp : ws = ps.filterMap (fun i => big[i]?)) (h : ws.all goodWord = true) : GoodIn big ws := by
  intro w hw
  have h1 := List.all_eq_true.mp h w hw
  rw [hp] at hw
  obtain ⟨i, -, hi⟩ := List.mem_filterMap.mp hw
  have hm : w ∈ big := by first | exact List.mem_of_getElem? hi | exact List.getElem?_mem hi
  exact ⟨hm, good_of_word h1⟩
theorem goodIn_app {big a b : List Cond} (ha : GoodIn big a) (hb : GoodIn big b) : GoodIn big (a ++ b) := fun w h => (List.mem_append.mp h).elim (ha w) (hb w)
theorem goodIn_ca {big a b : List Cond} {c : Cond} (ha : GoodIn big (c :: a)) (hb : GoodIn big b) : GoodIn big (c :: (a ++ b)) := fun w h => (List.mem_cons.mp h).elim (fun e => ha w (List.mem_cons.mpr (Or.inl e))) (fun h => (List.mem_append.mp h).elim (fun h => ha w (List.mem_cons.mpr (Or.inr h))) (hb w))
theorem goodIn_sub {big ws : List Cond} (hm : ∀ w ∈ ws, w ∈ big) (h : ws.all goodWord = true) : GoodIn big ws := fun w hw => ⟨hm w hw, good_of_word (List.all_eq_true.mp h w hw)⟩
/-! ===== END ===== -/

/-- what the tables say of an array of arrays (the printed names use this word and do not define it) -/
def va_AOA (ty : FieldType) (U : State) : Prop := (Cond.arrayOver (.array ty)).before #[] U = true
theorem va_AOA.of {ty : FieldType} {A : Array Value} {U : State} (h : (Cond.arrayOver (.array ty)).before A U = true) : va_AOA ty U := h
theorem va_AOA.use {ty : FieldType} {A : Array Value} {U : State} (h : va_AOA ty U) : (Cond.arrayOver (.array ty)).before A U = true := h
/-! ===== BEGIN new T[n][m]: the outer array a place, the inner ones among the pooled ===== -/
/-- f, but v at every address of l -/
def vr_up {α : Type} (f : Nat → α) (l : List Nat) (v : α) : Nat → α := fun a => if a ∈ l then v else f a
theorem vr_up_in {α : Type} {f : Nat → α} {l : List Nat} {v : α} {a : Nat} (h : a ∈ l) : vr_up f l v a = v := if_pos h
theorem vr_up_ne {α : Type} {f : Nat → α} {l : List Nat} {v : α} {a : Nat} (h : a ∉ l) : vr_up f l v a = f a := if_neg h
theorem vr_rows {L l : List Nat} {f : Nat → va_E} {e : va_E} (h : ∀ a, a ∈ l → a ∉ L) : va_pl L f ++ l.map (fun a => (a, e)) = va_pl (L ++ l) (vr_up f l e) := by
  unfold va_pl
  rw [List.map_append]
  congr 1
  · apply List.map_congr_left
    intro a ha
    rw [vr_up_ne (fun q => h a q ha)]
  · apply List.map_congr_left
    intro a ha
    rw [vr_up_in ha]
theorem vr_lay {X rows : va_W} {x : Nat × va_E} {pl : va_W} {D : va_G} {cl : List vw_C} {H : Heap} (hP : va_P D cl (((X ++ pl) ++ [x]) ++ rows) H) : va_P D cl ((X ++ [x]) ++ (pl ++ rows)) H := by
  rw [List.append_assoc (X ++ pl)] at hP
  have h := va_P.swap hP
  rw [← List.append_assoc X] at h
  have h2 := va_P.swap h
  rw [List.append_assoc (X ++ [x])] at h2
  exact h2
theorem vr_layD {X rows : va_W} {x : Nat × va_E} {pl : va_W} {A : Nat → Prop} (hD : va_D A (((X ++ pl) ++ [x]) ++ rows)) : va_D A ((X ++ [x]) ++ (pl ++ rows)) := by
  rw [List.append_assoc (X ++ pl)] at hD
  have h := va_D.swap hD
  rw [← List.append_assoc X] at h
  have h2 := va_D.swap h
  rw [List.append_assoc (X ++ [x])] at h2
  exact h2
theorem vr_outer (c : ClassId) (N h0 : Nat) : ∀ i : Nat, Jvm.Free.Multi.outerC c N h0 i = arrV c N (fun j => va_rf (if j < i then some (h0 + 1 + j) else none))
  | 0 => by
    show ({ cls := c, slots := Array.replicate N .null, vm := .none } : Cell) = _
    rw [arrV_new]
    refine congrArg (arrV c N) (funext fun j => ?_)
    simp [va_rf]
  | i + 1 => by
    show (Jvm.Free.Multi.outerC c N h0 i).setSlot i (.ref (h0 + 1 + i)) = _
    rw [vr_outer c N h0 i, arrV_store]
    refine congrArg (arrV c N) (funext fun j => ?_)
    by_cases e : j = i
    · subst e
      simp [updV, va_rf]
    · by_cases h : j < i
      · simp [updV, e, h, Nat.lt_succ_of_lt h]
      · simp [updV, e, h, show ¬ j < i + 1 by omega]
section VGM
variable {p : Program} {l : Launch} {e : Env} {R : Room} {s : State} {m : MethodId} {args : Array Value} {below : List Frame} {meth : Method} {c : Code} {H : Heap} {locs : List Loc} {cells slots : Nat} {Q : State → Prop}
variable {cc : ByteArray} {pc : Nat} {ls : Array Slot} {rest : List Value} {D : va_G} {cl : List vw_C} {A : Nat → Prop} {a : Nat} {tys : List (ClassId × FieldType)} {ws : va_W} {H0 : Heap}
theorem va_mna {X : va_W} {L : List Nat} {f : Nat → va_E} {cc : ByteArray} (hexec : p.tables.exec = Jvm.exec) (hb : c.code = cc) {own : String} {index : Nat} {ty : FieldType} {cy : ClassId} (hown : s.vm.findClass own = some m.cls) (hclink : (Cond.classLink own index ("[" ++ (FieldType.array ty).toString)).before args s = true) (hover : va_AOA ty s) (harr : (Cond.arrayClass ty).before args s = true) (hcy : s.vm.findClass (FieldType.array ty).toString = some cy)
    (hK : va_K D cl tys s) (hP : va_P D cl (X ++ va_pl L f) H) (hD : va_D A (X ++ va_pl L f)) (hS : va_S A H0 H locs) (hA : ∀ q, H0.size ≤ q → A q) {n k : Int32} {N' K' : Nat} {z : vp_A} (hn : ¬ n < 0) (hk : ¬ k < 0) (hN : n.toNatClampNeg = N') (hM : k.toNatClampNeg = K')
    (hb1 : N' * 4 ≤ 536870912) (hb2 : K' * componentBytes ty ≤ 536870912) (hb3 : K' ≤ 536870912) (hdf : fits ty (defaultValue ty) = true) (hdd : (defaultValue ty).isDefault = true) (hcells : cells + (1 + N') ≤ R.cells) (hslots : slots + (N' + N' * K') ≤ R.slots) (hz : ∀ c : ClassId, Jvm.Free.Multi.innerC c K' (defaultValue ty) = vp_cell c z) (hdg : decode cc pc = .ok (.multianewarray index 2, 4))
    (kk : ∀ (q : Nat) (r : Nat → Nat) (cA : ClassId) (H1 : Heap), (∀ i j : Nat, i < N' → j < N' → r i = r j → i = j) → (∀ i : Nat, i < N' → r i ∉ L) → va_K D cl (tys ++ [(cA, .array ty)]) s →
      va_P D cl ((X ++ [(q, .inl (cA, N', .inr (.inr (.inr (.inr (fun i => if i < N' then some (r i) else none))))))]) ++ va_pl (L ++ (List.range N').map r) (vr_up f ((List.range N').map r) (.inl (cy, z)))) H1 → va_D A ((X ++ [(q, .inl (cA, N', .inr (.inr (.inr (.inr (fun i => if i < N' then some (r i) else none))))))]) ++ va_pl (L ++ (List.range N').map r) (vr_up f ((List.range N').map r) (.inl (cy, z)))) → va_S A H0 H1 locs →
      W p l e R s m args below meth c H1 locs (cells + 1 + N') (slots + N' + N' * K') Q (F0 m (pc + 4) ls (.ref q :: rest))) : W p l e R s m args below meth c H locs cells slots Q (F0 m pc ls (.int k :: .int n :: rest)) := by
  subst hN
  subst hM
  intro T hT Xs
  obtain ⟨vm₁, cA, comp, -, fA, fC, hO, -, X', step⟩ := Xs.multianewarray2F hexec hown hclink (va_AOA.use hover) harr (g := F0 m pc ls (.int k :: .int n :: rest)) rfl (by rw [hb]; exact hdg) rfl hn hk hb1 hb2 hb3 hdf hdd hcells hslots
  have ec : some cy = some comp := hcy.symm.trans fC
  cases ec
  generalize hF : Jvm.Free.Multi.fill (T.setVm vm₁) cA cy n.toNatClampNeg k.toNatClampNeg (defaultValue ty) n.toNatClampNeg = F at X' step
  have hTh : (T.setVm vm₁).heap = H := hT
  obtain ⟨f1, f2, -, -⟩ := Jvm.Free.Multi.fill_facts (T.setVm vm₁) cA cy n.toNatClampNeg k.toNatClampNeg (defaultValue ty) n.toNatClampNeg
  rw [hF, hTh] at f1 f2
  have hold : ∀ x : Nat, x < H.size → F.heap[x]? = H[x]? := fun x hx => by
    have := Jvm.Free.Multi.fill_old (T.setVm vm₁) cA cy n.toNatClampNeg k.toNatClampNeg (defaultValue ty) (a := x) (by rw [hTh]; exact hx) n.toNatClampNeg
    rw [hF, hTh] at this
    exact this
  have hrow : ∀ j : Nat, j < n.toNatClampNeg → F.heap[H.size + 1 + j]? = some (vp_cell cy z) := fun j hj => by
    have := Jvm.Free.Multi.fill_inner (T.setVm vm₁) cA cy n.toNatClampNeg k.toNatClampNeg (defaultValue ty) n.toNatClampNeg j hj
    rw [hF, hTh, hz] at this
    exact this
  have hout : Jvm.Free.Multi.outerC cA n.toNatClampNeg H.size n.toNatClampNeg = vp_cell cA (n.toNatClampNeg, .inr (.inr (.inr (.inr (fun i => if i < n.toNatClampNeg then some (H.size + 1 + i) else none))))) := by
    rw [vp_cell_q]
    exact vr_outer cA n.toNatClampNeg H.size n.toNatClampNeg
  rw [hout] at f2
  have hlt : ∀ a, a ∈ L → a < H.size := fun a ha => by
    obtain ⟨k9, hk9⟩ := va_pl_get (X := X) (f := f) ha
    exact (hP k9 _ hk9).lt
  have hnl : ∀ i : Nat, i < n.toNatClampNeg → H.size + 1 + i ∉ L := fun i _ h => by
    have := hlt _ h
    omega
  have hnm : ∀ a, a ∈ (List.range n.toNatClampNeg).map (fun i => H.size + 1 + i) → a ∉ L := fun a ha h => by
    obtain ⟨i, -, rfl⟩ := List.mem_map.mp ha
    have := hlt _ h
    omega
  have hP0 : va_P D cl (X ++ va_pl L f) F.heap := hP.kept (fun k9 x hx => hold x.1 ((hP k9 x hx).lt))
  have hP1 : va_P D cl ((X ++ va_pl L f) ++ [(H.size, .inl (cA, n.toNatClampNeg, .inr (.inr (.inr (.inr (fun i => if i < n.toNatClampNeg then some (H.size + 1 + i) else none))))))]) F.heap := hP0.app (fun k9 x hx => by
    have h0 : k9 < 1 := (List.getElem?_eq_some_iff.mp hx).1
    rw [show k9 = 0 by omega] at hx
    cases hx
    exact f2)
  have hP2 : va_P D cl (((X ++ va_pl L f) ++ [(H.size, .inl (cA, n.toNatClampNeg, .inr (.inr (.inr (.inr (fun i => if i < n.toNatClampNeg then some (H.size + 1 + i) else none))))))]) ++ ((List.range n.toNatClampNeg).map (fun i => H.size + 1 + i)).map (fun a => (a, .inl (cy, z)))) F.heap := hP1.app (fun k9 x hx => by
    obtain ⟨a, ha, rfl⟩ := List.mem_map.mp (List.mem_of_getElem? hx)
    obtain ⟨i, hi, rfl⟩ := List.mem_map.mp ha
    exact hrow i (List.mem_range.mp hi))
  have hD2 : va_D A (((X ++ va_pl L f) ++ [(H.size, .inl (cA, n.toNatClampNeg, .inr (.inr (.inr (.inr (fun i => if i < n.toNatClampNeg then some (H.size + 1 + i) else none))))))]) ++ ((List.range n.toNatClampNeg).map (fun i => H.size + 1 + i)).map (fun a => (a, .inl (cy, z)))) := by
    have hD1 := hD.push (e := .inl (cA, n.toNatClampNeg, .inr (.inr (.inr (.inr (fun i => if i < n.toNatClampNeg then some (H.size + 1 + i) else none)))))) hP rfl (hA _ hS.1)
    generalize hW1 : (X ++ va_pl L f) ++ [(H.size, .inl (cA, n.toNatClampNeg, .inr (.inr (.inr (.inr (fun i => if i < n.toNatClampNeg then some (H.size + 1 + i) else none))))))] = W1 at hD1 hP1 ⊢
    have hle : ∀ (k9 : Nat) (x : Nat × va_E), W1[k9]? = some x → x.1 ≤ H.size := fun k9 x hx => by
      rw [← hW1] at hx
      by_cases hl : k9 < (X ++ va_pl L f).length
      · rw [List.getElem?_append_left hl] at hx
        exact Nat.le_of_lt ((hP k9 x hx).lt)
      · rw [List.getElem?_append_right (by omega)] at hx
        have h0 : k9 - (X ++ va_pl L f).length < 1 := (List.getElem?_eq_some_iff.mp hx).1
        rw [show k9 - (X ++ va_pl L f).length = 0 by omega] at hx
        cases hx
        exact Nat.le_refl _
    have hr : ∀ (k9 : Nat) (x : Nat × va_E), (((List.range n.toNatClampNeg).map (fun i => H.size + 1 + i)).map (fun a => ((a, .inl (cy, z)) : Nat × va_E)))[k9]? = some x → x.1 = H.size + 1 + k9 := fun k9 x hx => by
      rw [List.getElem?_map, List.getElem?_map] at hx
      by_cases h9 : k9 < n.toNatClampNeg
      · rw [List.getElem?_range h9] at hx
        cases hx
        rfl
      · have hn0 : (List.range n.toNatClampNeg)[k9]? = none := List.getElem?_eq_none (by rw [List.length_range]; omega)
        rw [hn0] at hx
        cases hx
    refine ⟨fun i j x y hi hj hxy => ?_, fun k9 x hx => ?_⟩
    · by_cases h1 : i < W1.length <;> by_cases h2 : j < W1.length
      · rw [List.getElem?_append_left h1] at hi
        rw [List.getElem?_append_left h2] at hj
        exact hD1.1 i j x y hi hj hxy
      · rw [List.getElem?_append_left h1] at hi
        rw [List.getElem?_append_right (by omega)] at hj
        have := hle _ _ hi
        have := hr _ _ hj
        omega
      · rw [List.getElem?_append_right (by omega)] at hi
        rw [List.getElem?_append_left h2] at hj
        have := hle _ _ hj
        have := hr _ _ hi
        omega
      · rw [List.getElem?_append_right (by omega)] at hi hj
        have := hr _ _ hi
        have := hr _ _ hj
        omega
    · by_cases h1 : k9 < W1.length
      · rw [List.getElem?_append_left h1] at hx
        exact hD1.2 k9 x hx
      · rw [List.getElem?_append_right (by omega)] at hx
        have := hr _ _ hx
        exact hA _ (by have := hS.1; omega)
  have hAr : ArrOfT s cA (.array ty) := fun N9 z9 => by
    obtain ⟨-, k9, hk9, cm9, hkk9⟩ := (hO 0 0 0).1
    exact ⟨(fun q hq => by cases hq), k9, hk9, cm9, hkk9⟩
  have hK2 : va_K D cl (tys ++ [(cA, .array ty)]) s := ⟨hK.1, fun k9 x hx => by
    by_cases hl : k9 < tys.length
    · rw [List.getElem?_append_left hl] at hx
      exact hK.2 k9 x hx
    · rw [List.getElem?_append_right (by omega)] at hx
      have h0 : k9 - tys.length < 1 := (List.getElem?_eq_some_iff.mp hx).1
      rw [show k9 - tys.length = 0 by omega] at hx
      cases hx
      exact ⟨hAr, fA⟩⟩
  obtain ⟨t, a1, b1⟩ := kk H.size (fun i => H.size + 1 + i) cA F.heap (fun i j _ _ h => by have h9 : H.size + 1 + i = H.size + 1 + j := h; omega) hnl hK2 (by rw [← vr_rows hnm]; exact vr_lay hP2) (by rw [← vr_rows hnm]; exact vr_layD hD2) ⟨by rw [f1]; have := hS.1; omega, fun x h1 h2 => (hold x (Nat.lt_of_lt_of_le h1 hS.1)).trans (hS.2.1 x h1 h2), hS.2.2⟩ F rfl X'
  refine ⟨t, step t ?_, b1⟩
  have e : T.heap.size = H.size := by rw [hT]
  rw [e]
  exact a1
end VGM
/-! ===== END ===== -/

/-! ===== BEGIN exceptions that leave a method, and their catching by the caller (launches without stack traces) ===== -/
section VXA
/-! The laws vx_back, vx_callV, vx_callS, vx_callSW, vx_throw0, vx_throwS follow proofs of the library, with one case more: JvmDerived/Free/Laws.lean (Back.of_free), Shelf42/LK1.lean (callV, callS), Shelf/KitTraced.lean (throwNew0V, throwNewS). -/
/-- where a method has thrown q: the class by its name, the cell, what was written, the world -/
def vx_T (XC : String → State → State → Prop) (st : State) (q : Addr) (t : State) (mc ms : Nat) (free : Addr → Prop) : Prop :=
  ∃ (E : String) (ce : Cell) (L : List Loc), XC E st t ∧ t.heap[q]? = some ce ∧ ce.vm = .none ∧ st.vm.findClass E = some ce.cls ∧ st.WarmedH t.vm ∧ st.sameButNew ({ t with vm := st.vm } : State) L mc ms ∧ ∀ z ∈ L, free z.base
def vx_Q (Qc : Array Value → State → Outcome → State → Prop) (XC : String → State → State → Prop) (mc ms : Nat) (free : Addr → Prop) : Array Value → State → Outcome → State → Prop := fun a st o t =>
  (Qc a st o t ∧ ∃ L, FrameEnd st o t L mc ms ∧ ∀ q ∈ L, free q.base) ∨ ∃ q, o = .threw q ∧ vx_T XC st q t mc ms free
/-- a callee that returns or throws -/
def vx_Met (l : Launch) (y : MethodName) (ws : List Cond) (rm : Room) (Pc : Array Value → State → Prop) (Qc : Array Value → State → Outcome → State → Prop) (XC : String → State → State → Prop) (mc ms : Nat) (free : Addr → Prop) : Prop :=
  MetFree l y (headSpec ws rm) Pc (fun _ _ _ _ _ => True) (vx_Q Qc XC mc ms free)
def vx_Post (XC : String → State → State → Prop) (mc ms : Nat) (free : Addr → Prop) : Pt → Array Value → Addr → Pt → Prop := fun A a q B =>
  ∃ (g : JFrame) (mk : MethodId) (t : State) (L : List Loc) (E : String) (ce : Cell), B.U.heap = t.heap ∧ B.U.vm = t.vm ∧ XC E (A.U.calling g mk a) t ∧ t.heap[q]? = some ce ∧ ce.vm = .none ∧ A.U.vm.findClass E = some ce.cls ∧ B.locs = A.locs ++ L ∧ (∀ z ∈ L, free z.base) ∧ B.cells = A.cells + mc ∧ B.slots = A.slots + ms
def vx_Back (l : Launch) (R : Room) (p : Program) (e : Env) (below : List Frame) (s : State) (sargs : Array Value) (y : MethodName) (len W9 : Nat)
    (Pre : Pt → Array Value → Prop) (Post : Pt → Array Value → Option Value → Pt → Prop) (PostX : Pt → Array Value → Addr → Pt → Prop) : Prop :=
  ∀ (m : MethodId) (meth : Method) (c : Code) (A : Pt) (g : JFrame) (ig : Instr) (mk : MethodId) (a : Array Value),
    Stand p l e R s m sargs below meth c A.U A.locs A.cells A.slots → g.method = m → g.locals.size = c.maxLocals → decode c.code g.pc = .ok (ig, len) →
    2 * g.monitorRoom + (g.stack.map fun v => v.category).sum ≤ W9 → A.U.methodNamed? y = some mk → Pre A a →
    (∃ (v : Option Value) (B : Pt), Stand p l e R s m sargs below meth c B.U B.locs B.cells B.slots ∧ Post A a v B ∧
      Steps p.tables e below (doInvoke e (A.U.setTop g) [] mk a).1 (B.U.setTop { g with pc := g.pc + len, stack := v.toList ++ g.stack })) ∨
    (∃ (q : Addr) (B : Pt), Stand p l e R s m sargs below meth c B.U B.locs B.cells B.slots ∧ PostX A a q B ∧
      Steps p.tables e below (doInvoke e (A.U.setTop g) [] mk a).1 ((B.U.setTop g).pushFrame (.throwing q)))
section Payer
variable {l : Launch} {R : Room} {p : Program} {e : Env} {below : List Frame} {s : State} {sargs : Array Value} {y : MethodName} {len W9 : Nat}
theorem vx_back {ws : List Cond} {rm : Room} {Pc : Array Value → State → Prop} {Qc : Array Value → State → Outcome → State → Prop} {XC : String → State → State → Prop} {mc ms : Nat} {free : Addr → Prop} {bytes : ByteArray} {maxL : Nat} {ret : Option FieldType}
    (hM : vx_Met l y ws rm Pc Qc XC mc ms free) (hblind : FrameBlind Pc) (hrc : rm.cells = mc) (hrs : rm.slots = ms)
    (hframes : rm.frames + 1 ≤ R.frames) (hlocals : W9 + (maxL + 11) + rm.locals ≤ R.locals)
    (hws : ∀ w ∈ ws, ∀ a' U, s.WarmedH U.vm → w.before a' U = true) (hcode : Cond.code y bytes maxL ret ∈ ws) (hinit : ∀ a' U, s.WarmedH U.vm → (Cond.initialized y.cls).before a' U = true) :
    vx_Back l R p e below s sargs y len W9 (PreOf R mc ms Pc) (PostOf Qc mc ms free) (vx_Post XC mc ms free) := by
  intro m meth c A g ig mk a X hg hsize hdg hW hn hp
  have h1 : (headSpec ws rm).pre.before a A.U = true := atoms_intro fun w hw => hws w hw _ _ X.warmed
  have h2 : (Cond.code y bytes maxL ret).before a A.U = true := hws _ hcode _ _ X.warmed
  have h3 : (Cond.initialized y.cls).before a A.U = true := hinit _ _ X.warmed
  have h4 : A.cells + (headSpec ws rm).room.cells ≤ R.cells := by rw [show (headSpec ws rm).room.cells = mc from hrc]; exact hp.1
  have h5 : A.slots + (headSpec ws rm).room.slots ≤ R.slots := by rw [show (headSpec ws rm).room.slots = ms from hrs]; exact hp.2.1
  have hPc : Pc a (A.U.calling g mk a) := hblind _ _ _ _ hp.2.2
  obtain ⟨U, Ls, c0, s0⟩ := A
  dsimp only [Pt.U, Pt.locs, Pt.cells, Pt.slots] at h1 h2 h3 h4 h5 X hn hPc ⊢
  obtain ⟨methY, cY, hmY, hcY, -, hlY, -, -, -, -⟩ := Cond.code_spec hn h2
  obtain ⟨kY, hkY, -⟩ := className_of_methodNamed hn
  have hinitY : kY.init = .initialized := Cond.initialized_spec (findClass_of_methodNamed hn) hkY h3
  have h : At U g.method c below := by rw [hg]; exact X.here
  have hlocals9 : W9 + (maxL + 11) + (headSpec ws rm).room.locals ≤ R.locals := hlocals
  have happ : (headSpec ws rm).appliesLoose y e.platform (U.calling g mk a) = true :=
    Spec.appliesLoose_calling (g := g) h hdg hn hkY hinitY
      (X.room_calling (g := g) (R' := (headSpec ws rm).room) hsize hmY hcY hframes (by rw [hlY]; omega) h4 h5) h1
  obtain ⟨mid, hmid⟩ := h.above
  have hfr : (U.setTop g).frames = (.java g :: mid) ++ below := by rw [State.frames_setTop' g h.top, hmid]; rfl
  obtain ⟨o, s₂, hsteps, -, hend, hq⟩ := Steps.callFree hM p X.admits X.cas X.clock (acts := []) hfr happ hPc trivial
  have hq' : vx_Q Qc XC mc ms free a (U.calling g mk a) o s₂ := hq
  rw [State.frames_setTop' g h.top] at hend
  obtain ⟨g₀, hg0⟩ := Option.isSome_iff_exists.mp h.top
  obtain ⟨r, hr⟩ := State.topJava?_eq_some.mp hg0
  have hr' : (({ U with heap := s₂.heap, slotsUsed := s₂.slotsUsed } : State).setVm s₂.vm).frames = .java g₀ :: r := hr
  rcases hq' with ⟨hqc, L, hfe, hL⟩ | ⟨q, rfl, E, ce, L, hx, hce, hcv, hcl, hW₂, hsm, hL⟩
  · obtain ⟨⟨v, rfl⟩, hW₂, e2, q2, q3, q4, q5, q6⟩ := id hfe
    have e3 : s₂ = ({ (U.calling g mk a).setFrames s₂.frames with heap := s₂.heap, slotsUsed := s₂.slotsUsed } : State).setVm s₂.vm := by
      have : s₂ = ({ s₂ with vm := (U.calling g mk a).vm } : State).setVm s₂.vm := rfl
      rw [e2] at this
      exact this
    obtain ⟨c₂, i₂, len₂, hc₂, hd₂, hf₂⟩ := hend
    have hW' : U.WarmedH s₂.vm := hW₂
    have hcc : c₂ = c := by
      have h1 : s₂.code? g.method = U.code? g.method := by
        rw [State.code?_eq, State.code?_eq, hW'.alike.method?]
      exact Option.some.inj (hc₂.symm.trans (h1.trans h.code))
    subst hcc
    have hlen : len₂ = len := by rw [hdg] at hd₂; cases hd₂; rfl
    subst hlen
    have hs₂ : s₂ = (({ U with heap := s₂.heap, slotsUsed := s₂.slotsUsed } : State).setVm s₂.vm).setTop { g with pc := g.pc + len₂, stack := v.toList ++ g.stack } := by
      refine e3.trans ?_
      rw [hf₂, State.calling_eq h.top, State.setFrames_setFrames, State.setTop_of_frames _ hr', hr]
      rfl
    have hsame : U.sameButNew ({ U with heap := s₂.heap, slotsUsed := s₂.slotsUsed } : State) L mc ms := by
      refine ⟨?_, q2, q3, q4, q5, q6⟩
      obtain ⟨t, ht, -⟩ := State.frames_cons hr
      show ({ U with heap := s₂.heap, slotsUsed := s₂.slotsUsed } : State) = { U.setFrames U.frames with heap := s₂.heap, slotsUsed := s₂.slotsUsed }
      rw [State.setFrames_self ht]
    subst hg
    refine Or.inl ⟨v, ⟨(({ U with heap := s₂.heap, slotsUsed := s₂.slotsUsed } : State).setVm s₂.vm), Ls ++ L, c0 + mc, s0 + ms⟩,
      ⟨X.admits, X.cas, X.clock, X.frames, X.room, X.hears, X.method, X.code, (X.here.setHeapUsed s₂.heap s₂.slotsUsed).setVm hW'.alike, X.tail, State.WarmedH.trans X.warmed hW', X.limits, X.bytes, X.same.trans (hsame.setVm s.vm)⟩,
      ⟨g, mk, s₂, L, rfl, rfl, hqc, rfl, hL, rfl, rfl⟩, ?_⟩
    show Steps p.tables e below _ ((({ U with heap := s₂.heap, slotsUsed := s₂.slotsUsed } : State).setVm s₂.vm).setTop { g with pc := g.pc + len₂, stack := v.toList ++ g.stack })
    rw [← hs₂]
    exact hsteps
  · obtain ⟨e2, q2, q3, q4, q5, q6⟩ := id hsm
    have e3 : s₂ = ({ (U.calling g mk a).setFrames s₂.frames with heap := s₂.heap, slotsUsed := s₂.slotsUsed } : State).setVm s₂.vm := by
      have : s₂ = ({ s₂ with vm := (U.calling g mk a).vm } : State).setVm s₂.vm := rfl
      rw [e2] at this
      exact this
    have hf₂ : s₂.frames = .throwing q :: .java g :: U.frames.tail := hend
    have hW' : U.WarmedH s₂.vm := hW₂
    have hs₂ : s₂ = ((({ U with heap := s₂.heap, slotsUsed := s₂.slotsUsed } : State).setVm s₂.vm).setTop g).pushFrame (.throwing q) := by
      refine e3.trans ?_
      rw [hf₂, State.calling_eq h.top, State.setFrames_setFrames, State.pushFrame, State.frames_setTop _ hr', State.setTop_of_frames _ hr', State.setFrames_setFrames, hr]
      rfl
    have hsame : U.sameButNew ({ U with heap := s₂.heap, slotsUsed := s₂.slotsUsed } : State) L mc ms := by
      refine ⟨?_, q2, q3, q4, q5, q6⟩
      obtain ⟨t, ht, -⟩ := State.frames_cons hr
      show ({ U with heap := s₂.heap, slotsUsed := s₂.slotsUsed } : State) = { U.setFrames U.frames with heap := s₂.heap, slotsUsed := s₂.slotsUsed }
      rw [State.setFrames_self ht]
    subst hg
    refine Or.inr ⟨q, ⟨(({ U with heap := s₂.heap, slotsUsed := s₂.slotsUsed } : State).setVm s₂.vm), Ls ++ L, c0 + mc, s0 + ms⟩,
      ⟨X.admits, X.cas, X.clock, X.frames, X.room, X.hears, X.method, X.code, (X.here.setHeapUsed s₂.heap s₂.slotsUsed).setVm hW'.alike, X.tail, State.WarmedH.trans X.warmed hW', X.limits, X.bytes, X.same.trans (hsame.setVm s.vm)⟩,
      ⟨g, mk, s₂, L, E, ce, rfl, rfl, hx, hce, hcv, hcl, rfl, hL, rfl, rfl⟩, ?_⟩
    show Steps p.tables e below _ (((({ U with heap := s₂.heap, slotsUsed := s₂.slotsUsed } : State).setVm s₂.vm).setTop g).pushFrame (.throwing q))
    rw [← hs₂]
    exact hsteps
end Payer
section Calls
variable {p : Program} {l : Launch} {e : Env} {R : Room} {s : State} {m : MethodId} {args : Array Value} {below : List Frame} {meth : Method} {c : Code} {T : State} {locs : List Loc} {cells slots : Nat}
theorem vx_callV (X : Stand p l e R s m args below meth c T locs cells slots) (hexec : p.tables.exec = Jvm.exec) {own C : String} {index : Nat} {y : MethodName} {bytes : ByteArray} {maxL : Nat} {ret : Option FieldType}
    (hown : s.vm.findClass own = some m.cls) (hlink : (Cond.methodLink own index y).before args s = true) (hinst : (Cond.instanceMethod y).before args s = true) (hsel : (Cond.selects C y y).before args s = true)
    (hcode : (Cond.code y bytes maxL ret).before args s = true) (hy : y.cls ≠ "java/lang/invoke/MethodHandle" ∧ y.cls ≠ "java/lang/invoke/VarHandle")
    {W9 : Nat} {Pre : Pt → Array Value → Prop} {Post : Pt → Array Value → Option Value → Pt → Prop} {PostX : Pt → Array Value → Addr → Pt → Prop} (hK : vx_Back l R p e below s args y 3 W9 Pre Post PostX)
    {b : Addr} {cellB : Cell} (hcell : T.heap[b]? = some cellB) (hobj : cellB.vm.isStatics = false) (hcls : s.vm.findClass C = some cellB.cls)
    {g : JFrame} (hg : g.method = m) (hsize : g.locals.size = c.maxLocals) {argsL rest : List Value} (hlen : ∀ sig, parseMethodDescriptor y.desc = some sig → argsL.length = sig.parameters.length)
    (hstack : g.stack = argsL.reverse ++ .ref b :: rest) (hW : 2 * g.monitorRoom + (rest.map fun v => v.category).sum ≤ W9) (hdg : decode c.code g.pc = .ok (.invokevirtual index, 3))
    (hpre : ∀ vm₁, s.WarmedH vm₁ → Pre ⟨T.setVm vm₁, locs, cells, slots⟩ (Value.ref b :: argsL).toArray) :
    (∃ (v : Option Value) (vm₁ : Vm) (B : Pt), s.WarmedH vm₁ ∧ Stand p l e R s m args below meth c B.U B.locs B.cells B.slots ∧ Post ⟨T.setVm vm₁, locs, cells, slots⟩ (Value.ref b :: argsL).toArray v B ∧
      ∀ target, Steps p.tables e below (B.U.setTop { g with pc := g.pc + 3, stack := v.toList ++ rest }) target → Steps p.tables e below (T.setTop g) target) ∨
    (∃ (q : Addr) (vm₁ : Vm) (B : Pt), s.WarmedH vm₁ ∧ Stand p l e R s m args below meth c B.U B.locs B.cells B.slots ∧ PostX ⟨T.setVm vm₁, locs, cells, slots⟩ (Value.ref b :: argsL).toArray q B ∧
      Steps p.tables e below (T.setTop g) ((B.U.setTop { g with stack := rest }).pushFrame (.throwing q))) := by
  obtain ⟨mk, methM, hnamed, hmethM, hstM, habM⟩ := Cond.instanceMethod_spec hinst
  obtain ⟨methM', cM, hmethM', -, -, -, -, -, -, hsigM⟩ := Cond.code_spec hnamed hcode
  cases hmethM.symm.trans hmethM'
  obtain ⟨c2, r2, m2, q1, q2, q3, q4, kP, hkP, hkPi⟩ := Cond.selects_spec hsel
  cases hcls.symm.trans q1
  cases (State.methodFound?_of_named hnamed hy).symm.trans q2
  cases hnamed.symm.trans q3
  have hselP : selectMethod e.platform s.vm cellB.cls mk = .method mk := by rw [Launch.admits_selectMethod X.admits]; exact q4
  obtain ⟨vm₁, X₁, hstep₁⟩ := X.invokevirtual hexec hown hlink hnamed hmethM hstM hkP hkPi hy (a := b) (cell := cellB) hcell
    (fun z h => by rw [h] at hobj; cases hobj) hselP hmethM habM hkP hkPi (g := g) hg (argsL := argsL) (rest := rest) (hlen _ hsigM) hstack hdg
  rcases hK m meth c ⟨T.setVm vm₁, locs, cells, slots⟩ { g with stack := rest } (.invokevirtual index) mk (Value.ref b :: argsL).toArray X₁ hg hsize hdg hW (X₁.named hnamed) (hpre vm₁ X₁.warmed) with ⟨v, B, X', hpost, hsteps⟩ | ⟨q, B, X', hpost, hsteps⟩
  · exact Or.inl ⟨v, vm₁, B, X₁.warmed, X', hpost, fun target h => hstep₁ _ fun acts => by rw [doInvoke_state]; exact hsteps.trans h⟩
  · exact Or.inr ⟨q, vm₁, B, X₁.warmed, X', hpost, hstep₁ _ fun acts => by rw [doInvoke_state]; exact hsteps⟩
theorem vx_callS (X : Stand p l e R s m args below meth c T locs cells slots) (hexec : p.tables.exec = Jvm.exec) {own : String} {index : Nat} {y : MethodName} {bytes : ByteArray} {maxL : Nat} {ret : Option FieldType}
    (hown : s.vm.findClass own = some m.cls) (hlink : (Cond.methodLink own index y).before args s = true) (hstat : (Cond.static y).before args s = true) (hinit : (Cond.initialized y.cls).before args s = true)
    (hcode : (Cond.code y bytes maxL ret).before args s = true) (hy : y.cls ≠ "java/lang/invoke/MethodHandle" ∧ y.cls ≠ "java/lang/invoke/VarHandle")
    {W9 : Nat} {Pre : Pt → Array Value → Prop} {Post : Pt → Array Value → Option Value → Pt → Prop} {PostX : Pt → Array Value → Addr → Pt → Prop} (hK : vx_Back l R p e below s args y 3 W9 Pre Post PostX)
    {g : JFrame} (hg : g.method = m) (hsize : g.locals.size = c.maxLocals) {argsL rest : List Value} (hlen : ∀ sig, parseMethodDescriptor y.desc = some sig → argsL.length = sig.parameters.length)
    (hstack : g.stack = argsL.reverse ++ rest) (hW : 2 * g.monitorRoom + (rest.map fun v => v.category).sum ≤ W9) (hdg : decode c.code g.pc = .ok (.invokestatic index, 3))
    (hpre : ∀ vm₁, s.WarmedH vm₁ → Pre ⟨T.setVm vm₁, locs, cells, slots⟩ argsL.toArray) :
    (∃ (v : Option Value) (vm₁ : Vm) (B : Pt), s.WarmedH vm₁ ∧ Stand p l e R s m args below meth c B.U B.locs B.cells B.slots ∧ Post ⟨T.setVm vm₁, locs, cells, slots⟩ argsL.toArray v B ∧
      ∀ target, Steps p.tables e below (B.U.setTop { g with pc := g.pc + 3, stack := v.toList ++ rest }) target → Steps p.tables e below (T.setTop g) target) ∨
    (∃ (q : Addr) (vm₁ : Vm) (B : Pt), s.WarmedH vm₁ ∧ Stand p l e R s m args below meth c B.U B.locs B.cells B.slots ∧ PostX ⟨T.setVm vm₁, locs, cells, slots⟩ argsL.toArray q B ∧
      Steps p.tables e below (T.setTop g) ((B.U.setTop { g with stack := rest }).pushFrame (.throwing q))) := by
  obtain ⟨mk, hnamed⟩ := Cond.code_named hcode
  obtain ⟨methM, cM, hmethM, -, -, -, -, -, -, hsigM⟩ := Cond.code_spec hnamed hcode
  have hstatic : methM.isStatic = true := Cond.static_spec hnamed hmethM hstat
  obtain ⟨kP, hkP, -⟩ := className_of_methodNamed hnamed
  have hinitP : kP.init = .initialized := Cond.initialized_spec (findClass_of_methodNamed hnamed) hkP hinit
  obtain ⟨vm₁, X₁, hstep₁⟩ := X.invokestatic hexec hown hlink hnamed hmethM hstatic hkP hinitP hy (g := g) hg (argsL := argsL) (rest := rest) (hlen _ hsigM) hstack hdg
  rcases hK m meth c ⟨T.setVm vm₁, locs, cells, slots⟩ { g with stack := rest } (.invokestatic index) mk argsL.toArray X₁ hg hsize hdg hW (X₁.named hnamed) (hpre vm₁ X₁.warmed) with ⟨v, B, X', hpost, hsteps⟩ | ⟨q, B, X', hpost, hsteps⟩
  · exact Or.inl ⟨v, vm₁, B, X₁.warmed, X', hpost, fun target h => hstep₁ _ fun acts => by rw [doInvoke_state]; exact hsteps.trans h⟩
  · exact Or.inr ⟨q, vm₁, B, X₁.warmed, X', hpost, hstep₁ _ fun acts => by rw [doInvoke_state]; exact hsteps⟩
end Calls
theorem vx_cls {s : State} {T : State} {vm₁ : Vm} {E : String} {k : ClassId} (hW : s.WarmedH vm₁) (h : (T.setVm vm₁).vm.findClass E = some k) : s.vm.findClass E = some k := by
  have h1 : vm₁.findClass E = some k := h
  rw [hW.alike.findClass] at h1
  exact h1
/-- the method's frame g, with q thrown over it -/
def vx_W (p : Program) (l : Launch) (e : Env) (R : Room) (s : State) (m : MethodId) (args : Array Value) (below : List Frame) (meth : Method) (c : Code) (H : Heap) (locs : List Loc) (cells slots : Nat) (Q : State → Prop) (g : JFrame) (q : Addr) : Prop :=
  ∀ T : State, T.heap = H → Stand p l e R s m args below meth c T locs cells slots → ∃ t, Steps p.tables e below ((T.setTop g).pushFrame (.throwing q)) t ∧ Q t
def vx_Run (p : Program) (l : Launch) (e : Env) (R : Room) (s : State) (m : MethodId) (args : Array Value) (below : List Frame) (meth : Method) (c : Code) (H : Heap) (locs : List Loc) (cells slots mc ms : Nat) (g : JFrame) (rest : List Value) (Qa : State → Outcome → State → Prop) (XC : String → State → State → Prop) (free : Addr → Prop) : Prop :=
  ∀ T : State, T.heap = H → Stand p l e R s m args below meth c T locs cells slots →
    (∃ (v : Option Value) (st₀ t T' : State) (L : List Loc), st₀.heap = H ∧ Stand p l e R s m args below meth c T' (locs ++ L) (cells + mc) (slots + ms) ∧ (∀ q ∈ L, free q.base) ∧ T'.heap = t.heap ∧ T'.vm = t.vm ∧ Qa st₀ (.returned v) t ∧
      Goes p e below T g T' { g with pc := g.pc + 3, stack := v.toList ++ rest }) ∨
    (∃ (q : Addr) (st₀ t T' : State) (L : List Loc) (E : String) (ce : Cell), st₀.heap = H ∧ Stand p l e R s m args below meth c T' (locs ++ L) (cells + mc) (slots + ms) ∧ (∀ z ∈ L, free z.base) ∧ T'.heap = t.heap ∧ T'.vm = t.vm ∧ XC E st₀ t ∧ t.heap[q]? = some ce ∧ ce.vm = .none ∧ s.vm.findClass E = some ce.cls ∧
      Steps p.tables e below (T.setTop g) ((T'.setTop { g with stack := rest }).pushFrame (.throwing q)))
def vx_X {S : Type} (px : S → Prop) (B : String → S → State → Prop) (A : Nat → Prop) : String → State → State → Prop := fun E st t => ∃ u : S, px u ∧ B E u t ∧ va_F A st t
section Runs
variable {p : Program} {l : Launch} {e : Env} {R : Room} {s : State} {m : MethodId} {args : Array Value} {below : List Frame} {meth : Method} {c : Code} {H : Heap} {locs : List Loc} {cells slots : Nat}
variable {y : MethodName} {bytes cc : ByteArray} {maxL nL mc ms n index : Nat} {ret : Option FieldType} {ws : List Cond} {rm : Room} {Pc : Array Value → State → Prop} {Qc : Array Value → State → Outcome → State → Prop} {XC : String → State → State → Prop} {free : Addr → Prop} {Ts : List Cond} {own C : String} {b : Addr} {As rest : List Value} {g : JFrame}
theorem vx_callBack (cb : CallB R s args own index y bytes maxL ret ws rm mc ms n) (hM : vx_Met l y ws rm Pc Qc XC mc ms free) (hbl : FrameBlind Pc) : vx_Back l R p e below s args y 3 8 (PreOf R mc ms Pc) (PostOf Qc mc ms free) (vx_Post XC mc ms free) := by
  obtain ⟨hrc, hrs, hfr, hlo, hws, hcw, -, hini, -⟩ := cb
  exact vx_back (bytes := bytes) (maxL := maxL) (ret := ret) hM hbl hrc hrs hfr hlo hws hcw (fun a' U hW => word_at hW (Or.inl (by first | rfl | simp [Cond.onTables, Cond.keeps, Cond.steady])) hini)
theorem vx_runV (S : CallFix p m c cc nL s args Ts own) (hM : vx_Met l y ws rm Pc Qc XC mc ms free) (cw : CallW R s args own C index y bytes maxL ret ws rm mc ms n) (hp : PreV s H C b Pc As)
    (hg : g.method = m) (hn : As.length = n) (hsize : g.locals.size = nL) (hstack : g.stack = As.reverse ++ .ref b :: rest) (hW : 2 * g.monitorRoom + (rest.map fun v => v.category).sum ≤ 8) (hdg : decode cc g.pc = .ok (.invokevirtual index, 3)) (hf : cells + mc ≤ R.cells ∧ slots + ms ≤ R.slots) :
    vx_Run p l e R s m args below meth c H locs cells slots mc ms g rest (Qc (Value.ref b :: As).toArray) XC free := by
  have hK : vx_Back l R p e below s args y 3 8 (PreOf R mc ms Pc) (PostOf Qc mc ms free) (vx_Post XC mc ms free) := vx_callBack cw.1 hM hp.1
  obtain ⟨⟨-, -, -, -, -, -, hcode, -, hy, hlen, hl⟩, hin, hse⟩ := cw
  obtain ⟨hx, hb, hml, ho, -⟩ := S
  obtain ⟨-, ⟨cellB, hcB, hoB, hclB⟩, hPc⟩ := hp
  intro T hT X
  rcases vx_callV X hx (C := C) (bytes := bytes) (maxL := maxL) (ret := ret) ho hl hin hse hcode hy hK (by rw [hT]; exact hcB) hoB hclB hg (hsize.trans hml.symm) (argsL := As) (rest := rest) (fun sig h => hn.trans (hlen sig h)) hstack hW (by rw [hb]; exact hdg)
    (fun vm₁ hW₁ => ⟨hf.1, hf.2, hPc (T.setVm vm₁) hT hW₁⟩) with ⟨v, vm₁, ⟨U', l2, c2, s2⟩, hW₁, X', ⟨g', mk, t, L, e1, e2, hq, h1, hL, h2, h3⟩, st⟩ | ⟨q, vm₁, ⟨U', l2, c2, s2⟩, hW₁, X', ⟨g', mk, t, L, E, ce, e1, e2, hq, hce, hcv, hcl, h1, hL, h2, h3⟩, st⟩
  · dsimp only [Pt.U, Pt.locs, Pt.cells, Pt.slots] at X' e1 e2 h1 h2 h3 st
    subst h1; subst h2; subst h3
    exact Or.inl ⟨v, (T.setVm vm₁).calling g' mk (Value.ref b :: As).toArray, t, U', L, hT, X', hL, e1, e2, hq, st⟩
  · dsimp only [Pt.U, Pt.locs, Pt.cells, Pt.slots] at X' e1 e2 h1 h2 h3 st hcl
    subst h1; subst h2; subst h3
    exact Or.inr ⟨q, (T.setVm vm₁).calling g' mk (Value.ref b :: As).toArray, t, U', L, E, ce, hT, X', hL, e1, e2, hq, hce, hcv, vx_cls hW₁ hcl, st⟩
theorem vx_runS (S : CallFix p m c cc nL s args Ts own) (hM : vx_Met l y ws rm Pc Qc XC mc ms free) (cw : CallB R s args own index y bytes maxL ret ws rm mc ms n ∧ (Cond.static y).before args s = true) (hp : PreS s H Pc As)
    (hg : g.method = m) (hn : As.length = n) (hsize : g.locals.size = nL) (hstack : g.stack = As.reverse ++ rest) (hW : 2 * g.monitorRoom + (rest.map fun v => v.category).sum ≤ 8) (hdg : decode cc g.pc = .ok (.invokestatic index, 3)) (hf : cells + mc ≤ R.cells ∧ slots + ms ≤ R.slots) :
    vx_Run p l e R s m args below meth c H locs cells slots mc ms g rest (Qc As.toArray) XC free := by
  have hK : vx_Back l R p e below s args y 3 8 (PreOf R mc ms Pc) (PostOf Qc mc ms free) (vx_Post XC mc ms free) := vx_callBack cw.1 hM hp.1
  obtain ⟨⟨-, -, -, -, -, -, hcode, hini, hy, hlen, hl⟩, hstt⟩ := cw
  obtain ⟨hx, hb, hml, ho, -⟩ := S
  intro T hT X
  rcases vx_callS X hx (bytes := bytes) (maxL := maxL) (ret := ret) ho hl hstt hini hcode hy hK hg (hsize.trans hml.symm) (argsL := As) (rest := rest) (fun sig h => hn.trans (hlen sig h)) hstack hW (by rw [hb]; exact hdg)
    (fun vm₁ hW₁ => ⟨hf.1, hf.2, hp.2 (T.setVm vm₁) hT hW₁⟩) with ⟨v, vm₁, ⟨U', l2, c2, s2⟩, hW₁, X', ⟨g', mk, t, L, e1, e2, hq, h1, hL, h2, h3⟩, st⟩ | ⟨q, vm₁, ⟨U', l2, c2, s2⟩, hW₁, X', ⟨g', mk, t, L, E, ce, e1, e2, hq, hce, hcv, hcl, h1, hL, h2, h3⟩, st⟩
  · dsimp only [Pt.U, Pt.locs, Pt.cells, Pt.slots] at X' e1 e2 h1 h2 h3 st
    subst h1; subst h2; subst h3
    exact Or.inl ⟨v, (T.setVm vm₁).calling g' mk As.toArray, t, U', L, hT, X', hL, e1, e2, hq, st⟩
  · dsimp only [Pt.U, Pt.locs, Pt.cells, Pt.slots] at X' e1 e2 h1 h2 h3 st hcl
    subst h1; subst h2; subst h3
    exact Or.inr ⟨q, (T.setVm vm₁).calling g' mk As.toArray, t, U', L, E, ce, hT, X', hL, e1, e2, hq, hce, hcv, vx_cls hW₁ hcl, st⟩
end Runs
section Rows
variable {p : Program} {l : Launch} {e : Env} {R : Room} {s : State} {m : MethodId} {args : Array Value} {below : List Frame} {meth : Method} {c : Code} {H : Heap} {locs : List Loc} {cells slots : Nat} {Q : State → Prop}
variable {mc ms : Nat} {free : Addr → Prop} {A0 A1 : Nat → Prop} {H0 : Heap} {a : Array Value} {pc : Nat} {ls : Array Slot} {st0 rest : List Value}
theorem vx_keep {st₀ t T' : State} {L : List Loc} (h0 : st₀.heap = H) (e1 : T'.heap = t.heap) (hS : va_S A0 H0 H locs) (hA : ∀ q, q < H.size → A1 q → A0 q) (hf : ∀ q, free q → A0 q) (hL : ∀ q ∈ L, free q.base) (hF : va_F A1 st₀ t) :
    H.size ≤ T'.heap.size ∧ (∀ q : Nat, q < H.size → ¬ A1 q → T'.heap[q]? = H[q]?) ∧ va_S A0 H0 T'.heap (locs ++ L) := by
  obtain ⟨hz, hk⟩ := hF
  rw [h0] at hz hk
  exact ⟨by rw [e1]; exact hz, fun q h1 h2 => by rw [e1]; exact hk q h1 h2,
    ⟨Nat.le_trans hS.1 (by rw [e1]; exact hz), fun q h1 h2 => by rw [e1, hk q (Nat.lt_of_lt_of_le h1 hS.1) (fun z => h2 (hA q (Nat.lt_of_lt_of_le h1 hS.1) z))]; exact hS.2.1 q h1 h2, fun q hq => by
      rcases List.mem_append.mp hq with h | h
      · exact hS.2.2 q h
      · exact hf _ (hL q h)⟩⟩
theorem vx_calli {S SX : Type} {post : Int32 → S → Prop} {px : SX → Prop} {B : S → State → Prop} {BX : String → SX → State → Prop} {AX : Nat → Prop} (hr : vx_Run p l e R s m args below meth c H locs cells slots mc ms (F0 m pc ls st0) rest (va_Qi post B A1 a) (vx_X px BX AX) free) (hS : va_S A0 H0 H locs) (hA : ∀ q, q < H.size → A1 q → A0 q) (hf : ∀ q, free q → A0 q) (hAX : ∀ q, q < H.size → AX q → A0 q)
    (kx : ∀ (E : String) (ce : Cell) (q9 : Addr) (u : SX) (t : State) (H1 : Heap) (locs1 : List Loc), t.heap = H1 → s.vm.Alike t.vm → px u → BX E u t → H.size ≤ H1.size → (∀ q : Nat, q < H.size → ¬ AX q → H1[q]? = H[q]?) → va_S A0 H0 H1 locs1 → H1[q9]? = some ce → ce.vm = .none → s.vm.findClass E = some ce.cls → vx_W p l e R s m args below meth c H1 locs1 (cells + mc) (slots + ms) Q (F0 m pc ls rest) q9)
    (kk : ∀ (r : Int32) (u : S) (t : State) (H1 : Heap) (locs1 : List Loc), t.heap = H1 → s.vm.Alike t.vm → post r u → B u t → H.size ≤ H1.size → (∀ q : Nat, q < H.size → ¬ A1 q → H1[q]? = H[q]?) → va_S A0 H0 H1 locs1 → W p l e R s m args below meth c H1 locs1 (cells + mc) (slots + ms) Q (F0 m (pc + 3) ls (.int r :: rest))) : W p l e R s m args below meth c H locs cells slots Q (F0 m pc ls st0) := by
  intro T hT X
  rcases hr T hT X with ⟨v, st₀, t, T', L, h0, X', hL, e1, e2, ⟨⟨r, u, hv, hp, hb⟩, hF⟩, st⟩ | ⟨q, st₀, t, T', L, E, ce, h0, X', hL, e1, e2, ⟨u, hp, hb, hF⟩, hce, hcv, hcl, st⟩
  · cases hv
    obtain ⟨k1, k2, k3⟩ := vx_keep h0 e1 hS hA hf hL hF
    obtain ⟨t2, a1, b1⟩ := kk r u t T'.heap (locs ++ L) e1.symm (by rw [← e2]; exact X'.warmed.alike) hp hb k1 k2 k3 T' rfl X'
    exact ⟨t2, st t2 a1, b1⟩
  · obtain ⟨k1, k2, k3⟩ := vx_keep h0 e1 hS hAX hf hL hF
    obtain ⟨t2, a1, b1⟩ := kx E ce q u t T'.heap (locs ++ L) e1.symm (by rw [← e2]; exact X'.warmed.alike) hp hb k1 k2 k3 (by rw [e1]; exact hce) hcv hcl T' rfl X'
    exact ⟨t2, st.trans a1, b1⟩
theorem vx_calll {S SX : Type} {post : Int64 → S → Prop} {px : SX → Prop} {B : S → State → Prop} {BX : String → SX → State → Prop} {AX : Nat → Prop} (hr : vx_Run p l e R s m args below meth c H locs cells slots mc ms (F0 m pc ls st0) rest (va_Ql post B A1 a) (vx_X px BX AX) free) (hS : va_S A0 H0 H locs) (hA : ∀ q, q < H.size → A1 q → A0 q) (hf : ∀ q, free q → A0 q) (hAX : ∀ q, q < H.size → AX q → A0 q)
    (kx : ∀ (E : String) (ce : Cell) (q9 : Addr) (u : SX) (t : State) (H1 : Heap) (locs1 : List Loc), t.heap = H1 → s.vm.Alike t.vm → px u → BX E u t → H.size ≤ H1.size → (∀ q : Nat, q < H.size → ¬ AX q → H1[q]? = H[q]?) → va_S A0 H0 H1 locs1 → H1[q9]? = some ce → ce.vm = .none → s.vm.findClass E = some ce.cls → vx_W p l e R s m args below meth c H1 locs1 (cells + mc) (slots + ms) Q (F0 m pc ls rest) q9)
    (kk : ∀ (r : Int64) (u : S) (t : State) (H1 : Heap) (locs1 : List Loc), t.heap = H1 → s.vm.Alike t.vm → post r u → B u t → H.size ≤ H1.size → (∀ q : Nat, q < H.size → ¬ A1 q → H1[q]? = H[q]?) → va_S A0 H0 H1 locs1 → W p l e R s m args below meth c H1 locs1 (cells + mc) (slots + ms) Q (F0 m (pc + 3) ls (.long r :: rest))) : W p l e R s m args below meth c H locs cells slots Q (F0 m pc ls st0) := by
  intro T hT X
  rcases hr T hT X with ⟨v, st₀, t, T', L, h0, X', hL, e1, e2, ⟨⟨r, u, hv, hp, hb⟩, hF⟩, st⟩ | ⟨q, st₀, t, T', L, E, ce, h0, X', hL, e1, e2, ⟨u, hp, hb, hF⟩, hce, hcv, hcl, st⟩
  · cases hv
    obtain ⟨k1, k2, k3⟩ := vx_keep h0 e1 hS hA hf hL hF
    obtain ⟨t2, a1, b1⟩ := kk r u t T'.heap (locs ++ L) e1.symm (by rw [← e2]; exact X'.warmed.alike) hp hb k1 k2 k3 T' rfl X'
    exact ⟨t2, st t2 a1, b1⟩
  · obtain ⟨k1, k2, k3⟩ := vx_keep h0 e1 hS hAX hf hL hF
    obtain ⟨t2, a1, b1⟩ := kx E ce q u t T'.heap (locs ++ L) e1.symm (by rw [← e2]; exact X'.warmed.alike) hp hb k1 k2 k3 (by rw [e1]; exact hce) hcv hcl T' rfl X'
    exact ⟨t2, st.trans a1, b1⟩
theorem vx_callf {S SX : Type} {post : UInt32 → S → Prop} {px : SX → Prop} {B : S → State → Prop} {BX : String → SX → State → Prop} {AX : Nat → Prop} (hr : vx_Run p l e R s m args below meth c H locs cells slots mc ms (F0 m pc ls st0) rest (va_Qf post B A1 a) (vx_X px BX AX) free) (hS : va_S A0 H0 H locs) (hA : ∀ q, q < H.size → A1 q → A0 q) (hf : ∀ q, free q → A0 q) (hAX : ∀ q, q < H.size → AX q → A0 q)
    (kx : ∀ (E : String) (ce : Cell) (q9 : Addr) (u : SX) (t : State) (H1 : Heap) (locs1 : List Loc), t.heap = H1 → s.vm.Alike t.vm → px u → BX E u t → H.size ≤ H1.size → (∀ q : Nat, q < H.size → ¬ AX q → H1[q]? = H[q]?) → va_S A0 H0 H1 locs1 → H1[q9]? = some ce → ce.vm = .none → s.vm.findClass E = some ce.cls → vx_W p l e R s m args below meth c H1 locs1 (cells + mc) (slots + ms) Q (F0 m pc ls rest) q9)
    (kk : ∀ (r : UInt32) (u : S) (t : State) (H1 : Heap) (locs1 : List Loc), t.heap = H1 → s.vm.Alike t.vm → post r u → B u t → H.size ≤ H1.size → (∀ q : Nat, q < H.size → ¬ A1 q → H1[q]? = H[q]?) → va_S A0 H0 H1 locs1 → W p l e R s m args below meth c H1 locs1 (cells + mc) (slots + ms) Q (F0 m (pc + 3) ls (.float r :: rest))) : W p l e R s m args below meth c H locs cells slots Q (F0 m pc ls st0) := by
  intro T hT X
  rcases hr T hT X with ⟨v, st₀, t, T', L, h0, X', hL, e1, e2, ⟨⟨r, u, hv, hp, hb⟩, hF⟩, st⟩ | ⟨q, st₀, t, T', L, E, ce, h0, X', hL, e1, e2, ⟨u, hp, hb, hF⟩, hce, hcv, hcl, st⟩
  · cases hv
    obtain ⟨k1, k2, k3⟩ := vx_keep h0 e1 hS hA hf hL hF
    obtain ⟨t2, a1, b1⟩ := kk r u t T'.heap (locs ++ L) e1.symm (by rw [← e2]; exact X'.warmed.alike) hp hb k1 k2 k3 T' rfl X'
    exact ⟨t2, st t2 a1, b1⟩
  · obtain ⟨k1, k2, k3⟩ := vx_keep h0 e1 hS hAX hf hL hF
    obtain ⟨t2, a1, b1⟩ := kx E ce q u t T'.heap (locs ++ L) e1.symm (by rw [← e2]; exact X'.warmed.alike) hp hb k1 k2 k3 (by rw [e1]; exact hce) hcv hcl T' rfl X'
    exact ⟨t2, st.trans a1, b1⟩
theorem vx_calld {S SX : Type} {post : UInt64 → S → Prop} {px : SX → Prop} {B : S → State → Prop} {BX : String → SX → State → Prop} {AX : Nat → Prop} (hr : vx_Run p l e R s m args below meth c H locs cells slots mc ms (F0 m pc ls st0) rest (va_Qd post B A1 a) (vx_X px BX AX) free) (hS : va_S A0 H0 H locs) (hA : ∀ q, q < H.size → A1 q → A0 q) (hf : ∀ q, free q → A0 q) (hAX : ∀ q, q < H.size → AX q → A0 q)
    (kx : ∀ (E : String) (ce : Cell) (q9 : Addr) (u : SX) (t : State) (H1 : Heap) (locs1 : List Loc), t.heap = H1 → s.vm.Alike t.vm → px u → BX E u t → H.size ≤ H1.size → (∀ q : Nat, q < H.size → ¬ AX q → H1[q]? = H[q]?) → va_S A0 H0 H1 locs1 → H1[q9]? = some ce → ce.vm = .none → s.vm.findClass E = some ce.cls → vx_W p l e R s m args below meth c H1 locs1 (cells + mc) (slots + ms) Q (F0 m pc ls rest) q9)
    (kk : ∀ (r : UInt64) (u : S) (t : State) (H1 : Heap) (locs1 : List Loc), t.heap = H1 → s.vm.Alike t.vm → post r u → B u t → H.size ≤ H1.size → (∀ q : Nat, q < H.size → ¬ A1 q → H1[q]? = H[q]?) → va_S A0 H0 H1 locs1 → W p l e R s m args below meth c H1 locs1 (cells + mc) (slots + ms) Q (F0 m (pc + 3) ls (.double r :: rest))) : W p l e R s m args below meth c H locs cells slots Q (F0 m pc ls st0) := by
  intro T hT X
  rcases hr T hT X with ⟨v, st₀, t, T', L, h0, X', hL, e1, e2, ⟨⟨r, u, hv, hp, hb⟩, hF⟩, st⟩ | ⟨q, st₀, t, T', L, E, ce, h0, X', hL, e1, e2, ⟨u, hp, hb, hF⟩, hce, hcv, hcl, st⟩
  · cases hv
    obtain ⟨k1, k2, k3⟩ := vx_keep h0 e1 hS hA hf hL hF
    obtain ⟨t2, a1, b1⟩ := kk r u t T'.heap (locs ++ L) e1.symm (by rw [← e2]; exact X'.warmed.alike) hp hb k1 k2 k3 T' rfl X'
    exact ⟨t2, st t2 a1, b1⟩
  · obtain ⟨k1, k2, k3⟩ := vx_keep h0 e1 hS hAX hf hL hF
    obtain ⟨t2, a1, b1⟩ := kx E ce q u t T'.heap (locs ++ L) e1.symm (by rw [← e2]; exact X'.warmed.alike) hp hb k1 k2 k3 (by rw [e1]; exact hce) hcv hcl T' rfl X'
    exact ⟨t2, st.trans a1, b1⟩
theorem vx_callv {S SX : Type} {post : S → Prop} {px : SX → Prop} {B : S → State → Prop} {BX : String → SX → State → Prop} {AX : Nat → Prop} (hr : vx_Run p l e R s m args below meth c H locs cells slots mc ms (F0 m pc ls st0) rest (va_Qv post B A1 a) (vx_X px BX AX) free) (hS : va_S A0 H0 H locs) (hA : ∀ q, q < H.size → A1 q → A0 q) (hf : ∀ q, free q → A0 q) (hAX : ∀ q, q < H.size → AX q → A0 q)
    (kx : ∀ (E : String) (ce : Cell) (q9 : Addr) (u : SX) (t : State) (H1 : Heap) (locs1 : List Loc), t.heap = H1 → s.vm.Alike t.vm → px u → BX E u t → H.size ≤ H1.size → (∀ q : Nat, q < H.size → ¬ AX q → H1[q]? = H[q]?) → va_S A0 H0 H1 locs1 → H1[q9]? = some ce → ce.vm = .none → s.vm.findClass E = some ce.cls → vx_W p l e R s m args below meth c H1 locs1 (cells + mc) (slots + ms) Q (F0 m pc ls rest) q9)
    (kk : ∀ (u : S) (t : State) (H1 : Heap) (locs1 : List Loc), t.heap = H1 → s.vm.Alike t.vm → post u → B u t → H.size ≤ H1.size → (∀ q : Nat, q < H.size → ¬ A1 q → H1[q]? = H[q]?) → va_S A0 H0 H1 locs1 → W p l e R s m args below meth c H1 locs1 (cells + mc) (slots + ms) Q (F0 m (pc + 3) ls (rest))) : W p l e R s m args below meth c H locs cells slots Q (F0 m pc ls st0) := by
  intro T hT X
  rcases hr T hT X with ⟨v, st₀, t, T', L, h0, X', hL, e1, e2, ⟨⟨u, hv, hp, hb⟩, hF⟩, st⟩ | ⟨q, st₀, t, T', L, E, ce, h0, X', hL, e1, e2, ⟨u, hp, hb, hF⟩, hce, hcv, hcl, st⟩
  · cases hv
    obtain ⟨k1, k2, k3⟩ := vx_keep h0 e1 hS hA hf hL hF
    obtain ⟨t2, a1, b1⟩ := kk u t T'.heap (locs ++ L) e1.symm (by rw [← e2]; exact X'.warmed.alike) hp hb k1 k2 k3 T' rfl X'
    exact ⟨t2, st t2 a1, b1⟩
  · obtain ⟨k1, k2, k3⟩ := vx_keep h0 e1 hS hAX hf hL hF
    obtain ⟨t2, a1, b1⟩ := kx E ce q u t T'.heap (locs ++ L) e1.symm (by rw [← e2]; exact X'.warmed.alike) hp hb k1 k2 k3 (by rw [e1]; exact hce) hcv hcl T' rfl X'
    exact ⟨t2, st.trans a1, b1⟩
/-- caught by the row x of this method's table; the rows ahead don't take it -/
theorem vx_catch {own name : String} {E : String} {ce : Cell} {q : Addr} (hown : s.vm.findClass own = some m.cls) (pre : List ExceptionTableEntry) (x : ExceptionTableEntry) (suf : List ExceptionTableEntry) (hsplit : c.exceptionTable.toList = pre ++ x :: suf)
    (hpass : ∀ z ∈ pre, covers z pc = false ∨ (z.catchType ≠ 0 ∧ ∃ nm : String, (Cond.classLink own z.catchType nm).before args s = true ∧ va_Nc E nm s)) (hx : covers x pc = true) (h0 : x.catchType ≠ 0)
    (hlink : (Cond.classLink own x.catchType name).before args s = true) (hcast : (Cond.castable E name).before args s = true) (hcell : H[q]? = some ce) (hv : ce.vm = .none) (hcl : s.vm.findClass E = some ce.cls)
    (kk : W p l e R s m args below meth c H locs cells slots Q (F0 m x.handlerPc ls [.ref q])) : vx_W p l e R s m args below meth c H locs cells slots Q (F0 m pc ls rest) q := by
  intro T hT X
  have hpl : e.platform.magicAccessors = ({} : Platform).magicAccessors := by rw [X.admits.platform]
  obtain ⟨c3, c4, hc3, hc4, hasg⟩ := Cond.castable_spec hcast
  cases Option.some.inj (hc3.symm.trans hcl)
  obtain ⟨c5, hc5, hcl5⟩ := Cond.classLink_spec hown hlink e.platform hpl
  cases Option.some.inj (hc4.symm.trans hc5)
  obtain ⟨vm', X', st⟩ := X.thenCaughtThrough q (g := F0 m pc ls rest) rfl (Steps.refl _) (by rw [hT]; exact hcell) (by rw [hv]; rfl) (by obtain ⟨k9, h9, -⟩ := Vm.findClass_spec hcl; exact ⟨k9, h9⟩) pre x suf hsplit
    (fun z hz => by
      rcases hpass z hz with h | ⟨hz0, nm, hl1, hn1⟩
      · exact Or.inl h
      · obtain ⟨c6, hc6, hcl6⟩ := Cond.classLink_spec hown hl1 e.platform hpl
        obtain ⟨a8, b8, h1, h2, h3⟩ := hn1
        cases Option.some.inj (h1.symm.trans hcl)
        cases Option.some.inj (h2.symm.trans hc6)
        exact Or.inr ⟨hz0, _, hcl6, h3⟩) hx (Or.inr ⟨h0, c4, hcl5, hasg⟩)
  obtain ⟨t, a1, b1⟩ := kk (T.setVm vm') hT X'
  exact ⟨t, st.trans a1, b1⟩
end Rows
section Ends
variable {p : Program} {l : Launch} {e : Env} {R : Room} {s : State} {m : MethodId} {args : Array Value} {below : List Frame} {meth : Method} {c : Code} {H : Heap} {locs : List Loc} {cells slots : Nat} {Q : State → Prop}
variable {mc ms : Nat} {free : Addr → Prop} {A0 A1 : Nat → Prop} {H0 : Heap} {a : Array Value} {ls : Array Slot} {st0 rest : List Value}
variable {Qc : Array Value → State → Outcome → State → Prop} {XC : String → State → State → Prop}
/-- what a body that may throw owes at its end -/
def vx_MQ (below : List Frame) (Qc : Array Value → State → Outcome → State → Prop) (XC : String → State → State → Prop) (a : Array Value) (s : State) (mc ms : Nat) (free : Addr → Prop) : State → Prop := fun t =>
  ∃ o, t.status = .running ∧ Ended t below o ∧ vx_Q Qc XC mc ms free a s o t
theorem vx_ret {g : JFrame} {mc ms : Nat} (k : W p l e R s m args below meth c H locs cells slots (MQ below Qc args s mc ms free) g) : W p l e R s m args below meth c H locs cells slots (vx_MQ below Qc XC args s mc ms free) g := by
  intro T hT X
  obtain ⟨t, a1, o, b1, b2, b3, b4⟩ := k T hT X
  exact ⟨t, a1, o, b1, b2, Or.inl ⟨b3, b4⟩⟩
/-- not caught here: it goes on to the caller -/
theorem vx_widen {g : JFrame} {q : Addr} {k n : Nat} (h1 : cells ≤ k) (h2 : slots ≤ n) (kk : vx_W p l e R s m args below meth c H locs k n Q g q) : vx_W p l e R s m args below meth c H locs cells slots Q g q := fun T hT X => kk T hT (stand_widen X h1 h2)
theorem vx_out {pc : Nat} {E : String} {ce : Cell} {q : Addr} {mc ms : Nat} (hout : ∀ x ∈ c.exceptionTable.toList, covers x pc = false) (hlocks : meth.locks = false) (hcell : H[q]? = some ce) (hv : ce.vm = .none) (hcl : s.vm.findClass E = some ce.cls)
    (hx : ∀ t : State, t.heap = H → s.vm.Alike t.vm → XC E s t) (hf : ∀ z ∈ locs, free z.base) (hc : cells ≤ mc) (hs : slots ≤ ms) :
    vx_W p l e R s m args below meth c H locs cells slots (vx_MQ below Qc XC args s mc ms free) (F0 m pc ls rest) q := by
  intro T hT X
  obtain ⟨st1, hrun, hend, hW, hsm⟩ := X.leaveThrown q (g := F0 m pc ls rest) rfl rfl rfl hout hlocks
  have hcell9 : (T.setFrames (.throwing q :: below)).heap[q]? = some ce := by
    show T.heap[q]? = some ce
    rw [hT]; exact hcell
  exact ⟨_, st1, .threw q, hrun, hend, Or.inr ⟨q, rfl, E, ce, locs, hx _ hT hW.alike, hcell9, hv, hcl, hW, hsm.mono hc hs, hf⟩⟩
theorem vx_frame {U : State} {k n : Nat} (h : s.sameButNew ({ U with vm := s.vm } : State) locs k n) : s.heap.size ≤ U.heap.size ∧ ∀ q : Nat, q < s.heap.size → (∀ z ∈ locs, z.base ≠ q) → U.heap[q]? = s.heap[q]? := by
  obtain ⟨-, h2, -, -, -, h6⟩ := h
  refine ⟨h2, fun q hq hz => ?_⟩
  obtain ⟨c9, e1, e2, e3, e4⟩ := h6 q _ (Array.getElem?_eq_getElem hq)
  have hs : c9.slots = (s.heap[q]).slots := Array.ext_getElem? fun i => e4 i fun hm => hz _ hm rfl
  have h9 : c9 = s.heap[q] := by
    rw [hs] at e2
    exact e2
  have e5 : U.heap[q]? = some c9 := e1
  rw [e5, h9, Array.getElem?_eq_getElem hq]
/-- the words of a throw but the four that speak of the heap -/
def vx_no (w : Cond) : Bool := decide (w ≠ .isRef (.static Bundle.tN "UNASSIGNED_STACK" Bundle.steD)) && decide (w ≠ .isRef (.static Bundle.tN "SUPPRESSED_SENTINEL" Bundle.listD)) && decide (w ≠ .laysStatic Bundle.tN "UNASSIGNED_STACK" Bundle.steD) && decide (w ≠ .laysStatic Bundle.tN "SUPPRESSED_SENTINEL" Bundle.listD)
def vx_at0 (own : String) (ic : Nat) (X : String) (names : List String) : List Cond := (Bundle.ownAtoms0 own ic X names).filter vx_no
def vx_atS (own : String) (ic : Nat) (X : String) (names : List String) : List Cond := (Bundle.ownAtoms own ic X names).filter vx_no
/-- a word that the tables alone decide, or a good one -/
def vx_ot (w : Cond) : Bool := w.onTables || goodWord w
theorem vx_ot_at {args a' : Array Value} {s U : State} {w : Cond} (hW : s.WarmedH U.vm) (hvm : s.vm = U.vm) (hg : vx_ot w = true) (h : w.before args s = true) : w.before a' U = true := by
  simp only [vx_ot, Bool.or_eq_true] at hg
  rcases hg with hg | hg
  · exact va_tabs hg hvm h
  · exact word_at hW (good_of_word hg) h
/-- a list's words: the good ones out of the method's own list, the others by premises of their own -/
theorem vx_hat {args : Array Value} {s : State} {L B : List Cond} (h1 : ∀ w ∈ L.filter goodWord, w.before args s = true) (h2 : ∀ w ∈ L.filter (fun w => !goodWord w), w ∈ B) (h3 : ∀ w ∈ B, w.before args s = true) : ∀ w ∈ L, w.before args s = true := by
  intro w hw
  by_cases g : goodWord w = true
  · exact h1 w (List.mem_filter.mpr ⟨hw, g⟩)
  · refine h3 w (h2 w (List.mem_filter.mpr ⟨hw, ?_⟩))
    show (!goodWord w) = true
    cases hgw : goodWord w
    · rfl
    · exact absurd hgw g
theorem vx_c {args : Array Value} {s : State} {w : Cond} {B : List Cond} (h : w.before args s = true) (t : ∀ w ∈ B, w.before args s = true) : ∀ w' ∈ w :: B, w'.before args s = true := fun w' h' => (List.mem_cons.mp h').elim (fun e => by rw [e]; exact h) (t w')
theorem vx_n {args : Array Value} {s : State} : ∀ w ∈ ([] : List Cond), w.before args s = true := fun _ h => nomatch h
theorem vx_own {args : Array Value} {s : State} {L : List Cond} (h1 : ∀ w ∈ L.filter vx_no, w.before args s = true)
    (hU : (Cond.isRef (.static Bundle.tN "UNASSIGNED_STACK" Bundle.steD)).before args s = true) (hN : (Cond.isRef (.static Bundle.tN "SUPPRESSED_SENTINEL" Bundle.listD)).before args s = true)
    (lU : (Cond.laysStatic Bundle.tN "UNASSIGNED_STACK" Bundle.steD).before args s = true) (lN : (Cond.laysStatic Bundle.tN "SUPPRESSED_SENTINEL" Bundle.listD).before args s = true) : ∀ w ∈ L, w.before args s = true := by
  intro w hw
  by_cases e1 : w = .isRef (.static Bundle.tN "UNASSIGNED_STACK" Bundle.steD)
  · rw [e1]; exact hU
  · by_cases e2 : w = .isRef (.static Bundle.tN "SUPPRESSED_SENTINEL" Bundle.listD)
    · rw [e2]; exact hN
    · by_cases e3 : w = .laysStatic Bundle.tN "UNASSIGNED_STACK" Bundle.steD
      · rw [e3]; exact lU
      · by_cases e4 : w = .laysStatic Bundle.tN "SUPPRESSED_SENTINEL" Bundle.listD
        · rw [e4]; exact lN
        · exact h1 w (List.mem_filter.mpr ⟨hw, by unfold vx_no; rw [decide_eq_true e1, decide_eq_true e2, decide_eq_true e3, decide_eq_true e4]; rfl⟩)
/-- where a static field lies, its class's statics cell in H -/
def vx_L (C n d : String) (A : Nat → Prop) (U : State) (H : Heap) : Prop := ∃ (c : ClassId) (k : Class) (i : Nat) (f : Field) (a : Nat) (cell : Cell), U.vm.findClass C = some c ∧ U.fieldFound? C n d = some (c, k, i, f) ∧ f.isStatic = true ∧ k.statics = some a ∧ H[a]? = some cell ∧ cell.vm.isStatics = true ∧ cell.cls = c ∧ f.slot < cell.slots.size ∧ k.staticTypes[f.slot]? = some f.type ∧ ¬ A a
theorem vx_L.moved {C n d : String} {A : Nat → Prop} {u U : State} {H : Heap} (hvm : u.vm.Alike U.vm) (h : vx_L C n d A u H) : vx_L C n d A U H := by
  obtain ⟨c, k, i, f, a, cell, h1, h2, h3, h4, h5, h6, h7, h8, h9, h10⟩ := h
  obtain ⟨k', hi', he⟩ := State.fieldFound?_setVm hvm h2
  exact ⟨c, k', i, f, a, cell, by rw [hvm.findClass]; exact h1, hi', h3, by rw [he]; exact h4, h5, h6, h7, h8, by rw [he]; exact h9, h10⟩
theorem vx_L.kept {C n d : String} {A : Nat → Prop} {U : State} {H H1 : Heap} (h : vx_L C n d A U H) (hq : ∀ a : Nat, a < H.size → ¬ A a → H1[a]? = H[a]?) : vx_L C n d A U H1 := by
  obtain ⟨c, k, i, f, a, cell, h1, h2, h3, h4, h5, h6, h7, h8, h9, h10⟩ := h
  exact ⟨c, k, i, f, a, cell, h1, h2, h3, h4, by rw [hq a (Array.getElem?_eq_some_iff.mp h5).1 h10]; exact h5, h6, h7, h8, h9, h10⟩
theorem vx_L.narrow {C n d : String} {A B : Nat → Prop} {U : State} {H : Heap} (h : vx_L C n d A U H) (hAB : ∀ q, B q → A q) : vx_L C n d B U H := by
  obtain ⟨c, k, i, f, a, cell, h1, h2, h3, h4, h5, h6, h7, h8, h9, h10⟩ := h
  exact ⟨c, k, i, f, a, cell, h1, h2, h3, h4, h5, h6, h7, h8, h9, fun z => h10 (hAB _ z)⟩
theorem vx_L.word {C n d : String} {A : Nat → Prop} {s : State} {args : Array Value} (h : vx_L C n d A s s.heap) : (Cond.laysStatic C n d).before args s = true := by
  obtain ⟨c, k, i, f, a, cell, h1, h2, h3, h4, h5, h6, h7, h8, h9, -⟩ := h
  show (Cond.laysStatic C n d).holds args s none s [] = true
  exact Cond.laysStatic_of h1 h2 h3 h4 h5 h6 h7 h8 h9
/-- .. and what it holds: null or some reference -/
def vx_Zq (C n d : String) (A : Nat → Prop) (U : State) (H : Heap) : Prop := va_Zq C n d A U H ∧ vx_L C n d A U H
theorem vx_Zq.moved {C n d : String} {A : Nat → Prop} {u U : State} {H : Heap} (hvm : u.vm.Alike U.vm) (h : vx_Zq C n d A u H) : vx_Zq C n d A U H := ⟨va_Zq.moved hvm h.1, vx_L.moved hvm h.2⟩
theorem vx_Zq.kept {C n d : String} {A : Nat → Prop} {U : State} {H H1 : Heap} (h : vx_Zq C n d A U H) (hq : ∀ a : Nat, a < H.size → ¬ A a → H1[a]? = H[a]?) : vx_Zq C n d A U H1 := ⟨va_Zq.kept h.1 hq, vx_L.kept h.2 hq⟩
theorem vx_Zq.narrow {C n d : String} {A B : Nat → Prop} {U : State} {H : Heap} (h : vx_Zq C n d A U H) (hAB : ∀ q, B q → A q) : vx_Zq C n d B U H := ⟨va_Zq.narrow h.1 hAB, vx_L.narrow h.2 hAB⟩
theorem vx_Zqof {args : Array Value} {s : State} {C n d : String} {A : Nat → Prop} (hl : (Cond.laysStatic C n d).before args s = true) (hini : (Cond.initialized C).before args s = true) (h : (Cond.isRef (.static C n d)).before args s = true) (hA : ∀ a : Nat, a < s.heap.size → ¬ A a) : vx_Zq C n d A s s.heap := by
  refine ⟨va_Zqof hl hini h hA, ?_⟩
  obtain ⟨c, k, i, f, a, cell, h1, h2, h3, h4, h5, h6, h7, h8, h9⟩ := Cond.laysStatic_spec hl
  exact ⟨c, k, i, f, a, cell, h1, h2, h3, h4, h5, h6, h7, h8, h9, hA a (Array.getElem?_eq_some_iff.mp h5).1⟩
theorem vx_isRef {C n d : String} {v : Value} {A : Nat → Prop} {s : State} {args : Array Value} (h : va_Z C n d v A s s.heap) (hv : v.isRef = true) : (Cond.isRef (.static C n d)).before args s = true := by
  obtain ⟨cf, kf, fi, f, a, cell, h1, h2, h3, h4, h5, h6, h7, -⟩ := h
  have he : (Term.static C n d).eval args s none [] s = some v := by
    simp [Term.eval, State.fieldNamed?, h1, h2, h4, h5, h6, h7]
  simp only [Cond.before, Cond.holds, Cond.value, he]
  cases v <;> simp_all [Value.isRef]
theorem vx_isRefq {C n d : String} {A : Nat → Prop} {s : State} {args : Array Value} (h : va_Zq C n d A s s.heap) : (Cond.isRef (.static C n d)).before args s = true := by
  rcases h with h | ⟨t, h⟩
  · exact vx_isRef h rfl
  · exact vx_isRef h rfl
/-- the same frame, seen from here: as if the method were called anew in this heap -/
theorem vx_rebase {T : State} (X : Stand p l e R s m args below meth c T locs cells slots) {R' : Room} (hf : R'.frames ≤ R.frames) (hl : R'.locals ≤ R.locals) (hc : cells + R'.cells ≤ R.cells) (hs : slots + R'.slots ≤ R.slots) :
    Stand p l e R' ((T.setVm s.vm).setFrames (.invoking m args :: below)) m args below meth c T [] 0 0 := by
  have htop : (T.setVm s.vm).topJava?.isSome := X.here.top
  have hF : ((T.setVm s.vm).setFrames (.invoking m args :: below)).frames = .invoking m args :: below := State.frames_setFrames _ (State.cur_lt_of_top htop)
  obtain ⟨g₀, hg0⟩ := Option.isSome_iff_exists.mp htop
  obtain ⟨r, hr⟩ := State.topJava?_eq_some.mp hg0
  have hl9 : e.platform.stackLimits (T.setVm s.vm).me = e.platform.stackLimits s.me := X.limits
  have hb9 : (T.setVm s.vm).me.stackBytes = s.me.stackBytes := X.bytes
  refine ⟨X.admits, X.cas, X.clock, hF, ?_, X.hears, X.method, X.code, X.here, X.tail, X.warmed, ?_, ?_, ?_⟩
  · have h := X.room
    have hU : ((T.setVm s.vm).setFrames (.invoking m args :: below)).localsInUse = s.localsInUse := by
      rw [State.localsInUse_invoking hF (meth := meth) (c := c) X.method X.code, State.localsInUse_invoking X.frames X.method X.code]
    simp only [State.hasRoom, Bool.and_eq_true, decide_eq_true_eq] at h ⊢
    obtain ⟨⟨⟨⟨h1, h2, h3, h4, h5, h6⟩, h7⟩, h8⟩, h9⟩ := h
    rw [X.frames, List.length_cons] at h2 h3
    have q1 := X.heapSize
    have q2 := X.used
    simp only [hF, hU, List.length_cons, State.stackLimits_setFrames, State.stackBytes_setFrames, hl9, hb9]
    refine ⟨⟨⟨⟨by omega, by omega, by omega, by omega, by omega, h6⟩, ?_⟩, ?_⟩, X.book⟩
    · show T.heap.size + R'.cells ≤ e.platform.maxCells
      omega
    · show T.slotsUsed + R'.slots ≤ e.platform.maxSlots
      omega
  · rw [State.stackLimits_setFrames]; rfl
  · rw [State.stackBytes_setFrames]; rfl
  · refine ⟨?_, Nat.le_refl _, Nat.le_refl _, ?_, ?_, fun a c9 h9 => ⟨c9, h9, rfl, rfl, fun _ _ => rfl⟩⟩
    · obtain ⟨t, ht, -⟩ := State.frames_cons hr
      show T.setVm s.vm = { ((T.setVm s.vm).setFrames (.invoking m args :: below)).setFrames (T.setVm s.vm).frames with heap := T.heap, slotsUsed := T.slotsUsed }
      rw [State.setFrames_setFrames, State.setFrames_self ht]
      rfl
    · show T.slotsUsed = T.slotsUsed + ((T.heap.toList.drop T.heap.size).map (·.slots.size)).sum
      rw [List.drop_eq_nil_of_le (Nat.le_of_eq Array.length_toList)]
      rfl
    · show ((T.heap.toList.drop T.heap.size).map (·.slots.size)).sum ≤ 0
      rw [List.drop_eq_nil_of_le (Nat.le_of_eq Array.length_toList)]
      exact Nat.le_refl _
/-- 'throw new E()': new; dup; invokespecial; athrow -/
theorem vx_throw0 {cc : ByteArray} {pc : Nat} (hexec : p.tables.exec = Jvm.exec) (hb : c.code = cc) (hl : l.stackTraces = false) {own cls : String} {names : List String} {ik ic mc ms : Nat} {A : Nat → Prop}
    (hown : s.vm.findClass own = some m.cls) (hcls : Bundle.fit cls = true) (hnames : ∀ n ∈ names, Bundle.fit n = true)
    (hk : (Cond.classLink own ik cls).before args s = true) (hini : (Cond.initialized cls).before args s = true) (hat : ∀ w ∈ vx_at0 own ic cls names, w.before args s = true)
    (hgood : ∀ w ∈ Cond.classLink own ik cls :: Cond.initialized cls :: vx_at0 own ic cls names, vx_ot w = true)
    (hU : vx_Zq Bundle.tN "UNASSIGNED_STACK" Bundle.steD A s s.heap) (hN : vx_Zq Bundle.tN "SUPPRESSED_SENTINEL" Bundle.listD A s s.heap) (hS : va_S A s.heap H locs) (hsize : ls.size = c.maxLocals)
    (d0 : decode cc pc = .ok (.new ik, 3)) (d3 : decode cc (pc + 3) = .ok (.dup, 1)) (d4 : decode cc (pc + 4) = .ok (.invokespecial ic, 3)) (d7 : decode cc (pc + 7) = .ok (.athrow, 1))
    (hout : ∀ x ∈ c.exceptionTable.toList, covers x (pc + 7) = false)
    (hRframes : names.length + 3 < R.frames) (hRlocals : (rest.map fun v => v.category).sum + (13 * (names.length + 1) + 42) ≤ R.locals) (hRcells : cells + 1 ≤ R.cells) (hRslots : slots + 6 ≤ R.slots) (hlocks : meth.locks = false)
    (hx : ∀ t : State, s.vm.Alike t.vm → H.size ≤ t.heap.size → (∀ q : Nat, q < H.size → t.heap[q]? = H[q]?) → XC cls s t)
    (hf : ∀ z ∈ locs, free z.base) (hc : cells + 1 ≤ mc) (hs : slots + 6 ≤ ms) :
    W p l e R s m args below meth c H locs cells slots (vx_MQ below Qc XC args s mc ms free) (F0 m pc ls rest) := by
  intro T hT X
  have htr : e.platform.stackTraces = false := (show e.platform.stackTraces = l.stackTraces by rw [X.admits.platform]).trans hl
  have Y := vx_rebase X (R' := { frames := R.frames, locals := R.locals, cells := 1, slots := 6 }) (Nat.le_refl _) (Nat.le_refl _) hRcells hRslots
  obtain ⟨s', hA⟩ : ∃ z, z = (T.setVm s.vm).setFrames (.invoking m args :: below) := ⟨_, rfl⟩
  rw [← hA] at Y
  have hvm : s'.vm = s.vm := by rw [hA]; rfl
  have hhp : s'.heap = H := by rw [hA]; exact hT
  have hW0 : s.WarmedH s'.vm := by rw [hvm]; exact State.WarmedH.refl s
  have hat' : ∀ w ∈ vx_at0 own ic cls names, w.before args s' = true := fun w hw => vx_ot_at hW0 hvm.symm (hgood w (List.mem_cons_of_mem _ (List.mem_cons_of_mem _ hw))) (hat w hw)
  have hk' : (Cond.classLink own ik cls).before args s' = true := vx_ot_at hW0 hvm.symm (hgood _ List.mem_cons_self) hk
  have hini' : (Cond.initialized cls).before args s' = true := vx_ot_at hW0 hvm.symm (hgood _ (List.mem_cons_of_mem _ List.mem_cons_self)) hini
  have hU' : vx_Zq Bundle.tN "UNASSIGNED_STACK" Bundle.steD A s' s'.heap := by rw [hhp]; exact vx_Zq.moved hW0.alike (hU.kept hS.2.1)
  have hN' : vx_Zq Bundle.tN "SUPPRESSED_SENTINEL" Bundle.listD A s' s'.heap := by rw [hhp]; exact vx_Zq.moved hW0.alike (hN.kept hS.2.1)
  have h : ∀ w ∈ Bundle.ownAtoms0 own ic cls names, w.before args s' = true := vx_own hat' (vx_isRefq hU'.1) (vx_isRefq hN'.1) hU'.2.word hN'.2.word
  have hown' : s'.vm.findClass own = some m.cls := by rw [hvm]; exact hown
  have hins : (Cond.instantiable cls 6).before args s' = true := h _ (by simp [Bundle.ownAtoms0])
  obtain ⟨vm₁, cX, kX, hfX, hkX, -, -, X₁, st1⟩ := Y.newCold hexec (own := own) (C := cls) (index := ik) (n := 6) hown' hk' hins hini'
    (g := F0 m pc ls rest) rfl (by rw [hb]; exact d0) (Nat.le_refl _) (Nat.le_refl _)
  generalize hT1 : (T.setVm vm₁).pushCell { cls := cX, slots := kX.instanceTypes.map defaultValue, vm := .none } = T1 at X₁ st1
  have hcat : (Value.ref T.heap.size).category = 1 := rfl
  have hcellA : T1.heap[T.heap.size]? = some (freshCell cX kX) := by rw [← hT1]; exact State.heap_pushCell_size _ _
  have d3' : decode c.code (pc + 3) = .ok (.dup, 1) := by rw [hb]; exact d3
  obtain ⟨U, hsteps, hrun, hend, hW, hsame, ce, hce, hO⟩ := X₁.ctorThrow0 hexec htr (own := own) (cls := cls) (names := names) (ic := ic) hown' hcls hnames h (fun x hx => nomatch hx) hfX hkX hcellA (by rw [hhp, hT]; exact Nat.le_refl _)
    (g := { method := m, pc := pc + 4, locals := ls, stack := .ref T.heap.size :: .ref T.heap.size :: rest, locked := none }) rfl hsize rfl rfl (rest := rest) rfl
    (by rw [hb]; exact d4) (by rw [hb]; exact d7) hout hRframes (by simp only [List.map_cons, List.sum_cons, hcat]; omega) hlocks
  obtain ⟨f1, f2⟩ := vx_frame hsame
  rw [hhp] at f1 f2
  have hWs : s.WarmedH U.vm := State.WarmedH.trans hW0 hW
  have hcl : s.vm.findClass cls = some ce.cls := by
    have h9 := hO.cls
    rw [hvm] at h9
    exact h9
  have hall : s.sameButNew ({ U with vm := s.vm } : State) locs mc ms := by
    subst hA
    obtain ⟨e1, e2⟩ := hsame
    rw [State.setFrames_setFrames] at e1
    have h2 : (T.setVm s.vm).sameButNew ({ U with vm := s.vm } : State) [] (0 + 1) (0 + 6) := ⟨e1, e2⟩
    have h3 := X.same.trans h2
    rw [List.append_nil] at h3
    exact h3.mono hc hs
  refine ⟨U, ?_, .threw T.heap.size, hrun, hend, Or.inr ⟨T.heap.size, rfl, cls, ce, locs, hx U hWs.alike f1 (fun q hq => f2 q hq (fun z hz => nomatch hz)), hce, hO.vm, hcl, hWs, hall, hf⟩⟩
  refine st1 _ ?_
  show Steps p.tables e below (T1.setTop { method := m, pc := pc + 3, locals := ls, stack := .ref T.heap.size :: rest, locked := none }) _
  jvm_step X₁.here [X₁.here.top, hexec, d3', Value.category]
  exact hsteps
/-- 'throw new E("text")': new; dup; ldc; invokespecial; athrow -/
theorem vx_throwS {cc : ByteArray} {pc : Nat} (hexec : p.tables.exec = Jvm.exec) (hb : c.code = cc) (hl : l.stackTraces = false) {own cls text : String} {names : List String} {ik is ic mc ms sa : Nat} {A : Nat → Prop}
    (hown : s.vm.findClass own = some m.cls) (hcls : Bundle.fit cls = true) (hnames : ∀ n ∈ names, Bundle.fit n = true)
    (hk : (Cond.classLink own ik cls).before args s = true) (hini : (Cond.initialized cls).before args s = true) (hstr : vk_R own is text sa s) (hat : ∀ w ∈ vx_atS own ic cls names, w.before args s = true)
    (hgood : ∀ w ∈ Cond.classLink own ik cls :: Cond.initialized cls :: vx_atS own ic cls names, vx_ot w = true)
    (hU : vx_Zq Bundle.tN "UNASSIGNED_STACK" Bundle.steD A s s.heap) (hN : vx_Zq Bundle.tN "SUPPRESSED_SENTINEL" Bundle.listD A s s.heap) (hS : va_S A s.heap H locs) (hsize : ls.size = c.maxLocals)
    (d0 : decode cc pc = .ok (.new ik, 3)) (d3 : decode cc (pc + 3) = .ok (.dup, 1)) (d4 : decode cc (pc + 4) = .ok (.ldc is, 2)) (d6 : decode cc (pc + 6) = .ok (.invokespecial ic, 3)) (d9 : decode cc (pc + 9) = .ok (.athrow, 1))
    (hout : ∀ x ∈ c.exceptionTable.toList, covers x (pc + 9) = false)
    (hRframes : names.length + 3 < R.frames) (hRlocals : (rest.map fun v => v.category).sum + (13 * (names.length + 1) + 43) ≤ R.locals) (hRcells : cells + 1 ≤ R.cells) (hRslots : slots + 6 ≤ R.slots) (hlocks : meth.locks = false)
    (hx : ∀ t : State, s.vm.Alike t.vm → H.size ≤ t.heap.size → (∀ q : Nat, q < H.size → t.heap[q]? = H[q]?) → XC cls s t)
    (hf : ∀ z ∈ locs, free z.base) (hc : cells + 1 ≤ mc) (hs : slots + 6 ≤ ms) :
    W p l e R s m args below meth c H locs cells slots (vx_MQ below Qc XC args s mc ms free) (F0 m pc ls rest) := by
  intro T hT X
  have htr : e.platform.stackTraces = false := (show e.platform.stackTraces = l.stackTraces by rw [X.admits.platform]).trans hl
  have Y := vx_rebase X (R' := { frames := R.frames, locals := R.locals, cells := 1, slots := 6 }) (Nat.le_refl _) (Nat.le_refl _) hRcells hRslots
  obtain ⟨s', hA⟩ : ∃ z, z = (T.setVm s.vm).setFrames (.invoking m args :: below) := ⟨_, rfl⟩
  rw [← hA] at Y
  have hvm : s'.vm = s.vm := by rw [hA]; rfl
  have hhp : s'.heap = H := by rw [hA]; exact hT
  have hW0 : s.WarmedH s'.vm := by rw [hvm]; exact State.WarmedH.refl s
  have hat' : ∀ w ∈ vx_atS own ic cls names, w.before args s' = true := fun w hw => vx_ot_at hW0 hvm.symm (hgood w (List.mem_cons_of_mem _ (List.mem_cons_of_mem _ hw))) (hat w hw)
  have hk' : (Cond.classLink own ik cls).before args s' = true := vx_ot_at hW0 hvm.symm (hgood _ List.mem_cons_self) hk
  have hini' : (Cond.initialized cls).before args s' = true := vx_ot_at hW0 hvm.symm (hgood _ (List.mem_cons_of_mem _ List.mem_cons_self)) hini
  have hU' : vx_Zq Bundle.tN "UNASSIGNED_STACK" Bundle.steD A s' s'.heap := by rw [hhp]; exact vx_Zq.moved hW0.alike (hU.kept hS.2.1)
  have hN' : vx_Zq Bundle.tN "SUPPRESSED_SENTINEL" Bundle.listD A s' s'.heap := by rw [hhp]; exact vx_Zq.moved hW0.alike (hN.kept hS.2.1)
  have h : ∀ w ∈ Bundle.ownAtoms own ic cls names, w.before args s' = true := vx_own hat' (vx_isRefq hU'.1) (vx_isRefq hN'.1) hU'.2.word hN'.2.word
  have hown' : s'.vm.findClass own = some m.cls := by rw [hvm]; exact hown
  have hins : (Cond.instantiable cls 6).before args s' = true := h _ (by simp [Bundle.ownAtoms])
  obtain ⟨vm₁, cX, kX, hfX, hkX, -, -, X₁, st1⟩ := Y.newCold hexec (own := own) (C := cls) (index := ik) (n := 6) hown' hk' hins hini'
    (g := F0 m pc ls rest) rfl (by rw [hb]; exact d0) (Nat.le_refl _) (Nat.le_refl _)
  generalize hT1 : (T.setVm vm₁).pushCell { cls := cX, slots := kX.instanceTypes.map defaultValue, vm := .none } = T1 at X₁ st1
  have hcat : (Value.ref T.heap.size).category = 1 := rfl
  have hcellA : T1.heap[T.heap.size]? = some (freshCell cX kX) := by rw [← hT1]; exact State.heap_pushCell_size _ _
  have d3' : decode c.code (pc + 3) = .ok (.dup, 1) := by rw [hb]; exact d3
  have d4' : decode c.code (pc + 4) = .ok (.ldc is, 2) := by rw [hb]; exact d4
  have hstr' : vk_R own is text sa s' := vk_R.warm hW0 hstr
  obtain ⟨U, hsteps, hrun, hend, hW, hsame, ce, hce, hO⟩ := X₁.ctorThrowS hexec htr (own := own) (cls := cls) (names := names) (ic := ic) hown' hcls hnames h (fun x hx => nomatch hx) hfX hkX hcellA (by rw [hhp, hT]; exact Nat.le_refl _) (msg := .ref sa) rfl
    (g := { method := m, pc := pc + 6, locals := ls, stack := .ref sa :: .ref T.heap.size :: .ref T.heap.size :: rest, locked := none }) rfl hsize rfl rfl (rest := rest) rfl
    (by rw [hb]; exact d6) (by rw [hb]; exact d9) hout hRframes (by simp only [List.map_cons, List.sum_cons, hcat]; omega) hlocks
  obtain ⟨f1, f2⟩ := vx_frame hsame
  rw [hhp] at f1 f2
  have hWs : s.WarmedH U.vm := State.WarmedH.trans hW0 hW
  have hcl : s.vm.findClass cls = some ce.cls := by
    have h9 := hO.cls
    rw [hvm] at h9
    exact h9
  have hall : s.sameButNew ({ U with vm := s.vm } : State) locs mc ms := by
    subst hA
    obtain ⟨e1, e2⟩ := hsame
    rw [State.setFrames_setFrames] at e1
    have h2 : (T.setVm s.vm).sameButNew ({ U with vm := s.vm } : State) [] (0 + 1) (0 + 6) := ⟨e1, e2⟩
    have h3 := X.same.trans h2
    rw [List.append_nil] at h3
    exact h3.mono hc hs
  refine ⟨U, ?_, .threw T.heap.size, hrun, hend, Or.inr ⟨T.heap.size, rfl, cls, ce, locs, hx U hWs.alike f1 (fun q hq => f2 q hq (fun z hz => nomatch hz)), hce, hO.vm, hcl, hWs, hall, hf⟩⟩
  refine st1 _ ?_
  show Steps p.tables e below (T1.setTop { method := m, pc := pc + 3, locals := ls, stack := .ref T.heap.size :: rest, locked := none }) _
  jvm_step X₁.here [X₁.here.top, hexec, d3', Value.category]
  exact X₁.ldcString hexec (own := own) (text := text) (index := is) (a := sa) hown' hstr'.1 hstr'.2
    (g := { method := m, pc := pc + 4, locals := ls, stack := .ref T.heap.size :: .ref T.heap.size :: rest, locked := none }) rfl d4' _ hsteps
/-- 'throw new E("text")', the text by a wide index -/
theorem vx_throwSW {cc : ByteArray} {pc : Nat} (hexec : p.tables.exec = Jvm.exec) (hb : c.code = cc) (hl : l.stackTraces = false) {own cls text : String} {names : List String} {ik is ic mc ms sa : Nat} {A : Nat → Prop}
    (hown : s.vm.findClass own = some m.cls) (hcls : Bundle.fit cls = true) (hnames : ∀ n ∈ names, Bundle.fit n = true)
    (hk : (Cond.classLink own ik cls).before args s = true) (hini : (Cond.initialized cls).before args s = true) (hstr : vk_R own is text sa s) (hat : ∀ w ∈ vx_atS own ic cls names, w.before args s = true)
    (hgood : ∀ w ∈ Cond.classLink own ik cls :: Cond.initialized cls :: vx_atS own ic cls names, vx_ot w = true)
    (hU : vx_Zq Bundle.tN "UNASSIGNED_STACK" Bundle.steD A s s.heap) (hN : vx_Zq Bundle.tN "SUPPRESSED_SENTINEL" Bundle.listD A s s.heap) (hS : va_S A s.heap H locs) (hsize : ls.size = c.maxLocals)
    (d0 : decode cc pc = .ok (.new ik, 3)) (d3 : decode cc (pc + 3) = .ok (.dup, 1)) (d4 : decode cc (pc + 4) = .ok (.ldc_w is, 3)) (d7 : decode cc (pc + 7) = .ok (.invokespecial ic, 3)) (d10 : decode cc (pc + 10) = .ok (.athrow, 1))
    (hout : ∀ x ∈ c.exceptionTable.toList, covers x (pc + 10) = false)
    (hRframes : names.length + 3 < R.frames) (hRlocals : (rest.map fun v => v.category).sum + (13 * (names.length + 1) + 43) ≤ R.locals) (hRcells : cells + 1 ≤ R.cells) (hRslots : slots + 6 ≤ R.slots) (hlocks : meth.locks = false)
    (hx : ∀ t : State, s.vm.Alike t.vm → H.size ≤ t.heap.size → (∀ q : Nat, q < H.size → t.heap[q]? = H[q]?) → XC cls s t)
    (hf : ∀ z ∈ locs, free z.base) (hc : cells + 1 ≤ mc) (hs : slots + 6 ≤ ms) :
    W p l e R s m args below meth c H locs cells slots (vx_MQ below Qc XC args s mc ms free) (F0 m pc ls rest) := by
  intro T hT X
  have htr : e.platform.stackTraces = false := (show e.platform.stackTraces = l.stackTraces by rw [X.admits.platform]).trans hl
  have Y := vx_rebase X (R' := { frames := R.frames, locals := R.locals, cells := 1, slots := 6 }) (Nat.le_refl _) (Nat.le_refl _) hRcells hRslots
  obtain ⟨s', hA⟩ : ∃ z, z = (T.setVm s.vm).setFrames (.invoking m args :: below) := ⟨_, rfl⟩
  rw [← hA] at Y
  have hvm : s'.vm = s.vm := by rw [hA]; rfl
  have hhp : s'.heap = H := by rw [hA]; exact hT
  have hW0 : s.WarmedH s'.vm := by rw [hvm]; exact State.WarmedH.refl s
  have hat' : ∀ w ∈ vx_atS own ic cls names, w.before args s' = true := fun w hw => vx_ot_at hW0 hvm.symm (hgood w (List.mem_cons_of_mem _ (List.mem_cons_of_mem _ hw))) (hat w hw)
  have hk' : (Cond.classLink own ik cls).before args s' = true := vx_ot_at hW0 hvm.symm (hgood _ List.mem_cons_self) hk
  have hini' : (Cond.initialized cls).before args s' = true := vx_ot_at hW0 hvm.symm (hgood _ (List.mem_cons_of_mem _ List.mem_cons_self)) hini
  have hU' : vx_Zq Bundle.tN "UNASSIGNED_STACK" Bundle.steD A s' s'.heap := by rw [hhp]; exact vx_Zq.moved hW0.alike (hU.kept hS.2.1)
  have hN' : vx_Zq Bundle.tN "SUPPRESSED_SENTINEL" Bundle.listD A s' s'.heap := by rw [hhp]; exact vx_Zq.moved hW0.alike (hN.kept hS.2.1)
  have h : ∀ w ∈ Bundle.ownAtoms own ic cls names, w.before args s' = true := vx_own hat' (vx_isRefq hU'.1) (vx_isRefq hN'.1) hU'.2.word hN'.2.word
  have hown' : s'.vm.findClass own = some m.cls := by rw [hvm]; exact hown
  have hins : (Cond.instantiable cls 6).before args s' = true := h _ (by simp [Bundle.ownAtoms])
  obtain ⟨vm₁, cX, kX, hfX, hkX, -, -, X₁, st1⟩ := Y.newCold hexec (own := own) (C := cls) (index := ik) (n := 6) hown' hk' hins hini'
    (g := F0 m pc ls rest) rfl (by rw [hb]; exact d0) (Nat.le_refl _) (Nat.le_refl _)
  generalize hT1 : (T.setVm vm₁).pushCell { cls := cX, slots := kX.instanceTypes.map defaultValue, vm := .none } = T1 at X₁ st1
  have hcat : (Value.ref T.heap.size).category = 1 := rfl
  have hcellA : T1.heap[T.heap.size]? = some (freshCell cX kX) := by rw [← hT1]; exact State.heap_pushCell_size _ _
  have d3' : decode c.code (pc + 3) = .ok (.dup, 1) := by rw [hb]; exact d3
  have d4' : decode c.code (pc + 4) = .ok (.ldc_w is, 3) := by rw [hb]; exact d4
  have hstr' : vk_R own is text sa s' := vk_R.warm hW0 hstr
  obtain ⟨U, hsteps, hrun, hend, hW, hsame, ce, hce, hO⟩ := X₁.ctorThrowS hexec htr (own := own) (cls := cls) (names := names) (ic := ic) hown' hcls hnames h (fun x hx => nomatch hx) hfX hkX hcellA (by rw [hhp, hT]; exact Nat.le_refl _) (msg := .ref sa) rfl
    (g := { method := m, pc := pc + 7, locals := ls, stack := .ref sa :: .ref T.heap.size :: .ref T.heap.size :: rest, locked := none }) rfl hsize rfl rfl (rest := rest) rfl
    (by rw [hb]; exact d7) (by rw [hb]; exact d10) hout hRframes (by simp only [List.map_cons, List.sum_cons, hcat]; omega) hlocks
  obtain ⟨f1, f2⟩ := vx_frame hsame
  rw [hhp] at f1 f2
  have hWs : s.WarmedH U.vm := State.WarmedH.trans hW0 hW
  have hcl : s.vm.findClass cls = some ce.cls := by
    have h9 := hO.cls
    rw [hvm] at h9
    exact h9
  have hall : s.sameButNew ({ U with vm := s.vm } : State) locs mc ms := by
    subst hA
    obtain ⟨e1, e2⟩ := hsame
    rw [State.setFrames_setFrames] at e1
    have h2 : (T.setVm s.vm).sameButNew ({ U with vm := s.vm } : State) [] (0 + 1) (0 + 6) := ⟨e1, e2⟩
    have h3 := X.same.trans h2
    rw [List.append_nil] at h3
    exact h3.mono hc hs
  refine ⟨U, ?_, .threw T.heap.size, hrun, hend, Or.inr ⟨T.heap.size, rfl, cls, ce, locs, hx U hWs.alike f1 (fun q hq => f2 q hq (fun z hz => nomatch hz)), hce, hO.vm, hcl, hWs, hall, hf⟩⟩
  refine st1 _ ?_
  show Steps p.tables e below (T1.setTop { method := m, pc := pc + 3, locals := ls, stack := .ref T.heap.size :: rest, locked := none }) _
  jvm_step X₁.here [X₁.here.top, hexec, d3', Value.category]
  exact X₁.ldcStringW hexec (own := own) (text := text) (index := is) (a := sa) hown' hstr'.1 hstr'.2
    (g := { method := m, pc := pc + 4, locals := ls, stack := .ref T.heap.size :: .ref T.heap.size :: rest, locked := none }) rfl d4' _ hsteps
end Ends
section Bodies
variable {l : Launch}
theorem vx_ofW {y : MethodName} {ws ws' : List Cond} {rm : Room} {Pc : Array Value → State → Prop} {Qc : Array Value → State → Outcome → State → Prop} {XC : String → State → State → Prop} {mc ms : Nat} {free : Addr → Prop} {cc : ByteArray} {maxL : Nat} {ret : Option FieldType}
    (hy : plainName y.cls = true) (hw : ws = Cond.code y cc maxL ret :: ws')
    (body : ∀ p e s m args below meth c s₁, BodyLoose p l y (headSpec ws rm) cc maxL ret e s m args below meth c s₁ → c.maxLocals = maxL → (∀ x ∈ c.exceptionTable.toList, False) → Pc args s →
      W p l e (headSpec ws rm).room s m args below meth c s.heap [] 0 0 (vx_MQ below Qc XC args s mc ms free) (entryFrame m args maxL)) : vx_Met l y ws rm Pc Qc XC mc ms free := by
  refine MetFree.of_bodyS (code := cc) (maxLocals := maxL) (ret := ret) hy ?_ ?_
  · intro args s m h hn
    obtain ⟨meth, c, h1, h2, h3, h4, h5, h6, -, -⟩ := Cond.code_spec hn (atoms_spec (ws := ws) h _ (by rw [hw]; exact List.mem_cons_self))
    exact ⟨meth, c, h1, h2, h3, h4, h5, h6⟩
  · intro p e s m args below meth c s₁ B hml hP _
    have hh0 : s₁.heap = s.heap := by rw [B.state]; rfl
    have ht : ∀ x ∈ c.exceptionTable.toList, False := by
      obtain ⟨meth9, c9, h1, h2, -, -, -, -, h7, -⟩ := Cond.code_spec B.named (atoms_spec (ws := ws) B.pre _ (by rw [hw]; exact List.mem_cons_self))
      cases Option.some.inj (h1.symm.trans B.method)
      cases Option.some.inj (h2.symm.trans (Stand.of_body B).code)
      intro x hx
      rw [Array.isEmpty_iff.mp h7] at hx
      cases hx
    obtain ⟨t, a1, o, b1, b2, b3⟩ := body p e s m args below meth c s₁ B hml ht hP s₁ hh0 (Stand.of_body B)
    exact ⟨t, o, a1, b1, b2, b3⟩
/-- the table of a body with handlers -/
theorem vx_table {p : Program} {x y : MethodName} {S : Spec} {cc bytes : ByteArray} {maxL maxL' : Nat} {ret ret' : Option FieldType} {e : Env} {s s₁ : State} {m : MethodId} {args : Array Value} {below : List Frame} {meth : Method} {c : Code} {hh : List (Nat × Nat × Nat × Nat)}
    (B : BodyLoose p l y S cc maxL ret e s m args below meth c s₁) (h : (Cond.codeWith y bytes maxL' ret' hh).before args s = true) : c.exceptionTable.toList = tableOf hh := by
  obtain ⟨m9, meth9, c9, hn9, h1, h2, -, -, h6, -⟩ := Cond.codeWith_spec h
  cases Option.some.inj (hn9.symm.trans B.named)
  cases Option.some.inj (h1.symm.trans B.method)
  cases Option.some.inj (h2.symm.trans (Stand.of_body B).code)
  rw [← h6, table_eq]
end Bodies
end VXA
/-! ===== END ===== -/
/-! ===== BEGIN a static call of a method with an exception table ===== -/
section VXS
variable {p : Program} {l : Launch} {e : Env} {R : Room} {s : State} {m : MethodId} {args : Array Value} {below : List Frame} {meth : Method} {c : Code} {T : State} {H : Heap} {locs : List Loc} {cells slots : Nat}
abbrev vx_CSW (R : Room) (s : State) (args : Array Value) (own : String) (index : Nat) (y : MethodName) (bytes : ByteArray) (maxL : Nat) (ret : Option FieldType) (hh : List (Nat × Nat × Nat × Nat)) (ws : List Cond) (rm : Room) (mc ms n : Nat) : Prop :=
  (rm.cells = mc ∧ rm.slots = ms ∧ rm.frames + 1 ≤ R.frames ∧ 8 + (maxL + 11) + rm.locals ≤ R.locals ∧ (∀ w ∈ ws, ∀ (a' : Array Value) (U : State), s.WarmedH U.vm → w.before a' U = true) ∧ Cond.codeWith y bytes maxL ret hh ∈ ws) ∧
  (Cond.codeWith y bytes maxL ret hh).before args s = true ∧ (Cond.initialized y.cls).before args s = true ∧ (y.cls ≠ "java/lang/invoke/MethodHandle" ∧ y.cls ≠ "java/lang/invoke/VarHandle") ∧
  (∀ sig, parseMethodDescriptor y.desc = some sig → n = sig.parameters.length) ∧ (Cond.methodLink own index y).before args s = true ∧ (Cond.static y).before args s = true
theorem vx_cwSW {own : String} {index maxL mc ms : Nat} {y : MethodName} {bytes : ByteArray} {ret : Option FieldType} {hh : List (Nat × Nat × Nat × Nat)} {Ts ws ws' : List Cond} {rm : Room} (n : Nat) (ht : ∀ w ∈ Ts, w.before args s = true) (hT : GoodIn Ts (va_wsS own index y ws)) (hw : ws = Cond.codeWith y bytes maxL ret hh :: ws') (hrc : rm.cells = mc) (hrs : rm.slots = ms)
    (hd : y.cls ≠ "java/lang/invoke/MethodHandle" ∧ y.cls ≠ "java/lang/invoke/VarHandle" ∧ (parseMethodDescriptor y.desc).map (fun d => d.parameters.length) = some n) (hR : rm.frames + 1 ≤ R.frames ∧ 8 + (maxL + 11) + rm.locals ≤ R.locals) :
    vx_CSW R s args own index y bytes maxL ret hh ws rm mc ms n := by
  have ok : ∀ w ∈ va_wsS own index y ws, w.before args s = true := fun w h => ht w (hT w h).1
  have hG : GoodIn Ts ws := fun w h => hT w (by unfold va_wsS; exact List.mem_append_right _ h)
  have hc : Cond.codeWith y bytes maxL ret hh ∈ ws := by rw [hw]; exact List.mem_cons_self
  refine ⟨⟨hrc, hrs, hR.1, hR.2, pay_in ht hG, hc⟩, ht _ (hG _ hc).1, ok _ (by simp [va_wsS]), ⟨hd.1, hd.2.1⟩, fun sig h => ?_, ok _ (by simp [va_wsS]), ok _ (by simp [va_wsS])⟩
  have h2 := hd.2.2
  rw [h] at h2
  exact (Option.some.inj h2).symm
theorem vx_callSW (X : Stand p l e R s m args below meth c T locs cells slots) (hexec : p.tables.exec = Jvm.exec) {own : String} {index : Nat} {y : MethodName} {bytes : ByteArray} {maxL : Nat} {ret : Option FieldType} {hh : List (Nat × Nat × Nat × Nat)}
    (hown : s.vm.findClass own = some m.cls) (hlink : (Cond.methodLink own index y).before args s = true) (hstat : (Cond.static y).before args s = true) (hinit : (Cond.initialized y.cls).before args s = true)
    (hcode : (Cond.codeWith y bytes maxL ret hh).before args s = true) (hy : y.cls ≠ "java/lang/invoke/MethodHandle" ∧ y.cls ≠ "java/lang/invoke/VarHandle")
    {W9 : Nat} {Pre : Pt → Array Value → Prop} {Post : Pt → Array Value → Option Value → Pt → Prop} (hK : Back l R p e below s args y 3 W9 Pre Post)
    {g : JFrame} (hg : g.method = m) (hsize : g.locals.size = c.maxLocals) {argsL rest : List Value} (hlen : ∀ sig, parseMethodDescriptor y.desc = some sig → argsL.length = sig.parameters.length)
    (hstack : g.stack = argsL.reverse ++ rest) (hW : 2 * g.monitorRoom + (rest.map fun v => v.category).sum ≤ W9) (hdg : decode c.code g.pc = .ok (.invokestatic index, 3))
    (hpre : ∀ vm₁, s.WarmedH vm₁ → Pre ⟨T.setVm vm₁, locs, cells, slots⟩ argsL.toArray) :
    ∃ (v : Option Value) (vm₁ : Vm) (B : Pt), s.WarmedH vm₁ ∧ Stand p l e R s m args below meth c B.U B.locs B.cells B.slots ∧ Post ⟨T.setVm vm₁, locs, cells, slots⟩ argsL.toArray v B ∧
      ∀ target, Steps p.tables e below (B.U.setTop { g with pc := g.pc + 3, stack := v.toList ++ rest }) target → Steps p.tables e below (T.setTop g) target := by
  obtain ⟨mk, methM, cM, hnamed, hmethM, -, -, -, -, -, -, hsigM⟩ := Cond.codeWith_spec hcode
  have hstatic : methM.isStatic = true := Cond.static_spec hnamed hmethM hstat
  obtain ⟨kP, hkP, -⟩ := className_of_methodNamed hnamed
  have hinitP : kP.init = .initialized := Cond.initialized_spec (findClass_of_methodNamed hnamed) hkP hinit
  obtain ⟨vm₁, X₁, hstep₁⟩ := X.invokestatic hexec hown hlink hnamed hmethM hstatic hkP hinitP hy (g := g) hg (argsL := argsL) (rest := rest) (hlen _ hsigM) hstack hdg
  obtain ⟨v, B, X', hpost, hsteps⟩ := hK m meth c ⟨T.setVm vm₁, locs, cells, slots⟩ { g with stack := rest } (.invokestatic index) mk argsL.toArray X₁ hg hsize hdg hW (X₁.named hnamed) (hpre vm₁ X₁.warmed)
  exact ⟨v, vm₁, B, X₁.warmed, X', hpost, fun target h => hstep₁ _ fun acts => by rw [doInvoke_state]; exact hsteps.trans h⟩
theorem vx_runSW {y : MethodName} {bytes cc : ByteArray} {maxL nL mc ms n index : Nat} {ret : Option FieldType} {hh : List (Nat × Nat × Nat × Nat)} {ws : List Cond} {rm : Room} {Pc : Array Value → State → Prop} {Qc : Array Value → State → Outcome → State → Prop} {free : Addr → Prop} {Ts : List Cond} {own : String} {As rest : List Value} {g : JFrame}
    (S : CallFix p m c cc nL s args Ts own) (hM : Met l y ws rm Pc Qc mc ms free) (cw : vx_CSW R s args own index y bytes maxL ret hh ws rm mc ms n) (hp : PreS s H Pc As)
    (hg : g.method = m) (hn : As.length = n) (hsize : g.locals.size = nL) (hstack : g.stack = As.reverse ++ rest) (hW : 2 * g.monitorRoom + (rest.map fun v => v.category).sum ≤ 8) (hdg : decode cc g.pc = .ok (.invokestatic index, 3)) (hf : cells + mc ≤ R.cells ∧ slots + ms ≤ R.slots) :
    va_Run p l e R s m args below meth c H locs cells slots mc ms g rest (Qc As.toArray) (free) := by
  obtain ⟨⟨hrc, hrs, hfr, hlo, hws, hcw⟩, hcode, hini, hy, hlen, hl, hstt⟩ := cw
  have hK : Back l R p e below s args y 3 8 (PreOf R mc ms Pc) (PostOf Qc mc ms free) := va_backW (hh := hh) (bytes := bytes) (maxL := maxL) (ret := ret) hM hp.1 hrc hrs hfr hlo hws hcw (fun a' U hW => word_at hW (Or.inl (by first | rfl | simp [Cond.onTables, Cond.keeps, Cond.steady])) hini)
  obtain ⟨hx, hb, hml, ho, -⟩ := S
  intro T hT X
  obtain ⟨v, vm₁, ⟨U', l2, c2, s2⟩, hW₁, X', ⟨g', mk, t, L, e1, e2, hq, h1, hL, h2, h3⟩, st⟩ := vx_callSW X hx (hh := hh) (bytes := bytes) (maxL := maxL) (ret := ret) ho hl hstt hini hcode hy hK hg (hsize.trans hml.symm) (argsL := As) (rest := rest) (fun sig h => hn.trans (hlen sig h)) hstack hW (by rw [hb]; exact hdg)
    (fun vm₁ hW₁ => ⟨hf.1, hf.2, hp.2 (T.setVm vm₁) hT hW₁⟩)
  dsimp only [Pt.U, Pt.locs, Pt.cells, Pt.slots] at X' e1 e2 h1 h2 h3 st
  subst h1; subst h2; subst h3
  exact ⟨v, (T.setVm vm₁).calling g' mk As.toArray, t, U', L, hT, X', hL, e1, e2, hq, st⟩
/-- not caught here, past rows that name other classes: it goes on to the caller -/
theorem vx_outP {p : Program} {l : Launch} {e : Env} {R : Room} {s : State} {m : MethodId} {args : Array Value} {below : List Frame} {meth : Method} {c : Code} {H : Heap} {locs : List Loc} {cells slots : Nat} {free : Addr → Prop} {ls : Array Slot} {rest : List Value} {Qc : Array Value → State → Outcome → State → Prop} {XC : String → State → State → Prop}
    {pc : Nat} {own E : String} {ce : Cell} {q : Addr} {mc ms : Nat} (hown : s.vm.findClass own = some m.cls) (hlocks : meth.locks = false)
    (hpass : ∀ z ∈ c.exceptionTable.toList, covers z pc = false ∨ (z.catchType ≠ 0 ∧ ∃ nm : String, (Cond.classLink own z.catchType nm).before args s = true ∧ va_Nc E nm s)) (hcell : H[q]? = some ce) (hv : ce.vm = .none) (hcl : s.vm.findClass E = some ce.cls)
    (hx : ∀ t : State, t.heap = H → s.vm.Alike t.vm → XC E s t) (hf : ∀ z ∈ locs, free z.base) (hc : cells ≤ mc) (hs : slots ≤ ms) :
    vx_W p l e R s m args below meth c H locs cells slots (vx_MQ below Qc XC args s mc ms free) (F0 m pc ls rest) q := by
  intro T hT X
  have hpl : e.platform.magicAccessors = ({} : Platform).magicAccessors := by rw [X.admits.platform]
  obtain ⟨vm', hW', X', st⟩ := X.outThrough hlocks q (g := F0 m pc ls rest) rfl rfl rfl (cell := ce) (by rw [hT]; exact hcell) (by rw [hv]; rfl)
    (by obtain ⟨k9, h9, -⟩ := Vm.findClass_spec hcl; exact ⟨k9, h9⟩) (fun z hz => by
      rcases hpass z hz with h | ⟨hz0, nm, hl1, hn1⟩
      · exact Or.inl h
      · obtain ⟨c6, hc6, hcl6⟩ := Cond.classLink_spec hown hl1 e.platform hpl
        obtain ⟨a8, b8, h1, h2, h3⟩ := hn1
        cases Option.some.inj (h1.symm.trans hcl)
        cases Option.some.inj (h2.symm.trans hc6)
        exact Or.inr ⟨hz0, _, hcl6, h3⟩)
  obtain ⟨g₀, hfr⟩ := X'.frames_eq
  have hcell9 : ((T.setVm vm').setFrames (.throwing q :: below)).heap[q]? = some ce := by
    show T.heap[q]? = some ce
    rw [hT]; exact hcell
  have hend : Ended ((T.setVm vm').setFrames (.throwing q :: below)) below (.threw q) := State.frames_setFrames _ (State.cur_lt_of_frames hfr)
  refine ⟨(T.setVm vm').setFrames (.throwing q :: below), ?_, .threw q, X'.here.running, hend, Or.inr ⟨q, rfl, E, ce, locs, hx _ hT (X'.ends _).1.alike, hcell9, hv, hcl, (X'.ends _).1, (X'.ends _).2.mono hc hs, hf⟩⟩
  rw [X.pushThrowing_eq]
  exact st
/-- a thing of a world lies in the heap -/
theorem vx_lt {D : va_G} {cl : List vw_C} {ws : va_W} {H1 : Heap} (h : va_P D cl ws H1) {k : Nat} {q : Nat × va_E} (hk : ws[k]? = some q) : q.1 < H1.size := (h k q hk).lt
end VXS
/-! ===== END ===== -/
/-! ===== BEGIN methods with a table of their own: called by a name, returning or throwing ===== -/
section VXH
/-! vx_backW, vx_callVX, vx_callSX, vx_callVW, vx_runVW, vx_runVX, vx_runSX, vx_ofWH follow the same proofs as their sisters above (Free/Laws.lean, Shelf42/LK1.lean); vx_outP calls Shelf42/NT130.lean (outThrough). -/
section
variable {l : Launch} {R : Room} {p : Program} {e : Env} {below : List Frame} {s : State} {sargs : Array Value} {y : MethodName} {len W9 : Nat}
theorem vx_backW {ws : List Cond} {rm : Room} {Pc : Array Value → State → Prop} {Qc : Array Value → State → Outcome → State → Prop} {XC : String → State → State → Prop} {mc ms : Nat} {free : Addr → Prop} {bytes : ByteArray} {maxL : Nat} {ret : Option FieldType} {hh : List (Nat × Nat × Nat × Nat)}
    (hM : vx_Met l y ws rm Pc Qc XC mc ms free) (hblind : FrameBlind Pc) (hrc : rm.cells = mc) (hrs : rm.slots = ms)
    (hframes : rm.frames + 1 ≤ R.frames) (hlocals : W9 + (maxL + 11) + rm.locals ≤ R.locals)
    (hws : ∀ w ∈ ws, ∀ a' U, s.WarmedH U.vm → w.before a' U = true) (hcode : Cond.codeWith y bytes maxL ret hh ∈ ws) (hinit : ∀ a' U, s.WarmedH U.vm → (Cond.initialized y.cls).before a' U = true) :
    vx_Back l R p e below s sargs y len W9 (PreOf R mc ms Pc) (PostOf Qc mc ms free) (vx_Post XC mc ms free) := by
  intro m meth c A g ig mk a X hg hsize hdg hW hn hp
  have h1 : (headSpec ws rm).pre.before a A.U = true := atoms_intro fun w hw => hws w hw _ _ X.warmed
  have h2 : (Cond.codeWith y bytes maxL ret hh).before a A.U = true := hws _ hcode _ _ X.warmed
  have h3 : (Cond.initialized y.cls).before a A.U = true := hinit _ _ X.warmed
  have h4 : A.cells + (headSpec ws rm).room.cells ≤ R.cells := by rw [show (headSpec ws rm).room.cells = mc from hrc]; exact hp.1
  have h5 : A.slots + (headSpec ws rm).room.slots ≤ R.slots := by rw [show (headSpec ws rm).room.slots = ms from hrs]; exact hp.2.1
  have hPc : Pc a (A.U.calling g mk a) := hblind _ _ _ _ hp.2.2
  obtain ⟨U, Ls, c0, s0⟩ := A
  dsimp only [Pt.U, Pt.locs, Pt.cells, Pt.slots] at h1 h2 h3 h4 h5 X hn hPc ⊢
  obtain ⟨m9, methY, cY, hn9, hmY, hcY, -, hlY, -⟩ := Cond.codeWith_spec h2
  cases Option.some.inj (hn9.symm.trans hn)
  obtain ⟨kY, hkY, -⟩ := className_of_methodNamed hn
  have hinitY : kY.init = .initialized := Cond.initialized_spec (findClass_of_methodNamed hn) hkY h3
  have h : At U g.method c below := by rw [hg]; exact X.here
  have hlocals9 : W9 + (maxL + 11) + (headSpec ws rm).room.locals ≤ R.locals := hlocals
  have happ : (headSpec ws rm).appliesLoose y e.platform (U.calling g mk a) = true :=
    Spec.appliesLoose_calling (g := g) h hdg hn hkY hinitY
      (X.room_calling (g := g) (R' := (headSpec ws rm).room) hsize hmY hcY hframes (by rw [hlY]; omega) h4 h5) h1
  obtain ⟨mid, hmid⟩ := h.above
  have hfr : (U.setTop g).frames = (.java g :: mid) ++ below := by rw [State.frames_setTop' g h.top, hmid]; rfl
  obtain ⟨o, s₂, hsteps, -, hend, hq⟩ := Steps.callFree hM p X.admits X.cas X.clock (acts := []) hfr happ hPc trivial
  have hq' : vx_Q Qc XC mc ms free a (U.calling g mk a) o s₂ := hq
  rw [State.frames_setTop' g h.top] at hend
  obtain ⟨g₀, hg0⟩ := Option.isSome_iff_exists.mp h.top
  obtain ⟨r, hr⟩ := State.topJava?_eq_some.mp hg0
  have hr' : (({ U with heap := s₂.heap, slotsUsed := s₂.slotsUsed } : State).setVm s₂.vm).frames = .java g₀ :: r := hr
  rcases hq' with ⟨hqc, L, hfe, hL⟩ | ⟨q, rfl, E, ce, L, hx, hce, hcv, hcl, hW₂, hsm, hL⟩
  · obtain ⟨⟨v, rfl⟩, hW₂, e2, q2, q3, q4, q5, q6⟩ := id hfe
    have e3 : s₂ = ({ (U.calling g mk a).setFrames s₂.frames with heap := s₂.heap, slotsUsed := s₂.slotsUsed } : State).setVm s₂.vm := by
      have : s₂ = ({ s₂ with vm := (U.calling g mk a).vm } : State).setVm s₂.vm := rfl
      rw [e2] at this
      exact this
    obtain ⟨c₂, i₂, len₂, hc₂, hd₂, hf₂⟩ := hend
    have hW' : U.WarmedH s₂.vm := hW₂
    have hcc : c₂ = c := by
      have h1 : s₂.code? g.method = U.code? g.method := by
        rw [State.code?_eq, State.code?_eq, hW'.alike.method?]
      exact Option.some.inj (hc₂.symm.trans (h1.trans h.code))
    subst hcc
    have hlen : len₂ = len := by rw [hdg] at hd₂; cases hd₂; rfl
    subst hlen
    have hs₂ : s₂ = (({ U with heap := s₂.heap, slotsUsed := s₂.slotsUsed } : State).setVm s₂.vm).setTop { g with pc := g.pc + len₂, stack := v.toList ++ g.stack } := by
      refine e3.trans ?_
      rw [hf₂, State.calling_eq h.top, State.setFrames_setFrames, State.setTop_of_frames _ hr', hr]
      rfl
    have hsame : U.sameButNew ({ U with heap := s₂.heap, slotsUsed := s₂.slotsUsed } : State) L mc ms := by
      refine ⟨?_, q2, q3, q4, q5, q6⟩
      obtain ⟨t, ht, -⟩ := State.frames_cons hr
      show ({ U with heap := s₂.heap, slotsUsed := s₂.slotsUsed } : State) = { U.setFrames U.frames with heap := s₂.heap, slotsUsed := s₂.slotsUsed }
      rw [State.setFrames_self ht]
    subst hg
    refine Or.inl ⟨v, ⟨(({ U with heap := s₂.heap, slotsUsed := s₂.slotsUsed } : State).setVm s₂.vm), Ls ++ L, c0 + mc, s0 + ms⟩,
      ⟨X.admits, X.cas, X.clock, X.frames, X.room, X.hears, X.method, X.code, (X.here.setHeapUsed s₂.heap s₂.slotsUsed).setVm hW'.alike, X.tail, State.WarmedH.trans X.warmed hW', X.limits, X.bytes, X.same.trans (hsame.setVm s.vm)⟩,
      ⟨g, mk, s₂, L, rfl, rfl, hqc, rfl, hL, rfl, rfl⟩, ?_⟩
    show Steps p.tables e below _ ((({ U with heap := s₂.heap, slotsUsed := s₂.slotsUsed } : State).setVm s₂.vm).setTop { g with pc := g.pc + len₂, stack := v.toList ++ g.stack })
    rw [← hs₂]
    exact hsteps
  · obtain ⟨e2, q2, q3, q4, q5, q6⟩ := id hsm
    have e3 : s₂ = ({ (U.calling g mk a).setFrames s₂.frames with heap := s₂.heap, slotsUsed := s₂.slotsUsed } : State).setVm s₂.vm := by
      have : s₂ = ({ s₂ with vm := (U.calling g mk a).vm } : State).setVm s₂.vm := rfl
      rw [e2] at this
      exact this
    have hf₂ : s₂.frames = .throwing q :: .java g :: U.frames.tail := hend
    have hW' : U.WarmedH s₂.vm := hW₂
    have hs₂ : s₂ = ((({ U with heap := s₂.heap, slotsUsed := s₂.slotsUsed } : State).setVm s₂.vm).setTop g).pushFrame (.throwing q) := by
      refine e3.trans ?_
      rw [hf₂, State.calling_eq h.top, State.setFrames_setFrames, State.pushFrame, State.frames_setTop _ hr', State.setTop_of_frames _ hr', State.setFrames_setFrames, hr]
      rfl
    have hsame : U.sameButNew ({ U with heap := s₂.heap, slotsUsed := s₂.slotsUsed } : State) L mc ms := by
      refine ⟨?_, q2, q3, q4, q5, q6⟩
      obtain ⟨t, ht, -⟩ := State.frames_cons hr
      show ({ U with heap := s₂.heap, slotsUsed := s₂.slotsUsed } : State) = { U.setFrames U.frames with heap := s₂.heap, slotsUsed := s₂.slotsUsed }
      rw [State.setFrames_self ht]
    subst hg
    refine Or.inr ⟨q, ⟨(({ U with heap := s₂.heap, slotsUsed := s₂.slotsUsed } : State).setVm s₂.vm), Ls ++ L, c0 + mc, s0 + ms⟩,
      ⟨X.admits, X.cas, X.clock, X.frames, X.room, X.hears, X.method, X.code, (X.here.setHeapUsed s₂.heap s₂.slotsUsed).setVm hW'.alike, X.tail, State.WarmedH.trans X.warmed hW', X.limits, X.bytes, X.same.trans (hsame.setVm s.vm)⟩,
      ⟨g, mk, s₂, L, E, ce, rfl, rfl, hx, hce, hcv, hcl, rfl, hL, rfl, rfl⟩, ?_⟩
    show Steps p.tables e below _ (((({ U with heap := s₂.heap, slotsUsed := s₂.slotsUsed } : State).setVm s₂.vm).setTop g).pushFrame (.throwing q))
    rw [← hs₂]
    exact hsteps
end
variable {p : Program} {l : Launch} {e : Env} {R : Room} {s : State} {m : MethodId} {args : Array Value} {below : List Frame} {meth : Method} {c : Code} {T : State} {H : Heap} {locs : List Loc} {cells slots : Nat}
theorem vx_callVX (X : Stand p l e R s m args below meth c T locs cells slots) (hexec : p.tables.exec = Jvm.exec) {own C : String} {index : Nat} {y : MethodName} {bytes : ByteArray} {maxL : Nat} {ret : Option FieldType} {hh : List (Nat × Nat × Nat × Nat)}
    (hown : s.vm.findClass own = some m.cls) (hlink : (Cond.methodLink own index y).before args s = true) (hinst : (Cond.instanceMethod y).before args s = true) (hsel : (Cond.selects C y y).before args s = true)
    (hcode : (Cond.codeWith y bytes maxL ret hh).before args s = true) (hy : y.cls ≠ "java/lang/invoke/MethodHandle" ∧ y.cls ≠ "java/lang/invoke/VarHandle")
    {W9 : Nat} {Pre : Pt → Array Value → Prop} {Post : Pt → Array Value → Option Value → Pt → Prop} {PostX : Pt → Array Value → Addr → Pt → Prop} (hK : vx_Back l R p e below s args y 3 W9 Pre Post PostX)
    {b : Addr} {cellB : Cell} (hcell : T.heap[b]? = some cellB) (hobj : cellB.vm.isStatics = false) (hcls : s.vm.findClass C = some cellB.cls)
    {g : JFrame} (hg : g.method = m) (hsize : g.locals.size = c.maxLocals) {argsL rest : List Value} (hlen : ∀ sig, parseMethodDescriptor y.desc = some sig → argsL.length = sig.parameters.length)
    (hstack : g.stack = argsL.reverse ++ .ref b :: rest) (hW : 2 * g.monitorRoom + (rest.map fun v => v.category).sum ≤ W9) (hdg : decode c.code g.pc = .ok (.invokevirtual index, 3))
    (hpre : ∀ vm₁, s.WarmedH vm₁ → Pre ⟨T.setVm vm₁, locs, cells, slots⟩ (Value.ref b :: argsL).toArray) :
    (∃ (v : Option Value) (vm₁ : Vm) (B : Pt), s.WarmedH vm₁ ∧ Stand p l e R s m args below meth c B.U B.locs B.cells B.slots ∧ Post ⟨T.setVm vm₁, locs, cells, slots⟩ (Value.ref b :: argsL).toArray v B ∧
      ∀ target, Steps p.tables e below (B.U.setTop { g with pc := g.pc + 3, stack := v.toList ++ rest }) target → Steps p.tables e below (T.setTop g) target) ∨
    (∃ (q : Addr) (vm₁ : Vm) (B : Pt), s.WarmedH vm₁ ∧ Stand p l e R s m args below meth c B.U B.locs B.cells B.slots ∧ PostX ⟨T.setVm vm₁, locs, cells, slots⟩ (Value.ref b :: argsL).toArray q B ∧
      Steps p.tables e below (T.setTop g) ((B.U.setTop { g with stack := rest }).pushFrame (.throwing q))) := by
  obtain ⟨mk, methM, hnamed, hmethM, hstM, habM⟩ := Cond.instanceMethod_spec hinst
  obtain ⟨m8, methM', cM, hn8, hmethM', -, -, -, -, -, -, hsigM⟩ := Cond.codeWith_spec hcode
  cases Option.some.inj (hn8.symm.trans hnamed)
  cases hmethM.symm.trans hmethM'
  obtain ⟨c2, r2, m2, q1, q2, q3, q4, kP, hkP, hkPi⟩ := Cond.selects_spec hsel
  cases hcls.symm.trans q1
  cases (State.methodFound?_of_named hnamed hy).symm.trans q2
  cases hnamed.symm.trans q3
  have hselP : selectMethod e.platform s.vm cellB.cls mk = .method mk := by rw [Launch.admits_selectMethod X.admits]; exact q4
  obtain ⟨vm₁, X₁, hstep₁⟩ := X.invokevirtual hexec hown hlink hnamed hmethM hstM hkP hkPi hy (a := b) (cell := cellB) hcell
    (fun z h => by rw [h] at hobj; cases hobj) hselP hmethM habM hkP hkPi (g := g) hg (argsL := argsL) (rest := rest) (hlen _ hsigM) hstack hdg
  rcases hK m meth c ⟨T.setVm vm₁, locs, cells, slots⟩ { g with stack := rest } (.invokevirtual index) mk (Value.ref b :: argsL).toArray X₁ hg hsize hdg hW (X₁.named hnamed) (hpre vm₁ X₁.warmed) with ⟨v, B, X', hpost, hsteps⟩ | ⟨q, B, X', hpost, hsteps⟩
  · exact Or.inl ⟨v, vm₁, B, X₁.warmed, X', hpost, fun target h => hstep₁ _ fun acts => by rw [doInvoke_state]; exact hsteps.trans h⟩
  · exact Or.inr ⟨q, vm₁, B, X₁.warmed, X', hpost, hstep₁ _ fun acts => by rw [doInvoke_state]; exact hsteps⟩
theorem vx_callSX (X : Stand p l e R s m args below meth c T locs cells slots) (hexec : p.tables.exec = Jvm.exec) {own : String} {index : Nat} {y : MethodName} {bytes : ByteArray} {maxL : Nat} {ret : Option FieldType} {hh : List (Nat × Nat × Nat × Nat)}
    (hown : s.vm.findClass own = some m.cls) (hlink : (Cond.methodLink own index y).before args s = true) (hstat : (Cond.static y).before args s = true) (hinit : (Cond.initialized y.cls).before args s = true)
    (hcode : (Cond.codeWith y bytes maxL ret hh).before args s = true) (hy : y.cls ≠ "java/lang/invoke/MethodHandle" ∧ y.cls ≠ "java/lang/invoke/VarHandle")
    {W9 : Nat} {Pre : Pt → Array Value → Prop} {Post : Pt → Array Value → Option Value → Pt → Prop} {PostX : Pt → Array Value → Addr → Pt → Prop} (hK : vx_Back l R p e below s args y 3 W9 Pre Post PostX)
    {g : JFrame} (hg : g.method = m) (hsize : g.locals.size = c.maxLocals) {argsL rest : List Value} (hlen : ∀ sig, parseMethodDescriptor y.desc = some sig → argsL.length = sig.parameters.length)
    (hstack : g.stack = argsL.reverse ++ rest) (hW : 2 * g.monitorRoom + (rest.map fun v => v.category).sum ≤ W9) (hdg : decode c.code g.pc = .ok (.invokestatic index, 3))
    (hpre : ∀ vm₁, s.WarmedH vm₁ → Pre ⟨T.setVm vm₁, locs, cells, slots⟩ argsL.toArray) :
    (∃ (v : Option Value) (vm₁ : Vm) (B : Pt), s.WarmedH vm₁ ∧ Stand p l e R s m args below meth c B.U B.locs B.cells B.slots ∧ Post ⟨T.setVm vm₁, locs, cells, slots⟩ argsL.toArray v B ∧
      ∀ target, Steps p.tables e below (B.U.setTop { g with pc := g.pc + 3, stack := v.toList ++ rest }) target → Steps p.tables e below (T.setTop g) target) ∨
    (∃ (q : Addr) (vm₁ : Vm) (B : Pt), s.WarmedH vm₁ ∧ Stand p l e R s m args below meth c B.U B.locs B.cells B.slots ∧ PostX ⟨T.setVm vm₁, locs, cells, slots⟩ argsL.toArray q B ∧
      Steps p.tables e below (T.setTop g) ((B.U.setTop { g with stack := rest }).pushFrame (.throwing q))) := by
  obtain ⟨mk, methM, cM, hnamed, hmethM, -, -, -, -, -, -, hsigM⟩ := Cond.codeWith_spec hcode
  have hstatic : methM.isStatic = true := Cond.static_spec hnamed hmethM hstat
  obtain ⟨kP, hkP, -⟩ := className_of_methodNamed hnamed
  have hinitP : kP.init = .initialized := Cond.initialized_spec (findClass_of_methodNamed hnamed) hkP hinit
  obtain ⟨vm₁, X₁, hstep₁⟩ := X.invokestatic hexec hown hlink hnamed hmethM hstatic hkP hinitP hy (g := g) hg (argsL := argsL) (rest := rest) (hlen _ hsigM) hstack hdg
  rcases hK m meth c ⟨T.setVm vm₁, locs, cells, slots⟩ { g with stack := rest } (.invokestatic index) mk argsL.toArray X₁ hg hsize hdg hW (X₁.named hnamed) (hpre vm₁ X₁.warmed) with ⟨v, B, X', hpost, hsteps⟩ | ⟨q, B, X', hpost, hsteps⟩
  · exact Or.inl ⟨v, vm₁, B, X₁.warmed, X', hpost, fun target h => hstep₁ _ fun acts => by rw [doInvoke_state]; exact hsteps.trans h⟩
  · exact Or.inr ⟨q, vm₁, B, X₁.warmed, X', hpost, hstep₁ _ fun acts => by rw [doInvoke_state]; exact hsteps⟩
theorem vx_callVW (X : Stand p l e R s m args below meth c T locs cells slots) (hexec : p.tables.exec = Jvm.exec) {own C : String} {index : Nat} {y : MethodName} {bytes : ByteArray} {maxL : Nat} {ret : Option FieldType} {hh : List (Nat × Nat × Nat × Nat)}
    (hown : s.vm.findClass own = some m.cls) (hlink : (Cond.methodLink own index y).before args s = true) (hinst : (Cond.instanceMethod y).before args s = true) (hsel : (Cond.selects C y y).before args s = true)
    (hcode : (Cond.codeWith y bytes maxL ret hh).before args s = true) (hy : y.cls ≠ "java/lang/invoke/MethodHandle" ∧ y.cls ≠ "java/lang/invoke/VarHandle")
    {W9 : Nat} {Pre : Pt → Array Value → Prop} {Post : Pt → Array Value → Option Value → Pt → Prop} (hK : Back l R p e below s args y 3 W9 Pre Post)
    {b : Addr} {cellB : Cell} (hcell : T.heap[b]? = some cellB) (hobj : cellB.vm.isStatics = false) (hcls : s.vm.findClass C = some cellB.cls)
    {g : JFrame} (hg : g.method = m) (hsize : g.locals.size = c.maxLocals) {argsL rest : List Value} (hlen : ∀ sig, parseMethodDescriptor y.desc = some sig → argsL.length = sig.parameters.length)
    (hstack : g.stack = argsL.reverse ++ .ref b :: rest) (hW : 2 * g.monitorRoom + (rest.map fun v => v.category).sum ≤ W9) (hdg : decode c.code g.pc = .ok (.invokevirtual index, 3))
    (hpre : ∀ vm₁, s.WarmedH vm₁ → Pre ⟨T.setVm vm₁, locs, cells, slots⟩ (Value.ref b :: argsL).toArray) :
    ∃ (v : Option Value) (vm₁ : Vm) (B : Pt), s.WarmedH vm₁ ∧ Stand p l e R s m args below meth c B.U B.locs B.cells B.slots ∧ Post ⟨T.setVm vm₁, locs, cells, slots⟩ (Value.ref b :: argsL).toArray v B ∧
      ∀ target, Steps p.tables e below (B.U.setTop { g with pc := g.pc + 3, stack := v.toList ++ rest }) target → Steps p.tables e below (T.setTop g) target := by
  obtain ⟨mk, methM, hnamed, hmethM, hstM, habM⟩ := Cond.instanceMethod_spec hinst
  obtain ⟨m8, methM', cM, hn8, hmethM', -, -, -, -, -, -, hsigM⟩ := Cond.codeWith_spec hcode
  cases Option.some.inj (hn8.symm.trans hnamed)
  cases hmethM.symm.trans hmethM'
  obtain ⟨c2, r2, m2, q1, q2, q3, q4, kP, hkP, hkPi⟩ := Cond.selects_spec hsel
  cases hcls.symm.trans q1
  cases (State.methodFound?_of_named hnamed hy).symm.trans q2
  cases hnamed.symm.trans q3
  have hselP : selectMethod e.platform s.vm cellB.cls mk = .method mk := by rw [Launch.admits_selectMethod X.admits]; exact q4
  obtain ⟨vm₁, X₁, hstep₁⟩ := X.invokevirtual hexec hown hlink hnamed hmethM hstM hkP hkPi hy (a := b) (cell := cellB) hcell
    (fun z h => by rw [h] at hobj; cases hobj) hselP hmethM habM hkP hkPi (g := g) hg (argsL := argsL) (rest := rest) (hlen _ hsigM) hstack hdg
  obtain ⟨v, B, X', hpost, hsteps⟩ := hK m meth c ⟨T.setVm vm₁, locs, cells, slots⟩ { g with stack := rest } (.invokevirtual index) mk (Value.ref b :: argsL).toArray X₁ hg hsize hdg hW (X₁.named hnamed) (hpre vm₁ X₁.warmed)
  exact ⟨v, vm₁, B, X₁.warmed, X', hpost, fun target h => hstep₁ _ fun acts => by rw [doInvoke_state]; exact hsteps.trans h⟩
abbrev vx_CVW (R : Room) (s : State) (args : Array Value) (own C : String) (index : Nat) (y : MethodName) (bytes : ByteArray) (maxL : Nat) (ret : Option FieldType) (hh : List (Nat × Nat × Nat × Nat)) (ws : List Cond) (rm : Room) (mc ms n : Nat) : Prop :=
  (rm.cells = mc ∧ rm.slots = ms ∧ rm.frames + 1 ≤ R.frames ∧ 8 + (maxL + 11) + rm.locals ≤ R.locals ∧ (∀ w ∈ ws, ∀ (a' : Array Value) (U : State), s.WarmedH U.vm → w.before a' U = true) ∧ Cond.codeWith y bytes maxL ret hh ∈ ws) ∧
  (Cond.codeWith y bytes maxL ret hh).before args s = true ∧ (Cond.initialized y.cls).before args s = true ∧ (y.cls ≠ "java/lang/invoke/MethodHandle" ∧ y.cls ≠ "java/lang/invoke/VarHandle") ∧
  (∀ sig, parseMethodDescriptor y.desc = some sig → n = sig.parameters.length) ∧ (Cond.methodLink own index y).before args s = true ∧ (Cond.instanceMethod y).before args s = true ∧ (Cond.selects C y y).before args s = true
theorem vx_cwVW {own C : String} {index maxL mc ms : Nat} {y : MethodName} {bytes : ByteArray} {ret : Option FieldType} {hh : List (Nat × Nat × Nat × Nat)} {Ts ws ws' : List Cond} {rm : Room} (n : Nat) (ht : ∀ w ∈ Ts, w.before args s = true) (hT : GoodIn Ts (wsV own index C y ws)) (hw : ws = Cond.codeWith y bytes maxL ret hh :: ws') (hrc : rm.cells = mc) (hrs : rm.slots = ms)
    (hd : y.cls = C ∧ y.cls ≠ "java/lang/invoke/MethodHandle" ∧ y.cls ≠ "java/lang/invoke/VarHandle" ∧ (parseMethodDescriptor y.desc).map (fun d => d.parameters.length) = some n) (hR : rm.frames + 1 ≤ R.frames ∧ 8 + (maxL + 11) + rm.locals ≤ R.locals) :
    vx_CVW R s args own C index y bytes maxL ret hh ws rm mc ms n := by
  obtain ⟨hC, hd⟩ := hd
  subst hC
  have ok : ∀ w ∈ wsV own index y.cls y ws, w.before args s = true := fun w h => ht w (hT w h).1
  have hG : GoodIn Ts ws := fun w h => hT w (by unfold wsV; exact List.mem_append_right _ h)
  have hc : Cond.codeWith y bytes maxL ret hh ∈ ws := by rw [hw]; exact List.mem_cons_self
  refine ⟨⟨hrc, hrs, hR.1, hR.2, pay_in ht hG, hc⟩, ht _ (hG _ hc).1, ok _ (by simp [wsV]), ⟨hd.1, hd.2.1⟩, fun sig h => ?_, ok _ (by simp [wsV]), ok _ (by simp [wsV]), ok _ (by simp [wsV])⟩
  have h2 := hd.2.2
  rw [h] at h2
  exact (Option.some.inj h2).symm
theorem vx_runVW {y : MethodName} {bytes cc : ByteArray} {maxL nL mc ms n index : Nat} {ret : Option FieldType} {hh : List (Nat × Nat × Nat × Nat)} {ws : List Cond} {rm : Room} {Pc : Array Value → State → Prop} {Qc : Array Value → State → Outcome → State → Prop} {free : Addr → Prop} {Ts : List Cond} {own C : String} {b : Addr} {As rest : List Value} {g : JFrame}
    (S : CallFix p m c cc nL s args Ts own) (hM : Met l y ws rm Pc Qc mc ms free) (cw : vx_CVW R s args own C index y bytes maxL ret hh ws rm mc ms n) (hp : PreV s H C b Pc As)
    (hg : g.method = m) (hn : As.length = n) (hsize : g.locals.size = nL) (hstack : g.stack = As.reverse ++ .ref b :: rest) (hW : 2 * g.monitorRoom + (rest.map fun v => v.category).sum ≤ 8) (hdg : decode cc g.pc = .ok (.invokevirtual index, 3)) (hf : cells + mc ≤ R.cells ∧ slots + ms ≤ R.slots) :
    va_Run p l e R s m args below meth c H locs cells slots mc ms g rest (Qc (Value.ref b :: As).toArray) free := by
  obtain ⟨⟨hrc, hrs, hfr, hlo, hws, hcw⟩, hcode, hini, hy, hlen, hl, hin, hse⟩ := cw
  have hK : Back l R p e below s args y 3 8 (PreOf R mc ms Pc) (PostOf Qc mc ms free) := va_backW (hh := hh) (bytes := bytes) (maxL := maxL) (ret := ret) hM hp.1 hrc hrs hfr hlo hws hcw (fun a' U hW => word_at hW (Or.inl (by first | rfl | simp [Cond.onTables, Cond.keeps, Cond.steady])) hini)
  obtain ⟨hx, hb, hml, ho, -⟩ := S
  obtain ⟨-, ⟨cellB, hcB, hoB, hclB⟩, hPc⟩ := hp
  intro T hT X
  obtain ⟨v, vm₁, ⟨U', l2, c2, s2⟩, hW₁, X', ⟨g', mk, t, L, e1, e2, hq, h1, hL, h2, h3⟩, st⟩ := vx_callVW X hx (C := C) (hh := hh) (bytes := bytes) (maxL := maxL) (ret := ret) ho hl hin hse hcode hy hK (by rw [hT]; exact hcB) hoB hclB hg (hsize.trans hml.symm) (argsL := As) (rest := rest) (fun sig h => hn.trans (hlen sig h)) hstack hW (by rw [hb]; exact hdg)
    (fun vm₁ hW₁ => ⟨hf.1, hf.2, hPc (T.setVm vm₁) hT hW₁⟩)
  dsimp only [Pt.U, Pt.locs, Pt.cells, Pt.slots] at X' e1 e2 h1 h2 h3 st
  subst h1; subst h2; subst h3
  exact ⟨v, (T.setVm vm₁).calling g' mk (Value.ref b :: As).toArray, t, U', L, hT, X', hL, e1, e2, hq, st⟩
section
variable {y : MethodName} {bytes cc : ByteArray} {maxL nL mc ms n index : Nat} {ret : Option FieldType} {ws : List Cond} {rm : Room} {Pc : Array Value → State → Prop} {Qc : Array Value → State → Outcome → State → Prop} {XC : String → State → State → Prop} {free : Addr → Prop} {Ts : List Cond} {own C : String} {b : Addr} {As rest : List Value} {g : JFrame}
theorem vx_runVX {hh : List (Nat × Nat × Nat × Nat)} (S : CallFix p m c cc nL s args Ts own) (hM : vx_Met l y ws rm Pc Qc XC mc ms free) (cw : vx_CVW R s args own C index y bytes maxL ret hh ws rm mc ms n) (hp : PreV s H C b Pc As)
    (hg : g.method = m) (hn : As.length = n) (hsize : g.locals.size = nL) (hstack : g.stack = As.reverse ++ .ref b :: rest) (hW : 2 * g.monitorRoom + (rest.map fun v => v.category).sum ≤ 8) (hdg : decode cc g.pc = .ok (.invokevirtual index, 3)) (hf : cells + mc ≤ R.cells ∧ slots + ms ≤ R.slots) :
    vx_Run p l e R s m args below meth c H locs cells slots mc ms g rest (Qc (Value.ref b :: As).toArray) XC free := by
  obtain ⟨⟨hrc, hrs, hfr, hlo, hws, hcw⟩, hcode, hini, hy, hlen, hl, hin, hse⟩ := cw
  have hK : vx_Back l R p e below s args y 3 8 (PreOf R mc ms Pc) (PostOf Qc mc ms free) (vx_Post XC mc ms free) := vx_backW (hh := hh) (bytes := bytes) (maxL := maxL) (ret := ret) hM hp.1 hrc hrs hfr hlo hws hcw (fun a' U hW => word_at hW (Or.inl (by first | rfl | simp [Cond.onTables, Cond.keeps, Cond.steady])) hini)
  obtain ⟨hx, hb, hml, ho, -⟩ := S
  obtain ⟨-, ⟨cellB, hcB, hoB, hclB⟩, hPc⟩ := hp
  intro T hT X
  rcases vx_callVX X hx (C := C) (hh := hh) (bytes := bytes) (maxL := maxL) (ret := ret) ho hl hin hse hcode hy hK (by rw [hT]; exact hcB) hoB hclB hg (hsize.trans hml.symm) (argsL := As) (rest := rest) (fun sig h => hn.trans (hlen sig h)) hstack hW (by rw [hb]; exact hdg)
    (fun vm₁ hW₁ => ⟨hf.1, hf.2, hPc (T.setVm vm₁) hT hW₁⟩) with ⟨v, vm₁, ⟨U', l2, c2, s2⟩, hW₁, X', ⟨g', mk, t, L, e1, e2, hq, h1, hL, h2, h3⟩, st⟩ | ⟨q, vm₁, ⟨U', l2, c2, s2⟩, hW₁, X', ⟨g', mk, t, L, E, ce, e1, e2, hq, hce, hcv, hcl, h1, hL, h2, h3⟩, st⟩
  · dsimp only [Pt.U, Pt.locs, Pt.cells, Pt.slots] at X' e1 e2 h1 h2 h3 st
    subst h1; subst h2; subst h3
    exact Or.inl ⟨v, (T.setVm vm₁).calling g' mk (Value.ref b :: As).toArray, t, U', L, hT, X', hL, e1, e2, hq, st⟩
  · dsimp only [Pt.U, Pt.locs, Pt.cells, Pt.slots] at X' e1 e2 h1 h2 h3 st hcl
    subst h1; subst h2; subst h3
    exact Or.inr ⟨q, (T.setVm vm₁).calling g' mk (Value.ref b :: As).toArray, t, U', L, E, ce, hT, X', hL, e1, e2, hq, hce, hcv, vx_cls hW₁ hcl, st⟩
theorem vx_runSX {hh : List (Nat × Nat × Nat × Nat)} (S : CallFix p m c cc nL s args Ts own) (hM : vx_Met l y ws rm Pc Qc XC mc ms free) (cw : vx_CSW R s args own index y bytes maxL ret hh ws rm mc ms n) (hp : PreS s H Pc As)
    (hg : g.method = m) (hn : As.length = n) (hsize : g.locals.size = nL) (hstack : g.stack = As.reverse ++ rest) (hW : 2 * g.monitorRoom + (rest.map fun v => v.category).sum ≤ 8) (hdg : decode cc g.pc = .ok (.invokestatic index, 3)) (hf : cells + mc ≤ R.cells ∧ slots + ms ≤ R.slots) :
    vx_Run p l e R s m args below meth c H locs cells slots mc ms g rest (Qc As.toArray) XC free := by
  obtain ⟨⟨hrc, hrs, hfr, hlo, hws, hcw⟩, hcode, hini, hy, hlen, hl, hstt⟩ := cw
  have hK : vx_Back l R p e below s args y 3 8 (PreOf R mc ms Pc) (PostOf Qc mc ms free) (vx_Post XC mc ms free) := vx_backW (hh := hh) (bytes := bytes) (maxL := maxL) (ret := ret) hM hp.1 hrc hrs hfr hlo hws hcw (fun a' U hW => word_at hW (Or.inl (by first | rfl | simp [Cond.onTables, Cond.keeps, Cond.steady])) hini)
  obtain ⟨hx, hb, hml, ho, -⟩ := S
  intro T hT X
  rcases vx_callSX X hx (hh := hh) (bytes := bytes) (maxL := maxL) (ret := ret) ho hl hstt hini hcode hy hK hg (hsize.trans hml.symm) (argsL := As) (rest := rest) (fun sig h => hn.trans (hlen sig h)) hstack hW (by rw [hb]; exact hdg)
    (fun vm₁ hW₁ => ⟨hf.1, hf.2, hp.2 (T.setVm vm₁) hT hW₁⟩) with ⟨v, vm₁, ⟨U', l2, c2, s2⟩, hW₁, X', ⟨g', mk, t, L, e1, e2, hq, h1, hL, h2, h3⟩, st⟩ | ⟨q, vm₁, ⟨U', l2, c2, s2⟩, hW₁, X', ⟨g', mk, t, L, E, ce, e1, e2, hq, hce, hcv, hcl, h1, hL, h2, h3⟩, st⟩
  · dsimp only [Pt.U, Pt.locs, Pt.cells, Pt.slots] at X' e1 e2 h1 h2 h3 st
    subst h1; subst h2; subst h3
    exact Or.inl ⟨v, (T.setVm vm₁).calling g' mk As.toArray, t, U', L, hT, X', hL, e1, e2, hq, st⟩
  · dsimp only [Pt.U, Pt.locs, Pt.cells, Pt.slots] at X' e1 e2 h1 h2 h3 st hcl
    subst h1; subst h2; subst h3
    exact Or.inr ⟨q, (T.setVm vm₁).calling g' mk As.toArray, t, U', L, E, ce, hT, X', hL, e1, e2, hq, hce, hcv, vx_cls hW₁ hcl, st⟩
end
end VXH
theorem vx_ofWH {l : Launch} {y : MethodName} {ws ws' : List Cond} {rm : Room} {Pc : Array Value → State → Prop} {Qc : Array Value → State → Outcome → State → Prop} {XC : String → State → State → Prop} {mc ms : Nat} {free : Addr → Prop} {cc : ByteArray} {maxL : Nat} {ret : Option FieldType} {hh : List (Nat × Nat × Nat × Nat)}
    (hy : plainName y.cls = true) (hw : ws = Cond.codeWith y cc maxL ret hh :: ws')
    (body : ∀ p e s m args below meth c s₁, BodyLoose p l y (headSpec ws rm) cc maxL ret e s m args below meth c s₁ → c.maxLocals = maxL → Pc args s →
      W p l e (headSpec ws rm).room s m args below meth c s.heap [] 0 0 (vx_MQ below Qc XC args s mc ms free) (entryFrame m args maxL)) : vx_Met l y ws rm Pc Qc XC mc ms free := by
  refine MetFree.of_bodyS (code := cc) (maxLocals := maxL) (ret := ret) hy ?_ ?_
  · intro args s m h hn
    obtain ⟨m9, meth, c, hn9, h1, h2, h3, h4, -, h5, h6, -⟩ := Cond.codeWith_spec (atoms_spec (ws := ws) h _ (by rw [hw]; exact List.mem_cons_self))
    cases hn.symm.trans hn9
    exact ⟨meth, c, h1, h2, h3, h4, h5, h6⟩
  · intro p e s m args below meth c s₁ B hml hP _
    have hh0 : s₁.heap = s.heap := by rw [B.state]; rfl
    obtain ⟨t, a1, o, b1, b2, b3⟩ := body p e s m args below meth c s₁ B hml hP s₁ hh0 (Stand.of_body B)
    exact ⟨t, o, a1, b1, b2, b3⟩
/-! ===== END ===== -/
end
section
/-! ===== BEGIN printed: names, fields, word lists, decode rows ===== -/
def RX0 : String := "RateFitter"
def TX0 : u_T := fun k => match k with
  | 0 => ("RateFitter", "factors", "[[I", true)
  | 1 => ("RateFitter", "rowLevels", "[[I", true)
  | 2 => ("RateFitter", "exposures", "[J", true)
  | 3 => ("RateFitter", "claims", "[J", true)
  | 4 => ("RateFitter", "losses", "[J", true)
  | 5 => ("RateFitter", "oldPremiums", "[I", true)
  | 6 => ("RateFitter", "live", "[Z", true)
  | 7 => ("RateFitter", "addedRows", "I", false)
  | 8 => ("RateFitter", "liveRows", "I", false)
  | 9 => ("RateFitter", "credibility", "I", false)
  | 10 => ("RateFitter", "cap", "I", false)
  | 11 => ("RateFitter", "spreadNow", "I", false)
  | 12 => ("RateFitter", "baseNow", "J", false)
  | 13 => ("RateFitter", "fittedLosses", "[J", true)
  | 14 => ("RateFitter", "groupStarts", "[I", true)
  | _ => ("RateFitter", "factorsBefore", "[I", true)
def tyX0 : Nat → FieldType := fun k => match k with
  | 0 => .array (.array .int)
  | 1 => .array (.array .int)
  | 2 => .array .long
  | 3 => .array .long
  | 4 => .array .long
  | 5 => .array .int
  | 6 => .array .boolean
  | 7 => .int
  | 8 => .int
  | 9 => .int
  | 10 => .int
  | 11 => .int
  | 12 => .long
  | 13 => .array .long
  | 14 => .array .int
  | _ => .array .int
abbrev wsX00 : List Cond := u_ws RX0 TX0 16
theorem nmX0 : ∀ a, a < 16 → ∀ b, b < 16 → a ≠ b → (TX0 a).2.1 ≠ (TX0 b).2.1 := by decide +kernel
theorem tyX0_ok : ∀ k, k < 16 → parseFieldDescriptor (TX0 k).2.2.1 = some (tyX0 k) := by decide +kernel
abbrev cX0_init : ByteArray := prog_1_method_1_code
def yX0_init : MethodName := ⟨RX0, "<init>", "()V"⟩
abbrev cX0_add : ByteArray := prog_1_method_2_code
def yX0_add : MethodName := ⟨RX0, "add", "(IIIIII)I"⟩
abbrev cX0_withdraw : ByteArray := prog_1_method_3_code
def yX0_withdraw : MethodName := ⟨RX0, "withdraw", "(I)I"⟩
abbrev cX0_setOld : ByteArray := prog_1_method_4_code
def yX0_setOld : MethodName := ⟨RX0, "setOld", "(II)I"⟩
abbrev cX0_setRules : ByteArray := prog_1_method_5_code
def yX0_setRules : MethodName := ⟨RX0, "setRules", "(II)I"⟩
abbrev cX0_setFactor : ByteArray := prog_1_method_6_code
def yX0_setFactor : MethodName := ⟨RX0, "setFactor", "(III)I"⟩
abbrev cX0_pass : ByteArray := prog_1_method_7_code
def yX0_pass : MethodName := ⟨RX0, "pass", "(I)I"⟩
abbrev cX0_settle : ByteArray := prog_1_method_8_code
def yX0_settle : MethodName := ⟨RX0, "settle", "()I"⟩
abbrev cX0_smooth : ByteArray := prog_1_method_9_code
def yX0_smooth : MethodName := ⟨RX0, "smooth", "(I)I"⟩
abbrev cX0_spread : ByteArray := prog_1_method_10_code
def yX0_spread : MethodName := ⟨RX0, "spread", "()I"⟩
abbrev cX0_rows : ByteArray := prog_1_method_11_code
def yX0_rows : MethodName := ⟨RX0, "rows", "()I"⟩
abbrev cX0_base : ByteArray := prog_1_method_12_code
def yX0_base : MethodName := ⟨RX0, "base", "()J"⟩
abbrev cX0_factor : ByteArray := prog_1_method_13_code
def yX0_factor : MethodName := ⟨RX0, "factor", "(II)I"⟩
abbrev cX0_fitted : ByteArray := prog_1_method_14_code
def yX0_fitted : MethodName := ⟨RX0, "fitted", "(I)J"⟩
abbrev cX0_toldSum : ByteArray := prog_1_method_15_code
def yX0_toldSum : MethodName := ⟨RX0, "toldSum", "(II)J"⟩
abbrev cX0_fittedSum : ByteArray := prog_1_method_16_code
def yX0_fittedSum : MethodName := ⟨RX0, "fittedSum", "(II)J"⟩
abbrev cX0_worst : ByteArray := prog_1_method_17_code
def yX0_worst : MethodName := ⟨RX0, "worst", "(I)J"⟩
abbrev cX0_premium : ByteArray := prog_1_method_18_code
def yX0_premium : MethodName := ⟨RX0, "premium", "(I)J"⟩
abbrev cX0_capped : ByteArray := prog_1_method_19_code
def yX0_capped : MethodName := ⟨RX0, "capped", "(I)J"⟩
abbrev cX0_lost : ByteArray := prog_1_method_20_code
def yX0_lost : MethodName := ⟨RX0, "lost", "()J"⟩
abbrev cX0_rankedAt : ByteArray := prog_1_method_21_code
def yX0_rankedAt : MethodName := ⟨RX0, "rankedAt", "(I)I"⟩
abbrev cX0_isWithin : ByteArray := prog_1_method_22_code
def yX0_isWithin : MethodName := ⟨RX0, "isWithin", "(III)Z"⟩
abbrev cX0_hasTrait : ByteArray := prog_1_method_23_code
def yX0_hasTrait : MethodName := ⟨RX0, "hasTrait", "(I)Z"⟩
abbrev cX0_hasLevel : ByteArray := prog_1_method_24_code
def yX0_hasLevel : MethodName := ⟨RX0, "hasLevel", "(II)Z"⟩
abbrev cX0_hasRow : ByteArray := prog_1_method_25_code
def yX0_hasRow : MethodName := ⟨RX0, "hasRow", "(I)Z"⟩
abbrev cX0_total : ByteArray := prog_1_method_26_code
def yX0_total : MethodName := ⟨RX0, "total", "([J)J"⟩
abbrev cX0_levelTotal : ByteArray := prog_1_method_27_code
def yX0_levelTotal : MethodName := ⟨RX0, "levelTotal", "([JII)J"⟩
abbrev cX0_cappedTotal : ByteArray := prog_1_method_28_code
def yX0_cappedTotal : MethodName := ⟨RX0, "cappedTotal", "()J"⟩
abbrev cX0_refit : ByteArray := prog_1_method_29_code
def yX0_refit : MethodName := ⟨RX0, "refit", "()V"⟩
abbrev cX0_fittedLoss : ByteArray := prog_1_method_30_code
def yX0_fittedLoss : MethodName := ⟨RX0, "fittedLoss", "(I)J"⟩
abbrev cX0_changedByRound : ByteArray := prog_1_method_31_code
def yX0_changedByRound : MethodName := ⟨RX0, "changedByRound", "()I"⟩
abbrev cX0_passOver : ByteArray := prog_1_method_32_code
def yX0_passOver : MethodName := ⟨RX0, "passOver", "(I)I"⟩
abbrev cX0_foundFactor : ByteArray := prog_1_method_33_code
def yX0_foundFactor : MethodName := ⟨RX0, "foundFactor", "(II)I"⟩
abbrev cX0_bounded : ByteArray := prog_1_method_34_code
def yX0_bounded : MethodName := ⟨RX0, "bounded", "(JJJ)J"⟩
abbrev cX0_lowestFallingLevel : ByteArray := prog_1_method_35_code
def yX0_lowestFallingLevel : MethodName := ⟨RX0, "lowestFallingLevel", "(I)I"⟩
abbrev cX0_joinToLevelAhead : ByteArray := prog_1_method_36_code
def yX0_joinToLevelAhead : MethodName := ⟨RX0, "joinToLevelAhead", "(II)V"⟩
abbrev cX0_groupMean : ByteArray := prog_1_method_37_code
def yX0_groupMean : MethodName := ⟨RX0, "groupMean", "(II)I"⟩
abbrev cX0_changedSinceBefore : ByteArray := prog_1_method_38_code
def yX0_changedSinceBefore : MethodName := ⟨RX0, "changedSinceBefore", "(I)I"⟩
abbrev cX0_newPremium : ByteArray := prog_1_method_39_code
def yX0_newPremium : MethodName := ⟨RX0, "newPremium", "(I)J"⟩
abbrev cX0_cappedPremium : ByteArray := prog_1_method_40_code
def yX0_cappedPremium : MethodName := ⟨RX0, "cappedPremium", "(I)J"⟩
abbrev cX0_placeOf : ByteArray := prog_1_method_41_code
def yX0_placeOf : MethodName := ⟨RX0, "placeOf", "(I)I"⟩
abbrev cX0_isAhead : ByteArray := prog_1_method_42_code
def yX0_isAhead : MethodName := ⟨RX0, "isAhead", "(II)Z"⟩
def RX1 : String := "RateFitterModel"
def TX1 : u_T := fun k => match k with
  | 0 => ("RateFitterModel", "levels", "[I", true)
  | 1 => ("RateFitterModel", "exposures", "[I", true)
  | 2 => ("RateFitterModel", "claims", "[I", true)
  | 3 => ("RateFitterModel", "losses", "[I", true)
  | 4 => ("RateFitterModel", "olds", "[I", true)
  | 5 => ("RateFitterModel", "gone", "[Z", true)
  | 6 => ("RateFitterModel", "rows", "I", false)
  | 7 => ("RateFitterModel", "credibility", "I", false)
  | 8 => ("RateFitterModel", "cap", "I", false)
  | 9 => ("RateFitterModel", "spread", "J", false)
  | 10 => ("RateFitterModel", "factors", "[I", true)
  | 11 => ("RateFitterModel", "found", "[I", true)
  | 12 => ("RateFitterModel", "joined", "[I", true)
  | _ => ("RateFitterModel", "last", "I", false)
def tyX1 : Nat → FieldType := fun k => match k with
  | 0 => .array .int
  | 1 => .array .int
  | 2 => .array .int
  | 3 => .array .int
  | 4 => .array .int
  | 5 => .array .boolean
  | 6 => .int
  | 7 => .int
  | 8 => .int
  | 9 => .long
  | 10 => .array .int
  | 11 => .array .int
  | 12 => .array .int
  | _ => .int
abbrev wsX10 : List Cond := u_ws RX1 TX1 14
theorem nmX1 : ∀ a, a < 14 → ∀ b, b < 14 → a ≠ b → (TX1 a).2.1 ≠ (TX1 b).2.1 := by decide +kernel
theorem tyX1_ok : ∀ k, k < 14 → parseFieldDescriptor (TX1 k).2.2.1 = some (tyX1 k) := by decide +kernel
abbrev cX1_init : ByteArray := prog_3_method_1_code
def yX1_init : MethodName := ⟨RX1, "<init>", "()V"⟩
abbrev cX1_thrown : ByteArray := prog_3_method_2_code
def yX1_thrown : MethodName := ⟨RX1, "thrown", "()I"⟩
abbrev cX1_in : ByteArray := prog_3_method_3_code
def yX1_in : MethodName := ⟨RX1, "in", "(III)Z"⟩
abbrev cX1_goes : ByteArray := prog_3_method_4_code
def yX1_goes : MethodName := ⟨RX1, "goes", "(ZZZ)Z"⟩
abbrev cX1_levelsOf : ByteArray := prog_3_method_5_code
def yX1_levelsOf : MethodName := ⟨RX1, "levelsOf", "(I)I"⟩
abbrev cX1_isTrait : ByteArray := prog_3_method_6_code
def yX1_isTrait : MethodName := ⟨RX1, "isTrait", "(I)Z"⟩
abbrev cX1_isLevel : ByteArray := prog_3_method_7_code
def yX1_isLevel : MethodName := ⟨RX1, "isLevel", "(II)Z"⟩
abbrev cX1_isRow : ByteArray := prog_3_method_8_code
def yX1_isRow : MethodName := ⟨RX1, "isRow", "(I)Z"⟩
abbrev cX1_add : ByteArray := prog_3_method_9_code
def yX1_add : MethodName := ⟨RX1, "add", "(IIIIII)I"⟩
abbrev cX1_count : ByteArray := prog_3_method_10_code
def yX1_count : MethodName := ⟨RX1, "count", "()I"⟩
abbrev cX1_withdraw : ByteArray := prog_3_method_11_code
def yX1_withdraw : MethodName := ⟨RX1, "withdraw", "(I)I"⟩
abbrev cX1_setOld : ByteArray := prog_3_method_12_code
def yX1_setOld : MethodName := ⟨RX1, "setOld", "(II)I"⟩
abbrev cX1_setRules : ByteArray := prog_3_method_13_code
def yX1_setRules : MethodName := ⟨RX1, "setRules", "(II)I"⟩
abbrev cX1_setFactor : ByteArray := prog_3_method_14_code
def yX1_setFactor : MethodName := ⟨RX1, "setFactor", "(III)I"⟩
abbrev cX1_baseNow : ByteArray := prog_3_method_15_code
def yX1_baseNow : MethodName := ⟨RX1, "baseNow", "()J"⟩
abbrev cX1_fit : ByteArray := prog_3_method_16_code
def yX1_fit : MethodName := ⟨RX1, "fit", "(IJ)J"⟩
abbrev cX1_has : ByteArray := prog_3_method_17_code
def yX1_has : MethodName := ⟨RX1, "has", "(III)Z"⟩
abbrev cX1_told : ByteArray := prog_3_method_18_code
def yX1_told : MethodName := ⟨RX1, "told", "(II)J"⟩
abbrev cX1_fittedOf : ByteArray := prog_3_method_19_code
def yX1_fittedOf : MethodName := ⟨RX1, "fittedOf", "(II)J"⟩
abbrev cX1_claimed : ByteArray := prog_3_method_20_code
def yX1_claimed : MethodName := ⟨RX1, "claimed", "(II)J"⟩
abbrev cX1_exposed : ByteArray := prog_3_method_21_code
def yX1_exposed : MethodName := ⟨RX1, "exposed", "(II)J"⟩
abbrev cX1_bounded : ByteArray := prog_3_method_22_code
def yX1_bounded : MethodName := ⟨RX1, "bounded", "(J)I"⟩
abbrev cX1_passes : ByteArray := prog_3_method_23_code
def yX1_passes : MethodName := ⟨RX1, "passes", "(I)I"⟩
abbrev cX1_pass : ByteArray := prog_3_method_24_code
def yX1_pass : MethodName := ⟨RX1, "pass", "(I)I"⟩
abbrev cX1_settle : ByteArray := prog_3_method_25_code
def yX1_settle : MethodName := ⟨RX1, "settle", "()I"⟩
abbrev cX1_means : ByteArray := prog_3_method_26_code
def yX1_means : MethodName := ⟨RX1, "means", "(III)V"⟩
abbrev cX1_lowestLess : ByteArray := prog_3_method_27_code
def yX1_lowestLess : MethodName := ⟨RX1, "lowestLess", "(I)I"⟩
abbrev cX1_smooth : ByteArray := prog_3_method_28_code
def yX1_smooth : MethodName := ⟨RX1, "smooth", "(I)I"⟩
abbrev cX1_premiumOf : ByteArray := prog_3_method_29_code
def yX1_premiumOf : MethodName := ⟨RX1, "premiumOf", "(I)J"⟩
abbrev cX1_cappedOf : ByteArray := prog_3_method_30_code
def yX1_cappedOf : MethodName := ⟨RX1, "cappedOf", "(I)J"⟩
abbrev cX1_allFitted : ByteArray := prog_3_method_31_code
def yX1_allFitted : MethodName := ⟨RX1, "allFitted", "()J"⟩
abbrev cX1_allCapped : ByteArray := prog_3_method_32_code
def yX1_allCapped : MethodName := ⟨RX1, "allCapped", "()J"⟩
abbrev cX1_spread : ByteArray := prog_3_method_33_code
def yX1_spread : MethodName := ⟨RX1, "spread", "()I"⟩
abbrev cX1_rows : ByteArray := prog_3_method_34_code
def yX1_rows : MethodName := ⟨RX1, "rows", "()I"⟩
abbrev cX1_base : ByteArray := prog_3_method_35_code
def yX1_base : MethodName := ⟨RX1, "base", "()J"⟩
abbrev cX1_factor : ByteArray := prog_3_method_36_code
def yX1_factor : MethodName := ⟨RX1, "factor", "(II)I"⟩
abbrev cX1_fitted : ByteArray := prog_3_method_37_code
def yX1_fitted : MethodName := ⟨RX1, "fitted", "(I)J"⟩
abbrev cX1_toldSum : ByteArray := prog_3_method_38_code
def yX1_toldSum : MethodName := ⟨RX1, "toldSum", "(II)J"⟩
abbrev cX1_fittedSum : ByteArray := prog_3_method_39_code
def yX1_fittedSum : MethodName := ⟨RX1, "fittedSum", "(II)J"⟩
abbrev cX1_worst : ByteArray := prog_3_method_40_code
def yX1_worst : MethodName := ⟨RX1, "worst", "(I)J"⟩
abbrev cX1_premium : ByteArray := prog_3_method_41_code
def yX1_premium : MethodName := ⟨RX1, "premium", "(I)J"⟩
abbrev cX1_capped : ByteArray := prog_3_method_42_code
def yX1_capped : MethodName := ⟨RX1, "capped", "(I)J"⟩
abbrev cX1_lost : ByteArray := prog_3_method_43_code
def yX1_lost : MethodName := ⟨RX1, "lost", "()J"⟩
abbrev cX1_isAhead : ByteArray := prog_3_method_44_code
def yX1_isAhead : MethodName := ⟨RX1, "isAhead", "(IIJ)Z"⟩
abbrev cX1_ranked : ByteArray := prog_3_method_45_code
def yX1_ranked : MethodName := ⟨RX1, "ranked", "(I)I"⟩
abbrev cX1_rankedAt : ByteArray := prog_3_method_46_code
def yX1_rankedAt : MethodName := ⟨RX1, "rankedAt", "(I)I"⟩
def RJx145de : String := "java/io/Serializable"
def TJx145de : u_T := fun k => match k with
  | _ => ("", "", "", false)
def tyJx145de : Nat → FieldType := fun k => match k with
  | _ => .int
abbrev wsJx145de0 : List Cond := u_ws RJx145de TJx145de 0
theorem nmJx145de : ∀ a, a < 0 → ∀ b, b < 0 → a ≠ b → (TJx145de a).2.1 ≠ (TJx145de b).2.1 := by decide +kernel
theorem tyJx145de_ok : ∀ k, k < 0 → parseFieldDescriptor (TJx145de k).2.2.1 = some (tyJx145de k) := by decide +kernel
def RJ9 : String := "java/lang/Math"
def TJ9 : u_T := fun k => match k with
  | _ => ("", "", "", false)
def tyJ9 : Nat → FieldType := fun k => match k with
  | _ => .int
abbrev wsJ90 : List Cond := u_ws RJ9 TJ9 0
theorem nmJ9 : ∀ a, a < 0 → ∀ b, b < 0 → a ≠ b → (TJ9 a).2.1 ≠ (TJ9 b).2.1 := by decide +kernel
theorem tyJ9_ok : ∀ k, k < 0 → parseFieldDescriptor (TJ9 k).2.2.1 = some (tyJ9 k) := by decide +kernel
abbrev cJ9_abs_067f4 : ByteArray := prog_8_method_61_code
def yJ9_abs_067f4 : MethodName := ⟨RJ9, "abs", "(J)J"⟩
abbrev cJ9_max_7cf53 : ByteArray := prog_8_method_65_code
def yJ9_max_7cf53 : MethodName := ⟨RJ9, "max", "(II)I"⟩
abbrev cJ9_max_f86c9 : ByteArray := prog_8_method_66_code
def yJ9_max_f86c9 : MethodName := ⟨RJ9, "max", "(JJ)J"⟩
abbrev cJ9_min_f86c9 : ByteArray := prog_8_method_70_code
def yJ9_min_f86c9 : MethodName := ⟨RJ9, "min", "(JJ)J"⟩
def RJ0 : String := "java/lang/String"
def TJ0 : u_T := fun k => match k with
  | _ => ("", "", "", false)
def tyJ0 : Nat → FieldType := fun k => match k with
  | _ => .int
abbrev wsJ00 : List Cond := u_ws RJ0 TJ0 0
theorem nmJ0 : ∀ a, a < 0 → ∀ b, b < 0 → a ≠ b → (TJ0 a).2.1 ≠ (TJ0 b).2.1 := by decide +kernel
theorem tyJ0_ok : ∀ k, k < 0 → parseFieldDescriptor (TJ0 k).2.2.1 = some (tyJ0 k) := by decide +kernel
def RJ7 : String := "java/util/Arrays"
def TJ7 : u_T := fun k => match k with
  | _ => ("", "", "", false)
def tyJ7 : Nat → FieldType := fun k => match k with
  | _ => .int
abbrev wsJ70 : List Cond := u_ws RJ7 TJ7 0
theorem nmJ7 : ∀ a, a < 0 → ∀ b, b < 0 → a ≠ b → (TJ7 a).2.1 ≠ (TJ7 b).2.1 := by decide +kernel
theorem tyJ7_ok : ∀ k, k < 0 → parseFieldDescriptor (TJ7 k).2.2.1 = some (tyJ7 k) := by decide +kernel
abbrev cJ7_fill_53178 : ByteArray := prog_12_method_103_code
def yJ7_fill_53178 : MethodName := ⟨RJ7, "fill", "([II)V"⟩
def RL : String := "RateFitterLaw"
abbrev cL_add : ByteArray := method_3_code
def yL_add : MethodName := ⟨RL, "add", "(LRateFitter;IIIIII[J)I"⟩
abbrev cL_withdraw : ByteArray := method_4_code
def yL_withdraw : MethodName := ⟨RL, "withdraw", "(LRateFitter;I[J)I"⟩
abbrev cL_setOld : ByteArray := method_5_code
def yL_setOld : MethodName := ⟨RL, "setOld", "(LRateFitter;II[J)I"⟩
abbrev cL_setRules : ByteArray := method_6_code
def yL_setRules : MethodName := ⟨RL, "setRules", "(LRateFitter;II[J)I"⟩
abbrev cL_setFactor : ByteArray := method_7_code
def yL_setFactor : MethodName := ⟨RL, "setFactor", "(LRateFitter;III[J)I"⟩
abbrev cL_pass : ByteArray := method_8_code
def yL_pass : MethodName := ⟨RL, "pass", "(LRateFitter;I[J)I"⟩
abbrev cL_smooth : ByteArray := method_9_code
def yL_smooth : MethodName := ⟨RL, "smooth", "(LRateFitter;I[J)I"⟩
abbrev cL_factor : ByteArray := method_10_code
def yL_factor : MethodName := ⟨RL, "factor", "(LRateFitter;II[J)I"⟩
abbrev cL_fitted : ByteArray := method_11_code
def yL_fitted : MethodName := ⟨RL, "fitted", "(LRateFitter;I[J)I"⟩
abbrev cL_toldSum : ByteArray := method_12_code
def yL_toldSum : MethodName := ⟨RL, "toldSum", "(LRateFitter;II[J)I"⟩
abbrev cL_fittedSum : ByteArray := method_13_code
def yL_fittedSum : MethodName := ⟨RL, "fittedSum", "(LRateFitter;II[J)I"⟩
abbrev cL_worst : ByteArray := method_14_code
def yL_worst : MethodName := ⟨RL, "worst", "(LRateFitter;I[J)I"⟩
abbrev cL_premium : ByteArray := method_15_code
def yL_premium : MethodName := ⟨RL, "premium", "(LRateFitter;I[J)I"⟩
abbrev cL_capped : ByteArray := method_16_code
def yL_capped : MethodName := ⟨RL, "capped", "(LRateFitter;I[J)I"⟩
abbrev cL_rankedAt : ByteArray := method_17_code
def yL_rankedAt : MethodName := ⟨RL, "rankedAt", "(LRateFitter;I[J)I"⟩
abbrev cL_law : ByteArray := code
def yL_law : MethodName := ⟨RL, "law", "([I)Z"⟩
def wsL_law0_r1 : List Cond := [Cond.classLink RL 8 RX0, Cond.instantiable RX0 16, Cond.initialized RX0, Cond.classLink RL 67 RX1, Cond.instantiable RX1 14, Cond.initialized RX1, Cond.arrayClass .long, Cond.methodLink RL 66 yX0_init, Cond.instanceMethod yX0_init, Cond.code yX0_init cX0_init 2 none, Cond.methodLink RX0 1 objectInit, Cond.instanceMethod objectInit, Cond.code objectInit ⟨#[0xb1]⟩ 1 none, Cond.classLink RX0 9 "[[I", Cond.arrayClass .int, Cond.fieldLink RX0 11 "RateFitter" "factors" "[[I", Cond.fieldLink RX0 14 "RateFitter" "rowLevels" "[[I", Cond.fieldLink RX0 17 "RateFitter" "exposures" "[J", Cond.fieldLink RX0 21 "RateFitter" "claims" "[J", Cond.fieldLink RX0 24 "RateFitter" "losses" "[J", Cond.fieldLink RX0 27 "RateFitter" "oldPremiums" "[I", Cond.arrayClass .boolean, Cond.fieldLink RX0 31 "RateFitter" "live" "[Z", Cond.fieldLink RX0 35 "RateFitter" "addedRows" "I"]
def wsL_law0_r2 : List Cond := [Cond.fieldLink RX0 39 "RateFitter" "liveRows" "I", Cond.fieldLink RX0 42 "RateFitter" "credibility" "I", Cond.fieldLink RX0 45 "RateFitter" "cap" "I", Cond.fieldLink RX0 48 "RateFitter" "spreadNow" "I", Cond.fieldLink RX0 51 "RateFitter" "baseNow" "J", Cond.fieldLink RX0 55 "RateFitter" "fittedLosses" "[J", Cond.fieldLink RX0 58 "RateFitter" "groupStarts" "[I", Cond.fieldLink RX0 61 "RateFitter" "factorsBefore" "[I", Cond.methodLink RX0 64 yJ7_fill_53178, Cond.static yJ7_fill_53178, Cond.initialized RJ7, Cond.code yJ7_fill_53178 cJ7_fill_53178 4 none, Cond.methodLink RL 69 yX1_init, Cond.instanceMethod yX1_init, Cond.code yX1_init cX1_init 2 none, Cond.methodLink RX1 1 objectInit, Cond.fieldLink RX1 7 "RateFitterModel" "levels" "[I", Cond.fieldLink RX1 13 "RateFitterModel" "exposures" "[I", Cond.fieldLink RX1 16 "RateFitterModel" "claims" "[I", Cond.fieldLink RX1 19 "RateFitterModel" "losses" "[I", Cond.fieldLink RX1 22 "RateFitterModel" "olds" "[I", Cond.fieldLink RX1 25 "RateFitterModel" "gone" "[Z", Cond.fieldLink RX1 29 "RateFitterModel" "cap" "I", Cond.constantLong RX1 33 (10000)]
def wsL_law0_r3 : List Cond := [Cond.fieldLink RX1 35 "RateFitterModel" "spread" "J", Cond.fieldLink RX1 39 "RateFitterModel" "factors" "[I", Cond.fieldLink RX1 42 "RateFitterModel" "found" "[I", Cond.fieldLink RX1 45 "RateFitterModel" "joined" "[I", Cond.methodLink RL 70 yL_add, Cond.static yL_add, Cond.initialized RL, Cond.codeWith yL_add cL_add 9 (some .int) [(0, 18, 21, 13), (0, 18, 25, 15)], Cond.classLink RL 13 "java/lang/IllegalArgumentException", Cond.classLink RL 15 "java/lang/IllegalStateException", Cond.methodLink RL 7 yX0_add, Cond.instanceMethod yX0_add, Cond.selects RX0 yX0_add yX0_add, Cond.code yX0_add cX0_add 8 (some .int), Cond.classLink RX0 74 "java/lang/IllegalArgumentException", Cond.initialized "java/lang/IllegalArgumentException", Cond.classLink RX0 88 "java/lang/IllegalStateException", Cond.initialized "java/lang/IllegalStateException", Cond.constant RX0 85 (1000000), Cond.methodLink RX0 70 yX0_hasLevel, Cond.static yX0_hasLevel, Cond.code yX0_hasLevel cX0_hasLevel 2 (some .boolean), Cond.fieldLink RX0 130 "RateFitter" "LEVELS" "[I", Cond.methodLink RX0 117 yX0_hasTrait]
def wsL_law0_r4 : List Cond := [Cond.static yX0_hasTrait, Cond.code yX0_hasTrait cX0_hasTrait 1 (some .boolean), Cond.methodLink RX0 81 yX0_isWithin, Cond.static yX0_isWithin, Cond.code yX0_isWithin cX0_isWithin 3 (some .boolean), Cond.methodLink RX0 93 yX0_refit, Cond.instanceMethod yX0_refit, Cond.selects RX0 yX0_refit yX0_refit, Cond.code yX0_refit cX0_refit 4 none, Cond.constantLong RX0 147 (10000), Cond.methodLink RX0 149 yX0_total, Cond.instanceMethod yX0_total, Cond.selects RX0 yX0_total yX0_total, Cond.code yX0_total cX0_total 5 (some .long), Cond.methodLink RX0 188 yX0_fittedLoss, Cond.instanceMethod yX0_fittedLoss, Cond.selects RX0 yX0_fittedLoss yX0_fittedLoss, Cond.code yX0_fittedLoss cX0_fittedLoss 5 (some .long), Cond.methodLink RL 75 yX1_add, Cond.instanceMethod yX1_add, Cond.selects RX1 yX1_add yX1_add, Cond.code yX1_add cX1_add 8 (some .int), Cond.constant RX1 70 (1000000), Cond.fieldLink RX1 63 "RateFitterModel" "rows" "I"]
def wsL_law0_r5 : List Cond := [Cond.methodLink RX1 66 yX1_isLevel, Cond.static yX1_isLevel, Cond.code yX1_isLevel cX1_isLevel 2 (some .boolean), Cond.methodLink RX1 55 yX1_isTrait, Cond.static yX1_isTrait, Cond.code yX1_isTrait cX1_isTrait 1 (some .boolean), Cond.methodLink RX1 51 yX1_in, Cond.static yX1_in, Cond.code yX1_in cX1_in 3 (some .boolean), Cond.methodLink RX1 59 yX1_levelsOf, Cond.static yX1_levelsOf, Cond.code yX1_levelsOf cX1_levelsOf 1 (some .int), Cond.methodLink RX1 71 yX1_goes, Cond.instanceMethod yX1_goes, Cond.selects RX1 yX1_goes yX1_goes, Cond.code yX1_goes cX1_goes 4 (some .boolean), Cond.fieldLink RX1 48 "RateFitterModel" "last" "I", Cond.methodLink RL 76 yX1_thrown, Cond.instanceMethod yX1_thrown, Cond.selects RX1 yX1_thrown yX1_thrown, Cond.code yX1_thrown cX1_thrown 1 (some .int), Cond.methodLink RL 80 yL_withdraw, Cond.static yL_withdraw, Cond.codeWith yL_withdraw cL_withdraw 4 (some .int) [(0, 9, 12, 21)]]
def wsL_law0_r6 : List Cond := [Cond.classLink RL 21 "java/lang/IndexOutOfBoundsException", Cond.methodLink RL 17 yX0_withdraw, Cond.instanceMethod yX0_withdraw, Cond.selects RX0 yX0_withdraw yX0_withdraw, Cond.code yX0_withdraw cX0_withdraw 2 (some .int), Cond.classLink RX0 100 "java/lang/IndexOutOfBoundsException", Cond.initialized "java/lang/IndexOutOfBoundsException", Cond.methodLink RX0 96 yX0_hasRow, Cond.instanceMethod yX0_hasRow, Cond.selects RX0 yX0_hasRow yX0_hasRow, Cond.code yX0_hasRow cX0_hasRow 2 (some .boolean), Cond.methodLink RL 83 yX1_withdraw, Cond.instanceMethod yX1_withdraw, Cond.selects RX1 yX1_withdraw yX1_withdraw, Cond.code yX1_withdraw cX1_withdraw 2 (some .int), Cond.methodLink RX1 75 yX1_isRow, Cond.instanceMethod yX1_isRow, Cond.selects RX1 yX1_isRow yX1_isRow, Cond.code yX1_isRow cX1_isRow 2 (some .boolean), Cond.methodLink RX1 78 yX1_count, Cond.instanceMethod yX1_count, Cond.selects RX1 yX1_count yX1_count, Cond.code yX1_count cX1_count 3 (some .int), Cond.methodLink RL 84 yL_setOld]
def wsL_law0_r7 : List Cond := [Cond.static yL_setOld, Cond.codeWith yL_setOld cL_setOld 5 (some .int) [(0, 10, 13, 21), (0, 10, 17, 13)], Cond.methodLink RL 23 yX0_setOld, Cond.instanceMethod yX0_setOld, Cond.selects RX0 yX0_setOld yX0_setOld, Cond.code yX0_setOld cX0_setOld 4 (some .int), Cond.constant RX0 105 (10000000), Cond.methodLink RL 87 yX1_setOld, Cond.instanceMethod yX1_setOld, Cond.selects RX1 yX1_setOld yX1_setOld, Cond.code yX1_setOld cX1_setOld 4 (some .int), Cond.constant RX1 82 (10000000), Cond.methodLink RL 88 yL_setRules, Cond.static yL_setRules, Cond.codeWith yL_setRules cL_setRules 5 (some .int) [(0, 10, 13, 13)], Cond.methodLink RL 27 yX0_setRules, Cond.instanceMethod yX0_setRules, Cond.selects RX0 yX0_setRules yX0_setRules, Cond.code yX0_setRules cX0_setRules 4 (some .int), Cond.methodLink RL 90 yX1_setRules, Cond.instanceMethod yX1_setRules, Cond.selects RX1 yX1_setRules yX1_setRules, Cond.code yX1_setRules cX1_setRules 4 (some .int), Cond.fieldLink RX1 83 "RateFitterModel" "credibility" "I"]
def wsL_law0_r8 : List Cond := [Cond.methodLink RL 91 yL_setFactor, Cond.static yL_setFactor, Cond.codeWith yL_setFactor cL_setFactor 6 (some .int) [(0, 12, 15, 21), (0, 12, 19, 13)], Cond.methodLink RL 30 yX0_setFactor, Cond.instanceMethod yX0_setFactor, Cond.selects RX0 yX0_setFactor yX0_setFactor, Cond.code yX0_setFactor cX0_setFactor 5 (some .int), Cond.constant RX0 114 (100000), Cond.methodLink RL 94 yX1_setFactor, Cond.instanceMethod yX1_setFactor, Cond.selects RX1 yX1_setFactor yX1_setFactor, Cond.code yX1_setFactor cX1_setFactor 5 (some .int), Cond.constant RX1 86 (100000), Cond.methodLink RL 95 yL_pass, Cond.static yL_pass, Cond.codeWith yL_pass cL_pass 4 (some .int) [(0, 9, 12, 21)], Cond.methodLink RL 34 yX0_pass, Cond.instanceMethod yX0_pass, Cond.selects RX0 yX0_pass yX0_pass, Cond.code yX0_pass cX0_pass 2 (some .int), Cond.methodLink RX0 122 yX0_passOver, Cond.instanceMethod yX0_passOver, Cond.selects RX0 yX0_passOver yX0_passOver, Cond.code yX0_passOver cX0_passOver 5 (some .int)]
def wsL_law0_r9 : List Cond := [Cond.methodLink RX0 191 yX0_foundFactor, Cond.instanceMethod yX0_foundFactor, Cond.selects RX0 yX0_foundFactor yX0_foundFactor, Cond.code yX0_foundFactor cX0_foundFactor 12 (some .int), Cond.constantLong RX0 195 (100), Cond.constantLong RX0 197 (100000), Cond.methodLink RX0 165 yX0_levelTotal, Cond.instanceMethod yX0_levelTotal, Cond.selects RX0 yX0_levelTotal yX0_levelTotal, Cond.code yX0_levelTotal cX0_levelTotal 7 (some .long), Cond.methodLink RX0 161 yX0_bounded, Cond.static yX0_bounded, Cond.code yX0_bounded cX0_bounded 6 (some .long), Cond.methodLink RX0 173 Lib.MathLoose.max_long.x, Cond.static Lib.MathLoose.max_long.x, Cond.initialized "java/lang/Math", Cond.code Lib.MathLoose.max_long.x Lib.MathLoose.max_long.code 4 (some .long), Cond.methodLink RX0 155 Lib.MathLoose.min_long.x, Cond.static Lib.MathLoose.min_long.x, Cond.code Lib.MathLoose.min_long.x Lib.MathLoose.min_long.code 4 (some .long), Cond.methodLink RL 97 yX1_pass, Cond.instanceMethod yX1_pass, Cond.selects RX1 yX1_pass yX1_pass, Cond.code yX1_pass cX1_pass 2 (some .int)]
def wsL_law0_r10 : List Cond := [Cond.methodLink RX1 116 yX1_passes, Cond.instanceMethod yX1_passes, Cond.selects RX1 yX1_passes yX1_passes, Cond.code yX1_passes cX1_passes 12 (some .int), Cond.methodLink RX1 102 yX1_fittedOf, Cond.instanceMethod yX1_fittedOf, Cond.selects RX1 yX1_fittedOf yX1_fittedOf, Cond.code yX1_fittedOf cX1_fittedOf 8 (some .long), Cond.methodLink RX1 90 yX1_baseNow, Cond.instanceMethod yX1_baseNow, Cond.selects RX1 yX1_baseNow yX1_baseNow, Cond.code yX1_baseNow cX1_baseNow 6 (some .long), Cond.methodLink RX1 87 yX1_has, Cond.instanceMethod yX1_has, Cond.selects RX1 yX1_has yX1_has, Cond.code yX1_has cX1_has 4 (some .boolean), Cond.methodLink RX1 94 yX1_fit, Cond.instanceMethod yX1_fit, Cond.selects RX1 yX1_fit yX1_fit, Cond.code yX1_fit cX1_fit 7 (some .long), Cond.methodLink RX1 106 yX1_claimed, Cond.instanceMethod yX1_claimed, Cond.selects RX1 yX1_claimed yX1_claimed, Cond.code yX1_claimed cX1_claimed 6 (some .long)]
def wsL_law0_r11 : List Cond := [Cond.methodLink RX1 109 yX1_told, Cond.instanceMethod yX1_told, Cond.selects RX1 yX1_told yX1_told, Cond.code yX1_told cX1_told 6 (some .long), Cond.methodLink RX1 112 yX1_bounded, Cond.instanceMethod yX1_bounded, Cond.selects RX1 yX1_bounded yX1_bounded, Cond.code yX1_bounded cX1_bounded 3 (some .int), Cond.constantLong RX1 98 (100), Cond.constantLong RX1 100 (100000), Cond.methodLink RL 98 yX0_settle, Cond.instanceMethod yX0_settle, Cond.selects RX0 yX0_settle yX0_settle, Cond.code yX0_settle cX0_settle 2 (some .int), Cond.methodLink RX0 126 yX0_changedByRound, Cond.instanceMethod yX0_changedByRound, Cond.selects RX0 yX0_changedByRound yX0_changedByRound, Cond.code yX0_changedByRound cX0_changedByRound 3 (some .int), Cond.methodLink RL 101 yX1_settle, Cond.instanceMethod yX1_settle, Cond.selects RX1 yX1_settle yX1_settle, Cond.code yX1_settle cX1_settle 4 (some .int), Cond.methodLink RL 102 yL_smooth, Cond.static yL_smooth]
def wsL_law0_r12 : List Cond := [Cond.codeWith yL_smooth cL_smooth 4 (some .int) [(0, 9, 12, 21)], Cond.methodLink RL 37 yX0_smooth, Cond.instanceMethod yX0_smooth, Cond.selects RX0 yX0_smooth yX0_smooth, Cond.code yX0_smooth cX0_smooth 4 (some .int), Cond.methodLink RX0 133 yX0_lowestFallingLevel, Cond.instanceMethod yX0_lowestFallingLevel, Cond.selects RX0 yX0_lowestFallingLevel yX0_lowestFallingLevel, Cond.code yX0_lowestFallingLevel cX0_lowestFallingLevel 3 (some .int), Cond.methodLink RX0 136 yX0_joinToLevelAhead, Cond.instanceMethod yX0_joinToLevelAhead, Cond.selects RX0 yX0_joinToLevelAhead yX0_joinToLevelAhead, Cond.code yX0_joinToLevelAhead cX0_joinToLevelAhead 6 none, Cond.methodLink RX0 199 yX0_groupMean, Cond.instanceMethod yX0_groupMean, Cond.selects RX0 yX0_groupMean yX0_groupMean, Cond.code yX0_groupMean cX0_groupMean 13 (some .int), Cond.methodLink RX0 202 Lib.Math.max.name, Cond.static Lib.Math.max.name, Cond.code Lib.Math.max.name Lib.Math.max.code 2 (some .int), Cond.methodLink RX0 140 yX0_changedSinceBefore, Cond.instanceMethod yX0_changedSinceBefore, Cond.selects RX0 yX0_changedSinceBefore yX0_changedSinceBefore, Cond.code yX0_changedSinceBefore cX0_changedSinceBefore 4 (some .int)]
def wsL_law0_r13 : List Cond := [Cond.methodLink RL 104 yX1_smooth, Cond.instanceMethod yX1_smooth, Cond.selects RX1 yX1_smooth yX1_smooth, Cond.code yX1_smooth cX1_smooth 4 (some .int), Cond.methodLink RX1 122 yX1_lowestLess, Cond.instanceMethod yX1_lowestLess, Cond.selects RX1 yX1_lowestLess yX1_lowestLess, Cond.code yX1_lowestLess cX1_lowestLess 3 (some .int), Cond.methodLink RX1 125 yX1_means, Cond.instanceMethod yX1_means, Cond.selects RX1 yX1_means yX1_means, Cond.code yX1_means cX1_means 14 none, Cond.methodLink RX1 119 yX1_exposed, Cond.instanceMethod yX1_exposed, Cond.selects RX1 yX1_exposed yX1_exposed, Cond.code yX1_exposed cX1_exposed 6 (some .long), Cond.methodLink RL 105 yX0_spread, Cond.instanceMethod yX0_spread, Cond.selects RX0 yX0_spread yX0_spread, Cond.code yX0_spread cX0_spread 5 (some .int), Cond.constantLong RX0 153 (1000000), Cond.methodLink RX0 143 yX0_cappedTotal, Cond.instanceMethod yX0_cappedTotal, Cond.selects RX0 yX0_cappedTotal yX0_cappedTotal]
def wsL_law0_r14 : List Cond := [Cond.code yX0_cappedTotal cX0_cappedTotal 4 (some .long), Cond.methodLink RX0 180 yX0_cappedPremium, Cond.instanceMethod yX0_cappedPremium, Cond.selects RX0 yX0_cappedPremium yX0_cappedPremium, Cond.code yX0_cappedPremium cX0_cappedPremium 8 (some .long), Cond.methodLink RX0 176 yX0_newPremium, Cond.instanceMethod yX0_newPremium, Cond.selects RX0 yX0_newPremium yX0_newPremium, Cond.code yX0_newPremium cX0_newPremium 2 (some .long), Cond.methodLink RL 108 yX1_spread, Cond.instanceMethod yX1_spread, Cond.selects RX1 yX1_spread yX1_spread, Cond.code yX1_spread cX1_spread 7 (some .int), Cond.constantLong RX1 142 (1000000), Cond.methodLink RX1 136 yX1_allCapped, Cond.instanceMethod yX1_allCapped, Cond.selects RX1 yX1_allCapped yX1_allCapped, Cond.code yX1_allCapped cX1_allCapped 4 (some .long), Cond.methodLink RX1 133 yX1_cappedOf, Cond.instanceMethod yX1_cappedOf, Cond.selects RX1 yX1_cappedOf yX1_cappedOf, Cond.code yX1_cappedOf cX1_cappedOf 8 (some .long), Cond.methodLink RX1 129 yX1_premiumOf, Cond.instanceMethod yX1_premiumOf]
def wsL_law0_r15 : List Cond := [Cond.selects RX1 yX1_premiumOf yX1_premiumOf, Cond.code yX1_premiumOf cX1_premiumOf 2 (some .long), Cond.methodLink RX1 139 yX1_allFitted, Cond.instanceMethod yX1_allFitted, Cond.selects RX1 yX1_allFitted yX1_allFitted, Cond.code yX1_allFitted cX1_allFitted 6 (some .long), Cond.methodLink RL 109 yX0_rows, Cond.instanceMethod yX0_rows, Cond.selects RX0 yX0_rows yX0_rows, Cond.code yX0_rows cX0_rows 1 (some .int), Cond.methodLink RL 112 yX1_rows, Cond.instanceMethod yX1_rows, Cond.selects RX1 yX1_rows yX1_rows, Cond.code yX1_rows cX1_rows 1 (some .int), Cond.methodLink RL 113 yX0_base, Cond.instanceMethod yX0_base, Cond.selects RX0 yX0_base yX0_base, Cond.code yX0_base cX0_base 1 (some .long), Cond.methodLink RL 117 yX1_base, Cond.instanceMethod yX1_base, Cond.selects RX1 yX1_base yX1_base, Cond.code yX1_base cX1_base 1 (some .long), Cond.methodLink RL 118 yL_factor, Cond.static yL_factor]
def wsL_law0_r16 : List Cond := [Cond.codeWith yL_factor cL_factor 5 (some .int) [(0, 10, 13, 21)], Cond.methodLink RL 40 yX0_factor, Cond.instanceMethod yX0_factor, Cond.selects RX0 yX0_factor yX0_factor, Cond.code yX0_factor cX0_factor 3 (some .int), Cond.methodLink RL 120 yX1_factor, Cond.instanceMethod yX1_factor, Cond.selects RX1 yX1_factor yX1_factor, Cond.code yX1_factor cX1_factor 3 (some .int), Cond.methodLink RL 121 yL_fitted, Cond.static yL_fitted, Cond.codeWith yL_fitted cL_fitted 4 (some .int) [(0, 8, 11, 21)], Cond.methodLink RL 43 yX0_fitted, Cond.instanceMethod yX0_fitted, Cond.selects RX0 yX0_fitted yX0_fitted, Cond.code yX0_fitted cX0_fitted 2 (some .long), Cond.methodLink RL 123 yX1_fitted, Cond.instanceMethod yX1_fitted, Cond.selects RX1 yX1_fitted yX1_fitted, Cond.code yX1_fitted cX1_fitted 2 (some .long), Cond.methodLink RL 124 yL_toldSum, Cond.static yL_toldSum, Cond.codeWith yL_toldSum cL_toldSum 5 (some .int) [(0, 9, 12, 21)], Cond.methodLink RL 47 yX0_toldSum]
def wsL_law0_r17 : List Cond := [Cond.instanceMethod yX0_toldSum, Cond.selects RX0 yX0_toldSum yX0_toldSum, Cond.code yX0_toldSum cX0_toldSum 3 (some .long), Cond.methodLink RL 126 yX1_toldSum, Cond.instanceMethod yX1_toldSum, Cond.selects RX1 yX1_toldSum yX1_toldSum, Cond.code yX1_toldSum cX1_toldSum 3 (some .long), Cond.methodLink RL 127 yL_fittedSum, Cond.static yL_fittedSum, Cond.codeWith yL_fittedSum cL_fittedSum 5 (some .int) [(0, 9, 12, 21)], Cond.methodLink RL 51 yX0_fittedSum, Cond.instanceMethod yX0_fittedSum, Cond.selects RX0 yX0_fittedSum yX0_fittedSum, Cond.code yX0_fittedSum cX0_fittedSum 3 (some .long), Cond.methodLink RL 129 yX1_fittedSum, Cond.instanceMethod yX1_fittedSum, Cond.selects RX1 yX1_fittedSum yX1_fittedSum, Cond.code yX1_fittedSum cX1_fittedSum 3 (some .long), Cond.methodLink RL 130 yL_worst, Cond.static yL_worst, Cond.codeWith yL_worst cL_worst 4 (some .int) [(0, 8, 11, 21)], Cond.methodLink RL 54 yX0_worst, Cond.instanceMethod yX0_worst, Cond.selects RX0 yX0_worst yX0_worst]
def wsL_law0_r18 : List Cond := [Cond.code yX0_worst cX0_worst 7 (some .long), Cond.methodLink RX0 169 Lib.MathLoose.abs_long.x, Cond.static Lib.MathLoose.abs_long.x, Cond.code Lib.MathLoose.abs_long.x Lib.MathLoose.abs_long.code 2 (some .long), Cond.methodLink RL 132 yX1_worst, Cond.instanceMethod yX1_worst, Cond.selects RX1 yX1_worst yX1_worst, Cond.code yX1_worst cX1_worst 8 (some .long), Cond.methodLink RL 133 yL_premium, Cond.static yL_premium, Cond.codeWith yL_premium cL_premium 4 (some .int) [(0, 8, 11, 21)], Cond.methodLink RL 57 yX0_premium, Cond.instanceMethod yX0_premium, Cond.selects RX0 yX0_premium yX0_premium, Cond.code yX0_premium cX0_premium 2 (some .long), Cond.methodLink RL 135 yX1_premium, Cond.instanceMethod yX1_premium, Cond.selects RX1 yX1_premium yX1_premium, Cond.code yX1_premium cX1_premium 2 (some .long), Cond.methodLink RL 136 yL_capped, Cond.static yL_capped, Cond.codeWith yL_capped cL_capped 4 (some .int) [(0, 8, 11, 21)], Cond.methodLink RL 60 yX0_capped, Cond.instanceMethod yX0_capped]
def wsL_law0_r19 : List Cond := [Cond.selects RX0 yX0_capped yX0_capped, Cond.code yX0_capped cX0_capped 2 (some .long), Cond.methodLink RL 138 yX1_capped, Cond.instanceMethod yX1_capped, Cond.selects RX1 yX1_capped yX1_capped, Cond.code yX1_capped cX1_capped 2 (some .long), Cond.methodLink RL 139 yX0_lost, Cond.instanceMethod yX0_lost, Cond.selects RX0 yX0_lost yX0_lost, Cond.code yX0_lost cX0_lost 1 (some .long), Cond.methodLink RL 142 yX1_lost, Cond.instanceMethod yX1_lost, Cond.selects RX1 yX1_lost yX1_lost, Cond.code yX1_lost cX1_lost 1 (some .long), Cond.methodLink RL 143 yL_rankedAt, Cond.static yL_rankedAt, Cond.codeWith yL_rankedAt cL_rankedAt 4 (some .int) [(0, 9, 12, 21)], Cond.methodLink RL 63 yX0_rankedAt, Cond.instanceMethod yX0_rankedAt, Cond.selects RX0 yX0_rankedAt yX0_rankedAt, Cond.code yX0_rankedAt cX0_rankedAt 3 (some .int), Cond.methodLink RX0 183 yX0_placeOf, Cond.instanceMethod yX0_placeOf, Cond.selects RX0 yX0_placeOf yX0_placeOf]
def wsL_law0_r20 : List Cond := [Cond.code yX0_placeOf cX0_placeOf 4 (some .int), Cond.methodLink RX0 204 yX0_isAhead, Cond.instanceMethod yX0_isAhead, Cond.selects RX0 yX0_isAhead yX0_isAhead, Cond.code yX0_isAhead cX0_isAhead 7 (some .boolean), Cond.methodLink RL 145 yX1_rankedAt, Cond.instanceMethod yX1_rankedAt, Cond.selects RX1 yX1_rankedAt yX1_rankedAt, Cond.code yX1_rankedAt cX1_rankedAt 3 (some .int), Cond.methodLink RX1 148 yX1_ranked, Cond.instanceMethod yX1_ranked, Cond.selects RX1 yX1_ranked yX1_ranked, Cond.code yX1_ranked cX1_ranked 7 (some .int), Cond.methodLink RX1 144 yX1_isAhead, Cond.instanceMethod yX1_isAhead, Cond.selects RX1 yX1_isAhead yX1_isAhead, Cond.code yX1_isAhead cX1_isAhead 9 (some .boolean)]
def wsL_law0 : List Cond := (wsL_law0_r1 ++ (wsL_law0_r2 ++ (wsL_law0_r3 ++ (wsL_law0_r4 ++ (wsL_law0_r5 ++ (wsL_law0_r6 ++ (wsL_law0_r7 ++ (wsL_law0_r8 ++ (wsL_law0_r9 ++ (wsL_law0_r10 ++ (wsL_law0_r11 ++ (wsL_law0_r12 ++ (wsL_law0_r13 ++ (wsL_law0_r14 ++ (wsL_law0_r15 ++ (wsL_law0_r16 ++ (wsL_law0_r17 ++ (wsL_law0_r18 ++ (wsL_law0_r19 ++ wsL_law0_r20))))))))))))))))))) ++ wsX00 ++ wsX10 ++ ([] : List Cond)
def wsL_law : List Cond := wsL_law0 ++ (vx_atS RX0 78 "java/lang/IllegalArgumentException" ["java/lang/RuntimeException", "java/lang/Exception"]).filter goodWord ++ (vx_atS RX0 92 "java/lang/IllegalStateException" ["java/lang/RuntimeException", "java/lang/Exception"]).filter goodWord ++ (vx_atS RX0 104 "java/lang/IndexOutOfBoundsException" ["java/lang/RuntimeException", "java/lang/Exception"]).filter goodWord
theorem inlX0 : ∀ w ∈ wsX00, w ∈ wsL_law := fun _ h => List.mem_append_left _ (List.mem_append_left _ (List.mem_append_left _ (List.mem_append_left _ (List.mem_append_left _ (List.mem_append_right _ h)))))
theorem inlX1 : ∀ w ∈ wsX10, w ∈ wsL_law := fun _ h => List.mem_append_left _ (List.mem_append_left _ (List.mem_append_left _ (List.mem_append_left _ (List.mem_append_right _ h))))
abbrev vwCl : List vw_C := [(RX0, TX0, 16), (RX1, TX1, 14)]
end
section
/-! The world of the class, the reference and the law's own array: one list of cells at addresses that are variables. -/
abbrev WA : List Cond := wsL_law
def wA (y : MethodName) (cc : ByteArray) (n : Nat) (ret : Option FieldType) : List Cond := Cond.code y cc n ret :: WA
theorem WA_good : WA.all goodWord = true := by decide +kernel
theorem wm_0 : Cond.classLink RL 8 RX0 ∈ WA := List.mem_of_getElem? (i := 0) (by decide +kernel)
theorem wm_1 : Cond.instantiable RX0 16 ∈ WA := List.mem_of_getElem? (i := 1) (by decide +kernel)
theorem wm_2 : Cond.initialized RX0 ∈ WA := List.mem_of_getElem? (i := 2) (by decide +kernel)
theorem wm_3 : Cond.classLink RL 67 RX1 ∈ WA := List.mem_of_getElem? (i := 3) (by decide +kernel)
theorem wm_4 : Cond.instantiable RX1 14 ∈ WA := List.mem_of_getElem? (i := 4) (by decide +kernel)
theorem wm_5 : Cond.initialized RX1 ∈ WA := List.mem_of_getElem? (i := 5) (by decide +kernel)
theorem wm_6 : Cond.arrayClass .long ∈ WA := List.mem_of_getElem? (i := 6) (by decide +kernel)
theorem wm_7 : Cond.methodLink RL 66 yX0_init ∈ WA := List.mem_of_getElem? (i := 7) (by decide +kernel)
theorem wm_8 : Cond.instanceMethod yX0_init ∈ WA := List.mem_of_getElem? (i := 8) (by decide +kernel)
theorem wm_9 : Cond.code yX0_init cX0_init 2 none ∈ WA := List.mem_of_getElem? (i := 9) (by decide +kernel)
theorem wm_10 : Cond.methodLink RX0 1 objectInit ∈ WA := List.mem_of_getElem? (i := 10) (by decide +kernel)
theorem wm_11 : Cond.instanceMethod objectInit ∈ WA := List.mem_of_getElem? (i := 11) (by decide +kernel)
theorem wm_12 : Cond.code objectInit ⟨#[0xb1]⟩ 1 none ∈ WA := List.mem_of_getElem? (i := 12) (by decide +kernel)
theorem wm_13 : Cond.classLink RX0 9 "[[I" ∈ WA := List.mem_of_getElem? (i := 13) (by decide +kernel)
theorem wm_14 : Cond.arrayClass .int ∈ WA := List.mem_of_getElem? (i := 14) (by decide +kernel)
theorem wm_15 : Cond.fieldLink RX0 11 "RateFitter" "factors" "[[I" ∈ WA := List.mem_of_getElem? (i := 15) (by decide +kernel)
theorem wm_16 : Cond.fieldLink RX0 14 "RateFitter" "rowLevels" "[[I" ∈ WA := List.mem_of_getElem? (i := 16) (by decide +kernel)
theorem wm_17 : Cond.fieldLink RX0 17 "RateFitter" "exposures" "[J" ∈ WA := List.mem_of_getElem? (i := 17) (by decide +kernel)
theorem wm_18 : Cond.fieldLink RX0 21 "RateFitter" "claims" "[J" ∈ WA := List.mem_of_getElem? (i := 18) (by decide +kernel)
theorem wm_19 : Cond.fieldLink RX0 24 "RateFitter" "losses" "[J" ∈ WA := List.mem_of_getElem? (i := 19) (by decide +kernel)
theorem wm_20 : Cond.fieldLink RX0 27 "RateFitter" "oldPremiums" "[I" ∈ WA := List.mem_of_getElem? (i := 20) (by decide +kernel)
theorem wm_21 : Cond.arrayClass .boolean ∈ WA := List.mem_of_getElem? (i := 21) (by decide +kernel)
theorem wm_22 : Cond.fieldLink RX0 31 "RateFitter" "live" "[Z" ∈ WA := List.mem_of_getElem? (i := 22) (by decide +kernel)
theorem wm_23 : Cond.fieldLink RX0 35 "RateFitter" "addedRows" "I" ∈ WA := List.mem_of_getElem? (i := 23) (by decide +kernel)
theorem wm_24 : Cond.fieldLink RX0 39 "RateFitter" "liveRows" "I" ∈ WA := List.mem_of_getElem? (i := 24) (by decide +kernel)
theorem wm_25 : Cond.fieldLink RX0 42 "RateFitter" "credibility" "I" ∈ WA := List.mem_of_getElem? (i := 25) (by decide +kernel)
theorem wm_26 : Cond.fieldLink RX0 45 "RateFitter" "cap" "I" ∈ WA := List.mem_of_getElem? (i := 26) (by decide +kernel)
theorem wm_27 : Cond.fieldLink RX0 48 "RateFitter" "spreadNow" "I" ∈ WA := List.mem_of_getElem? (i := 27) (by decide +kernel)
theorem wm_28 : Cond.fieldLink RX0 51 "RateFitter" "baseNow" "J" ∈ WA := List.mem_of_getElem? (i := 28) (by decide +kernel)
theorem wm_29 : Cond.fieldLink RX0 55 "RateFitter" "fittedLosses" "[J" ∈ WA := List.mem_of_getElem? (i := 29) (by decide +kernel)
theorem wm_30 : Cond.fieldLink RX0 58 "RateFitter" "groupStarts" "[I" ∈ WA := List.mem_of_getElem? (i := 30) (by decide +kernel)
theorem wm_31 : Cond.fieldLink RX0 61 "RateFitter" "factorsBefore" "[I" ∈ WA := List.mem_of_getElem? (i := 31) (by decide +kernel)
theorem wm_32 : Cond.methodLink RX0 64 yJ7_fill_53178 ∈ WA := List.mem_of_getElem? (i := 32) (by decide +kernel)
theorem wm_33 : Cond.static yJ7_fill_53178 ∈ WA := List.mem_of_getElem? (i := 33) (by decide +kernel)
theorem wm_34 : Cond.initialized RJ7 ∈ WA := List.mem_of_getElem? (i := 34) (by decide +kernel)
theorem wm_35 : Cond.code yJ7_fill_53178 cJ7_fill_53178 4 none ∈ WA := List.mem_of_getElem? (i := 35) (by decide +kernel)
theorem wm_36 : Cond.methodLink RL 69 yX1_init ∈ WA := List.mem_of_getElem? (i := 36) (by decide +kernel)
theorem wm_37 : Cond.instanceMethod yX1_init ∈ WA := List.mem_of_getElem? (i := 37) (by decide +kernel)
theorem wm_38 : Cond.code yX1_init cX1_init 2 none ∈ WA := List.mem_of_getElem? (i := 38) (by decide +kernel)
theorem wm_39 : Cond.methodLink RX1 1 objectInit ∈ WA := List.mem_of_getElem? (i := 39) (by decide +kernel)
theorem wm_40 : Cond.fieldLink RX1 7 "RateFitterModel" "levels" "[I" ∈ WA := List.mem_of_getElem? (i := 40) (by decide +kernel)
theorem wm_41 : Cond.fieldLink RX1 13 "RateFitterModel" "exposures" "[I" ∈ WA := List.mem_of_getElem? (i := 41) (by decide +kernel)
theorem wm_42 : Cond.fieldLink RX1 16 "RateFitterModel" "claims" "[I" ∈ WA := List.mem_of_getElem? (i := 42) (by decide +kernel)
theorem wm_43 : Cond.fieldLink RX1 19 "RateFitterModel" "losses" "[I" ∈ WA := List.mem_of_getElem? (i := 43) (by decide +kernel)
theorem wm_44 : Cond.fieldLink RX1 22 "RateFitterModel" "olds" "[I" ∈ WA := List.mem_of_getElem? (i := 44) (by decide +kernel)
theorem wm_45 : Cond.fieldLink RX1 25 "RateFitterModel" "gone" "[Z" ∈ WA := List.mem_of_getElem? (i := 45) (by decide +kernel)
theorem wm_46 : Cond.fieldLink RX1 29 "RateFitterModel" "cap" "I" ∈ WA := List.mem_of_getElem? (i := 46) (by decide +kernel)
theorem wm_47 : Cond.constantLong RX1 33 (10000) ∈ WA := List.mem_of_getElem? (i := 47) (by decide +kernel)
theorem wm_48 : Cond.fieldLink RX1 35 "RateFitterModel" "spread" "J" ∈ WA := List.mem_of_getElem? (i := 48) (by decide +kernel)
theorem wm_49 : Cond.fieldLink RX1 39 "RateFitterModel" "factors" "[I" ∈ WA := List.mem_of_getElem? (i := 49) (by decide +kernel)
theorem wm_50 : Cond.fieldLink RX1 42 "RateFitterModel" "found" "[I" ∈ WA := List.mem_of_getElem? (i := 50) (by decide +kernel)
theorem wm_51 : Cond.fieldLink RX1 45 "RateFitterModel" "joined" "[I" ∈ WA := List.mem_of_getElem? (i := 51) (by decide +kernel)
theorem wm_52 : Cond.methodLink RL 70 yL_add ∈ WA := List.mem_of_getElem? (i := 52) (by decide +kernel)
theorem wm_53 : Cond.static yL_add ∈ WA := List.mem_of_getElem? (i := 53) (by decide +kernel)
theorem wm_54 : Cond.initialized RL ∈ WA := List.mem_of_getElem? (i := 54) (by decide +kernel)
theorem wm_55 : Cond.codeWith yL_add cL_add 9 (some .int) [(0, 18, 21, 13), (0, 18, 25, 15)] ∈ WA := List.mem_of_getElem? (i := 55) (by decide +kernel)
theorem wm_56 : Cond.classLink RL 13 "java/lang/IllegalArgumentException" ∈ WA := List.mem_of_getElem? (i := 56) (by decide +kernel)
theorem wm_57 : Cond.classLink RL 15 "java/lang/IllegalStateException" ∈ WA := List.mem_of_getElem? (i := 57) (by decide +kernel)
theorem wm_58 : Cond.methodLink RL 7 yX0_add ∈ WA := List.mem_of_getElem? (i := 58) (by decide +kernel)
theorem wm_59 : Cond.instanceMethod yX0_add ∈ WA := List.mem_of_getElem? (i := 59) (by decide +kernel)
theorem wm_60 : Cond.selects RX0 yX0_add yX0_add ∈ WA := List.mem_of_getElem? (i := 60) (by decide +kernel)
theorem wm_61 : Cond.code yX0_add cX0_add 8 (some .int) ∈ WA := List.mem_of_getElem? (i := 61) (by decide +kernel)
theorem wm_62 : Cond.classLink RX0 74 "java/lang/IllegalArgumentException" ∈ WA := List.mem_of_getElem? (i := 62) (by decide +kernel)
theorem wm_63 : Cond.initialized "java/lang/IllegalArgumentException" ∈ WA := List.mem_of_getElem? (i := 63) (by decide +kernel)
theorem wm_64 : Cond.classLink RX0 88 "java/lang/IllegalStateException" ∈ WA := List.mem_of_getElem? (i := 64) (by decide +kernel)
theorem wm_65 : Cond.initialized "java/lang/IllegalStateException" ∈ WA := List.mem_of_getElem? (i := 65) (by decide +kernel)
theorem wm_66 : Cond.constant RX0 85 (1000000) ∈ WA := List.mem_of_getElem? (i := 66) (by decide +kernel)
theorem wm_67 : Cond.methodLink RX0 70 yX0_hasLevel ∈ WA := List.mem_of_getElem? (i := 67) (by decide +kernel)
theorem wm_68 : Cond.static yX0_hasLevel ∈ WA := List.mem_of_getElem? (i := 68) (by decide +kernel)
theorem wm_69 : Cond.code yX0_hasLevel cX0_hasLevel 2 (some .boolean) ∈ WA := List.mem_of_getElem? (i := 69) (by decide +kernel)
theorem wm_70 : Cond.fieldLink RX0 130 "RateFitter" "LEVELS" "[I" ∈ WA := List.mem_of_getElem? (i := 70) (by decide +kernel)
theorem wm_71 : Cond.methodLink RX0 117 yX0_hasTrait ∈ WA := List.mem_of_getElem? (i := 71) (by decide +kernel)
theorem wm_72 : Cond.static yX0_hasTrait ∈ WA := List.mem_of_getElem? (i := 72) (by decide +kernel)
theorem wm_73 : Cond.code yX0_hasTrait cX0_hasTrait 1 (some .boolean) ∈ WA := List.mem_of_getElem? (i := 73) (by decide +kernel)
theorem wm_74 : Cond.methodLink RX0 81 yX0_isWithin ∈ WA := List.mem_of_getElem? (i := 74) (by decide +kernel)
theorem wm_75 : Cond.static yX0_isWithin ∈ WA := List.mem_of_getElem? (i := 75) (by decide +kernel)
theorem wm_76 : Cond.code yX0_isWithin cX0_isWithin 3 (some .boolean) ∈ WA := List.mem_of_getElem? (i := 76) (by decide +kernel)
theorem wm_77 : Cond.methodLink RX0 93 yX0_refit ∈ WA := List.mem_of_getElem? (i := 77) (by decide +kernel)
theorem wm_78 : Cond.instanceMethod yX0_refit ∈ WA := List.mem_of_getElem? (i := 78) (by decide +kernel)
theorem wm_79 : Cond.selects RX0 yX0_refit yX0_refit ∈ WA := List.mem_of_getElem? (i := 79) (by decide +kernel)
theorem wm_80 : Cond.code yX0_refit cX0_refit 4 none ∈ WA := List.mem_of_getElem? (i := 80) (by decide +kernel)
theorem wm_81 : Cond.constantLong RX0 147 (10000) ∈ WA := List.mem_of_getElem? (i := 81) (by decide +kernel)
theorem wm_82 : Cond.methodLink RX0 149 yX0_total ∈ WA := List.mem_of_getElem? (i := 82) (by decide +kernel)
theorem wm_83 : Cond.instanceMethod yX0_total ∈ WA := List.mem_of_getElem? (i := 83) (by decide +kernel)
theorem wm_84 : Cond.selects RX0 yX0_total yX0_total ∈ WA := List.mem_of_getElem? (i := 84) (by decide +kernel)
theorem wm_85 : Cond.code yX0_total cX0_total 5 (some .long) ∈ WA := List.mem_of_getElem? (i := 85) (by decide +kernel)
theorem wm_86 : Cond.methodLink RX0 188 yX0_fittedLoss ∈ WA := List.mem_of_getElem? (i := 86) (by decide +kernel)
theorem wm_87 : Cond.instanceMethod yX0_fittedLoss ∈ WA := List.mem_of_getElem? (i := 87) (by decide +kernel)
theorem wm_88 : Cond.selects RX0 yX0_fittedLoss yX0_fittedLoss ∈ WA := List.mem_of_getElem? (i := 88) (by decide +kernel)
theorem wm_89 : Cond.code yX0_fittedLoss cX0_fittedLoss 5 (some .long) ∈ WA := List.mem_of_getElem? (i := 89) (by decide +kernel)
theorem wm_90 : Cond.methodLink RL 75 yX1_add ∈ WA := List.mem_of_getElem? (i := 90) (by decide +kernel)
theorem wm_91 : Cond.instanceMethod yX1_add ∈ WA := List.mem_of_getElem? (i := 91) (by decide +kernel)
theorem wm_92 : Cond.selects RX1 yX1_add yX1_add ∈ WA := List.mem_of_getElem? (i := 92) (by decide +kernel)
theorem wm_93 : Cond.code yX1_add cX1_add 8 (some .int) ∈ WA := List.mem_of_getElem? (i := 93) (by decide +kernel)
theorem wm_94 : Cond.constant RX1 70 (1000000) ∈ WA := List.mem_of_getElem? (i := 94) (by decide +kernel)
theorem wm_95 : Cond.fieldLink RX1 63 "RateFitterModel" "rows" "I" ∈ WA := List.mem_of_getElem? (i := 95) (by decide +kernel)
theorem wm_96 : Cond.methodLink RX1 66 yX1_isLevel ∈ WA := List.mem_of_getElem? (i := 96) (by decide +kernel)
theorem wm_97 : Cond.static yX1_isLevel ∈ WA := List.mem_of_getElem? (i := 97) (by decide +kernel)
theorem wm_98 : Cond.code yX1_isLevel cX1_isLevel 2 (some .boolean) ∈ WA := List.mem_of_getElem? (i := 98) (by decide +kernel)
theorem wm_99 : Cond.methodLink RX1 55 yX1_isTrait ∈ WA := List.mem_of_getElem? (i := 99) (by decide +kernel)
theorem wm_100 : Cond.static yX1_isTrait ∈ WA := List.mem_of_getElem? (i := 100) (by decide +kernel)
theorem wm_101 : Cond.code yX1_isTrait cX1_isTrait 1 (some .boolean) ∈ WA := List.mem_of_getElem? (i := 101) (by decide +kernel)
theorem wm_102 : Cond.methodLink RX1 51 yX1_in ∈ WA := List.mem_of_getElem? (i := 102) (by decide +kernel)
theorem wm_103 : Cond.static yX1_in ∈ WA := List.mem_of_getElem? (i := 103) (by decide +kernel)
theorem wm_104 : Cond.code yX1_in cX1_in 3 (some .boolean) ∈ WA := List.mem_of_getElem? (i := 104) (by decide +kernel)
theorem wm_105 : Cond.methodLink RX1 59 yX1_levelsOf ∈ WA := List.mem_of_getElem? (i := 105) (by decide +kernel)
theorem wm_106 : Cond.static yX1_levelsOf ∈ WA := List.mem_of_getElem? (i := 106) (by decide +kernel)
theorem wm_107 : Cond.code yX1_levelsOf cX1_levelsOf 1 (some .int) ∈ WA := List.mem_of_getElem? (i := 107) (by decide +kernel)
theorem wm_108 : Cond.methodLink RX1 71 yX1_goes ∈ WA := List.mem_of_getElem? (i := 108) (by decide +kernel)
theorem wm_109 : Cond.instanceMethod yX1_goes ∈ WA := List.mem_of_getElem? (i := 109) (by decide +kernel)
theorem wm_110 : Cond.selects RX1 yX1_goes yX1_goes ∈ WA := List.mem_of_getElem? (i := 110) (by decide +kernel)
theorem wm_111 : Cond.code yX1_goes cX1_goes 4 (some .boolean) ∈ WA := List.mem_of_getElem? (i := 111) (by decide +kernel)
theorem wm_112 : Cond.fieldLink RX1 48 "RateFitterModel" "last" "I" ∈ WA := List.mem_of_getElem? (i := 112) (by decide +kernel)
theorem wm_113 : Cond.methodLink RL 76 yX1_thrown ∈ WA := List.mem_of_getElem? (i := 113) (by decide +kernel)
theorem wm_114 : Cond.instanceMethod yX1_thrown ∈ WA := List.mem_of_getElem? (i := 114) (by decide +kernel)
theorem wm_115 : Cond.selects RX1 yX1_thrown yX1_thrown ∈ WA := List.mem_of_getElem? (i := 115) (by decide +kernel)
theorem wm_116 : Cond.code yX1_thrown cX1_thrown 1 (some .int) ∈ WA := List.mem_of_getElem? (i := 116) (by decide +kernel)
theorem wm_117 : Cond.methodLink RL 80 yL_withdraw ∈ WA := List.mem_of_getElem? (i := 117) (by decide +kernel)
theorem wm_118 : Cond.static yL_withdraw ∈ WA := List.mem_of_getElem? (i := 118) (by decide +kernel)
theorem wm_119 : Cond.codeWith yL_withdraw cL_withdraw 4 (some .int) [(0, 9, 12, 21)] ∈ WA := List.mem_of_getElem? (i := 119) (by decide +kernel)
theorem wm_120 : Cond.classLink RL 21 "java/lang/IndexOutOfBoundsException" ∈ WA := List.mem_of_getElem? (i := 120) (by decide +kernel)
theorem wm_121 : Cond.methodLink RL 17 yX0_withdraw ∈ WA := List.mem_of_getElem? (i := 121) (by decide +kernel)
theorem wm_122 : Cond.instanceMethod yX0_withdraw ∈ WA := List.mem_of_getElem? (i := 122) (by decide +kernel)
theorem wm_123 : Cond.selects RX0 yX0_withdraw yX0_withdraw ∈ WA := List.mem_of_getElem? (i := 123) (by decide +kernel)
theorem wm_124 : Cond.code yX0_withdraw cX0_withdraw 2 (some .int) ∈ WA := List.mem_of_getElem? (i := 124) (by decide +kernel)
theorem wm_125 : Cond.classLink RX0 100 "java/lang/IndexOutOfBoundsException" ∈ WA := List.mem_of_getElem? (i := 125) (by decide +kernel)
theorem wm_126 : Cond.initialized "java/lang/IndexOutOfBoundsException" ∈ WA := List.mem_of_getElem? (i := 126) (by decide +kernel)
theorem wm_127 : Cond.methodLink RX0 96 yX0_hasRow ∈ WA := List.mem_of_getElem? (i := 127) (by decide +kernel)
theorem wm_128 : Cond.instanceMethod yX0_hasRow ∈ WA := List.mem_of_getElem? (i := 128) (by decide +kernel)
theorem wm_129 : Cond.selects RX0 yX0_hasRow yX0_hasRow ∈ WA := List.mem_of_getElem? (i := 129) (by decide +kernel)
theorem wm_130 : Cond.code yX0_hasRow cX0_hasRow 2 (some .boolean) ∈ WA := List.mem_of_getElem? (i := 130) (by decide +kernel)
theorem wm_131 : Cond.methodLink RL 83 yX1_withdraw ∈ WA := List.mem_of_getElem? (i := 131) (by decide +kernel)
theorem wm_132 : Cond.instanceMethod yX1_withdraw ∈ WA := List.mem_of_getElem? (i := 132) (by decide +kernel)
theorem wm_133 : Cond.selects RX1 yX1_withdraw yX1_withdraw ∈ WA := List.mem_of_getElem? (i := 133) (by decide +kernel)
theorem wm_134 : Cond.code yX1_withdraw cX1_withdraw 2 (some .int) ∈ WA := List.mem_of_getElem? (i := 134) (by decide +kernel)
theorem wm_135 : Cond.methodLink RX1 75 yX1_isRow ∈ WA := List.mem_of_getElem? (i := 135) (by decide +kernel)
theorem wm_136 : Cond.instanceMethod yX1_isRow ∈ WA := List.mem_of_getElem? (i := 136) (by decide +kernel)
theorem wm_137 : Cond.selects RX1 yX1_isRow yX1_isRow ∈ WA := List.mem_of_getElem? (i := 137) (by decide +kernel)
theorem wm_138 : Cond.code yX1_isRow cX1_isRow 2 (some .boolean) ∈ WA := List.mem_of_getElem? (i := 138) (by decide +kernel)
theorem wm_139 : Cond.methodLink RX1 78 yX1_count ∈ WA := List.mem_of_getElem? (i := 139) (by decide +kernel)
theorem wm_140 : Cond.instanceMethod yX1_count ∈ WA := List.mem_of_getElem? (i := 140) (by decide +kernel)
theorem wm_141 : Cond.selects RX1 yX1_count yX1_count ∈ WA := List.mem_of_getElem? (i := 141) (by decide +kernel)
theorem wm_142 : Cond.code yX1_count cX1_count 3 (some .int) ∈ WA := List.mem_of_getElem? (i := 142) (by decide +kernel)
theorem wm_143 : Cond.methodLink RL 84 yL_setOld ∈ WA := List.mem_of_getElem? (i := 143) (by decide +kernel)
theorem wm_144 : Cond.static yL_setOld ∈ WA := List.mem_of_getElem? (i := 144) (by decide +kernel)
theorem wm_145 : Cond.codeWith yL_setOld cL_setOld 5 (some .int) [(0, 10, 13, 21), (0, 10, 17, 13)] ∈ WA := List.mem_of_getElem? (i := 145) (by decide +kernel)
theorem wm_146 : Cond.methodLink RL 23 yX0_setOld ∈ WA := List.mem_of_getElem? (i := 146) (by decide +kernel)
theorem wm_147 : Cond.instanceMethod yX0_setOld ∈ WA := List.mem_of_getElem? (i := 147) (by decide +kernel)
theorem wm_148 : Cond.selects RX0 yX0_setOld yX0_setOld ∈ WA := List.mem_of_getElem? (i := 148) (by decide +kernel)
theorem wm_149 : Cond.code yX0_setOld cX0_setOld 4 (some .int) ∈ WA := List.mem_of_getElem? (i := 149) (by decide +kernel)
theorem wm_150 : Cond.constant RX0 105 (10000000) ∈ WA := List.mem_of_getElem? (i := 150) (by decide +kernel)
theorem wm_151 : Cond.methodLink RL 87 yX1_setOld ∈ WA := List.mem_of_getElem? (i := 151) (by decide +kernel)
theorem wm_152 : Cond.instanceMethod yX1_setOld ∈ WA := List.mem_of_getElem? (i := 152) (by decide +kernel)
theorem wm_153 : Cond.selects RX1 yX1_setOld yX1_setOld ∈ WA := List.mem_of_getElem? (i := 153) (by decide +kernel)
theorem wm_154 : Cond.code yX1_setOld cX1_setOld 4 (some .int) ∈ WA := List.mem_of_getElem? (i := 154) (by decide +kernel)
theorem wm_155 : Cond.constant RX1 82 (10000000) ∈ WA := List.mem_of_getElem? (i := 155) (by decide +kernel)
theorem wm_156 : Cond.methodLink RL 88 yL_setRules ∈ WA := List.mem_of_getElem? (i := 156) (by decide +kernel)
theorem wm_157 : Cond.static yL_setRules ∈ WA := List.mem_of_getElem? (i := 157) (by decide +kernel)
theorem wm_158 : Cond.codeWith yL_setRules cL_setRules 5 (some .int) [(0, 10, 13, 13)] ∈ WA := List.mem_of_getElem? (i := 158) (by decide +kernel)
theorem wm_159 : Cond.methodLink RL 27 yX0_setRules ∈ WA := List.mem_of_getElem? (i := 159) (by decide +kernel)
theorem wm_160 : Cond.instanceMethod yX0_setRules ∈ WA := List.mem_of_getElem? (i := 160) (by decide +kernel)
theorem wm_161 : Cond.selects RX0 yX0_setRules yX0_setRules ∈ WA := List.mem_of_getElem? (i := 161) (by decide +kernel)
theorem wm_162 : Cond.code yX0_setRules cX0_setRules 4 (some .int) ∈ WA := List.mem_of_getElem? (i := 162) (by decide +kernel)
theorem wm_163 : Cond.methodLink RL 90 yX1_setRules ∈ WA := List.mem_of_getElem? (i := 163) (by decide +kernel)
theorem wm_164 : Cond.instanceMethod yX1_setRules ∈ WA := List.mem_of_getElem? (i := 164) (by decide +kernel)
theorem wm_165 : Cond.selects RX1 yX1_setRules yX1_setRules ∈ WA := List.mem_of_getElem? (i := 165) (by decide +kernel)
theorem wm_166 : Cond.code yX1_setRules cX1_setRules 4 (some .int) ∈ WA := List.mem_of_getElem? (i := 166) (by decide +kernel)
theorem wm_167 : Cond.fieldLink RX1 83 "RateFitterModel" "credibility" "I" ∈ WA := List.mem_of_getElem? (i := 167) (by decide +kernel)
theorem wm_168 : Cond.methodLink RL 91 yL_setFactor ∈ WA := List.mem_of_getElem? (i := 168) (by decide +kernel)
theorem wm_169 : Cond.static yL_setFactor ∈ WA := List.mem_of_getElem? (i := 169) (by decide +kernel)
theorem wm_170 : Cond.codeWith yL_setFactor cL_setFactor 6 (some .int) [(0, 12, 15, 21), (0, 12, 19, 13)] ∈ WA := List.mem_of_getElem? (i := 170) (by decide +kernel)
theorem wm_171 : Cond.methodLink RL 30 yX0_setFactor ∈ WA := List.mem_of_getElem? (i := 171) (by decide +kernel)
theorem wm_172 : Cond.instanceMethod yX0_setFactor ∈ WA := List.mem_of_getElem? (i := 172) (by decide +kernel)
theorem wm_173 : Cond.selects RX0 yX0_setFactor yX0_setFactor ∈ WA := List.mem_of_getElem? (i := 173) (by decide +kernel)
theorem wm_174 : Cond.code yX0_setFactor cX0_setFactor 5 (some .int) ∈ WA := List.mem_of_getElem? (i := 174) (by decide +kernel)
theorem wm_175 : Cond.constant RX0 114 (100000) ∈ WA := List.mem_of_getElem? (i := 175) (by decide +kernel)
theorem wm_176 : Cond.methodLink RL 94 yX1_setFactor ∈ WA := List.mem_of_getElem? (i := 176) (by decide +kernel)
theorem wm_177 : Cond.instanceMethod yX1_setFactor ∈ WA := List.mem_of_getElem? (i := 177) (by decide +kernel)
theorem wm_178 : Cond.selects RX1 yX1_setFactor yX1_setFactor ∈ WA := List.mem_of_getElem? (i := 178) (by decide +kernel)
theorem wm_179 : Cond.code yX1_setFactor cX1_setFactor 5 (some .int) ∈ WA := List.mem_of_getElem? (i := 179) (by decide +kernel)
theorem wm_180 : Cond.constant RX1 86 (100000) ∈ WA := List.mem_of_getElem? (i := 180) (by decide +kernel)
theorem wm_181 : Cond.methodLink RL 95 yL_pass ∈ WA := List.mem_of_getElem? (i := 181) (by decide +kernel)
theorem wm_182 : Cond.static yL_pass ∈ WA := List.mem_of_getElem? (i := 182) (by decide +kernel)
theorem wm_183 : Cond.codeWith yL_pass cL_pass 4 (some .int) [(0, 9, 12, 21)] ∈ WA := List.mem_of_getElem? (i := 183) (by decide +kernel)
theorem wm_184 : Cond.methodLink RL 34 yX0_pass ∈ WA := List.mem_of_getElem? (i := 184) (by decide +kernel)
theorem wm_185 : Cond.instanceMethod yX0_pass ∈ WA := List.mem_of_getElem? (i := 185) (by decide +kernel)
theorem wm_186 : Cond.selects RX0 yX0_pass yX0_pass ∈ WA := List.mem_of_getElem? (i := 186) (by decide +kernel)
theorem wm_187 : Cond.code yX0_pass cX0_pass 2 (some .int) ∈ WA := List.mem_of_getElem? (i := 187) (by decide +kernel)
theorem wm_188 : Cond.methodLink RX0 122 yX0_passOver ∈ WA := List.mem_of_getElem? (i := 188) (by decide +kernel)
theorem wm_189 : Cond.instanceMethod yX0_passOver ∈ WA := List.mem_of_getElem? (i := 189) (by decide +kernel)
theorem wm_190 : Cond.selects RX0 yX0_passOver yX0_passOver ∈ WA := List.mem_of_getElem? (i := 190) (by decide +kernel)
theorem wm_191 : Cond.code yX0_passOver cX0_passOver 5 (some .int) ∈ WA := List.mem_of_getElem? (i := 191) (by decide +kernel)
theorem wm_192 : Cond.methodLink RX0 191 yX0_foundFactor ∈ WA := List.mem_of_getElem? (i := 192) (by decide +kernel)
theorem wm_193 : Cond.instanceMethod yX0_foundFactor ∈ WA := List.mem_of_getElem? (i := 193) (by decide +kernel)
theorem wm_194 : Cond.selects RX0 yX0_foundFactor yX0_foundFactor ∈ WA := List.mem_of_getElem? (i := 194) (by decide +kernel)
theorem wm_195 : Cond.code yX0_foundFactor cX0_foundFactor 12 (some .int) ∈ WA := List.mem_of_getElem? (i := 195) (by decide +kernel)
theorem wm_196 : Cond.constantLong RX0 195 (100) ∈ WA := List.mem_of_getElem? (i := 196) (by decide +kernel)
theorem wm_197 : Cond.constantLong RX0 197 (100000) ∈ WA := List.mem_of_getElem? (i := 197) (by decide +kernel)
theorem wm_198 : Cond.methodLink RX0 165 yX0_levelTotal ∈ WA := List.mem_of_getElem? (i := 198) (by decide +kernel)
theorem wm_199 : Cond.instanceMethod yX0_levelTotal ∈ WA := List.mem_of_getElem? (i := 199) (by decide +kernel)
theorem wm_200 : Cond.selects RX0 yX0_levelTotal yX0_levelTotal ∈ WA := List.mem_of_getElem? (i := 200) (by decide +kernel)
theorem wm_201 : Cond.code yX0_levelTotal cX0_levelTotal 7 (some .long) ∈ WA := List.mem_of_getElem? (i := 201) (by decide +kernel)
theorem wm_202 : Cond.methodLink RX0 161 yX0_bounded ∈ WA := List.mem_of_getElem? (i := 202) (by decide +kernel)
theorem wm_203 : Cond.static yX0_bounded ∈ WA := List.mem_of_getElem? (i := 203) (by decide +kernel)
theorem wm_204 : Cond.code yX0_bounded cX0_bounded 6 (some .long) ∈ WA := List.mem_of_getElem? (i := 204) (by decide +kernel)
theorem wm_205 : Cond.methodLink RX0 173 Lib.MathLoose.max_long.x ∈ WA := List.mem_of_getElem? (i := 205) (by decide +kernel)
theorem wm_206 : Cond.static Lib.MathLoose.max_long.x ∈ WA := List.mem_of_getElem? (i := 206) (by decide +kernel)
theorem wm_207 : Cond.initialized "java/lang/Math" ∈ WA := List.mem_of_getElem? (i := 207) (by decide +kernel)
theorem wm_208 : Cond.code Lib.MathLoose.max_long.x Lib.MathLoose.max_long.code 4 (some .long) ∈ WA := List.mem_of_getElem? (i := 208) (by decide +kernel)
theorem wm_209 : Cond.methodLink RX0 155 Lib.MathLoose.min_long.x ∈ WA := List.mem_of_getElem? (i := 209) (by decide +kernel)
theorem wm_210 : Cond.static Lib.MathLoose.min_long.x ∈ WA := List.mem_of_getElem? (i := 210) (by decide +kernel)
theorem wm_211 : Cond.code Lib.MathLoose.min_long.x Lib.MathLoose.min_long.code 4 (some .long) ∈ WA := List.mem_of_getElem? (i := 211) (by decide +kernel)
theorem wm_212 : Cond.methodLink RL 97 yX1_pass ∈ WA := List.mem_of_getElem? (i := 212) (by decide +kernel)
theorem wm_213 : Cond.instanceMethod yX1_pass ∈ WA := List.mem_of_getElem? (i := 213) (by decide +kernel)
theorem wm_214 : Cond.selects RX1 yX1_pass yX1_pass ∈ WA := List.mem_of_getElem? (i := 214) (by decide +kernel)
theorem wm_215 : Cond.code yX1_pass cX1_pass 2 (some .int) ∈ WA := List.mem_of_getElem? (i := 215) (by decide +kernel)
theorem wm_216 : Cond.methodLink RX1 116 yX1_passes ∈ WA := List.mem_of_getElem? (i := 216) (by decide +kernel)
theorem wm_217 : Cond.instanceMethod yX1_passes ∈ WA := List.mem_of_getElem? (i := 217) (by decide +kernel)
theorem wm_218 : Cond.selects RX1 yX1_passes yX1_passes ∈ WA := List.mem_of_getElem? (i := 218) (by decide +kernel)
theorem wm_219 : Cond.code yX1_passes cX1_passes 12 (some .int) ∈ WA := List.mem_of_getElem? (i := 219) (by decide +kernel)
theorem wm_220 : Cond.methodLink RX1 102 yX1_fittedOf ∈ WA := List.mem_of_getElem? (i := 220) (by decide +kernel)
theorem wm_221 : Cond.instanceMethod yX1_fittedOf ∈ WA := List.mem_of_getElem? (i := 221) (by decide +kernel)
theorem wm_222 : Cond.selects RX1 yX1_fittedOf yX1_fittedOf ∈ WA := List.mem_of_getElem? (i := 222) (by decide +kernel)
theorem wm_223 : Cond.code yX1_fittedOf cX1_fittedOf 8 (some .long) ∈ WA := List.mem_of_getElem? (i := 223) (by decide +kernel)
theorem wm_224 : Cond.methodLink RX1 90 yX1_baseNow ∈ WA := List.mem_of_getElem? (i := 224) (by decide +kernel)
theorem wm_225 : Cond.instanceMethod yX1_baseNow ∈ WA := List.mem_of_getElem? (i := 225) (by decide +kernel)
theorem wm_226 : Cond.selects RX1 yX1_baseNow yX1_baseNow ∈ WA := List.mem_of_getElem? (i := 226) (by decide +kernel)
theorem wm_227 : Cond.code yX1_baseNow cX1_baseNow 6 (some .long) ∈ WA := List.mem_of_getElem? (i := 227) (by decide +kernel)
theorem wm_228 : Cond.methodLink RX1 87 yX1_has ∈ WA := List.mem_of_getElem? (i := 228) (by decide +kernel)
theorem wm_229 : Cond.instanceMethod yX1_has ∈ WA := List.mem_of_getElem? (i := 229) (by decide +kernel)
theorem wm_230 : Cond.selects RX1 yX1_has yX1_has ∈ WA := List.mem_of_getElem? (i := 230) (by decide +kernel)
theorem wm_231 : Cond.code yX1_has cX1_has 4 (some .boolean) ∈ WA := List.mem_of_getElem? (i := 231) (by decide +kernel)
theorem wm_232 : Cond.methodLink RX1 94 yX1_fit ∈ WA := List.mem_of_getElem? (i := 232) (by decide +kernel)
theorem wm_233 : Cond.instanceMethod yX1_fit ∈ WA := List.mem_of_getElem? (i := 233) (by decide +kernel)
theorem wm_234 : Cond.selects RX1 yX1_fit yX1_fit ∈ WA := List.mem_of_getElem? (i := 234) (by decide +kernel)
theorem wm_235 : Cond.code yX1_fit cX1_fit 7 (some .long) ∈ WA := List.mem_of_getElem? (i := 235) (by decide +kernel)
theorem wm_236 : Cond.methodLink RX1 106 yX1_claimed ∈ WA := List.mem_of_getElem? (i := 236) (by decide +kernel)
theorem wm_237 : Cond.instanceMethod yX1_claimed ∈ WA := List.mem_of_getElem? (i := 237) (by decide +kernel)
theorem wm_238 : Cond.selects RX1 yX1_claimed yX1_claimed ∈ WA := List.mem_of_getElem? (i := 238) (by decide +kernel)
theorem wm_239 : Cond.code yX1_claimed cX1_claimed 6 (some .long) ∈ WA := List.mem_of_getElem? (i := 239) (by decide +kernel)
theorem wm_240 : Cond.methodLink RX1 109 yX1_told ∈ WA := List.mem_of_getElem? (i := 240) (by decide +kernel)
theorem wm_241 : Cond.instanceMethod yX1_told ∈ WA := List.mem_of_getElem? (i := 241) (by decide +kernel)
theorem wm_242 : Cond.selects RX1 yX1_told yX1_told ∈ WA := List.mem_of_getElem? (i := 242) (by decide +kernel)
theorem wm_243 : Cond.code yX1_told cX1_told 6 (some .long) ∈ WA := List.mem_of_getElem? (i := 243) (by decide +kernel)
theorem wm_244 : Cond.methodLink RX1 112 yX1_bounded ∈ WA := List.mem_of_getElem? (i := 244) (by decide +kernel)
theorem wm_245 : Cond.instanceMethod yX1_bounded ∈ WA := List.mem_of_getElem? (i := 245) (by decide +kernel)
theorem wm_246 : Cond.selects RX1 yX1_bounded yX1_bounded ∈ WA := List.mem_of_getElem? (i := 246) (by decide +kernel)
theorem wm_247 : Cond.code yX1_bounded cX1_bounded 3 (some .int) ∈ WA := List.mem_of_getElem? (i := 247) (by decide +kernel)
theorem wm_248 : Cond.constantLong RX1 98 (100) ∈ WA := List.mem_of_getElem? (i := 248) (by decide +kernel)
theorem wm_249 : Cond.constantLong RX1 100 (100000) ∈ WA := List.mem_of_getElem? (i := 249) (by decide +kernel)
theorem wm_250 : Cond.methodLink RL 98 yX0_settle ∈ WA := List.mem_of_getElem? (i := 250) (by decide +kernel)
theorem wm_251 : Cond.instanceMethod yX0_settle ∈ WA := List.mem_of_getElem? (i := 251) (by decide +kernel)
theorem wm_252 : Cond.selects RX0 yX0_settle yX0_settle ∈ WA := List.mem_of_getElem? (i := 252) (by decide +kernel)
theorem wm_253 : Cond.code yX0_settle cX0_settle 2 (some .int) ∈ WA := List.mem_of_getElem? (i := 253) (by decide +kernel)
theorem wm_254 : Cond.methodLink RX0 126 yX0_changedByRound ∈ WA := List.mem_of_getElem? (i := 254) (by decide +kernel)
theorem wm_255 : Cond.instanceMethod yX0_changedByRound ∈ WA := List.mem_of_getElem? (i := 255) (by decide +kernel)
theorem wm_256 : Cond.selects RX0 yX0_changedByRound yX0_changedByRound ∈ WA := List.mem_of_getElem? (i := 256) (by decide +kernel)
theorem wm_257 : Cond.code yX0_changedByRound cX0_changedByRound 3 (some .int) ∈ WA := List.mem_of_getElem? (i := 257) (by decide +kernel)
theorem wm_258 : Cond.methodLink RL 101 yX1_settle ∈ WA := List.mem_of_getElem? (i := 258) (by decide +kernel)
theorem wm_259 : Cond.instanceMethod yX1_settle ∈ WA := List.mem_of_getElem? (i := 259) (by decide +kernel)
theorem wm_260 : Cond.selects RX1 yX1_settle yX1_settle ∈ WA := List.mem_of_getElem? (i := 260) (by decide +kernel)
theorem wm_261 : Cond.code yX1_settle cX1_settle 4 (some .int) ∈ WA := List.mem_of_getElem? (i := 261) (by decide +kernel)
theorem wm_262 : Cond.methodLink RL 102 yL_smooth ∈ WA := List.mem_of_getElem? (i := 262) (by decide +kernel)
theorem wm_263 : Cond.static yL_smooth ∈ WA := List.mem_of_getElem? (i := 263) (by decide +kernel)
theorem wm_264 : Cond.codeWith yL_smooth cL_smooth 4 (some .int) [(0, 9, 12, 21)] ∈ WA := List.mem_of_getElem? (i := 264) (by decide +kernel)
theorem wm_265 : Cond.methodLink RL 37 yX0_smooth ∈ WA := List.mem_of_getElem? (i := 265) (by decide +kernel)
theorem wm_266 : Cond.instanceMethod yX0_smooth ∈ WA := List.mem_of_getElem? (i := 266) (by decide +kernel)
theorem wm_267 : Cond.selects RX0 yX0_smooth yX0_smooth ∈ WA := List.mem_of_getElem? (i := 267) (by decide +kernel)
theorem wm_268 : Cond.code yX0_smooth cX0_smooth 4 (some .int) ∈ WA := List.mem_of_getElem? (i := 268) (by decide +kernel)
theorem wm_269 : Cond.methodLink RX0 133 yX0_lowestFallingLevel ∈ WA := List.mem_of_getElem? (i := 269) (by decide +kernel)
theorem wm_270 : Cond.instanceMethod yX0_lowestFallingLevel ∈ WA := List.mem_of_getElem? (i := 270) (by decide +kernel)
theorem wm_271 : Cond.selects RX0 yX0_lowestFallingLevel yX0_lowestFallingLevel ∈ WA := List.mem_of_getElem? (i := 271) (by decide +kernel)
theorem wm_272 : Cond.code yX0_lowestFallingLevel cX0_lowestFallingLevel 3 (some .int) ∈ WA := List.mem_of_getElem? (i := 272) (by decide +kernel)
theorem wm_273 : Cond.methodLink RX0 136 yX0_joinToLevelAhead ∈ WA := List.mem_of_getElem? (i := 273) (by decide +kernel)
theorem wm_274 : Cond.instanceMethod yX0_joinToLevelAhead ∈ WA := List.mem_of_getElem? (i := 274) (by decide +kernel)
theorem wm_275 : Cond.selects RX0 yX0_joinToLevelAhead yX0_joinToLevelAhead ∈ WA := List.mem_of_getElem? (i := 275) (by decide +kernel)
theorem wm_276 : Cond.code yX0_joinToLevelAhead cX0_joinToLevelAhead 6 none ∈ WA := List.mem_of_getElem? (i := 276) (by decide +kernel)
theorem wm_277 : Cond.methodLink RX0 199 yX0_groupMean ∈ WA := List.mem_of_getElem? (i := 277) (by decide +kernel)
theorem wm_278 : Cond.instanceMethod yX0_groupMean ∈ WA := List.mem_of_getElem? (i := 278) (by decide +kernel)
theorem wm_279 : Cond.selects RX0 yX0_groupMean yX0_groupMean ∈ WA := List.mem_of_getElem? (i := 279) (by decide +kernel)
theorem wm_280 : Cond.code yX0_groupMean cX0_groupMean 13 (some .int) ∈ WA := List.mem_of_getElem? (i := 280) (by decide +kernel)
theorem wm_281 : Cond.methodLink RX0 202 Lib.Math.max.name ∈ WA := List.mem_of_getElem? (i := 281) (by decide +kernel)
theorem wm_282 : Cond.static Lib.Math.max.name ∈ WA := List.mem_of_getElem? (i := 282) (by decide +kernel)
theorem wm_283 : Cond.code Lib.Math.max.name Lib.Math.max.code 2 (some .int) ∈ WA := List.mem_of_getElem? (i := 283) (by decide +kernel)
theorem wm_284 : Cond.methodLink RX0 140 yX0_changedSinceBefore ∈ WA := List.mem_of_getElem? (i := 284) (by decide +kernel)
theorem wm_285 : Cond.instanceMethod yX0_changedSinceBefore ∈ WA := List.mem_of_getElem? (i := 285) (by decide +kernel)
theorem wm_286 : Cond.selects RX0 yX0_changedSinceBefore yX0_changedSinceBefore ∈ WA := List.mem_of_getElem? (i := 286) (by decide +kernel)
theorem wm_287 : Cond.code yX0_changedSinceBefore cX0_changedSinceBefore 4 (some .int) ∈ WA := List.mem_of_getElem? (i := 287) (by decide +kernel)
theorem wm_288 : Cond.methodLink RL 104 yX1_smooth ∈ WA := List.mem_of_getElem? (i := 288) (by decide +kernel)
theorem wm_289 : Cond.instanceMethod yX1_smooth ∈ WA := List.mem_of_getElem? (i := 289) (by decide +kernel)
theorem wm_290 : Cond.selects RX1 yX1_smooth yX1_smooth ∈ WA := List.mem_of_getElem? (i := 290) (by decide +kernel)
theorem wm_291 : Cond.code yX1_smooth cX1_smooth 4 (some .int) ∈ WA := List.mem_of_getElem? (i := 291) (by decide +kernel)
theorem wm_292 : Cond.methodLink RX1 122 yX1_lowestLess ∈ WA := List.mem_of_getElem? (i := 292) (by decide +kernel)
theorem wm_293 : Cond.instanceMethod yX1_lowestLess ∈ WA := List.mem_of_getElem? (i := 293) (by decide +kernel)
theorem wm_294 : Cond.selects RX1 yX1_lowestLess yX1_lowestLess ∈ WA := List.mem_of_getElem? (i := 294) (by decide +kernel)
theorem wm_295 : Cond.code yX1_lowestLess cX1_lowestLess 3 (some .int) ∈ WA := List.mem_of_getElem? (i := 295) (by decide +kernel)
theorem wm_296 : Cond.methodLink RX1 125 yX1_means ∈ WA := List.mem_of_getElem? (i := 296) (by decide +kernel)
theorem wm_297 : Cond.instanceMethod yX1_means ∈ WA := List.mem_of_getElem? (i := 297) (by decide +kernel)
theorem wm_298 : Cond.selects RX1 yX1_means yX1_means ∈ WA := List.mem_of_getElem? (i := 298) (by decide +kernel)
theorem wm_299 : Cond.code yX1_means cX1_means 14 none ∈ WA := List.mem_of_getElem? (i := 299) (by decide +kernel)
theorem wm_300 : Cond.methodLink RX1 119 yX1_exposed ∈ WA := List.mem_of_getElem? (i := 300) (by decide +kernel)
theorem wm_301 : Cond.instanceMethod yX1_exposed ∈ WA := List.mem_of_getElem? (i := 301) (by decide +kernel)
theorem wm_302 : Cond.selects RX1 yX1_exposed yX1_exposed ∈ WA := List.mem_of_getElem? (i := 302) (by decide +kernel)
theorem wm_303 : Cond.code yX1_exposed cX1_exposed 6 (some .long) ∈ WA := List.mem_of_getElem? (i := 303) (by decide +kernel)
theorem wm_304 : Cond.methodLink RL 105 yX0_spread ∈ WA := List.mem_of_getElem? (i := 304) (by decide +kernel)
theorem wm_305 : Cond.instanceMethod yX0_spread ∈ WA := List.mem_of_getElem? (i := 305) (by decide +kernel)
theorem wm_306 : Cond.selects RX0 yX0_spread yX0_spread ∈ WA := List.mem_of_getElem? (i := 306) (by decide +kernel)
theorem wm_307 : Cond.code yX0_spread cX0_spread 5 (some .int) ∈ WA := List.mem_of_getElem? (i := 307) (by decide +kernel)
theorem wm_308 : Cond.constantLong RX0 153 (1000000) ∈ WA := List.mem_of_getElem? (i := 308) (by decide +kernel)
theorem wm_309 : Cond.methodLink RX0 143 yX0_cappedTotal ∈ WA := List.mem_of_getElem? (i := 309) (by decide +kernel)
theorem wm_310 : Cond.instanceMethod yX0_cappedTotal ∈ WA := List.mem_of_getElem? (i := 310) (by decide +kernel)
theorem wm_311 : Cond.selects RX0 yX0_cappedTotal yX0_cappedTotal ∈ WA := List.mem_of_getElem? (i := 311) (by decide +kernel)
theorem wm_312 : Cond.code yX0_cappedTotal cX0_cappedTotal 4 (some .long) ∈ WA := List.mem_of_getElem? (i := 312) (by decide +kernel)
theorem wm_313 : Cond.methodLink RX0 180 yX0_cappedPremium ∈ WA := List.mem_of_getElem? (i := 313) (by decide +kernel)
theorem wm_314 : Cond.instanceMethod yX0_cappedPremium ∈ WA := List.mem_of_getElem? (i := 314) (by decide +kernel)
theorem wm_315 : Cond.selects RX0 yX0_cappedPremium yX0_cappedPremium ∈ WA := List.mem_of_getElem? (i := 315) (by decide +kernel)
theorem wm_316 : Cond.code yX0_cappedPremium cX0_cappedPremium 8 (some .long) ∈ WA := List.mem_of_getElem? (i := 316) (by decide +kernel)
theorem wm_317 : Cond.methodLink RX0 176 yX0_newPremium ∈ WA := List.mem_of_getElem? (i := 317) (by decide +kernel)
theorem wm_318 : Cond.instanceMethod yX0_newPremium ∈ WA := List.mem_of_getElem? (i := 318) (by decide +kernel)
theorem wm_319 : Cond.selects RX0 yX0_newPremium yX0_newPremium ∈ WA := List.mem_of_getElem? (i := 319) (by decide +kernel)
theorem wm_320 : Cond.code yX0_newPremium cX0_newPremium 2 (some .long) ∈ WA := List.mem_of_getElem? (i := 320) (by decide +kernel)
theorem wm_321 : Cond.methodLink RL 108 yX1_spread ∈ WA := List.mem_of_getElem? (i := 321) (by decide +kernel)
theorem wm_322 : Cond.instanceMethod yX1_spread ∈ WA := List.mem_of_getElem? (i := 322) (by decide +kernel)
theorem wm_323 : Cond.selects RX1 yX1_spread yX1_spread ∈ WA := List.mem_of_getElem? (i := 323) (by decide +kernel)
theorem wm_324 : Cond.code yX1_spread cX1_spread 7 (some .int) ∈ WA := List.mem_of_getElem? (i := 324) (by decide +kernel)
theorem wm_325 : Cond.constantLong RX1 142 (1000000) ∈ WA := List.mem_of_getElem? (i := 325) (by decide +kernel)
theorem wm_326 : Cond.methodLink RX1 136 yX1_allCapped ∈ WA := List.mem_of_getElem? (i := 326) (by decide +kernel)
theorem wm_327 : Cond.instanceMethod yX1_allCapped ∈ WA := List.mem_of_getElem? (i := 327) (by decide +kernel)
theorem wm_328 : Cond.selects RX1 yX1_allCapped yX1_allCapped ∈ WA := List.mem_of_getElem? (i := 328) (by decide +kernel)
theorem wm_329 : Cond.code yX1_allCapped cX1_allCapped 4 (some .long) ∈ WA := List.mem_of_getElem? (i := 329) (by decide +kernel)
theorem wm_330 : Cond.methodLink RX1 133 yX1_cappedOf ∈ WA := List.mem_of_getElem? (i := 330) (by decide +kernel)
theorem wm_331 : Cond.instanceMethod yX1_cappedOf ∈ WA := List.mem_of_getElem? (i := 331) (by decide +kernel)
theorem wm_332 : Cond.selects RX1 yX1_cappedOf yX1_cappedOf ∈ WA := List.mem_of_getElem? (i := 332) (by decide +kernel)
theorem wm_333 : Cond.code yX1_cappedOf cX1_cappedOf 8 (some .long) ∈ WA := List.mem_of_getElem? (i := 333) (by decide +kernel)
theorem wm_334 : Cond.methodLink RX1 129 yX1_premiumOf ∈ WA := List.mem_of_getElem? (i := 334) (by decide +kernel)
theorem wm_335 : Cond.instanceMethod yX1_premiumOf ∈ WA := List.mem_of_getElem? (i := 335) (by decide +kernel)
theorem wm_336 : Cond.selects RX1 yX1_premiumOf yX1_premiumOf ∈ WA := List.mem_of_getElem? (i := 336) (by decide +kernel)
theorem wm_337 : Cond.code yX1_premiumOf cX1_premiumOf 2 (some .long) ∈ WA := List.mem_of_getElem? (i := 337) (by decide +kernel)
theorem wm_338 : Cond.methodLink RX1 139 yX1_allFitted ∈ WA := List.mem_of_getElem? (i := 338) (by decide +kernel)
theorem wm_339 : Cond.instanceMethod yX1_allFitted ∈ WA := List.mem_of_getElem? (i := 339) (by decide +kernel)
theorem wm_340 : Cond.selects RX1 yX1_allFitted yX1_allFitted ∈ WA := List.mem_of_getElem? (i := 340) (by decide +kernel)
theorem wm_341 : Cond.code yX1_allFitted cX1_allFitted 6 (some .long) ∈ WA := List.mem_of_getElem? (i := 341) (by decide +kernel)
theorem wm_342 : Cond.methodLink RL 109 yX0_rows ∈ WA := List.mem_of_getElem? (i := 342) (by decide +kernel)
theorem wm_343 : Cond.instanceMethod yX0_rows ∈ WA := List.mem_of_getElem? (i := 343) (by decide +kernel)
theorem wm_344 : Cond.selects RX0 yX0_rows yX0_rows ∈ WA := List.mem_of_getElem? (i := 344) (by decide +kernel)
theorem wm_345 : Cond.code yX0_rows cX0_rows 1 (some .int) ∈ WA := List.mem_of_getElem? (i := 345) (by decide +kernel)
theorem wm_346 : Cond.methodLink RL 112 yX1_rows ∈ WA := List.mem_of_getElem? (i := 346) (by decide +kernel)
theorem wm_347 : Cond.instanceMethod yX1_rows ∈ WA := List.mem_of_getElem? (i := 347) (by decide +kernel)
theorem wm_348 : Cond.selects RX1 yX1_rows yX1_rows ∈ WA := List.mem_of_getElem? (i := 348) (by decide +kernel)
theorem wm_349 : Cond.code yX1_rows cX1_rows 1 (some .int) ∈ WA := List.mem_of_getElem? (i := 349) (by decide +kernel)
theorem wm_350 : Cond.methodLink RL 113 yX0_base ∈ WA := List.mem_of_getElem? (i := 350) (by decide +kernel)
theorem wm_351 : Cond.instanceMethod yX0_base ∈ WA := List.mem_of_getElem? (i := 351) (by decide +kernel)
theorem wm_352 : Cond.selects RX0 yX0_base yX0_base ∈ WA := List.mem_of_getElem? (i := 352) (by decide +kernel)
theorem wm_353 : Cond.code yX0_base cX0_base 1 (some .long) ∈ WA := List.mem_of_getElem? (i := 353) (by decide +kernel)
theorem wm_354 : Cond.methodLink RL 117 yX1_base ∈ WA := List.mem_of_getElem? (i := 354) (by decide +kernel)
theorem wm_355 : Cond.instanceMethod yX1_base ∈ WA := List.mem_of_getElem? (i := 355) (by decide +kernel)
theorem wm_356 : Cond.selects RX1 yX1_base yX1_base ∈ WA := List.mem_of_getElem? (i := 356) (by decide +kernel)
theorem wm_357 : Cond.code yX1_base cX1_base 1 (some .long) ∈ WA := List.mem_of_getElem? (i := 357) (by decide +kernel)
theorem wm_358 : Cond.methodLink RL 118 yL_factor ∈ WA := List.mem_of_getElem? (i := 358) (by decide +kernel)
theorem wm_359 : Cond.static yL_factor ∈ WA := List.mem_of_getElem? (i := 359) (by decide +kernel)
theorem wm_360 : Cond.codeWith yL_factor cL_factor 5 (some .int) [(0, 10, 13, 21)] ∈ WA := List.mem_of_getElem? (i := 360) (by decide +kernel)
theorem wm_361 : Cond.methodLink RL 40 yX0_factor ∈ WA := List.mem_of_getElem? (i := 361) (by decide +kernel)
theorem wm_362 : Cond.instanceMethod yX0_factor ∈ WA := List.mem_of_getElem? (i := 362) (by decide +kernel)
theorem wm_363 : Cond.selects RX0 yX0_factor yX0_factor ∈ WA := List.mem_of_getElem? (i := 363) (by decide +kernel)
theorem wm_364 : Cond.code yX0_factor cX0_factor 3 (some .int) ∈ WA := List.mem_of_getElem? (i := 364) (by decide +kernel)
theorem wm_365 : Cond.methodLink RL 120 yX1_factor ∈ WA := List.mem_of_getElem? (i := 365) (by decide +kernel)
theorem wm_366 : Cond.instanceMethod yX1_factor ∈ WA := List.mem_of_getElem? (i := 366) (by decide +kernel)
theorem wm_367 : Cond.selects RX1 yX1_factor yX1_factor ∈ WA := List.mem_of_getElem? (i := 367) (by decide +kernel)
theorem wm_368 : Cond.code yX1_factor cX1_factor 3 (some .int) ∈ WA := List.mem_of_getElem? (i := 368) (by decide +kernel)
theorem wm_369 : Cond.methodLink RL 121 yL_fitted ∈ WA := List.mem_of_getElem? (i := 369) (by decide +kernel)
theorem wm_370 : Cond.static yL_fitted ∈ WA := List.mem_of_getElem? (i := 370) (by decide +kernel)
theorem wm_371 : Cond.codeWith yL_fitted cL_fitted 4 (some .int) [(0, 8, 11, 21)] ∈ WA := List.mem_of_getElem? (i := 371) (by decide +kernel)
theorem wm_372 : Cond.methodLink RL 43 yX0_fitted ∈ WA := List.mem_of_getElem? (i := 372) (by decide +kernel)
theorem wm_373 : Cond.instanceMethod yX0_fitted ∈ WA := List.mem_of_getElem? (i := 373) (by decide +kernel)
theorem wm_374 : Cond.selects RX0 yX0_fitted yX0_fitted ∈ WA := List.mem_of_getElem? (i := 374) (by decide +kernel)
theorem wm_375 : Cond.code yX0_fitted cX0_fitted 2 (some .long) ∈ WA := List.mem_of_getElem? (i := 375) (by decide +kernel)
theorem wm_376 : Cond.methodLink RL 123 yX1_fitted ∈ WA := List.mem_of_getElem? (i := 376) (by decide +kernel)
theorem wm_377 : Cond.instanceMethod yX1_fitted ∈ WA := List.mem_of_getElem? (i := 377) (by decide +kernel)
theorem wm_378 : Cond.selects RX1 yX1_fitted yX1_fitted ∈ WA := List.mem_of_getElem? (i := 378) (by decide +kernel)
theorem wm_379 : Cond.code yX1_fitted cX1_fitted 2 (some .long) ∈ WA := List.mem_of_getElem? (i := 379) (by decide +kernel)
theorem wm_380 : Cond.methodLink RL 124 yL_toldSum ∈ WA := List.mem_of_getElem? (i := 380) (by decide +kernel)
theorem wm_381 : Cond.static yL_toldSum ∈ WA := List.mem_of_getElem? (i := 381) (by decide +kernel)
theorem wm_382 : Cond.codeWith yL_toldSum cL_toldSum 5 (some .int) [(0, 9, 12, 21)] ∈ WA := List.mem_of_getElem? (i := 382) (by decide +kernel)
theorem wm_383 : Cond.methodLink RL 47 yX0_toldSum ∈ WA := List.mem_of_getElem? (i := 383) (by decide +kernel)
theorem wm_384 : Cond.instanceMethod yX0_toldSum ∈ WA := List.mem_of_getElem? (i := 384) (by decide +kernel)
theorem wm_385 : Cond.selects RX0 yX0_toldSum yX0_toldSum ∈ WA := List.mem_of_getElem? (i := 385) (by decide +kernel)
theorem wm_386 : Cond.code yX0_toldSum cX0_toldSum 3 (some .long) ∈ WA := List.mem_of_getElem? (i := 386) (by decide +kernel)
theorem wm_387 : Cond.methodLink RL 126 yX1_toldSum ∈ WA := List.mem_of_getElem? (i := 387) (by decide +kernel)
theorem wm_388 : Cond.instanceMethod yX1_toldSum ∈ WA := List.mem_of_getElem? (i := 388) (by decide +kernel)
theorem wm_389 : Cond.selects RX1 yX1_toldSum yX1_toldSum ∈ WA := List.mem_of_getElem? (i := 389) (by decide +kernel)
theorem wm_390 : Cond.code yX1_toldSum cX1_toldSum 3 (some .long) ∈ WA := List.mem_of_getElem? (i := 390) (by decide +kernel)
theorem wm_391 : Cond.methodLink RL 127 yL_fittedSum ∈ WA := List.mem_of_getElem? (i := 391) (by decide +kernel)
theorem wm_392 : Cond.static yL_fittedSum ∈ WA := List.mem_of_getElem? (i := 392) (by decide +kernel)
theorem wm_393 : Cond.codeWith yL_fittedSum cL_fittedSum 5 (some .int) [(0, 9, 12, 21)] ∈ WA := List.mem_of_getElem? (i := 393) (by decide +kernel)
theorem wm_394 : Cond.methodLink RL 51 yX0_fittedSum ∈ WA := List.mem_of_getElem? (i := 394) (by decide +kernel)
theorem wm_395 : Cond.instanceMethod yX0_fittedSum ∈ WA := List.mem_of_getElem? (i := 395) (by decide +kernel)
theorem wm_396 : Cond.selects RX0 yX0_fittedSum yX0_fittedSum ∈ WA := List.mem_of_getElem? (i := 396) (by decide +kernel)
theorem wm_397 : Cond.code yX0_fittedSum cX0_fittedSum 3 (some .long) ∈ WA := List.mem_of_getElem? (i := 397) (by decide +kernel)
theorem wm_398 : Cond.methodLink RL 129 yX1_fittedSum ∈ WA := List.mem_of_getElem? (i := 398) (by decide +kernel)
theorem wm_399 : Cond.instanceMethod yX1_fittedSum ∈ WA := List.mem_of_getElem? (i := 399) (by decide +kernel)
theorem wm_400 : Cond.selects RX1 yX1_fittedSum yX1_fittedSum ∈ WA := List.mem_of_getElem? (i := 400) (by decide +kernel)
theorem wm_401 : Cond.code yX1_fittedSum cX1_fittedSum 3 (some .long) ∈ WA := List.mem_of_getElem? (i := 401) (by decide +kernel)
theorem wm_402 : Cond.methodLink RL 130 yL_worst ∈ WA := List.mem_of_getElem? (i := 402) (by decide +kernel)
theorem wm_403 : Cond.static yL_worst ∈ WA := List.mem_of_getElem? (i := 403) (by decide +kernel)
theorem wm_404 : Cond.codeWith yL_worst cL_worst 4 (some .int) [(0, 8, 11, 21)] ∈ WA := List.mem_of_getElem? (i := 404) (by decide +kernel)
theorem wm_405 : Cond.methodLink RL 54 yX0_worst ∈ WA := List.mem_of_getElem? (i := 405) (by decide +kernel)
theorem wm_406 : Cond.instanceMethod yX0_worst ∈ WA := List.mem_of_getElem? (i := 406) (by decide +kernel)
theorem wm_407 : Cond.selects RX0 yX0_worst yX0_worst ∈ WA := List.mem_of_getElem? (i := 407) (by decide +kernel)
theorem wm_408 : Cond.code yX0_worst cX0_worst 7 (some .long) ∈ WA := List.mem_of_getElem? (i := 408) (by decide +kernel)
theorem wm_409 : Cond.methodLink RX0 169 Lib.MathLoose.abs_long.x ∈ WA := List.mem_of_getElem? (i := 409) (by decide +kernel)
theorem wm_410 : Cond.static Lib.MathLoose.abs_long.x ∈ WA := List.mem_of_getElem? (i := 410) (by decide +kernel)
theorem wm_411 : Cond.code Lib.MathLoose.abs_long.x Lib.MathLoose.abs_long.code 2 (some .long) ∈ WA := List.mem_of_getElem? (i := 411) (by decide +kernel)
theorem wm_412 : Cond.methodLink RL 132 yX1_worst ∈ WA := List.mem_of_getElem? (i := 412) (by decide +kernel)
theorem wm_413 : Cond.instanceMethod yX1_worst ∈ WA := List.mem_of_getElem? (i := 413) (by decide +kernel)
theorem wm_414 : Cond.selects RX1 yX1_worst yX1_worst ∈ WA := List.mem_of_getElem? (i := 414) (by decide +kernel)
theorem wm_415 : Cond.code yX1_worst cX1_worst 8 (some .long) ∈ WA := List.mem_of_getElem? (i := 415) (by decide +kernel)
theorem wm_416 : Cond.methodLink RL 133 yL_premium ∈ WA := List.mem_of_getElem? (i := 416) (by decide +kernel)
theorem wm_417 : Cond.static yL_premium ∈ WA := List.mem_of_getElem? (i := 417) (by decide +kernel)
theorem wm_418 : Cond.codeWith yL_premium cL_premium 4 (some .int) [(0, 8, 11, 21)] ∈ WA := List.mem_of_getElem? (i := 418) (by decide +kernel)
theorem wm_419 : Cond.methodLink RL 57 yX0_premium ∈ WA := List.mem_of_getElem? (i := 419) (by decide +kernel)
theorem wm_420 : Cond.instanceMethod yX0_premium ∈ WA := List.mem_of_getElem? (i := 420) (by decide +kernel)
theorem wm_421 : Cond.selects RX0 yX0_premium yX0_premium ∈ WA := List.mem_of_getElem? (i := 421) (by decide +kernel)
theorem wm_422 : Cond.code yX0_premium cX0_premium 2 (some .long) ∈ WA := List.mem_of_getElem? (i := 422) (by decide +kernel)
theorem wm_423 : Cond.methodLink RL 135 yX1_premium ∈ WA := List.mem_of_getElem? (i := 423) (by decide +kernel)
theorem wm_424 : Cond.instanceMethod yX1_premium ∈ WA := List.mem_of_getElem? (i := 424) (by decide +kernel)
theorem wm_425 : Cond.selects RX1 yX1_premium yX1_premium ∈ WA := List.mem_of_getElem? (i := 425) (by decide +kernel)
theorem wm_426 : Cond.code yX1_premium cX1_premium 2 (some .long) ∈ WA := List.mem_of_getElem? (i := 426) (by decide +kernel)
theorem wm_427 : Cond.methodLink RL 136 yL_capped ∈ WA := List.mem_of_getElem? (i := 427) (by decide +kernel)
theorem wm_428 : Cond.static yL_capped ∈ WA := List.mem_of_getElem? (i := 428) (by decide +kernel)
theorem wm_429 : Cond.codeWith yL_capped cL_capped 4 (some .int) [(0, 8, 11, 21)] ∈ WA := List.mem_of_getElem? (i := 429) (by decide +kernel)
theorem wm_430 : Cond.methodLink RL 60 yX0_capped ∈ WA := List.mem_of_getElem? (i := 430) (by decide +kernel)
theorem wm_431 : Cond.instanceMethod yX0_capped ∈ WA := List.mem_of_getElem? (i := 431) (by decide +kernel)
theorem wm_432 : Cond.selects RX0 yX0_capped yX0_capped ∈ WA := List.mem_of_getElem? (i := 432) (by decide +kernel)
theorem wm_433 : Cond.code yX0_capped cX0_capped 2 (some .long) ∈ WA := List.mem_of_getElem? (i := 433) (by decide +kernel)
theorem wm_434 : Cond.methodLink RL 138 yX1_capped ∈ WA := List.mem_of_getElem? (i := 434) (by decide +kernel)
theorem wm_435 : Cond.instanceMethod yX1_capped ∈ WA := List.mem_of_getElem? (i := 435) (by decide +kernel)
theorem wm_436 : Cond.selects RX1 yX1_capped yX1_capped ∈ WA := List.mem_of_getElem? (i := 436) (by decide +kernel)
theorem wm_437 : Cond.code yX1_capped cX1_capped 2 (some .long) ∈ WA := List.mem_of_getElem? (i := 437) (by decide +kernel)
theorem wm_438 : Cond.methodLink RL 139 yX0_lost ∈ WA := List.mem_of_getElem? (i := 438) (by decide +kernel)
theorem wm_439 : Cond.instanceMethod yX0_lost ∈ WA := List.mem_of_getElem? (i := 439) (by decide +kernel)
theorem wm_440 : Cond.selects RX0 yX0_lost yX0_lost ∈ WA := List.mem_of_getElem? (i := 440) (by decide +kernel)
theorem wm_441 : Cond.code yX0_lost cX0_lost 1 (some .long) ∈ WA := List.mem_of_getElem? (i := 441) (by decide +kernel)
theorem wm_442 : Cond.methodLink RL 142 yX1_lost ∈ WA := List.mem_of_getElem? (i := 442) (by decide +kernel)
theorem wm_443 : Cond.instanceMethod yX1_lost ∈ WA := List.mem_of_getElem? (i := 443) (by decide +kernel)
theorem wm_444 : Cond.selects RX1 yX1_lost yX1_lost ∈ WA := List.mem_of_getElem? (i := 444) (by decide +kernel)
theorem wm_445 : Cond.code yX1_lost cX1_lost 1 (some .long) ∈ WA := List.mem_of_getElem? (i := 445) (by decide +kernel)
theorem wm_446 : Cond.methodLink RL 143 yL_rankedAt ∈ WA := List.mem_of_getElem? (i := 446) (by decide +kernel)
theorem wm_447 : Cond.static yL_rankedAt ∈ WA := List.mem_of_getElem? (i := 447) (by decide +kernel)
theorem wm_448 : Cond.codeWith yL_rankedAt cL_rankedAt 4 (some .int) [(0, 9, 12, 21)] ∈ WA := List.mem_of_getElem? (i := 448) (by decide +kernel)
theorem wm_449 : Cond.methodLink RL 63 yX0_rankedAt ∈ WA := List.mem_of_getElem? (i := 449) (by decide +kernel)
theorem wm_450 : Cond.instanceMethod yX0_rankedAt ∈ WA := List.mem_of_getElem? (i := 450) (by decide +kernel)
theorem wm_451 : Cond.selects RX0 yX0_rankedAt yX0_rankedAt ∈ WA := List.mem_of_getElem? (i := 451) (by decide +kernel)
theorem wm_452 : Cond.code yX0_rankedAt cX0_rankedAt 3 (some .int) ∈ WA := List.mem_of_getElem? (i := 452) (by decide +kernel)
theorem wm_453 : Cond.methodLink RX0 183 yX0_placeOf ∈ WA := List.mem_of_getElem? (i := 453) (by decide +kernel)
theorem wm_454 : Cond.instanceMethod yX0_placeOf ∈ WA := List.mem_of_getElem? (i := 454) (by decide +kernel)
theorem wm_455 : Cond.selects RX0 yX0_placeOf yX0_placeOf ∈ WA := List.mem_of_getElem? (i := 455) (by decide +kernel)
theorem wm_456 : Cond.code yX0_placeOf cX0_placeOf 4 (some .int) ∈ WA := List.mem_of_getElem? (i := 456) (by decide +kernel)
theorem wm_457 : Cond.methodLink RX0 204 yX0_isAhead ∈ WA := List.mem_of_getElem? (i := 457) (by decide +kernel)
theorem wm_458 : Cond.instanceMethod yX0_isAhead ∈ WA := List.mem_of_getElem? (i := 458) (by decide +kernel)
theorem wm_459 : Cond.selects RX0 yX0_isAhead yX0_isAhead ∈ WA := List.mem_of_getElem? (i := 459) (by decide +kernel)
theorem wm_460 : Cond.code yX0_isAhead cX0_isAhead 7 (some .boolean) ∈ WA := List.mem_of_getElem? (i := 460) (by decide +kernel)
theorem wm_461 : Cond.methodLink RL 145 yX1_rankedAt ∈ WA := List.mem_of_getElem? (i := 461) (by decide +kernel)
theorem wm_462 : Cond.instanceMethod yX1_rankedAt ∈ WA := List.mem_of_getElem? (i := 462) (by decide +kernel)
theorem wm_463 : Cond.selects RX1 yX1_rankedAt yX1_rankedAt ∈ WA := List.mem_of_getElem? (i := 463) (by decide +kernel)
theorem wm_464 : Cond.code yX1_rankedAt cX1_rankedAt 3 (some .int) ∈ WA := List.mem_of_getElem? (i := 464) (by decide +kernel)
theorem wm_465 : Cond.methodLink RX1 148 yX1_ranked ∈ WA := List.mem_of_getElem? (i := 465) (by decide +kernel)
theorem wm_466 : Cond.instanceMethod yX1_ranked ∈ WA := List.mem_of_getElem? (i := 466) (by decide +kernel)
theorem wm_467 : Cond.selects RX1 yX1_ranked yX1_ranked ∈ WA := List.mem_of_getElem? (i := 467) (by decide +kernel)
theorem wm_468 : Cond.code yX1_ranked cX1_ranked 7 (some .int) ∈ WA := List.mem_of_getElem? (i := 468) (by decide +kernel)
theorem wm_469 : Cond.methodLink RX1 144 yX1_isAhead ∈ WA := List.mem_of_getElem? (i := 469) (by decide +kernel)
theorem wm_470 : Cond.instanceMethod yX1_isAhead ∈ WA := List.mem_of_getElem? (i := 470) (by decide +kernel)
theorem wm_471 : Cond.selects RX1 yX1_isAhead yX1_isAhead ∈ WA := List.mem_of_getElem? (i := 471) (by decide +kernel)
theorem wm_472 : Cond.code yX1_isAhead cX1_isAhead 9 (some .boolean) ∈ WA := List.mem_of_getElem? (i := 472) (by decide +kernel)
abbrev gG : Type := Nat × va_G × (Nat → ClassId) × (Nat → Nat) × Nat
abbrev gS0 (g : gG) : Nat := g.1
abbrev gD (g : gG) : va_G := g.2.1
abbrev gT (g : gG) : Nat → ClassId := g.2.2.1
abbrev gA (g : gG) : Nat → Nat := g.2.2.2.1
abbrev gL (g : gG) : Nat := g.2.2.2.2
def Ab (g : gG) : Nat → Prop := fun q => gS0 g ≤ q
abbrev tysG (g : gG) : List (ClassId × FieldType) := [(gT g 0, .int), (gT g 1, .long), (gT g 2, .boolean), (gT g 3, .array .int)]
abbrev XS : Type := (Nat → Nat → Int32) × (Nat → Nat → Int32) × (Nat → Nat → Int64) × (Nat → Nat → Int32) × (Nat → Int32) × Int64
abbrev MS : Type := (Nat → Nat → Int32) × (Nat → Int32) × Int64
abbrev WS : Type := XS × MS × (Nat → Int64)
-- the class's: factors, levels of rows, long rows (0 exposures, 1 claims, 2 losses, 3 fitted), int rows (0 old, 1 live, 2 groupStarts, 3 factorsBefore), numbers (0 added, 1 live, 2 credibility, 3 cap, 4 spread), base
abbrev xFac (S : WS) : Nat → Nat → Int32 := S.1.1
abbrev xLev (S : WS) : Nat → Nat → Int32 := S.1.2.1
abbrev xLng (S : WS) : Nat → Nat → Int64 := S.1.2.2.1
abbrev xIa (S : WS) : Nat → Nat → Int32 := S.1.2.2.2.1
abbrev xSc (S : WS) : Nat → Int32 := S.1.2.2.2.2.1
abbrev xBase (S : WS) : Int64 := S.1.2.2.2.2.2
-- the reference's: int rows (0 levels, 1 exposures, 2 claims, 3 losses, 4 olds, 5 gone, 6 factors, 7 found, 8 joined), numbers (0 rows, 1 credibility, 2 cap, 3 last), spread
abbrev mIa (S : WS) : Nat → Nat → Int32 := S.2.1.1
abbrev mSc (S : WS) : Nat → Int32 := S.2.1.2.1
abbrev mSp (S : WS) : Int64 := S.2.1.2.2
abbrev wOut (S : WS) : Nat → Int64 := S.2.2
abbrev xsFac (S : WS) (t : Nat) (f : Nat → Int32) : WS := ((va_up S.1.1 t f, S.1.2), S.2)
abbrev xsLev (S : WS) (t : Nat) (f : Nat → Int32) : WS := ((S.1.1, va_up S.1.2.1 t f, S.1.2.2), S.2)
abbrev xsLng (S : WS) (t : Nat) (f : Nat → Int64) : WS := ((S.1.1, S.1.2.1, va_up S.1.2.2.1 t f, S.1.2.2.2), S.2)
abbrev xsIa (S : WS) (t : Nat) (f : Nat → Int32) : WS := ((S.1.1, S.1.2.1, S.1.2.2.1, va_up S.1.2.2.2.1 t f, S.1.2.2.2.2), S.2)
abbrev xsSc (S : WS) (t : Nat) (v : Int32) : WS := ((S.1.1, S.1.2.1, S.1.2.2.1, S.1.2.2.2.1, upd S.1.2.2.2.2.1 t v, S.1.2.2.2.2.2), S.2)
abbrev xsBase (S : WS) (v : Int64) : WS := ((S.1.1, S.1.2.1, S.1.2.2.1, S.1.2.2.2.1, S.1.2.2.2.2.1, v), S.2)
abbrev msIa (S : WS) (t : Nat) (f : Nat → Int32) : WS := (S.1, (va_up S.2.1.1 t f, S.2.1.2), S.2.2)
abbrev msSc (S : WS) (t : Nat) (v : Int32) : WS := (S.1, (S.2.1.1, upd S.2.1.2.1 t v, S.2.1.2.2), S.2.2)
abbrev msSp (S : WS) (v : Int64) : WS := (S.1, (S.2.1.1, S.2.1.2.1, v), S.2.2)
abbrev wsOut (S : WS) (f : Nat → Int64) : WS := (S.1, S.2.1, f)
def wW (g : gG) (S : WS) : va_W := [(gA g 0, .inr (0, [.ref (gA g 1), .ref (gA g 2), .ref (gA g 9), .ref (gA g 10), .ref (gA g 11), .ref (gA g 12), .ref (gA g 13), .int (xSc S 0), .int (xSc S 1), .int (xSc S 2), .int (xSc S 3), .int (xSc S 4), .long (xBase S), .ref (gA g 14), .ref (gA g 15), .ref (gA g 16)])),
  (gA g 1, .inl (gT g 3, 3, .inr (.inr (.inr (.inr (fun i => some (gA g (3 + i)))))))),
  (gA g 2, .inl (gT g 3, 3, .inr (.inr (.inr (.inr (fun i => some (gA g (6 + i)))))))),
  (gA g 3, .inl (gT g 0, 4, .inl (xFac S 0))),
  (gA g 4, .inl (gT g 0, 4, .inl (xFac S 1))),
  (gA g 5, .inl (gT g 0, 4, .inl (xFac S 2))),
  (gA g 6, .inl (gT g 0, 40, .inl (xLev S 0))),
  (gA g 7, .inl (gT g 0, 40, .inl (xLev S 1))),
  (gA g 8, .inl (gT g 0, 40, .inl (xLev S 2))),
  (gA g 9, .inl (gT g 1, 40, .inr (.inl (xLng S 0)))),
  (gA g 10, .inl (gT g 1, 40, .inr (.inl (xLng S 1)))),
  (gA g 11, .inl (gT g 1, 40, .inr (.inl (xLng S 2)))),
  (gA g 12, .inl (gT g 0, 40, .inl (xIa S 0))),
  (gA g 13, .inl (gT g 2, 40, .inl (xIa S 1))),
  (gA g 14, .inl (gT g 1, 40, .inr (.inl (xLng S 3)))),
  (gA g 15, .inl (gT g 0, 4, .inl (xIa S 2))),
  (gA g 16, .inl (gT g 0, 4, .inl (xIa S 3))),
  (gA g 17, .inr (1, [.ref (gA g 18), .ref (gA g 19), .ref (gA g 20), .ref (gA g 21), .ref (gA g 22), .ref (gA g 23), .int (mSc S 0), .int (mSc S 1), .int (mSc S 2), .long (mSp S), .ref (gA g 24), .ref (gA g 25), .ref (gA g 26), .int (mSc S 3)])),
  (gA g 18, .inl (gT g 0, 120, .inl (mIa S 0))),
  (gA g 19, .inl (gT g 0, 40, .inl (mIa S 1))),
  (gA g 20, .inl (gT g 0, 40, .inl (mIa S 2))),
  (gA g 21, .inl (gT g 0, 40, .inl (mIa S 3))),
  (gA g 22, .inl (gT g 0, 40, .inl (mIa S 4))),
  (gA g 23, .inl (gT g 2, 40, .inl (mIa S 5))),
  (gA g 24, .inl (gT g 0, 12, .inl (mIa S 6))),
  (gA g 25, .inl (gT g 0, 4, .inl (mIa S 7))),
  (gA g 26, .inl (gT g 0, 4, .inl (mIa S 8))),
  (gA g 27, .inl (gT g 1, 1, .inr (.inl (wOut S))))]
theorem wW_fst (g : gG) (S : WS) : (wW g S).map (fun q => q.1) = (List.range 28).map (gA g) := rfl
theorem wW_at {g : gG} {S : WS} {i : Nat} {q : Nat × va_E} (h : (wW g S)[i]? = some q) : i < 28 ∧ q.1 = gA g i := by
  have h1 : ((wW g S).map (fun q => q.1))[i]? = some q.1 := by rw [List.getElem?_map, h]; rfl
  rw [wW_fst, List.getElem?_map] at h1
  by_cases hi : i < 28
  · rw [List.getElem?_range hi] at h1
    exact ⟨hi, (Option.some.inj h1).symm⟩
  · rw [List.getElem?_eq_none (by rw [List.length_range]; omega)] at h1
    cases h1
def GD (g : gG) : Prop := (∀ i j : Nat, i < 28 → j < 28 → gA g i = gA g j → i = j) ∧ ∀ i : Nat, i < 28 → gS0 g ≤ gA g i
theorem wD {g : gG} (h : GD g) (S : WS) : va_D (Ab g) (wW g S) := by
  refine ⟨fun i j p q hi hj hpq => ?_, fun k q hk => ?_⟩
  · obtain ⟨h1, h2⟩ := wW_at hi
    obtain ⟨h3, h4⟩ := wW_at hj
    exact h.1 i j h1 h3 (by rw [← h2, ← h4, hpq])
  · obtain ⟨h1, h2⟩ := wW_at hk
    show gS0 g ≤ q.1
    rw [h2]
    exact h.2 k h1
def HW (g : gG) (S : WS) (H : Heap) : Prop := va_P (gD g) vwCl (wW g S) H
def strsX : List (Nat × String) := [(76, "no such level"), (86, "exposure, claims or loss out of range"), (90, "no room for another row"), (102, "no such row"), (106, "premium out of range"), (108, "credibility out of range"), (110, "cap out of range"), (112, "no such trait or level"), (115, "factor out of range"), (120, "no such trait"), (186, "no such place")]
def exsX : List String := ["java/lang/IllegalArgumentException", "java/lang/IllegalStateException", "java/lang/IndexOutOfBoundsException"]
def decX : List String := ["java/lang/RuntimeException", "java/lang/Exception", Bundle.tN]
def levN (j : Nat) : Nat := if j = 1 then 3 else 4
def KS (g : gG) (U : State) : Prop := va_K (gD g) vwCl (tysG g) U ∧ va_Z "RateFitter" "LEVELS" "[I" (.ref (gL g)) (Ab g) U U.heap ∧ va_T .int (gL g) 3 (fun j => .int (nI (levN j))) (Ab g) U U.heap ∧
  vx_Zq Bundle.tN "UNASSIGNED_STACK" Bundle.steD (Ab g) U U.heap ∧ vx_Zq Bundle.tN "SUPPRESSED_SENTINEL" Bundle.listD (Ab g) U U.heap ∧ ((∀ q ∈ strsX, ∃ sa : Nat, vk_R RX0 q.1 q.2 sa U) ∧ (∀ E ∈ exsX, va_Nw (.castable E E) U) ∧ ∀ y ∈ decX, va_Nw (.declares (Bundle.initS y)) U) ∧ GD g
theorem KS.moved {g : gG} {u U : State} (hW : u.WarmedH U.vm) (hq : ∀ a : Nat, a < u.heap.size → ¬ Ab g a → U.heap[a]? = u.heap[a]?) (h : KS g u) : KS g U := by
  obtain ⟨h1, h2, h3, h4, h5, ⟨h6, h8, h9⟩, h7⟩ := h
  refine ⟨va_K.moved hW.alike h1, va_Z.moved hW.alike (h2.kept hq), va_T.moved hW.alike (h3.kept hq), vx_Zq.moved hW.alike (h4.kept hq), vx_Zq.moved hW.alike (h5.kept hq), ⟨fun q hq9 => ?_, fun E hE => va_Nw.warmC hW (h8 E hE), fun y hy => va_Nw.warmD hW (h9 y hy)⟩, h7⟩
  obtain ⟨sa, hsa⟩ := h6 q hq9
  exact ⟨sa, vk_R.warm hW hsa⟩
def PW (g : gG) (S : WS) (av : List Value) : Array Value → State → Prop := fun v U => v = av.toArray ∧ KS g U ∧ HW g S U.heap
theorem PW.blind (g : gG) (S : WS) (av : List Value) : FrameBlind (PW g S av) := fun a U gg mk h => ⟨h.1, KS.moved (u := U) (U := U.calling gg mk a) (State.WarmedH.refl U) (fun _ _ _ => rfl) h.2.1, h.2.2⟩
def RQ (v : Option Value) : Array Value → State → Outcome → State → Prop := fun _ st o t => o = .returned v ∧ t.heap = st.heap
def WQ (g : gG) (S' : WS) (v : Option Value) : Array Value → State → Outcome → State → Prop := fun _ st o t => o = .returned v ∧ HW g S' t.heap ∧ va_F (Ab g) st t
def CW (g : gG) (own : String) (p : Program) (s : State) (m : MethodId) (args : Array Value) : Prop := p.tables.exec = Jvm.exec ∧ s.vm.findClass own = some m.cls ∧ (∀ w ∈ WA, w.before args s = true) ∧ KS g s
def bI (b : Bool) : Int32 := if b then 1 else 0
theorem bI_t : bI true = 1 := rfl
theorem bI_f : bI false = 0 := rfl
theorem bI_0 (b : Bool) : bI b = 0 ↔ b = false := by cases b <;> decide
theorem bI_nar (b : Bool) : narrow .boolean (.int (bI b)) = .int (bI b) := by cases b <;> decide +kernel
def tN (i : Int32) : Nat := i.toNatClampNeg
def xRef (g : gG) : Value := .ref (gA g 0)
def mRef (g : gG) : Value := .ref (gA g 17)
theorem lc_ge_iff {x y : Int64} : 0 ≤ lg_cmp x y ↔ y ≤ x := lg_cmp_ge x y
theorem lc_le_iff {x y : Int64} : lg_cmp x y ≤ 0 ↔ x ≤ y := lg_cmp_le x y
theorem lc_gt_iff {x y : Int64} : 0 < lg_cmp x y ↔ y < x := lg_cmp_gt x y
theorem lc_lt_iff {x y : Int64} : lg_cmp x y < 0 ↔ x < y := lg_cmp_lt x y
theorem lc_eq_iff {x y : Int64} : lg_cmp x y = 0 ↔ x = y := by
  unfold lg_cmp
  by_cases h : x > y
  · rw [if_pos h]
    exact ⟨fun q => absurd q (by decide), fun q => absurd h (by rw [q]; exact Int64.lt_irrefl)⟩
  · rw [if_neg h]
    by_cases h2 : x = y
    · rw [if_pos h2]; exact ⟨fun _ => h2, fun _ => rfl⟩
    · rw [if_neg h2]; exact ⟨fun q => absurd q (by decide), fun q => absurd q h2⟩
theorem lc_ne_iff {x y : Int64} : ¬ lg_cmp x y = 0 ↔ ¬ x = y := not_congr lc_eq_iff
section WROWS
variable {p : Program} {l : Launch} {e : Env} {R : Room} {s : State} {m : MethodId} {args : Array Value} {below : List Frame} {meth : Method} {c : Code} {H : Heap} {locs : List Loc} {cells slots : Nat} {Q : State → Prop}
variable {cc : ByteArray} {pc : Nat} {ls : Array Slot} {rest : List Value} {g : gG} {S : WS} {own : String}
theorem KS.at (C : CW g own p s m args) (hS : va_S (Ab g) s.heap H locs) {U : State} (hU : U.heap = H) (hW : s.WarmedH U.vm) : KS g U :=
  KS.moved hW (fun a h1 h2 => by rw [hU]; exact hS.2.1 a h1 h2) C.2.2.2
theorem gX_factors (C : CW g RX0 p s m args) (hb : c.code = cc) (hP : HW g S H) (hdg : decode cc pc = .ok (.getfield 11, 3)) (kk : W p l e R s m args below meth c H locs cells slots Q (F0 m (pc + 3) ls (.ref (gA g 1) :: rest))) : W p l e R s m args below meth c H locs cells slots Q (F0 m (pc) ls (.ref (gA g 0) :: rest)) :=
  va_get (D := gD g) (ci := 0) (v := .ref (gA g 1)) (C := RX0) (T := TX0) (N := 16) C.1 hb C.2.2.1 inlX0 C.2.1 C.2.2.2.1 hP 0 rfl rfl 0 (by decide) (C.2.2.1 _ wm_15) (fun _ h9 => h9) rfl hdg kk
theorem gX_rowLevels (C : CW g RX0 p s m args) (hb : c.code = cc) (hP : HW g S H) (hdg : decode cc pc = .ok (.getfield 14, 3)) (kk : W p l e R s m args below meth c H locs cells slots Q (F0 m (pc + 3) ls (.ref (gA g 2) :: rest))) : W p l e R s m args below meth c H locs cells slots Q (F0 m (pc) ls (.ref (gA g 0) :: rest)) :=
  va_get (D := gD g) (ci := 0) (v := .ref (gA g 2)) (C := RX0) (T := TX0) (N := 16) C.1 hb C.2.2.1 inlX0 C.2.1 C.2.2.2.1 hP 0 rfl rfl 1 (by decide) (C.2.2.1 _ wm_16) (fun _ h9 => h9) rfl hdg kk
theorem gX_exposures (C : CW g RX0 p s m args) (hb : c.code = cc) (hP : HW g S H) (hdg : decode cc pc = .ok (.getfield 17, 3)) (kk : W p l e R s m args below meth c H locs cells slots Q (F0 m (pc + 3) ls (.ref (gA g 9) :: rest))) : W p l e R s m args below meth c H locs cells slots Q (F0 m (pc) ls (.ref (gA g 0) :: rest)) :=
  va_get (D := gD g) (ci := 0) (v := .ref (gA g 9)) (C := RX0) (T := TX0) (N := 16) C.1 hb C.2.2.1 inlX0 C.2.1 C.2.2.2.1 hP 0 rfl rfl 2 (by decide) (C.2.2.1 _ wm_17) (fun _ h9 => h9) rfl hdg kk
theorem gX_claims (C : CW g RX0 p s m args) (hb : c.code = cc) (hP : HW g S H) (hdg : decode cc pc = .ok (.getfield 21, 3)) (kk : W p l e R s m args below meth c H locs cells slots Q (F0 m (pc + 3) ls (.ref (gA g 10) :: rest))) : W p l e R s m args below meth c H locs cells slots Q (F0 m (pc) ls (.ref (gA g 0) :: rest)) :=
  va_get (D := gD g) (ci := 0) (v := .ref (gA g 10)) (C := RX0) (T := TX0) (N := 16) C.1 hb C.2.2.1 inlX0 C.2.1 C.2.2.2.1 hP 0 rfl rfl 3 (by decide) (C.2.2.1 _ wm_18) (fun _ h9 => h9) rfl hdg kk
theorem gX_losses (C : CW g RX0 p s m args) (hb : c.code = cc) (hP : HW g S H) (hdg : decode cc pc = .ok (.getfield 24, 3)) (kk : W p l e R s m args below meth c H locs cells slots Q (F0 m (pc + 3) ls (.ref (gA g 11) :: rest))) : W p l e R s m args below meth c H locs cells slots Q (F0 m (pc) ls (.ref (gA g 0) :: rest)) :=
  va_get (D := gD g) (ci := 0) (v := .ref (gA g 11)) (C := RX0) (T := TX0) (N := 16) C.1 hb C.2.2.1 inlX0 C.2.1 C.2.2.2.1 hP 0 rfl rfl 4 (by decide) (C.2.2.1 _ wm_19) (fun _ h9 => h9) rfl hdg kk
theorem gX_oldPremiums (C : CW g RX0 p s m args) (hb : c.code = cc) (hP : HW g S H) (hdg : decode cc pc = .ok (.getfield 27, 3)) (kk : W p l e R s m args below meth c H locs cells slots Q (F0 m (pc + 3) ls (.ref (gA g 12) :: rest))) : W p l e R s m args below meth c H locs cells slots Q (F0 m (pc) ls (.ref (gA g 0) :: rest)) :=
  va_get (D := gD g) (ci := 0) (v := .ref (gA g 12)) (C := RX0) (T := TX0) (N := 16) C.1 hb C.2.2.1 inlX0 C.2.1 C.2.2.2.1 hP 0 rfl rfl 5 (by decide) (C.2.2.1 _ wm_20) (fun _ h9 => h9) rfl hdg kk
theorem gX_live (C : CW g RX0 p s m args) (hb : c.code = cc) (hP : HW g S H) (hdg : decode cc pc = .ok (.getfield 31, 3)) (kk : W p l e R s m args below meth c H locs cells slots Q (F0 m (pc + 3) ls (.ref (gA g 13) :: rest))) : W p l e R s m args below meth c H locs cells slots Q (F0 m (pc) ls (.ref (gA g 0) :: rest)) :=
  va_get (D := gD g) (ci := 0) (v := .ref (gA g 13)) (C := RX0) (T := TX0) (N := 16) C.1 hb C.2.2.1 inlX0 C.2.1 C.2.2.2.1 hP 0 rfl rfl 6 (by decide) (C.2.2.1 _ wm_22) (fun _ h9 => h9) rfl hdg kk
theorem gX_addedRows (C : CW g RX0 p s m args) (hb : c.code = cc) (hP : HW g S H) (hdg : decode cc pc = .ok (.getfield 35, 3)) (kk : W p l e R s m args below meth c H locs cells slots Q (F0 m (pc + 3) ls (.int (xSc S 0) :: rest))) : W p l e R s m args below meth c H locs cells slots Q (F0 m (pc) ls (.ref (gA g 0) :: rest)) :=
  va_get (D := gD g) (ci := 0) (v := .int (xSc S 0)) (C := RX0) (T := TX0) (N := 16) C.1 hb C.2.2.1 inlX0 C.2.1 C.2.2.2.1 hP 0 rfl rfl 7 (by decide) (C.2.2.1 _ wm_23) (fun _ h9 => h9) rfl hdg kk
theorem pX_addedRows (C : CW g RX0 p s m args) (hb : c.code = cc) (hP : HW g S H) (hS : va_S (Ab g) s.heap H locs) {x : Int32} (hdg : decode cc pc = .ok (.putfield 35, 3)) (kk : ∀ (H1 : Heap) (locs1 : List Loc), HW g (xsSc S 0 x) H1 → va_S (Ab g) s.heap H1 locs1 → W p l e R s m args below meth c H1 locs1 cells slots Q (F0 m (pc + 3) ls rest)) : W p l e R s m args below meth c H locs cells slots Q (F0 m (pc) ls (.int x :: .ref (gA g 0) :: rest)) :=
  va_put (D := gD g) (ci := 0) (v := .int x) (ty := .int) (C := RX0) (T := TX0) (N := 16) C.1 hb C.2.2.1 inlX0 tyX0 tyX0_ok nmX0 C.2.1 C.2.2.2.1 hP (wD C.2.2.2.2.2.2.2.2.2 S) hS 0 rfl rfl 7 (by decide) (C.2.2.1 _ wm_23) (fun _ h9 => h9) rfl (by decide +kernel) rfl rfl (Nat.le_of_ble_eq_true rfl) hdg (fun H1 locs1 hP1 _ hS1 => kk H1 locs1 hP1 hS1)
theorem gX_liveRows (C : CW g RX0 p s m args) (hb : c.code = cc) (hP : HW g S H) (hdg : decode cc pc = .ok (.getfield 39, 3)) (kk : W p l e R s m args below meth c H locs cells slots Q (F0 m (pc + 3) ls (.int (xSc S 1) :: rest))) : W p l e R s m args below meth c H locs cells slots Q (F0 m (pc) ls (.ref (gA g 0) :: rest)) :=
  va_get (D := gD g) (ci := 0) (v := .int (xSc S 1)) (C := RX0) (T := TX0) (N := 16) C.1 hb C.2.2.1 inlX0 C.2.1 C.2.2.2.1 hP 0 rfl rfl 8 (by decide) (C.2.2.1 _ wm_24) (fun _ h9 => h9) rfl hdg kk
theorem pX_liveRows (C : CW g RX0 p s m args) (hb : c.code = cc) (hP : HW g S H) (hS : va_S (Ab g) s.heap H locs) {x : Int32} (hdg : decode cc pc = .ok (.putfield 39, 3)) (kk : ∀ (H1 : Heap) (locs1 : List Loc), HW g (xsSc S 1 x) H1 → va_S (Ab g) s.heap H1 locs1 → W p l e R s m args below meth c H1 locs1 cells slots Q (F0 m (pc + 3) ls rest)) : W p l e R s m args below meth c H locs cells slots Q (F0 m (pc) ls (.int x :: .ref (gA g 0) :: rest)) :=
  va_put (D := gD g) (ci := 0) (v := .int x) (ty := .int) (C := RX0) (T := TX0) (N := 16) C.1 hb C.2.2.1 inlX0 tyX0 tyX0_ok nmX0 C.2.1 C.2.2.2.1 hP (wD C.2.2.2.2.2.2.2.2.2 S) hS 0 rfl rfl 8 (by decide) (C.2.2.1 _ wm_24) (fun _ h9 => h9) rfl (by decide +kernel) rfl rfl (Nat.le_of_ble_eq_true rfl) hdg (fun H1 locs1 hP1 _ hS1 => kk H1 locs1 hP1 hS1)
theorem gX_credibility (C : CW g RX0 p s m args) (hb : c.code = cc) (hP : HW g S H) (hdg : decode cc pc = .ok (.getfield 42, 3)) (kk : W p l e R s m args below meth c H locs cells slots Q (F0 m (pc + 3) ls (.int (xSc S 2) :: rest))) : W p l e R s m args below meth c H locs cells slots Q (F0 m (pc) ls (.ref (gA g 0) :: rest)) :=
  va_get (D := gD g) (ci := 0) (v := .int (xSc S 2)) (C := RX0) (T := TX0) (N := 16) C.1 hb C.2.2.1 inlX0 C.2.1 C.2.2.2.1 hP 0 rfl rfl 9 (by decide) (C.2.2.1 _ wm_25) (fun _ h9 => h9) rfl hdg kk
theorem pX_credibility (C : CW g RX0 p s m args) (hb : c.code = cc) (hP : HW g S H) (hS : va_S (Ab g) s.heap H locs) {x : Int32} (hdg : decode cc pc = .ok (.putfield 42, 3)) (kk : ∀ (H1 : Heap) (locs1 : List Loc), HW g (xsSc S 2 x) H1 → va_S (Ab g) s.heap H1 locs1 → W p l e R s m args below meth c H1 locs1 cells slots Q (F0 m (pc + 3) ls rest)) : W p l e R s m args below meth c H locs cells slots Q (F0 m (pc) ls (.int x :: .ref (gA g 0) :: rest)) :=
  va_put (D := gD g) (ci := 0) (v := .int x) (ty := .int) (C := RX0) (T := TX0) (N := 16) C.1 hb C.2.2.1 inlX0 tyX0 tyX0_ok nmX0 C.2.1 C.2.2.2.1 hP (wD C.2.2.2.2.2.2.2.2.2 S) hS 0 rfl rfl 9 (by decide) (C.2.2.1 _ wm_25) (fun _ h9 => h9) rfl (by decide +kernel) rfl rfl (Nat.le_of_ble_eq_true rfl) hdg (fun H1 locs1 hP1 _ hS1 => kk H1 locs1 hP1 hS1)
theorem gX_cap (C : CW g RX0 p s m args) (hb : c.code = cc) (hP : HW g S H) (hdg : decode cc pc = .ok (.getfield 45, 3)) (kk : W p l e R s m args below meth c H locs cells slots Q (F0 m (pc + 3) ls (.int (xSc S 3) :: rest))) : W p l e R s m args below meth c H locs cells slots Q (F0 m (pc) ls (.ref (gA g 0) :: rest)) :=
  va_get (D := gD g) (ci := 0) (v := .int (xSc S 3)) (C := RX0) (T := TX0) (N := 16) C.1 hb C.2.2.1 inlX0 C.2.1 C.2.2.2.1 hP 0 rfl rfl 10 (by decide) (C.2.2.1 _ wm_26) (fun _ h9 => h9) rfl hdg kk
theorem pX_cap (C : CW g RX0 p s m args) (hb : c.code = cc) (hP : HW g S H) (hS : va_S (Ab g) s.heap H locs) {x : Int32} (hdg : decode cc pc = .ok (.putfield 45, 3)) (kk : ∀ (H1 : Heap) (locs1 : List Loc), HW g (xsSc S 3 x) H1 → va_S (Ab g) s.heap H1 locs1 → W p l e R s m args below meth c H1 locs1 cells slots Q (F0 m (pc + 3) ls rest)) : W p l e R s m args below meth c H locs cells slots Q (F0 m (pc) ls (.int x :: .ref (gA g 0) :: rest)) :=
  va_put (D := gD g) (ci := 0) (v := .int x) (ty := .int) (C := RX0) (T := TX0) (N := 16) C.1 hb C.2.2.1 inlX0 tyX0 tyX0_ok nmX0 C.2.1 C.2.2.2.1 hP (wD C.2.2.2.2.2.2.2.2.2 S) hS 0 rfl rfl 10 (by decide) (C.2.2.1 _ wm_26) (fun _ h9 => h9) rfl (by decide +kernel) rfl rfl (Nat.le_of_ble_eq_true rfl) hdg (fun H1 locs1 hP1 _ hS1 => kk H1 locs1 hP1 hS1)
theorem gX_spreadNow (C : CW g RX0 p s m args) (hb : c.code = cc) (hP : HW g S H) (hdg : decode cc pc = .ok (.getfield 48, 3)) (kk : W p l e R s m args below meth c H locs cells slots Q (F0 m (pc + 3) ls (.int (xSc S 4) :: rest))) : W p l e R s m args below meth c H locs cells slots Q (F0 m (pc) ls (.ref (gA g 0) :: rest)) :=
  va_get (D := gD g) (ci := 0) (v := .int (xSc S 4)) (C := RX0) (T := TX0) (N := 16) C.1 hb C.2.2.1 inlX0 C.2.1 C.2.2.2.1 hP 0 rfl rfl 11 (by decide) (C.2.2.1 _ wm_27) (fun _ h9 => h9) rfl hdg kk
theorem pX_spreadNow (C : CW g RX0 p s m args) (hb : c.code = cc) (hP : HW g S H) (hS : va_S (Ab g) s.heap H locs) {x : Int32} (hdg : decode cc pc = .ok (.putfield 48, 3)) (kk : ∀ (H1 : Heap) (locs1 : List Loc), HW g (xsSc S 4 x) H1 → va_S (Ab g) s.heap H1 locs1 → W p l e R s m args below meth c H1 locs1 cells slots Q (F0 m (pc + 3) ls rest)) : W p l e R s m args below meth c H locs cells slots Q (F0 m (pc) ls (.int x :: .ref (gA g 0) :: rest)) :=
  va_put (D := gD g) (ci := 0) (v := .int x) (ty := .int) (C := RX0) (T := TX0) (N := 16) C.1 hb C.2.2.1 inlX0 tyX0 tyX0_ok nmX0 C.2.1 C.2.2.2.1 hP (wD C.2.2.2.2.2.2.2.2.2 S) hS 0 rfl rfl 11 (by decide) (C.2.2.1 _ wm_27) (fun _ h9 => h9) rfl (by decide +kernel) rfl rfl (Nat.le_of_ble_eq_true rfl) hdg (fun H1 locs1 hP1 _ hS1 => kk H1 locs1 hP1 hS1)
theorem gX_baseNow (C : CW g RX0 p s m args) (hb : c.code = cc) (hP : HW g S H) (hdg : decode cc pc = .ok (.getfield 51, 3)) (kk : W p l e R s m args below meth c H locs cells slots Q (F0 m (pc + 3) ls (.long (xBase S) :: rest))) : W p l e R s m args below meth c H locs cells slots Q (F0 m (pc) ls (.ref (gA g 0) :: rest)) :=
  va_get (D := gD g) (ci := 0) (v := .long (xBase S)) (C := RX0) (T := TX0) (N := 16) C.1 hb C.2.2.1 inlX0 C.2.1 C.2.2.2.1 hP 0 rfl rfl 12 (by decide) (C.2.2.1 _ wm_28) (fun _ h9 => h9) rfl hdg kk
theorem pX_baseNow (C : CW g RX0 p s m args) (hb : c.code = cc) (hP : HW g S H) (hS : va_S (Ab g) s.heap H locs) {x : Int64} (hdg : decode cc pc = .ok (.putfield 51, 3)) (kk : ∀ (H1 : Heap) (locs1 : List Loc), HW g (xsBase S x) H1 → va_S (Ab g) s.heap H1 locs1 → W p l e R s m args below meth c H1 locs1 cells slots Q (F0 m (pc + 3) ls rest)) : W p l e R s m args below meth c H locs cells slots Q (F0 m (pc) ls (.long x :: .ref (gA g 0) :: rest)) :=
  va_put (D := gD g) (ci := 0) (v := .long x) (ty := .long) (C := RX0) (T := TX0) (N := 16) C.1 hb C.2.2.1 inlX0 tyX0 tyX0_ok nmX0 C.2.1 C.2.2.2.1 hP (wD C.2.2.2.2.2.2.2.2.2 S) hS 0 rfl rfl 12 (by decide) (C.2.2.1 _ wm_28) (fun _ h9 => h9) rfl (by decide +kernel) rfl rfl (Nat.le_of_ble_eq_true rfl) hdg (fun H1 locs1 hP1 _ hS1 => kk H1 locs1 hP1 hS1)
theorem gX_fittedLosses (C : CW g RX0 p s m args) (hb : c.code = cc) (hP : HW g S H) (hdg : decode cc pc = .ok (.getfield 55, 3)) (kk : W p l e R s m args below meth c H locs cells slots Q (F0 m (pc + 3) ls (.ref (gA g 14) :: rest))) : W p l e R s m args below meth c H locs cells slots Q (F0 m (pc) ls (.ref (gA g 0) :: rest)) :=
  va_get (D := gD g) (ci := 0) (v := .ref (gA g 14)) (C := RX0) (T := TX0) (N := 16) C.1 hb C.2.2.1 inlX0 C.2.1 C.2.2.2.1 hP 0 rfl rfl 13 (by decide) (C.2.2.1 _ wm_29) (fun _ h9 => h9) rfl hdg kk
theorem gX_groupStarts (C : CW g RX0 p s m args) (hb : c.code = cc) (hP : HW g S H) (hdg : decode cc pc = .ok (.getfield 58, 3)) (kk : W p l e R s m args below meth c H locs cells slots Q (F0 m (pc + 3) ls (.ref (gA g 15) :: rest))) : W p l e R s m args below meth c H locs cells slots Q (F0 m (pc) ls (.ref (gA g 0) :: rest)) :=
  va_get (D := gD g) (ci := 0) (v := .ref (gA g 15)) (C := RX0) (T := TX0) (N := 16) C.1 hb C.2.2.1 inlX0 C.2.1 C.2.2.2.1 hP 0 rfl rfl 14 (by decide) (C.2.2.1 _ wm_30) (fun _ h9 => h9) rfl hdg kk
theorem gX_factorsBefore (C : CW g RX0 p s m args) (hb : c.code = cc) (hP : HW g S H) (hdg : decode cc pc = .ok (.getfield 61, 3)) (kk : W p l e R s m args below meth c H locs cells slots Q (F0 m (pc + 3) ls (.ref (gA g 16) :: rest))) : W p l e R s m args below meth c H locs cells slots Q (F0 m (pc) ls (.ref (gA g 0) :: rest)) :=
  va_get (D := gD g) (ci := 0) (v := .ref (gA g 16)) (C := RX0) (T := TX0) (N := 16) C.1 hb C.2.2.1 inlX0 C.2.1 C.2.2.2.1 hP 0 rfl rfl 15 (by decide) (C.2.2.1 _ wm_31) (fun _ h9 => h9) rfl hdg kk
theorem gM_levels (C : CW g RX1 p s m args) (hb : c.code = cc) (hP : HW g S H) (hdg : decode cc pc = .ok (.getfield 7, 3)) (kk : W p l e R s m args below meth c H locs cells slots Q (F0 m (pc + 3) ls (.ref (gA g 18) :: rest))) : W p l e R s m args below meth c H locs cells slots Q (F0 m (pc) ls (.ref (gA g 17) :: rest)) :=
  va_get (D := gD g) (ci := 1) (v := .ref (gA g 18)) (C := RX1) (T := TX1) (N := 14) C.1 hb C.2.2.1 inlX1 C.2.1 C.2.2.2.1 hP 17 rfl rfl 0 (by decide) (C.2.2.1 _ wm_40) (fun _ h9 => h9) rfl hdg kk
theorem gM_exposures (C : CW g RX1 p s m args) (hb : c.code = cc) (hP : HW g S H) (hdg : decode cc pc = .ok (.getfield 13, 3)) (kk : W p l e R s m args below meth c H locs cells slots Q (F0 m (pc + 3) ls (.ref (gA g 19) :: rest))) : W p l e R s m args below meth c H locs cells slots Q (F0 m (pc) ls (.ref (gA g 17) :: rest)) :=
  va_get (D := gD g) (ci := 1) (v := .ref (gA g 19)) (C := RX1) (T := TX1) (N := 14) C.1 hb C.2.2.1 inlX1 C.2.1 C.2.2.2.1 hP 17 rfl rfl 1 (by decide) (C.2.2.1 _ wm_41) (fun _ h9 => h9) rfl hdg kk
theorem gM_claims (C : CW g RX1 p s m args) (hb : c.code = cc) (hP : HW g S H) (hdg : decode cc pc = .ok (.getfield 16, 3)) (kk : W p l e R s m args below meth c H locs cells slots Q (F0 m (pc + 3) ls (.ref (gA g 20) :: rest))) : W p l e R s m args below meth c H locs cells slots Q (F0 m (pc) ls (.ref (gA g 17) :: rest)) :=
  va_get (D := gD g) (ci := 1) (v := .ref (gA g 20)) (C := RX1) (T := TX1) (N := 14) C.1 hb C.2.2.1 inlX1 C.2.1 C.2.2.2.1 hP 17 rfl rfl 2 (by decide) (C.2.2.1 _ wm_42) (fun _ h9 => h9) rfl hdg kk
theorem gM_losses (C : CW g RX1 p s m args) (hb : c.code = cc) (hP : HW g S H) (hdg : decode cc pc = .ok (.getfield 19, 3)) (kk : W p l e R s m args below meth c H locs cells slots Q (F0 m (pc + 3) ls (.ref (gA g 21) :: rest))) : W p l e R s m args below meth c H locs cells slots Q (F0 m (pc) ls (.ref (gA g 17) :: rest)) :=
  va_get (D := gD g) (ci := 1) (v := .ref (gA g 21)) (C := RX1) (T := TX1) (N := 14) C.1 hb C.2.2.1 inlX1 C.2.1 C.2.2.2.1 hP 17 rfl rfl 3 (by decide) (C.2.2.1 _ wm_43) (fun _ h9 => h9) rfl hdg kk
theorem gM_olds (C : CW g RX1 p s m args) (hb : c.code = cc) (hP : HW g S H) (hdg : decode cc pc = .ok (.getfield 22, 3)) (kk : W p l e R s m args below meth c H locs cells slots Q (F0 m (pc + 3) ls (.ref (gA g 22) :: rest))) : W p l e R s m args below meth c H locs cells slots Q (F0 m (pc) ls (.ref (gA g 17) :: rest)) :=
  va_get (D := gD g) (ci := 1) (v := .ref (gA g 22)) (C := RX1) (T := TX1) (N := 14) C.1 hb C.2.2.1 inlX1 C.2.1 C.2.2.2.1 hP 17 rfl rfl 4 (by decide) (C.2.2.1 _ wm_44) (fun _ h9 => h9) rfl hdg kk
theorem gM_gone (C : CW g RX1 p s m args) (hb : c.code = cc) (hP : HW g S H) (hdg : decode cc pc = .ok (.getfield 25, 3)) (kk : W p l e R s m args below meth c H locs cells slots Q (F0 m (pc + 3) ls (.ref (gA g 23) :: rest))) : W p l e R s m args below meth c H locs cells slots Q (F0 m (pc) ls (.ref (gA g 17) :: rest)) :=
  va_get (D := gD g) (ci := 1) (v := .ref (gA g 23)) (C := RX1) (T := TX1) (N := 14) C.1 hb C.2.2.1 inlX1 C.2.1 C.2.2.2.1 hP 17 rfl rfl 5 (by decide) (C.2.2.1 _ wm_45) (fun _ h9 => h9) rfl hdg kk
theorem gM_rows (C : CW g RX1 p s m args) (hb : c.code = cc) (hP : HW g S H) (hdg : decode cc pc = .ok (.getfield 63, 3)) (kk : W p l e R s m args below meth c H locs cells slots Q (F0 m (pc + 3) ls (.int (mSc S 0) :: rest))) : W p l e R s m args below meth c H locs cells slots Q (F0 m (pc) ls (.ref (gA g 17) :: rest)) :=
  va_get (D := gD g) (ci := 1) (v := .int (mSc S 0)) (C := RX1) (T := TX1) (N := 14) C.1 hb C.2.2.1 inlX1 C.2.1 C.2.2.2.1 hP 17 rfl rfl 6 (by decide) (C.2.2.1 _ wm_95) (fun _ h9 => h9) rfl hdg kk
theorem pM_rows (C : CW g RX1 p s m args) (hb : c.code = cc) (hP : HW g S H) (hS : va_S (Ab g) s.heap H locs) {x : Int32} (hdg : decode cc pc = .ok (.putfield 63, 3)) (kk : ∀ (H1 : Heap) (locs1 : List Loc), HW g (msSc S 0 x) H1 → va_S (Ab g) s.heap H1 locs1 → W p l e R s m args below meth c H1 locs1 cells slots Q (F0 m (pc + 3) ls rest)) : W p l e R s m args below meth c H locs cells slots Q (F0 m (pc) ls (.int x :: .ref (gA g 17) :: rest)) :=
  va_put (D := gD g) (ci := 1) (v := .int x) (ty := .int) (C := RX1) (T := TX1) (N := 14) C.1 hb C.2.2.1 inlX1 tyX1 tyX1_ok nmX1 C.2.1 C.2.2.2.1 hP (wD C.2.2.2.2.2.2.2.2.2 S) hS 17 rfl rfl 6 (by decide) (C.2.2.1 _ wm_95) (fun _ h9 => h9) rfl (by decide +kernel) rfl rfl (Nat.le_of_ble_eq_true rfl) hdg (fun H1 locs1 hP1 _ hS1 => kk H1 locs1 hP1 hS1)
theorem gM_credibility (C : CW g RX1 p s m args) (hb : c.code = cc) (hP : HW g S H) (hdg : decode cc pc = .ok (.getfield 83, 3)) (kk : W p l e R s m args below meth c H locs cells slots Q (F0 m (pc + 3) ls (.int (mSc S 1) :: rest))) : W p l e R s m args below meth c H locs cells slots Q (F0 m (pc) ls (.ref (gA g 17) :: rest)) :=
  va_get (D := gD g) (ci := 1) (v := .int (mSc S 1)) (C := RX1) (T := TX1) (N := 14) C.1 hb C.2.2.1 inlX1 C.2.1 C.2.2.2.1 hP 17 rfl rfl 7 (by decide) (C.2.2.1 _ wm_167) (fun _ h9 => h9) rfl hdg kk
theorem pM_credibility (C : CW g RX1 p s m args) (hb : c.code = cc) (hP : HW g S H) (hS : va_S (Ab g) s.heap H locs) {x : Int32} (hdg : decode cc pc = .ok (.putfield 83, 3)) (kk : ∀ (H1 : Heap) (locs1 : List Loc), HW g (msSc S 1 x) H1 → va_S (Ab g) s.heap H1 locs1 → W p l e R s m args below meth c H1 locs1 cells slots Q (F0 m (pc + 3) ls rest)) : W p l e R s m args below meth c H locs cells slots Q (F0 m (pc) ls (.int x :: .ref (gA g 17) :: rest)) :=
  va_put (D := gD g) (ci := 1) (v := .int x) (ty := .int) (C := RX1) (T := TX1) (N := 14) C.1 hb C.2.2.1 inlX1 tyX1 tyX1_ok nmX1 C.2.1 C.2.2.2.1 hP (wD C.2.2.2.2.2.2.2.2.2 S) hS 17 rfl rfl 7 (by decide) (C.2.2.1 _ wm_167) (fun _ h9 => h9) rfl (by decide +kernel) rfl rfl (Nat.le_of_ble_eq_true rfl) hdg (fun H1 locs1 hP1 _ hS1 => kk H1 locs1 hP1 hS1)
theorem gM_cap (C : CW g RX1 p s m args) (hb : c.code = cc) (hP : HW g S H) (hdg : decode cc pc = .ok (.getfield 29, 3)) (kk : W p l e R s m args below meth c H locs cells slots Q (F0 m (pc + 3) ls (.int (mSc S 2) :: rest))) : W p l e R s m args below meth c H locs cells slots Q (F0 m (pc) ls (.ref (gA g 17) :: rest)) :=
  va_get (D := gD g) (ci := 1) (v := .int (mSc S 2)) (C := RX1) (T := TX1) (N := 14) C.1 hb C.2.2.1 inlX1 C.2.1 C.2.2.2.1 hP 17 rfl rfl 8 (by decide) (C.2.2.1 _ wm_46) (fun _ h9 => h9) rfl hdg kk
theorem pM_cap (C : CW g RX1 p s m args) (hb : c.code = cc) (hP : HW g S H) (hS : va_S (Ab g) s.heap H locs) {x : Int32} (hdg : decode cc pc = .ok (.putfield 29, 3)) (kk : ∀ (H1 : Heap) (locs1 : List Loc), HW g (msSc S 2 x) H1 → va_S (Ab g) s.heap H1 locs1 → W p l e R s m args below meth c H1 locs1 cells slots Q (F0 m (pc + 3) ls rest)) : W p l e R s m args below meth c H locs cells slots Q (F0 m (pc) ls (.int x :: .ref (gA g 17) :: rest)) :=
  va_put (D := gD g) (ci := 1) (v := .int x) (ty := .int) (C := RX1) (T := TX1) (N := 14) C.1 hb C.2.2.1 inlX1 tyX1 tyX1_ok nmX1 C.2.1 C.2.2.2.1 hP (wD C.2.2.2.2.2.2.2.2.2 S) hS 17 rfl rfl 8 (by decide) (C.2.2.1 _ wm_46) (fun _ h9 => h9) rfl (by decide +kernel) rfl rfl (Nat.le_of_ble_eq_true rfl) hdg (fun H1 locs1 hP1 _ hS1 => kk H1 locs1 hP1 hS1)
theorem gM_spread (C : CW g RX1 p s m args) (hb : c.code = cc) (hP : HW g S H) (hdg : decode cc pc = .ok (.getfield 35, 3)) (kk : W p l e R s m args below meth c H locs cells slots Q (F0 m (pc + 3) ls (.long (mSp S) :: rest))) : W p l e R s m args below meth c H locs cells slots Q (F0 m (pc) ls (.ref (gA g 17) :: rest)) :=
  va_get (D := gD g) (ci := 1) (v := .long (mSp S)) (C := RX1) (T := TX1) (N := 14) C.1 hb C.2.2.1 inlX1 C.2.1 C.2.2.2.1 hP 17 rfl rfl 9 (by decide) (C.2.2.1 _ wm_48) (fun _ h9 => h9) rfl hdg kk
theorem pM_spread (C : CW g RX1 p s m args) (hb : c.code = cc) (hP : HW g S H) (hS : va_S (Ab g) s.heap H locs) {x : Int64} (hdg : decode cc pc = .ok (.putfield 35, 3)) (kk : ∀ (H1 : Heap) (locs1 : List Loc), HW g (msSp S x) H1 → va_S (Ab g) s.heap H1 locs1 → W p l e R s m args below meth c H1 locs1 cells slots Q (F0 m (pc + 3) ls rest)) : W p l e R s m args below meth c H locs cells slots Q (F0 m (pc) ls (.long x :: .ref (gA g 17) :: rest)) :=
  va_put (D := gD g) (ci := 1) (v := .long x) (ty := .long) (C := RX1) (T := TX1) (N := 14) C.1 hb C.2.2.1 inlX1 tyX1 tyX1_ok nmX1 C.2.1 C.2.2.2.1 hP (wD C.2.2.2.2.2.2.2.2.2 S) hS 17 rfl rfl 9 (by decide) (C.2.2.1 _ wm_48) (fun _ h9 => h9) rfl (by decide +kernel) rfl rfl (Nat.le_of_ble_eq_true rfl) hdg (fun H1 locs1 hP1 _ hS1 => kk H1 locs1 hP1 hS1)
theorem gM_factors (C : CW g RX1 p s m args) (hb : c.code = cc) (hP : HW g S H) (hdg : decode cc pc = .ok (.getfield 39, 3)) (kk : W p l e R s m args below meth c H locs cells slots Q (F0 m (pc + 3) ls (.ref (gA g 24) :: rest))) : W p l e R s m args below meth c H locs cells slots Q (F0 m (pc) ls (.ref (gA g 17) :: rest)) :=
  va_get (D := gD g) (ci := 1) (v := .ref (gA g 24)) (C := RX1) (T := TX1) (N := 14) C.1 hb C.2.2.1 inlX1 C.2.1 C.2.2.2.1 hP 17 rfl rfl 10 (by decide) (C.2.2.1 _ wm_49) (fun _ h9 => h9) rfl hdg kk
theorem gM_found (C : CW g RX1 p s m args) (hb : c.code = cc) (hP : HW g S H) (hdg : decode cc pc = .ok (.getfield 42, 3)) (kk : W p l e R s m args below meth c H locs cells slots Q (F0 m (pc + 3) ls (.ref (gA g 25) :: rest))) : W p l e R s m args below meth c H locs cells slots Q (F0 m (pc) ls (.ref (gA g 17) :: rest)) :=
  va_get (D := gD g) (ci := 1) (v := .ref (gA g 25)) (C := RX1) (T := TX1) (N := 14) C.1 hb C.2.2.1 inlX1 C.2.1 C.2.2.2.1 hP 17 rfl rfl 11 (by decide) (C.2.2.1 _ wm_50) (fun _ h9 => h9) rfl hdg kk
theorem gM_joined (C : CW g RX1 p s m args) (hb : c.code = cc) (hP : HW g S H) (hdg : decode cc pc = .ok (.getfield 45, 3)) (kk : W p l e R s m args below meth c H locs cells slots Q (F0 m (pc + 3) ls (.ref (gA g 26) :: rest))) : W p l e R s m args below meth c H locs cells slots Q (F0 m (pc) ls (.ref (gA g 17) :: rest)) :=
  va_get (D := gD g) (ci := 1) (v := .ref (gA g 26)) (C := RX1) (T := TX1) (N := 14) C.1 hb C.2.2.1 inlX1 C.2.1 C.2.2.2.1 hP 17 rfl rfl 12 (by decide) (C.2.2.1 _ wm_51) (fun _ h9 => h9) rfl hdg kk
theorem gM_last (C : CW g RX1 p s m args) (hb : c.code = cc) (hP : HW g S H) (hdg : decode cc pc = .ok (.getfield 48, 3)) (kk : W p l e R s m args below meth c H locs cells slots Q (F0 m (pc + 3) ls (.int (mSc S 3) :: rest))) : W p l e R s m args below meth c H locs cells slots Q (F0 m (pc) ls (.ref (gA g 17) :: rest)) :=
  va_get (D := gD g) (ci := 1) (v := .int (mSc S 3)) (C := RX1) (T := TX1) (N := 14) C.1 hb C.2.2.1 inlX1 C.2.1 C.2.2.2.1 hP 17 rfl rfl 13 (by decide) (C.2.2.1 _ wm_112) (fun _ h9 => h9) rfl hdg kk
theorem pM_last (C : CW g RX1 p s m args) (hb : c.code = cc) (hP : HW g S H) (hS : va_S (Ab g) s.heap H locs) {x : Int32} (hdg : decode cc pc = .ok (.putfield 48, 3)) (kk : ∀ (H1 : Heap) (locs1 : List Loc), HW g (msSc S 3 x) H1 → va_S (Ab g) s.heap H1 locs1 → W p l e R s m args below meth c H1 locs1 cells slots Q (F0 m (pc + 3) ls rest)) : W p l e R s m args below meth c H locs cells slots Q (F0 m (pc) ls (.int x :: .ref (gA g 17) :: rest)) :=
  va_put (D := gD g) (ci := 1) (v := .int x) (ty := .int) (C := RX1) (T := TX1) (N := 14) C.1 hb C.2.2.1 inlX1 tyX1 tyX1_ok nmX1 C.2.1 C.2.2.2.1 hP (wD C.2.2.2.2.2.2.2.2.2 S) hS 17 rfl rfl 13 (by decide) (C.2.2.1 _ wm_112) (fun _ h9 => h9) rfl (by decide +kernel) rfl rfl (Nat.le_of_ble_eq_true rfl) hdg (fun H1 locs1 hP1 _ hS1 => kk H1 locs1 hP1 hS1)
theorem ldX_exposures (C : CW g own p s m args) (hb : c.code = cc) (hP : HW g S H) {i : Int32} {j : Nat} (hi : i = nI j) (hj : j < 40) (hdg : decode cc pc = .ok (.laload, 1)) (kk : W p l e R s m args below meth c H locs cells slots Q (F0 m (pc + 1) ls (.long (xLng S 0 j) :: rest))) : W p l e R s m args below meth c H locs cells slots Q (F0 m (pc) ls (.int i :: .ref (gA g 9) :: rest)) := by
  subst hi
  refine va_lald (D := gD g) (f := xLng S 0) C.1 hb C.2.2.2.1 hP 9 1 rfl rfl (vp_in_nI hj (by decide)) hdg ?_
  rw [nI_clamp (by omega)]
  exact kk
theorem stX_exposures (C : CW g own p s m args) (hb : c.code = cc) (hP : HW g S H) (hS : va_S (Ab g) s.heap H locs) {i : Int32} {j : Nat} {x : Int64} (hi : i = nI j) (hj : j < 40) (hdg : decode cc pc = .ok (.lastore, 1)) (kk : ∀ (H1 : Heap) (locs1 : List Loc), HW g (xsLng S 0 (vp_updL (xLng S 0) j x)) H1 → va_S (Ab g) s.heap H1 locs1 → W p l e R s m args below meth c H1 locs1 cells slots Q (F0 m (pc + 1) ls rest)) : W p l e R s m args below meth c H locs cells slots Q (F0 m (pc) ls (.long x :: .int i :: .ref (gA g 9) :: rest)) := by
  subst hi
  refine va_last (D := gD g) (f := xLng S 0) C.1 hb C.2.2.2.1 hP (wD C.2.2.2.2.2.2.2.2.2 S) hS 9 1 rfl rfl (vp_in_nI hj (by decide)) hdg (fun H1 locs1 hP1 _ hS1 => kk H1 locs1 ?_ hS1)
  rw [nI_clamp (by omega)] at hP1
  exact hP1
theorem ldX_claims (C : CW g own p s m args) (hb : c.code = cc) (hP : HW g S H) {i : Int32} {j : Nat} (hi : i = nI j) (hj : j < 40) (hdg : decode cc pc = .ok (.laload, 1)) (kk : W p l e R s m args below meth c H locs cells slots Q (F0 m (pc + 1) ls (.long (xLng S 1 j) :: rest))) : W p l e R s m args below meth c H locs cells slots Q (F0 m (pc) ls (.int i :: .ref (gA g 10) :: rest)) := by
  subst hi
  refine va_lald (D := gD g) (f := xLng S 1) C.1 hb C.2.2.2.1 hP 10 1 rfl rfl (vp_in_nI hj (by decide)) hdg ?_
  rw [nI_clamp (by omega)]
  exact kk
theorem stX_claims (C : CW g own p s m args) (hb : c.code = cc) (hP : HW g S H) (hS : va_S (Ab g) s.heap H locs) {i : Int32} {j : Nat} {x : Int64} (hi : i = nI j) (hj : j < 40) (hdg : decode cc pc = .ok (.lastore, 1)) (kk : ∀ (H1 : Heap) (locs1 : List Loc), HW g (xsLng S 1 (vp_updL (xLng S 1) j x)) H1 → va_S (Ab g) s.heap H1 locs1 → W p l e R s m args below meth c H1 locs1 cells slots Q (F0 m (pc + 1) ls rest)) : W p l e R s m args below meth c H locs cells slots Q (F0 m (pc) ls (.long x :: .int i :: .ref (gA g 10) :: rest)) := by
  subst hi
  refine va_last (D := gD g) (f := xLng S 1) C.1 hb C.2.2.2.1 hP (wD C.2.2.2.2.2.2.2.2.2 S) hS 10 1 rfl rfl (vp_in_nI hj (by decide)) hdg (fun H1 locs1 hP1 _ hS1 => kk H1 locs1 ?_ hS1)
  rw [nI_clamp (by omega)] at hP1
  exact hP1
theorem ldX_losses (C : CW g own p s m args) (hb : c.code = cc) (hP : HW g S H) {i : Int32} {j : Nat} (hi : i = nI j) (hj : j < 40) (hdg : decode cc pc = .ok (.laload, 1)) (kk : W p l e R s m args below meth c H locs cells slots Q (F0 m (pc + 1) ls (.long (xLng S 2 j) :: rest))) : W p l e R s m args below meth c H locs cells slots Q (F0 m (pc) ls (.int i :: .ref (gA g 11) :: rest)) := by
  subst hi
  refine va_lald (D := gD g) (f := xLng S 2) C.1 hb C.2.2.2.1 hP 11 1 rfl rfl (vp_in_nI hj (by decide)) hdg ?_
  rw [nI_clamp (by omega)]
  exact kk
theorem stX_losses (C : CW g own p s m args) (hb : c.code = cc) (hP : HW g S H) (hS : va_S (Ab g) s.heap H locs) {i : Int32} {j : Nat} {x : Int64} (hi : i = nI j) (hj : j < 40) (hdg : decode cc pc = .ok (.lastore, 1)) (kk : ∀ (H1 : Heap) (locs1 : List Loc), HW g (xsLng S 2 (vp_updL (xLng S 2) j x)) H1 → va_S (Ab g) s.heap H1 locs1 → W p l e R s m args below meth c H1 locs1 cells slots Q (F0 m (pc + 1) ls rest)) : W p l e R s m args below meth c H locs cells slots Q (F0 m (pc) ls (.long x :: .int i :: .ref (gA g 11) :: rest)) := by
  subst hi
  refine va_last (D := gD g) (f := xLng S 2) C.1 hb C.2.2.2.1 hP (wD C.2.2.2.2.2.2.2.2.2 S) hS 11 1 rfl rfl (vp_in_nI hj (by decide)) hdg (fun H1 locs1 hP1 _ hS1 => kk H1 locs1 ?_ hS1)
  rw [nI_clamp (by omega)] at hP1
  exact hP1
theorem ldX_oldPremiums (C : CW g own p s m args) (hb : c.code = cc) (hP : HW g S H) {i : Int32} {j : Nat} (hi : i = nI j) (hj : j < 40) (hdg : decode cc pc = .ok (.iaload, 1)) (kk : W p l e R s m args below meth c H locs cells slots Q (F0 m (pc + 1) ls (.int (xIa S 0 j) :: rest))) : W p l e R s m args below meth c H locs cells slots Q (F0 m (pc) ls (.int i :: .ref (gA g 12) :: rest)) := by
  subst hi
  refine va_iald (D := gD g) (f := xIa S 0) C.1 hb C.2.2.2.1 hP 12 0 rfl rfl (vp_in_nI hj (by decide)) hdg ?_
  rw [nI_clamp (by omega)]
  exact kk
theorem stX_oldPremiums (C : CW g own p s m args) (hb : c.code = cc) (hP : HW g S H) (hS : va_S (Ab g) s.heap H locs) {i : Int32} {j : Nat} {x : Int32} (hi : i = nI j) (hj : j < 40) (hdg : decode cc pc = .ok (.iastore, 1)) (kk : ∀ (H1 : Heap) (locs1 : List Loc), HW g (xsIa S 0 (upd (xIa S 0) j x)) H1 → va_S (Ab g) s.heap H1 locs1 → W p l e R s m args below meth c H1 locs1 cells slots Q (F0 m (pc + 1) ls rest)) : W p l e R s m args below meth c H locs cells slots Q (F0 m (pc) ls (.int x :: .int i :: .ref (gA g 12) :: rest)) := by
  subst hi
  refine va_iast (D := gD g) (f := xIa S 0) C.1 hb C.2.2.2.1 hP (wD C.2.2.2.2.2.2.2.2.2 S) hS 12 0 rfl rfl (vp_in_nI hj (by decide)) hdg (fun H1 locs1 hP1 _ hS1 => kk H1 locs1 ?_ hS1)
  rw [nI_clamp (by omega)] at hP1
  exact hP1
theorem ldX_live (C : CW g own p s m args) (hb : c.code = cc) (hP : HW g S H) {i : Int32} {j : Nat} (hi : i = nI j) (hj : j < 40) (hdg : decode cc pc = .ok (.baload, 1)) (kk : W p l e R s m args below meth c H locs cells slots Q (F0 m (pc + 1) ls (.int (xIa S 1 j) :: rest))) : W p l e R s m args below meth c H locs cells slots Q (F0 m (pc) ls (.int i :: .ref (gA g 13) :: rest)) := by
  subst hi
  refine va_zald (D := gD g) (f := xIa S 1) C.1 hb C.2.2.2.1 hP 13 2 rfl rfl (vp_in_nI hj (by decide)) hdg ?_
  rw [nI_clamp (by omega)]
  exact kk
theorem stX_live (C : CW g own p s m args) (hb : c.code = cc) (hP : HW g S H) (hS : va_S (Ab g) s.heap H locs) {i : Int32} {j : Nat} {x : Int32} (hi : i = nI j) (hj : j < 40) (hz : vp_nar .boolean x = x) (hdg : decode cc pc = .ok (.bastore, 1)) (kk : ∀ (H1 : Heap) (locs1 : List Loc), HW g (xsIa S 1 (upd (xIa S 1) j x)) H1 → va_S (Ab g) s.heap H1 locs1 → W p l e R s m args below meth c H1 locs1 cells slots Q (F0 m (pc + 1) ls rest)) : W p l e R s m args below meth c H locs cells slots Q (F0 m (pc) ls (.int x :: .int i :: .ref (gA g 13) :: rest)) := by
  subst hi
  refine va_zast (D := gD g) (f := xIa S 1) C.1 hb C.2.2.2.1 hP (wD C.2.2.2.2.2.2.2.2.2 S) hS 13 2 rfl rfl (vp_in_nI hj (by decide)) hdg (fun H1 locs1 hP1 _ hS1 => kk H1 locs1 ?_ hS1)
  rw [nI_clamp (by omega), hz] at hP1
  exact hP1
theorem ldX_fittedLosses (C : CW g own p s m args) (hb : c.code = cc) (hP : HW g S H) {i : Int32} {j : Nat} (hi : i = nI j) (hj : j < 40) (hdg : decode cc pc = .ok (.laload, 1)) (kk : W p l e R s m args below meth c H locs cells slots Q (F0 m (pc + 1) ls (.long (xLng S 3 j) :: rest))) : W p l e R s m args below meth c H locs cells slots Q (F0 m (pc) ls (.int i :: .ref (gA g 14) :: rest)) := by
  subst hi
  refine va_lald (D := gD g) (f := xLng S 3) C.1 hb C.2.2.2.1 hP 14 1 rfl rfl (vp_in_nI hj (by decide)) hdg ?_
  rw [nI_clamp (by omega)]
  exact kk
theorem stX_fittedLosses (C : CW g own p s m args) (hb : c.code = cc) (hP : HW g S H) (hS : va_S (Ab g) s.heap H locs) {i : Int32} {j : Nat} {x : Int64} (hi : i = nI j) (hj : j < 40) (hdg : decode cc pc = .ok (.lastore, 1)) (kk : ∀ (H1 : Heap) (locs1 : List Loc), HW g (xsLng S 3 (vp_updL (xLng S 3) j x)) H1 → va_S (Ab g) s.heap H1 locs1 → W p l e R s m args below meth c H1 locs1 cells slots Q (F0 m (pc + 1) ls rest)) : W p l e R s m args below meth c H locs cells slots Q (F0 m (pc) ls (.long x :: .int i :: .ref (gA g 14) :: rest)) := by
  subst hi
  refine va_last (D := gD g) (f := xLng S 3) C.1 hb C.2.2.2.1 hP (wD C.2.2.2.2.2.2.2.2.2 S) hS 14 1 rfl rfl (vp_in_nI hj (by decide)) hdg (fun H1 locs1 hP1 _ hS1 => kk H1 locs1 ?_ hS1)
  rw [nI_clamp (by omega)] at hP1
  exact hP1
theorem ldX_groupStarts (C : CW g own p s m args) (hb : c.code = cc) (hP : HW g S H) {i : Int32} {j : Nat} (hi : i = nI j) (hj : j < 4) (hdg : decode cc pc = .ok (.iaload, 1)) (kk : W p l e R s m args below meth c H locs cells slots Q (F0 m (pc + 1) ls (.int (xIa S 2 j) :: rest))) : W p l e R s m args below meth c H locs cells slots Q (F0 m (pc) ls (.int i :: .ref (gA g 15) :: rest)) := by
  subst hi
  refine va_iald (D := gD g) (f := xIa S 2) C.1 hb C.2.2.2.1 hP 15 0 rfl rfl (vp_in_nI hj (by decide)) hdg ?_
  rw [nI_clamp (by omega)]
  exact kk
theorem stX_groupStarts (C : CW g own p s m args) (hb : c.code = cc) (hP : HW g S H) (hS : va_S (Ab g) s.heap H locs) {i : Int32} {j : Nat} {x : Int32} (hi : i = nI j) (hj : j < 4) (hdg : decode cc pc = .ok (.iastore, 1)) (kk : ∀ (H1 : Heap) (locs1 : List Loc), HW g (xsIa S 2 (upd (xIa S 2) j x)) H1 → va_S (Ab g) s.heap H1 locs1 → W p l e R s m args below meth c H1 locs1 cells slots Q (F0 m (pc + 1) ls rest)) : W p l e R s m args below meth c H locs cells slots Q (F0 m (pc) ls (.int x :: .int i :: .ref (gA g 15) :: rest)) := by
  subst hi
  refine va_iast (D := gD g) (f := xIa S 2) C.1 hb C.2.2.2.1 hP (wD C.2.2.2.2.2.2.2.2.2 S) hS 15 0 rfl rfl (vp_in_nI hj (by decide)) hdg (fun H1 locs1 hP1 _ hS1 => kk H1 locs1 ?_ hS1)
  rw [nI_clamp (by omega)] at hP1
  exact hP1
theorem ldX_factorsBefore (C : CW g own p s m args) (hb : c.code = cc) (hP : HW g S H) {i : Int32} {j : Nat} (hi : i = nI j) (hj : j < 4) (hdg : decode cc pc = .ok (.iaload, 1)) (kk : W p l e R s m args below meth c H locs cells slots Q (F0 m (pc + 1) ls (.int (xIa S 3 j) :: rest))) : W p l e R s m args below meth c H locs cells slots Q (F0 m (pc) ls (.int i :: .ref (gA g 16) :: rest)) := by
  subst hi
  refine va_iald (D := gD g) (f := xIa S 3) C.1 hb C.2.2.2.1 hP 16 0 rfl rfl (vp_in_nI hj (by decide)) hdg ?_
  rw [nI_clamp (by omega)]
  exact kk
theorem stX_factorsBefore (C : CW g own p s m args) (hb : c.code = cc) (hP : HW g S H) (hS : va_S (Ab g) s.heap H locs) {i : Int32} {j : Nat} {x : Int32} (hi : i = nI j) (hj : j < 4) (hdg : decode cc pc = .ok (.iastore, 1)) (kk : ∀ (H1 : Heap) (locs1 : List Loc), HW g (xsIa S 3 (upd (xIa S 3) j x)) H1 → va_S (Ab g) s.heap H1 locs1 → W p l e R s m args below meth c H1 locs1 cells slots Q (F0 m (pc + 1) ls rest)) : W p l e R s m args below meth c H locs cells slots Q (F0 m (pc) ls (.int x :: .int i :: .ref (gA g 16) :: rest)) := by
  subst hi
  refine va_iast (D := gD g) (f := xIa S 3) C.1 hb C.2.2.2.1 hP (wD C.2.2.2.2.2.2.2.2.2 S) hS 16 0 rfl rfl (vp_in_nI hj (by decide)) hdg (fun H1 locs1 hP1 _ hS1 => kk H1 locs1 ?_ hS1)
  rw [nI_clamp (by omega)] at hP1
  exact hP1
theorem ldM_levels (C : CW g own p s m args) (hb : c.code = cc) (hP : HW g S H) {i : Int32} {j : Nat} (hi : i = nI j) (hj : j < 120) (hdg : decode cc pc = .ok (.iaload, 1)) (kk : W p l e R s m args below meth c H locs cells slots Q (F0 m (pc + 1) ls (.int (mIa S 0 j) :: rest))) : W p l e R s m args below meth c H locs cells slots Q (F0 m (pc) ls (.int i :: .ref (gA g 18) :: rest)) := by
  subst hi
  refine va_iald (D := gD g) (f := mIa S 0) C.1 hb C.2.2.2.1 hP 18 0 rfl rfl (vp_in_nI hj (by decide)) hdg ?_
  rw [nI_clamp (by omega)]
  exact kk
theorem stM_levels (C : CW g own p s m args) (hb : c.code = cc) (hP : HW g S H) (hS : va_S (Ab g) s.heap H locs) {i : Int32} {j : Nat} {x : Int32} (hi : i = nI j) (hj : j < 120) (hdg : decode cc pc = .ok (.iastore, 1)) (kk : ∀ (H1 : Heap) (locs1 : List Loc), HW g (msIa S 0 (upd (mIa S 0) j x)) H1 → va_S (Ab g) s.heap H1 locs1 → W p l e R s m args below meth c H1 locs1 cells slots Q (F0 m (pc + 1) ls rest)) : W p l e R s m args below meth c H locs cells slots Q (F0 m (pc) ls (.int x :: .int i :: .ref (gA g 18) :: rest)) := by
  subst hi
  refine va_iast (D := gD g) (f := mIa S 0) C.1 hb C.2.2.2.1 hP (wD C.2.2.2.2.2.2.2.2.2 S) hS 18 0 rfl rfl (vp_in_nI hj (by decide)) hdg (fun H1 locs1 hP1 _ hS1 => kk H1 locs1 ?_ hS1)
  rw [nI_clamp (by omega)] at hP1
  exact hP1
theorem ldM_exposures (C : CW g own p s m args) (hb : c.code = cc) (hP : HW g S H) {i : Int32} {j : Nat} (hi : i = nI j) (hj : j < 40) (hdg : decode cc pc = .ok (.iaload, 1)) (kk : W p l e R s m args below meth c H locs cells slots Q (F0 m (pc + 1) ls (.int (mIa S 1 j) :: rest))) : W p l e R s m args below meth c H locs cells slots Q (F0 m (pc) ls (.int i :: .ref (gA g 19) :: rest)) := by
  subst hi
  refine va_iald (D := gD g) (f := mIa S 1) C.1 hb C.2.2.2.1 hP 19 0 rfl rfl (vp_in_nI hj (by decide)) hdg ?_
  rw [nI_clamp (by omega)]
  exact kk
theorem stM_exposures (C : CW g own p s m args) (hb : c.code = cc) (hP : HW g S H) (hS : va_S (Ab g) s.heap H locs) {i : Int32} {j : Nat} {x : Int32} (hi : i = nI j) (hj : j < 40) (hdg : decode cc pc = .ok (.iastore, 1)) (kk : ∀ (H1 : Heap) (locs1 : List Loc), HW g (msIa S 1 (upd (mIa S 1) j x)) H1 → va_S (Ab g) s.heap H1 locs1 → W p l e R s m args below meth c H1 locs1 cells slots Q (F0 m (pc + 1) ls rest)) : W p l e R s m args below meth c H locs cells slots Q (F0 m (pc) ls (.int x :: .int i :: .ref (gA g 19) :: rest)) := by
  subst hi
  refine va_iast (D := gD g) (f := mIa S 1) C.1 hb C.2.2.2.1 hP (wD C.2.2.2.2.2.2.2.2.2 S) hS 19 0 rfl rfl (vp_in_nI hj (by decide)) hdg (fun H1 locs1 hP1 _ hS1 => kk H1 locs1 ?_ hS1)
  rw [nI_clamp (by omega)] at hP1
  exact hP1
theorem ldM_claims (C : CW g own p s m args) (hb : c.code = cc) (hP : HW g S H) {i : Int32} {j : Nat} (hi : i = nI j) (hj : j < 40) (hdg : decode cc pc = .ok (.iaload, 1)) (kk : W p l e R s m args below meth c H locs cells slots Q (F0 m (pc + 1) ls (.int (mIa S 2 j) :: rest))) : W p l e R s m args below meth c H locs cells slots Q (F0 m (pc) ls (.int i :: .ref (gA g 20) :: rest)) := by
  subst hi
  refine va_iald (D := gD g) (f := mIa S 2) C.1 hb C.2.2.2.1 hP 20 0 rfl rfl (vp_in_nI hj (by decide)) hdg ?_
  rw [nI_clamp (by omega)]
  exact kk
theorem stM_claims (C : CW g own p s m args) (hb : c.code = cc) (hP : HW g S H) (hS : va_S (Ab g) s.heap H locs) {i : Int32} {j : Nat} {x : Int32} (hi : i = nI j) (hj : j < 40) (hdg : decode cc pc = .ok (.iastore, 1)) (kk : ∀ (H1 : Heap) (locs1 : List Loc), HW g (msIa S 2 (upd (mIa S 2) j x)) H1 → va_S (Ab g) s.heap H1 locs1 → W p l e R s m args below meth c H1 locs1 cells slots Q (F0 m (pc + 1) ls rest)) : W p l e R s m args below meth c H locs cells slots Q (F0 m (pc) ls (.int x :: .int i :: .ref (gA g 20) :: rest)) := by
  subst hi
  refine va_iast (D := gD g) (f := mIa S 2) C.1 hb C.2.2.2.1 hP (wD C.2.2.2.2.2.2.2.2.2 S) hS 20 0 rfl rfl (vp_in_nI hj (by decide)) hdg (fun H1 locs1 hP1 _ hS1 => kk H1 locs1 ?_ hS1)
  rw [nI_clamp (by omega)] at hP1
  exact hP1
theorem ldM_losses (C : CW g own p s m args) (hb : c.code = cc) (hP : HW g S H) {i : Int32} {j : Nat} (hi : i = nI j) (hj : j < 40) (hdg : decode cc pc = .ok (.iaload, 1)) (kk : W p l e R s m args below meth c H locs cells slots Q (F0 m (pc + 1) ls (.int (mIa S 3 j) :: rest))) : W p l e R s m args below meth c H locs cells slots Q (F0 m (pc) ls (.int i :: .ref (gA g 21) :: rest)) := by
  subst hi
  refine va_iald (D := gD g) (f := mIa S 3) C.1 hb C.2.2.2.1 hP 21 0 rfl rfl (vp_in_nI hj (by decide)) hdg ?_
  rw [nI_clamp (by omega)]
  exact kk
theorem stM_losses (C : CW g own p s m args) (hb : c.code = cc) (hP : HW g S H) (hS : va_S (Ab g) s.heap H locs) {i : Int32} {j : Nat} {x : Int32} (hi : i = nI j) (hj : j < 40) (hdg : decode cc pc = .ok (.iastore, 1)) (kk : ∀ (H1 : Heap) (locs1 : List Loc), HW g (msIa S 3 (upd (mIa S 3) j x)) H1 → va_S (Ab g) s.heap H1 locs1 → W p l e R s m args below meth c H1 locs1 cells slots Q (F0 m (pc + 1) ls rest)) : W p l e R s m args below meth c H locs cells slots Q (F0 m (pc) ls (.int x :: .int i :: .ref (gA g 21) :: rest)) := by
  subst hi
  refine va_iast (D := gD g) (f := mIa S 3) C.1 hb C.2.2.2.1 hP (wD C.2.2.2.2.2.2.2.2.2 S) hS 21 0 rfl rfl (vp_in_nI hj (by decide)) hdg (fun H1 locs1 hP1 _ hS1 => kk H1 locs1 ?_ hS1)
  rw [nI_clamp (by omega)] at hP1
  exact hP1
theorem ldM_olds (C : CW g own p s m args) (hb : c.code = cc) (hP : HW g S H) {i : Int32} {j : Nat} (hi : i = nI j) (hj : j < 40) (hdg : decode cc pc = .ok (.iaload, 1)) (kk : W p l e R s m args below meth c H locs cells slots Q (F0 m (pc + 1) ls (.int (mIa S 4 j) :: rest))) : W p l e R s m args below meth c H locs cells slots Q (F0 m (pc) ls (.int i :: .ref (gA g 22) :: rest)) := by
  subst hi
  refine va_iald (D := gD g) (f := mIa S 4) C.1 hb C.2.2.2.1 hP 22 0 rfl rfl (vp_in_nI hj (by decide)) hdg ?_
  rw [nI_clamp (by omega)]
  exact kk
theorem stM_olds (C : CW g own p s m args) (hb : c.code = cc) (hP : HW g S H) (hS : va_S (Ab g) s.heap H locs) {i : Int32} {j : Nat} {x : Int32} (hi : i = nI j) (hj : j < 40) (hdg : decode cc pc = .ok (.iastore, 1)) (kk : ∀ (H1 : Heap) (locs1 : List Loc), HW g (msIa S 4 (upd (mIa S 4) j x)) H1 → va_S (Ab g) s.heap H1 locs1 → W p l e R s m args below meth c H1 locs1 cells slots Q (F0 m (pc + 1) ls rest)) : W p l e R s m args below meth c H locs cells slots Q (F0 m (pc) ls (.int x :: .int i :: .ref (gA g 22) :: rest)) := by
  subst hi
  refine va_iast (D := gD g) (f := mIa S 4) C.1 hb C.2.2.2.1 hP (wD C.2.2.2.2.2.2.2.2.2 S) hS 22 0 rfl rfl (vp_in_nI hj (by decide)) hdg (fun H1 locs1 hP1 _ hS1 => kk H1 locs1 ?_ hS1)
  rw [nI_clamp (by omega)] at hP1
  exact hP1
theorem ldM_gone (C : CW g own p s m args) (hb : c.code = cc) (hP : HW g S H) {i : Int32} {j : Nat} (hi : i = nI j) (hj : j < 40) (hdg : decode cc pc = .ok (.baload, 1)) (kk : W p l e R s m args below meth c H locs cells slots Q (F0 m (pc + 1) ls (.int (mIa S 5 j) :: rest))) : W p l e R s m args below meth c H locs cells slots Q (F0 m (pc) ls (.int i :: .ref (gA g 23) :: rest)) := by
  subst hi
  refine va_zald (D := gD g) (f := mIa S 5) C.1 hb C.2.2.2.1 hP 23 2 rfl rfl (vp_in_nI hj (by decide)) hdg ?_
  rw [nI_clamp (by omega)]
  exact kk
theorem stM_gone (C : CW g own p s m args) (hb : c.code = cc) (hP : HW g S H) (hS : va_S (Ab g) s.heap H locs) {i : Int32} {j : Nat} {x : Int32} (hi : i = nI j) (hj : j < 40) (hz : vp_nar .boolean x = x) (hdg : decode cc pc = .ok (.bastore, 1)) (kk : ∀ (H1 : Heap) (locs1 : List Loc), HW g (msIa S 5 (upd (mIa S 5) j x)) H1 → va_S (Ab g) s.heap H1 locs1 → W p l e R s m args below meth c H1 locs1 cells slots Q (F0 m (pc + 1) ls rest)) : W p l e R s m args below meth c H locs cells slots Q (F0 m (pc) ls (.int x :: .int i :: .ref (gA g 23) :: rest)) := by
  subst hi
  refine va_zast (D := gD g) (f := mIa S 5) C.1 hb C.2.2.2.1 hP (wD C.2.2.2.2.2.2.2.2.2 S) hS 23 2 rfl rfl (vp_in_nI hj (by decide)) hdg (fun H1 locs1 hP1 _ hS1 => kk H1 locs1 ?_ hS1)
  rw [nI_clamp (by omega), hz] at hP1
  exact hP1
theorem ldM_factors (C : CW g own p s m args) (hb : c.code = cc) (hP : HW g S H) {i : Int32} {j : Nat} (hi : i = nI j) (hj : j < 12) (hdg : decode cc pc = .ok (.iaload, 1)) (kk : W p l e R s m args below meth c H locs cells slots Q (F0 m (pc + 1) ls (.int (mIa S 6 j) :: rest))) : W p l e R s m args below meth c H locs cells slots Q (F0 m (pc) ls (.int i :: .ref (gA g 24) :: rest)) := by
  subst hi
  refine va_iald (D := gD g) (f := mIa S 6) C.1 hb C.2.2.2.1 hP 24 0 rfl rfl (vp_in_nI hj (by decide)) hdg ?_
  rw [nI_clamp (by omega)]
  exact kk
theorem stM_factors (C : CW g own p s m args) (hb : c.code = cc) (hP : HW g S H) (hS : va_S (Ab g) s.heap H locs) {i : Int32} {j : Nat} {x : Int32} (hi : i = nI j) (hj : j < 12) (hdg : decode cc pc = .ok (.iastore, 1)) (kk : ∀ (H1 : Heap) (locs1 : List Loc), HW g (msIa S 6 (upd (mIa S 6) j x)) H1 → va_S (Ab g) s.heap H1 locs1 → W p l e R s m args below meth c H1 locs1 cells slots Q (F0 m (pc + 1) ls rest)) : W p l e R s m args below meth c H locs cells slots Q (F0 m (pc) ls (.int x :: .int i :: .ref (gA g 24) :: rest)) := by
  subst hi
  refine va_iast (D := gD g) (f := mIa S 6) C.1 hb C.2.2.2.1 hP (wD C.2.2.2.2.2.2.2.2.2 S) hS 24 0 rfl rfl (vp_in_nI hj (by decide)) hdg (fun H1 locs1 hP1 _ hS1 => kk H1 locs1 ?_ hS1)
  rw [nI_clamp (by omega)] at hP1
  exact hP1
theorem ldM_found (C : CW g own p s m args) (hb : c.code = cc) (hP : HW g S H) {i : Int32} {j : Nat} (hi : i = nI j) (hj : j < 4) (hdg : decode cc pc = .ok (.iaload, 1)) (kk : W p l e R s m args below meth c H locs cells slots Q (F0 m (pc + 1) ls (.int (mIa S 7 j) :: rest))) : W p l e R s m args below meth c H locs cells slots Q (F0 m (pc) ls (.int i :: .ref (gA g 25) :: rest)) := by
  subst hi
  refine va_iald (D := gD g) (f := mIa S 7) C.1 hb C.2.2.2.1 hP 25 0 rfl rfl (vp_in_nI hj (by decide)) hdg ?_
  rw [nI_clamp (by omega)]
  exact kk
theorem stM_found (C : CW g own p s m args) (hb : c.code = cc) (hP : HW g S H) (hS : va_S (Ab g) s.heap H locs) {i : Int32} {j : Nat} {x : Int32} (hi : i = nI j) (hj : j < 4) (hdg : decode cc pc = .ok (.iastore, 1)) (kk : ∀ (H1 : Heap) (locs1 : List Loc), HW g (msIa S 7 (upd (mIa S 7) j x)) H1 → va_S (Ab g) s.heap H1 locs1 → W p l e R s m args below meth c H1 locs1 cells slots Q (F0 m (pc + 1) ls rest)) : W p l e R s m args below meth c H locs cells slots Q (F0 m (pc) ls (.int x :: .int i :: .ref (gA g 25) :: rest)) := by
  subst hi
  refine va_iast (D := gD g) (f := mIa S 7) C.1 hb C.2.2.2.1 hP (wD C.2.2.2.2.2.2.2.2.2 S) hS 25 0 rfl rfl (vp_in_nI hj (by decide)) hdg (fun H1 locs1 hP1 _ hS1 => kk H1 locs1 ?_ hS1)
  rw [nI_clamp (by omega)] at hP1
  exact hP1
theorem ldM_joined (C : CW g own p s m args) (hb : c.code = cc) (hP : HW g S H) {i : Int32} {j : Nat} (hi : i = nI j) (hj : j < 4) (hdg : decode cc pc = .ok (.iaload, 1)) (kk : W p l e R s m args below meth c H locs cells slots Q (F0 m (pc + 1) ls (.int (mIa S 8 j) :: rest))) : W p l e R s m args below meth c H locs cells slots Q (F0 m (pc) ls (.int i :: .ref (gA g 26) :: rest)) := by
  subst hi
  refine va_iald (D := gD g) (f := mIa S 8) C.1 hb C.2.2.2.1 hP 26 0 rfl rfl (vp_in_nI hj (by decide)) hdg ?_
  rw [nI_clamp (by omega)]
  exact kk
theorem stM_joined (C : CW g own p s m args) (hb : c.code = cc) (hP : HW g S H) (hS : va_S (Ab g) s.heap H locs) {i : Int32} {j : Nat} {x : Int32} (hi : i = nI j) (hj : j < 4) (hdg : decode cc pc = .ok (.iastore, 1)) (kk : ∀ (H1 : Heap) (locs1 : List Loc), HW g (msIa S 8 (upd (mIa S 8) j x)) H1 → va_S (Ab g) s.heap H1 locs1 → W p l e R s m args below meth c H1 locs1 cells slots Q (F0 m (pc + 1) ls rest)) : W p l e R s m args below meth c H locs cells slots Q (F0 m (pc) ls (.int x :: .int i :: .ref (gA g 26) :: rest)) := by
  subst hi
  refine va_iast (D := gD g) (f := mIa S 8) C.1 hb C.2.2.2.1 hP (wD C.2.2.2.2.2.2.2.2.2 S) hS 26 0 rfl rfl (vp_in_nI hj (by decide)) hdg (fun H1 locs1 hP1 _ hS1 => kk H1 locs1 ?_ hS1)
  rw [nI_clamp (by omega)] at hP1
  exact hP1
theorem ldO_out (C : CW g own p s m args) (hb : c.code = cc) (hP : HW g S H) {i : Int32} {j : Nat} (hi : i = nI j) (hj : j < 1) (hdg : decode cc pc = .ok (.laload, 1)) (kk : W p l e R s m args below meth c H locs cells slots Q (F0 m (pc + 1) ls (.long (wOut S j) :: rest))) : W p l e R s m args below meth c H locs cells slots Q (F0 m (pc) ls (.int i :: .ref (gA g 27) :: rest)) := by
  subst hi
  refine va_lald (D := gD g) (f := wOut S) C.1 hb C.2.2.2.1 hP 27 1 rfl rfl (vp_in_nI hj (by decide)) hdg ?_
  rw [nI_clamp (by omega)]
  exact kk
theorem stO_out (C : CW g own p s m args) (hb : c.code = cc) (hP : HW g S H) (hS : va_S (Ab g) s.heap H locs) {i : Int32} {j : Nat} {x : Int64} (hi : i = nI j) (hj : j < 1) (hdg : decode cc pc = .ok (.lastore, 1)) (kk : ∀ (H1 : Heap) (locs1 : List Loc), HW g (wsOut S (vp_updL (wOut S) j x)) H1 → va_S (Ab g) s.heap H1 locs1 → W p l e R s m args below meth c H1 locs1 cells slots Q (F0 m (pc + 1) ls rest)) : W p l e R s m args below meth c H locs cells slots Q (F0 m (pc) ls (.long x :: .int i :: .ref (gA g 27) :: rest)) := by
  subst hi
  refine va_last (D := gD g) (f := wOut S) C.1 hb C.2.2.2.1 hP (wD C.2.2.2.2.2.2.2.2.2 S) hS 27 1 rfl rfl (vp_in_nI hj (by decide)) hdg (fun H1 locs1 hP1 _ hS1 => kk H1 locs1 ?_ hS1)
  rw [nI_clamp (by omega)] at hP1
  exact hP1
theorem al_fac (C : CW g own p s m args) (hb : c.code = cc) (hP : HW g S H) {i : Int32} {t : Nat} (hi : i = nI t) (ht : t < 3) (hdg : decode cc pc = .ok (.aaload, 1)) (kk : W p l e R s m args below meth c H locs cells slots Q (F0 m (pc + 1) ls (.ref (gA g (3 + t)) :: rest))) : W p l e R s m args below meth c H locs cells slots Q (F0 m (pc) ls (.int i :: .ref (gA g 1) :: rest)) := by
  subst hi
  have hin : vp_in (nI t) 3 := vp_in_nI ht (by decide)
  have hlt : (nI t).toNatClampNeg < 3 := by rw [nI_clamp (by omega)]; exact ht
  refine W.aald (v := .ref (gA g (3 + t))) (ty := .array .int) C.1 hb (hP 1 _ rfl) ((C.2.2.2.1.2 3 _ rfl).1 3 (fun j => va_rf (some (gA g (3 + j))))) rfl (fun q => by cases q) (by show ¬ (nI t < 0 ∨ (arrV _ _ _).slots.size ≤ _); rw [arrV_size]; exact hin) (by show (arrV _ _ _).slots[_]? = _; rw [arrV_read _ _ hlt, nI_clamp (by omega)]; rfl) rfl rfl hdg kk
theorem wW_fac (g : gG) (S : WS) {t : Nat} (ht : t < 3) : (wW g S)[3 + t]? = some (gA g (3 + t), .inl (gT g 0, 4, .inl (xFac S t))) := by
  rcases (show t = 0 ∨ t = 1 ∨ t = 2 by omega) with rfl | rfl | rfl <;> rfl
theorem wW_sfac (g : gG) (S : WS) {t : Nat} (ht : t < 3) (f : Nat → Int32) : (wW g S).set (3 + t) (gA g (3 + t), .inl (gT g 0, 4, .inl f)) = wW g (xsFac S t f) := by
  rcases (show t = 0 ∨ t = 1 ∨ t = 2 by omega) with rfl | rfl | rfl <;> rfl
theorem ldX_fac (C : CW g own p s m args) (hb : c.code = cc) (hP : HW g S H) {t : Nat} (ht : t < 3) {i : Int32} {j : Nat} (hi : i = nI j) (hj : j < 4) (hdg : decode cc pc = .ok (.iaload, 1)) (kk : W p l e R s m args below meth c H locs cells slots Q (F0 m (pc + 1) ls (.int (xFac S t j) :: rest))) : W p l e R s m args below meth c H locs cells slots Q (F0 m (pc) ls (.int i :: .ref (gA g (3 + t)) :: rest)) := by
  subst hi
  refine va_iald (D := gD g) (f := xFac S t) C.1 hb C.2.2.2.1 hP (3 + t) 0 (wW_fac g S ht) rfl (vp_in_nI hj (by decide)) hdg ?_
  rw [nI_clamp (by omega)]
  exact kk
theorem stX_fac (C : CW g own p s m args) (hb : c.code = cc) (hP : HW g S H) (hS : va_S (Ab g) s.heap H locs) {t : Nat} (ht : t < 3) {i : Int32} {j : Nat} {x : Int32} (hi : i = nI j) (hj : j < 4) (hdg : decode cc pc = .ok (.iastore, 1)) (kk : ∀ (H1 : Heap) (locs1 : List Loc), HW g (xsFac S t (upd (xFac S t) j x)) H1 → va_S (Ab g) s.heap H1 locs1 → W p l e R s m args below meth c H1 locs1 cells slots Q (F0 m (pc + 1) ls rest)) : W p l e R s m args below meth c H locs cells slots Q (F0 m (pc) ls (.int x :: .int i :: .ref (gA g (3 + t)) :: rest)) := by
  subst hi
  refine va_iast (D := gD g) (f := xFac S t) C.1 hb C.2.2.2.1 hP (wD C.2.2.2.2.2.2.2.2.2 S) hS (3 + t) 0 (wW_fac g S ht) rfl (vp_in_nI hj (by decide)) hdg (fun H1 locs1 hP1 _ hS1 => kk H1 locs1 ?_ hS1)
  rw [nI_clamp (by omega), wW_sfac g S ht] at hP1
  exact hP1
theorem al_lev (C : CW g own p s m args) (hb : c.code = cc) (hP : HW g S H) {i : Int32} {t : Nat} (hi : i = nI t) (ht : t < 3) (hdg : decode cc pc = .ok (.aaload, 1)) (kk : W p l e R s m args below meth c H locs cells slots Q (F0 m (pc + 1) ls (.ref (gA g (6 + t)) :: rest))) : W p l e R s m args below meth c H locs cells slots Q (F0 m (pc) ls (.int i :: .ref (gA g 2) :: rest)) := by
  subst hi
  have hin : vp_in (nI t) 3 := vp_in_nI ht (by decide)
  have hlt : (nI t).toNatClampNeg < 3 := by rw [nI_clamp (by omega)]; exact ht
  refine W.aald (v := .ref (gA g (6 + t))) (ty := .array .int) C.1 hb (hP 2 _ rfl) ((C.2.2.2.1.2 3 _ rfl).1 3 (fun j => va_rf (some (gA g (6 + j))))) rfl (fun q => by cases q) (by show ¬ (nI t < 0 ∨ (arrV _ _ _).slots.size ≤ _); rw [arrV_size]; exact hin) (by show (arrV _ _ _).slots[_]? = _; rw [arrV_read _ _ hlt, nI_clamp (by omega)]; rfl) rfl rfl hdg kk
theorem wW_lev (g : gG) (S : WS) {t : Nat} (ht : t < 3) : (wW g S)[6 + t]? = some (gA g (6 + t), .inl (gT g 0, 40, .inl (xLev S t))) := by
  rcases (show t = 0 ∨ t = 1 ∨ t = 2 by omega) with rfl | rfl | rfl <;> rfl
theorem wW_slev (g : gG) (S : WS) {t : Nat} (ht : t < 3) (f : Nat → Int32) : (wW g S).set (6 + t) (gA g (6 + t), .inl (gT g 0, 40, .inl f)) = wW g (xsLev S t f) := by
  rcases (show t = 0 ∨ t = 1 ∨ t = 2 by omega) with rfl | rfl | rfl <;> rfl
theorem ldX_lev (C : CW g own p s m args) (hb : c.code = cc) (hP : HW g S H) {t : Nat} (ht : t < 3) {i : Int32} {j : Nat} (hi : i = nI j) (hj : j < 40) (hdg : decode cc pc = .ok (.iaload, 1)) (kk : W p l e R s m args below meth c H locs cells slots Q (F0 m (pc + 1) ls (.int (xLev S t j) :: rest))) : W p l e R s m args below meth c H locs cells slots Q (F0 m (pc) ls (.int i :: .ref (gA g (6 + t)) :: rest)) := by
  subst hi
  refine va_iald (D := gD g) (f := xLev S t) C.1 hb C.2.2.2.1 hP (6 + t) 0 (wW_lev g S ht) rfl (vp_in_nI hj (by decide)) hdg ?_
  rw [nI_clamp (by omega)]
  exact kk
theorem stX_lev (C : CW g own p s m args) (hb : c.code = cc) (hP : HW g S H) (hS : va_S (Ab g) s.heap H locs) {t : Nat} (ht : t < 3) {i : Int32} {j : Nat} {x : Int32} (hi : i = nI j) (hj : j < 40) (hdg : decode cc pc = .ok (.iastore, 1)) (kk : ∀ (H1 : Heap) (locs1 : List Loc), HW g (xsLev S t (upd (xLev S t) j x)) H1 → va_S (Ab g) s.heap H1 locs1 → W p l e R s m args below meth c H1 locs1 cells slots Q (F0 m (pc + 1) ls rest)) : W p l e R s m args below meth c H locs cells slots Q (F0 m (pc) ls (.int x :: .int i :: .ref (gA g (6 + t)) :: rest)) := by
  subst hi
  refine va_iast (D := gD g) (f := xLev S t) C.1 hb C.2.2.2.1 hP (wD C.2.2.2.2.2.2.2.2.2 S) hS (6 + t) 0 (wW_lev g S ht) rfl (vp_in_nI hj (by decide)) hdg (fun H1 locs1 hP1 _ hS1 => kk H1 locs1 ?_ hS1)
  rw [nI_clamp (by omega), wW_slev g S ht] at hP1
  exact hP1
theorem gX_LEVELS (C : CW g RX0 p s m args) (hb : c.code = cc) (hS : va_S (Ab g) s.heap H locs) (hdg : decode cc pc = .ok (.getstatic 130, 3)) (kk : W p l e R s m args below meth c H locs cells slots Q (F0 m (pc + 3) ls (.ref (gL g) :: rest))) : W p l e R s m args below meth c H locs cells slots Q (F0 m (pc) ls rest) :=
  va_gets C.1 hb C.2.2.2.2.1 hS C.2.1 (C.2.2.1 _ wm_70) (fun _ h9 => h9) hdg kk
theorem ldX_LEVELS (C : CW g own p s m args) (hb : c.code = cc) (hS : va_S (Ab g) s.heap H locs) {i : Int32} {j : Nat} (hi : i = nI j) (hj : j < 3) (hdg : decode cc pc = .ok (.iaload, 1)) (kk : W p l e R s m args below meth c H locs cells slots Q (F0 m (pc + 1) ls (.int (nI (levN j)) :: rest))) : W p l e R s m args below meth c H locs cells slots Q (F0 m (pc) ls (.int i :: .ref (gL g) :: rest)) := by
  subst hi
  exact va_ti C.1 hb C.2.2.2.2.2.1 hS (vp_in_nI hj (by decide)) (by rw [nI_clamp (by omega)]) hdg kk
theorem lc_le (C : CW g own p s m args) (hb : c.code = cc) {x y : Int64} {off : Int} {tgt : Nat} (hd0 : decode cc pc = .ok (.lcmp, 1)) (hdg : decode cc (pc + 1) = .ok (.ifCond .le off, 3)) (ht : ((pc + 1 : Nat) : Int) + off = (tgt : Int)) (kt : x ≤ y → W p l e R s m args below meth c H locs cells slots Q (F0 m (tgt) ls rest)) (kf : ¬ x ≤ y → W p l e R s m args below meth c H locs cells slots Q (F0 m (pc + 4) ls rest)) : W p l e R s m args below meth c H locs cells slots Q (F0 m (pc) ls (.long y :: .long x :: rest)) := by
  refine W.lcmp C.1 hb hd0 ?_
  refine lv_if_le C.1 hb hdg ht (fun h => kt ?_) (fun h => kf ?_)
  · exact lc_le_iff.mp h
  · exact fun q => h (lc_le_iff.mpr q)
theorem lc_ge (C : CW g own p s m args) (hb : c.code = cc) {x y : Int64} {off : Int} {tgt : Nat} (hd0 : decode cc pc = .ok (.lcmp, 1)) (hdg : decode cc (pc + 1) = .ok (.ifCond .ge off, 3)) (ht : ((pc + 1 : Nat) : Int) + off = (tgt : Int)) (kt : y ≤ x → W p l e R s m args below meth c H locs cells slots Q (F0 m (tgt) ls rest)) (kf : ¬ y ≤ x → W p l e R s m args below meth c H locs cells slots Q (F0 m (pc + 4) ls rest)) : W p l e R s m args below meth c H locs cells slots Q (F0 m (pc) ls (.long y :: .long x :: rest)) := by
  refine W.lcmp C.1 hb hd0 ?_
  refine lv_if_ge C.1 hb hdg ht (fun h => kt ?_) (fun h => kf ?_)
  · exact lc_ge_iff.mp h
  · exact fun q => h (lc_ge_iff.mpr q)
theorem lc_lt (C : CW g own p s m args) (hb : c.code = cc) {x y : Int64} {off : Int} {tgt : Nat} (hd0 : decode cc pc = .ok (.lcmp, 1)) (hdg : decode cc (pc + 1) = .ok (.ifCond .lt off, 3)) (ht : ((pc + 1 : Nat) : Int) + off = (tgt : Int)) (kt : x < y → W p l e R s m args below meth c H locs cells slots Q (F0 m (tgt) ls rest)) (kf : ¬ x < y → W p l e R s m args below meth c H locs cells slots Q (F0 m (pc + 4) ls rest)) : W p l e R s m args below meth c H locs cells slots Q (F0 m (pc) ls (.long y :: .long x :: rest)) := by
  refine W.lcmp C.1 hb hd0 ?_
  refine lv_if_lt C.1 hb hdg ht (fun h => kt ?_) (fun h => kf ?_)
  · exact lc_lt_iff.mp h
  · exact fun q => h (lc_lt_iff.mpr q)
theorem lc_gt (C : CW g own p s m args) (hb : c.code = cc) {x y : Int64} {off : Int} {tgt : Nat} (hd0 : decode cc pc = .ok (.lcmp, 1)) (hdg : decode cc (pc + 1) = .ok (.ifCond .gt off, 3)) (ht : ((pc + 1 : Nat) : Int) + off = (tgt : Int)) (kt : y < x → W p l e R s m args below meth c H locs cells slots Q (F0 m (tgt) ls rest)) (kf : ¬ y < x → W p l e R s m args below meth c H locs cells slots Q (F0 m (pc + 4) ls rest)) : W p l e R s m args below meth c H locs cells slots Q (F0 m (pc) ls (.long y :: .long x :: rest)) := by
  refine W.lcmp C.1 hb hd0 ?_
  refine lv_if_gt C.1 hb hdg ht (fun h => kt ?_) (fun h => kf ?_)
  · exact lc_gt_iff.mp h
  · exact fun q => h (lc_gt_iff.mpr q)
theorem lc_eq (C : CW g own p s m args) (hb : c.code = cc) {x y : Int64} {off : Int} {tgt : Nat} (hd0 : decode cc pc = .ok (.lcmp, 1)) (hdg : decode cc (pc + 1) = .ok (.ifCond .eq off, 3)) (ht : ((pc + 1 : Nat) : Int) + off = (tgt : Int)) (kt : x = y → W p l e R s m args below meth c H locs cells slots Q (F0 m (tgt) ls rest)) (kf : ¬ x = y → W p l e R s m args below meth c H locs cells slots Q (F0 m (pc + 4) ls rest)) : W p l e R s m args below meth c H locs cells slots Q (F0 m (pc) ls (.long y :: .long x :: rest)) := by
  refine W.lcmp C.1 hb hd0 ?_
  refine lv_if_eq C.1 hb hdg ht (fun h => kt ?_) (fun h => kf ?_)
  · exact lc_eq_iff.mp h
  · exact fun q => h (lc_eq_iff.mpr q)
theorem lc_ne (C : CW g own p s m args) (hb : c.code = cc) {x y : Int64} {off : Int} {tgt : Nat} (hd0 : decode cc pc = .ok (.lcmp, 1)) (hdg : decode cc (pc + 1) = .ok (.ifCond .ne off, 3)) (ht : ((pc + 1 : Nat) : Int) + off = (tgt : Int)) (kt : ¬ x = y → W p l e R s m args below meth c H locs cells slots Q (F0 m (tgt) ls rest)) (kf : x = y → W p l e R s m args below meth c H locs cells slots Q (F0 m (pc + 4) ls rest)) : W p l e R s m args below meth c H locs cells slots Q (F0 m (pc) ls (.long y :: .long x :: rest)) := by
  refine W.lcmp C.1 hb hd0 ?_
  refine lv_if_ne C.1 hb hdg ht (fun h => kt ?_) (fun h => kf ?_)
  · exact lc_ne_iff.mp h
  · exact lc_eq_iff.mp h
end WROWS
end
section
/-! entries, ends and calls of methods over the one world -/
section WCALLS
variable {p : Program} {l : Launch} {e : Env} {R : Room} {s : State} {m : MethodId} {args : Array Value} {below : List Frame} {meth : Method} {c : Code} {H : Heap} {locs : List Loc} {cells slots : Nat} {Q : State → Prop}
variable {cc : ByteArray} {pc : Nat} {ls : Array Slot} {rest st0 : List Value} {g : gG} {S S' : WS} {own : String}
theorem metI {y : MethodName} {maxL : Nat} {ret : Option FieldType} {rm : Room} {As : List Value} {Qc : Array Value → State → Outcome → State → Prop} {free : Addr → Prop} (hy : plainName y.cls = true) (hlen : (lg_sl As).length ≤ maxL)
    (body : ∀ p e s m below meth c, CW g y.cls p s m As.toArray → c.code = cc → c.maxLocals = maxL → meth.sig.returnType = ret → meth.locks = false → HW g S s.heap → ∀ ls, lv_has ls maxL (lv_args 0 As) → W p l e rm s m As.toArray below meth c s.heap [] 0 0 (MQ below Qc As.toArray s 0 0 free) (F0 m 0 ls [])) : Met l y (wA y cc maxL ret) rm (PW g S As) Qc 0 0 free := by
  refine Met.ofW (cc := cc) (maxL := maxL) (ret := ret) hy rfl ?_
  intro p e s m args below meth c s₁ B hml hv
  obtain ⟨rfl, hK, hP⟩ := hv
  have hts := atoms_spec (ws := wA y cc maxL ret) B.pre
  rw [lg_entry_eq]
  exact body p e s m below meth c ⟨B.exec, findClass_of_methodNamed B.named, fun w h => hts w (List.mem_cons_of_mem _ h), hK⟩ B.bytes hml B.returns B.notSynchronized hP _ (lv_entry As hlen)
theorem rdI (C : CW g own p s m args) (hb : c.code = cc) (hr : meth.sig.returnType = some .int) (hlk : meth.locks = false) {v v' : Int32} (hdg : decode cc pc = .ok (.ireturn, 1)) (hv : v' = v) : W p l e R s m args below meth c s.heap [] 0 0 (MQ below (RQ (some (.int v))) args s 0 0 (fun _ => False)) (F0 m pc ls [.int v']) := by
  subst hv
  exact W.iret C.1 hb hr (fun t ht _ => ⟨rfl, ht⟩) (fun _ h => by cases h) hdg hlk
theorem rdZ (C : CW g own p s m args) (hb : c.code = cc) (hr : meth.sig.returnType = some .boolean) (hlk : meth.locks = false) {v' : Int32} {b : Bool} (hdg : decode cc pc = .ok (.ireturn, 1)) (hv : v' = bI b) : W p l e R s m args below meth c s.heap [] 0 0 (MQ below (RQ (some (.int (bI b)))) args s 0 0 (fun _ => False)) (F0 m pc ls [.int v']) := by
  subst hv
  exact W.zret C.1 hb hr (bI_nar b) (fun t ht _ => ⟨rfl, ht⟩) (fun _ h => by cases h) hdg hlk
theorem rdL (C : CW g own p s m args) (hb : c.code = cc) (hr : meth.sig.returnType = some .long) (hlk : meth.locks = false) {v v' : Int64} (hdg : decode cc pc = .ok (.lreturn, 1)) (hv : v' = v) : W p l e R s m args below meth c s.heap [] 0 0 (MQ below (RQ (some (.long v))) args s 0 0 (fun _ => False)) (F0 m pc ls [.long v']) := by
  subst hv
  exact W.lret C.1 hb hr (fun t ht _ => ⟨rfl, ht⟩) (fun _ h => by cases h) hdg hlk
theorem wrI (C : CW g own p s m args) (hb : c.code = cc) (hr : meth.sig.returnType = some .int) (hlk : meth.locks = false) (hP : HW g S H) (hS : va_S (Ab g) s.heap H locs) {v v' : Int32} (hdg : decode cc pc = .ok (.ireturn, 1)) (hv : v' = v) (hE : S = S') : W p l e R s m args below meth c H locs 0 0 (MQ below (WQ g S' (some (.int v))) args s 0 0 (Ab g)) (F0 m pc ls [.int v']) := by
  subst hv
  subst hE
  exact W.iret C.1 hb hr (fun t ht _ => ⟨rfl, by rw [ht]; exact hP, hS.F ht⟩) hS.2.2 hdg hlk
theorem wrZ (C : CW g own p s m args) (hb : c.code = cc) (hr : meth.sig.returnType = some .boolean) (hlk : meth.locks = false) (hP : HW g S H) (hS : va_S (Ab g) s.heap H locs) {v' : Int32} {b : Bool} (hdg : decode cc pc = .ok (.ireturn, 1)) (hv : v' = bI b) (hE : S = S') : W p l e R s m args below meth c H locs 0 0 (MQ below (WQ g S' (some (.int (bI b)))) args s 0 0 (Ab g)) (F0 m pc ls [.int v']) := by
  subst hv
  subst hE
  exact W.zret C.1 hb hr (bI_nar b) (fun t ht _ => ⟨rfl, by rw [ht]; exact hP, hS.F ht⟩) hS.2.2 hdg hlk
theorem wrL (C : CW g own p s m args) (hb : c.code = cc) (hr : meth.sig.returnType = some .long) (hlk : meth.locks = false) (hP : HW g S H) (hS : va_S (Ab g) s.heap H locs) {v v' : Int64} (hdg : decode cc pc = .ok (.lreturn, 1)) (hv : v' = v) (hE : S = S') : W p l e R s m args below meth c H locs 0 0 (MQ below (WQ g S' (some (.long v))) args s 0 0 (Ab g)) (F0 m pc ls [.long v']) := by
  subst hv
  subst hE
  exact W.lret C.1 hb hr (fun t ht _ => ⟨rfl, by rw [ht]; exact hP, hS.F ht⟩) hS.2.2 hdg hlk
theorem wrV (C : CW g own p s m args) (hb : c.code = cc) (hr : meth.sig.returnType = none) (hlk : meth.locks = false) (hP : HW g S H) (hS : va_S (Ab g) s.heap H locs) (hdg : decode cc pc = .ok (.return_, 1)) (hE : S = S') : W p l e R s m args below meth c H locs 0 0 (MQ below (WQ g S' none) args s 0 0 (Ab g)) (F0 m pc ls []) := by
  subst hE
  exact W.vret C.1 hb hr (fun t ht _ => ⟨rfl, by rw [ht]; exact hP, hS.F ht⟩) hS.2.2 hdg hlk
theorem run_rd {a : Array Value} {v : Value} (hr : va_Run p l e R s m args below meth c H locs cells slots 0 0 (F0 m pc ls st0) rest (RQ (some v) a) (fun _ => False)) (kk : W p l e R s m args below meth c H locs cells slots Q (F0 m (pc + 3) ls (v :: rest))) : W p l e R s m args below meth c H locs cells slots Q (F0 m pc ls st0) := by
  intro T hT X
  obtain ⟨v', st₀, t, T', L, h0, X', hL, e1, e2, ⟨hv, hh⟩, st⟩ := hr T hT X
  cases hv
  obtain ⟨t2, a1, b1⟩ := kk T' (by rw [e1, hh, h0]) (Stand.forget X' (fun q h => (hL q h).elim))
  exact ⟨t2, st t2 a1, b1⟩
theorem run_wr {a : Array Value} {v : Option Value} (hr : va_Run p l e R s m args below meth c H locs cells slots 0 0 (F0 m pc ls st0) rest (WQ g S' v a) (Ab g)) (hS : va_S (Ab g) s.heap H locs) (kk : ∀ (H1 : Heap) (locs1 : List Loc), HW g S' H1 → va_S (Ab g) s.heap H1 locs1 → W p l e R s m args below meth c H1 locs1 cells slots Q (F0 m (pc + 3) ls (v.toList ++ rest))) : W p l e R s m args below meth c H locs cells slots Q (F0 m pc ls st0) := by
  intro T hT X
  obtain ⟨v', st₀, t, T', L, h0, X', hL, e1, e2, ⟨hv, hp, hz, hk⟩, st⟩ := hr T hT X
  cases hv
  rw [h0] at hz hk
  obtain ⟨t2, a1, b1⟩ := kk T'.heap (locs ++ L) (by rw [e1]; exact hp) ⟨Nat.le_trans hS.1 (by rw [e1]; exact hz), fun q h1 h2 => by rw [e1, hk q (Nat.lt_of_lt_of_le h1 hS.1) h2]; exact hS.2.1 q h1 h2, fun q hq => (List.mem_append.mp hq).elim (hS.2.2 q) (fun h => hL q h)⟩ T' rfl X'
  exact ⟨t2, st t2 a1, b1⟩
theorem wA_in {y : MethodName} {bytes : ByteArray} {maxL : Nat} {ret : Option FieldType} (k : Cond.code y bytes maxL ret ∈ WA) : GoodIn WA (wA y bytes maxL ret) := by
  intro w hw
  have h : w ∈ WA := (List.mem_cons.mp hw).elim (fun q => by rw [q]; exact k) id
  exact ⟨h, good_of_word (List.all_eq_true.mp WA_good w h)⟩
theorem cB (C : CW g own p s m args) {y : MethodName} {bytes : ByteArray} {maxL n index : Nat} {ret : Option FieldType} {rm : Room} (k1 : Cond.methodLink own index y ∈ WA) (k3 : Cond.code y bytes maxL ret ∈ WA) (k4 : Cond.initialized y.cls ∈ WA)
    (hd : y.cls ≠ "java/lang/invoke/MethodHandle" ∧ y.cls ≠ "java/lang/invoke/VarHandle" ∧ (parseMethodDescriptor y.desc).map (fun d => d.parameters.length) = some n) (hR : rm.cells = 0 ∧ rm.slots = 0 ∧ rm.frames + 1 ≤ R.frames ∧ 8 + (maxL + 11) + rm.locals ≤ R.locals) : CallB R s args own index y bytes maxL ret (wA y bytes maxL ret) rm 0 0 n :=
  callB_of n C.2.2.1 (wA_in k3) rfl hR.1 hR.2.1 (C.2.2.1 _ k4) (C.2.2.1 _ k1) hd hR.2.2
/-- a static call -/
theorem cRunS (C : CW g own p s m args) (hb : c.code = cc) (hml : c.maxLocals = ls.size) (hP : HW g S H) (hS : va_S (Ab g) s.heap H locs) {y : MethodName} {bytes : ByteArray} {maxL index n : Nat} {ret : Option FieldType} {rm : Room} {As : List Value} {Qc : Array Value → State → Outcome → State → Prop} {free : Addr → Prop}
    (hM : Met l y (wA y bytes maxL ret) rm (PW g S As) Qc 0 0 free) (k1 : Cond.methodLink own index y ∈ WA) (k2 : Cond.static y ∈ WA) (k3 : Cond.code y bytes maxL ret ∈ WA) (k4 : Cond.initialized y.cls ∈ WA)
    (hd : y.cls ≠ "java/lang/invoke/MethodHandle" ∧ y.cls ≠ "java/lang/invoke/VarHandle" ∧ (parseMethodDescriptor y.desc).map (fun d => d.parameters.length) = some n) (hn : As.length = n) (hR : rm.cells = 0 ∧ rm.slots = 0 ∧ rm.frames + 1 ≤ R.frames ∧ 8 + (maxL + 11) + rm.locals ≤ R.locals)
    (hroom : (rest.map fun v => v.category).sum ≤ 8) (hst : st0 = As.reverse ++ rest) (hf : cells ≤ R.cells ∧ slots ≤ R.slots) (hdg : decode cc pc = .ok (.invokestatic index, 3)) : va_Run p l e R s m args below meth c H locs cells slots 0 0 (F0 m pc ls st0) rest (Qc As.toArray) free :=
  va_runS (Ts := WA) (own := own) ⟨C.1, hb, hml, C.2.1, C.2.2.1⟩ hM ⟨cB C k1 k3 k4 hd hR, C.2.2.1 _ k2⟩ ⟨PW.blind g S As, fun U hU hW => ⟨rfl, KS.at C hS hU hW, by rw [hU]; exact hP⟩⟩ rfl hn rfl hst (lv_room hroom) hdg ⟨by simpa using hf.1, by simpa using hf.2⟩
/-- a call of the class's object, or of the reference's -/
theorem cRunV (C : CW g own p s m args) (hb : c.code = cc) (hml : c.maxLocals = ls.size) (hP : HW g S H) (hS : va_S (Ab g) s.heap H locs) {y : MethodName} {bytes : ByteArray} {maxL index b q0 ci n : Nat} {ret : Option FieldType} {rm : Room} {As fs : List Value} {r : vw_C} {Qc : Array Value → State → Outcome → State → Prop} {free : Addr → Prop} (he : (wW g S)[q0]? = some (b, .inr (ci, fs))) (hc : vwCl[ci]? = some r) (hy : y.cls = r.1)
    (hM : Met l y (wA y bytes maxL ret) rm (PW g S (.ref b :: As)) Qc 0 0 free) (k1 : Cond.methodLink own index y ∈ WA) (k2 : Cond.instanceMethod y ∈ WA) (k5 : Cond.selects y.cls y y ∈ WA) (k3 : Cond.code y bytes maxL ret ∈ WA) (k4 : Cond.initialized y.cls ∈ WA)
    (hd : y.cls ≠ "java/lang/invoke/MethodHandle" ∧ y.cls ≠ "java/lang/invoke/VarHandle" ∧ (parseMethodDescriptor y.desc).map (fun d => d.parameters.length) = some n) (hn : As.length = n) (hR : rm.cells = 0 ∧ rm.slots = 0 ∧ rm.frames + 1 ≤ R.frames ∧ 8 + (maxL + 11) + rm.locals ≤ R.locals)
    (hroom : (rest.map fun v => v.category).sum ≤ 8) (hst : st0 = As.reverse ++ .ref b :: rest) (hf : cells ≤ R.cells ∧ slots ≤ R.slots) (hdg : decode cc pc = .ok (.invokevirtual index, 3)) : va_Run p l e R s m args below meth c H locs cells slots 0 0 (F0 m pc ls st0) rest (Qc (Value.ref b :: As).toArray) free :=
  va_runV (Ts := WA) (own := own) (C := y.cls) ⟨C.1, hb, hml, C.2.1, C.2.2.1⟩ hM ⟨cB C k1 k3 k4 hd hR, C.2.2.1 _ k2, C.2.2.1 _ k5⟩ ⟨PW.blind g S _, by rw [hy]; exact va_recv C.2.2.2.1 hP hc he, fun U hU hW => ⟨rfl, KS.at C hS hU hW, by rw [hU]; exact hP⟩⟩ rfl hn rfl hst (lv_room hroom) hdg ⟨by simpa using hf.1, by simpa using hf.2⟩
theorem cRunX (C : CW g own p s m args) (hb : c.code = cc) (hml : c.maxLocals = ls.size) (hP : HW g S H) (hS : va_S (Ab g) s.heap H locs) {y : MethodName} {bytes : ByteArray} {maxL index n : Nat} {ret : Option FieldType} {rm : Room} {As : List Value} {Qc : Array Value → State → Outcome → State → Prop} {free : Addr → Prop} (hy : y.cls = RX0)
    (hM : Met l y (wA y bytes maxL ret) rm (PW g S (.ref (gA g 0) :: As)) Qc 0 0 free) (k1 : Cond.methodLink own index y ∈ WA) (k2 : Cond.instanceMethod y ∈ WA) (k5 : Cond.selects y.cls y y ∈ WA) (k3 : Cond.code y bytes maxL ret ∈ WA) (k4 : Cond.initialized y.cls ∈ WA)
    (hd : y.cls ≠ "java/lang/invoke/MethodHandle" ∧ y.cls ≠ "java/lang/invoke/VarHandle" ∧ (parseMethodDescriptor y.desc).map (fun d => d.parameters.length) = some n) (hn : As.length = n) (hR : rm.cells = 0 ∧ rm.slots = 0 ∧ rm.frames + 1 ≤ R.frames ∧ 8 + (maxL + 11) + rm.locals ≤ R.locals)
    (hroom : (rest.map fun v => v.category).sum ≤ 8) (hst : st0 = As.reverse ++ .ref (gA g 0) :: rest) (hf : cells ≤ R.cells ∧ slots ≤ R.slots) (hdg : decode cc pc = .ok (.invokevirtual index, 3)) : va_Run p l e R s m args below meth c H locs cells slots 0 0 (F0 m pc ls st0) rest (Qc (Value.ref (gA g 0) :: As).toArray) free :=
  cRunV C hb hml hP hS (q0 := 0) (ci := 0) rfl rfl hy hM k1 k2 k5 k3 k4 hd hn hR hroom hst hf hdg
theorem cRunM (C : CW g own p s m args) (hb : c.code = cc) (hml : c.maxLocals = ls.size) (hP : HW g S H) (hS : va_S (Ab g) s.heap H locs) {y : MethodName} {bytes : ByteArray} {maxL index n : Nat} {ret : Option FieldType} {rm : Room} {As : List Value} {Qc : Array Value → State → Outcome → State → Prop} {free : Addr → Prop} (hy : y.cls = RX1)
    (hM : Met l y (wA y bytes maxL ret) rm (PW g S (.ref (gA g 17) :: As)) Qc 0 0 free) (k1 : Cond.methodLink own index y ∈ WA) (k2 : Cond.instanceMethod y ∈ WA) (k5 : Cond.selects y.cls y y ∈ WA) (k3 : Cond.code y bytes maxL ret ∈ WA) (k4 : Cond.initialized y.cls ∈ WA)
    (hd : y.cls ≠ "java/lang/invoke/MethodHandle" ∧ y.cls ≠ "java/lang/invoke/VarHandle" ∧ (parseMethodDescriptor y.desc).map (fun d => d.parameters.length) = some n) (hn : As.length = n) (hR : rm.cells = 0 ∧ rm.slots = 0 ∧ rm.frames + 1 ≤ R.frames ∧ 8 + (maxL + 11) + rm.locals ≤ R.locals)
    (hroom : (rest.map fun v => v.category).sum ≤ 8) (hst : st0 = As.reverse ++ .ref (gA g 17) :: rest) (hf : cells ≤ R.cells ∧ slots ≤ R.slots) (hdg : decode cc pc = .ok (.invokevirtual index, 3)) : va_Run p l e R s m args below meth c H locs cells slots 0 0 (F0 m pc ls st0) rest (Qc (Value.ref (gA g 17) :: As).toArray) free :=
  cRunV C hb hml hP hS (q0 := 17) (ci := 1) rfl rfl hy hM k1 k2 k5 k3 k4 hd hn hR hroom hst hf hdg
theorem toI {x y : Int32} (h : x = y) (kk : W p l e R s m args below meth c H locs cells slots Q (F0 m pc ls (.int y :: rest))) : W p l e R s m args below meth c H locs cells slots Q (F0 m pc ls (.int x :: rest)) := by
  subst h; exact kk
theorem toL {x y : Int64} (h : x = y) (kk : W p l e R s m args below meth c H locs cells slots Q (F0 m pc ls (.long y :: rest))) : W p l e R s m args below meth c H locs cells slots Q (F0 m pc ls (.long x :: rest)) := by
  subst h; exact kk
theorem bz_eq (C : CW g own p s m args) (hb : c.code = cc) {b : Bool} {off : Int} {tgt : Nat} (hdg : decode cc pc = .ok (.ifCond .eq off, 3)) (ht : (pc : Int) + off = (tgt : Int)) (kt : b = false → W p l e R s m args below meth c H locs cells slots Q (F0 m tgt ls rest)) (kf : b = true → W p l e R s m args below meth c H locs cells slots Q (F0 m (pc + 3) ls rest)) : W p l e R s m args below meth c H locs cells slots Q (F0 m pc ls (.int (bI b) :: rest)) :=
  lv_if_eq C.1 hb hdg ht (fun h => kt ((bI_0 b).mp h)) (fun h => kf (by cases b; exact absurd rfl h; rfl))
theorem bz_ne (C : CW g own p s m args) (hb : c.code = cc) {b : Bool} {off : Int} {tgt : Nat} (hdg : decode cc pc = .ok (.ifCond .ne off, 3)) (ht : (pc : Int) + off = (tgt : Int)) (kt : b = true → W p l e R s m args below meth c H locs cells slots Q (F0 m tgt ls rest)) (kf : b = false → W p l e R s m args below meth c H locs cells slots Q (F0 m (pc + 3) ls rest)) : W p l e R s m args below meth c H locs cells slots Q (F0 m pc ls (.int (bI b) :: rest)) :=
  lv_if_ne C.1 hb hdg ht (fun h => kt (by cases b; exact absurd rfl h; rfl)) (fun h => kf ((bI_0 b).mp h))
end WCALLS
end
section
theorem dX0_init_0 : decode cX0_init 0 = .ok (.aload_n 0, 1) := by decide +kernel
theorem dX0_init_1 : decode cX0_init 1 = .ok (.invokespecial 1, 3) := by decide +kernel
theorem dX0_init_4 : decode cX0_init 4 = .ok (.aload_n 0, 1) := by decide +kernel
theorem dX0_init_5 : decode cX0_init 5 = .ok (.iconst 3, 1) := by decide +kernel
theorem dX0_init_6 : decode cX0_init 6 = .ok (.iconst 4, 1) := by decide +kernel
theorem dX0_init_7 : decode cX0_init 7 = .ok (.multianewarray 9 2, 4) := by decide +kernel
theorem dX0_init_11 : decode cX0_init 11 = .ok (.putfield 11, 3) := by decide +kernel
theorem dX0_init_14 : decode cX0_init 14 = .ok (.aload_n 0, 1) := by decide +kernel
theorem dX0_init_15 : decode cX0_init 15 = .ok (.iconst 3, 1) := by decide +kernel
theorem dX0_init_16 : decode cX0_init 16 = .ok (.bipush 40, 2) := by decide +kernel
theorem dX0_init_18 : decode cX0_init 18 = .ok (.multianewarray 9 2, 4) := by decide +kernel
theorem dX0_init_22 : decode cX0_init 22 = .ok (.putfield 14, 3) := by decide +kernel
theorem dX0_init_25 : decode cX0_init 25 = .ok (.aload_n 0, 1) := by decide +kernel
theorem dX0_init_26 : decode cX0_init 26 = .ok (.bipush 40, 2) := by decide +kernel
theorem dX0_init_28 : decode cX0_init 28 = .ok (.newarray .long, 2) := by decide +kernel
theorem dX0_init_30 : decode cX0_init 30 = .ok (.putfield 17, 3) := by decide +kernel
theorem dX0_init_33 : decode cX0_init 33 = .ok (.aload_n 0, 1) := by decide +kernel
theorem dX0_init_34 : decode cX0_init 34 = .ok (.bipush 40, 2) := by decide +kernel
theorem dX0_init_36 : decode cX0_init 36 = .ok (.newarray .long, 2) := by decide +kernel
theorem dX0_init_38 : decode cX0_init 38 = .ok (.putfield 21, 3) := by decide +kernel
theorem dX0_init_41 : decode cX0_init 41 = .ok (.aload_n 0, 1) := by decide +kernel
theorem dX0_init_42 : decode cX0_init 42 = .ok (.bipush 40, 2) := by decide +kernel
theorem dX0_init_44 : decode cX0_init 44 = .ok (.newarray .long, 2) := by decide +kernel
theorem dX0_init_46 : decode cX0_init 46 = .ok (.putfield 24, 3) := by decide +kernel
theorem dX0_init_49 : decode cX0_init 49 = .ok (.aload_n 0, 1) := by decide +kernel
theorem dX0_init_50 : decode cX0_init 50 = .ok (.bipush 40, 2) := by decide +kernel
theorem dX0_init_52 : decode cX0_init 52 = .ok (.newarray .int, 2) := by decide +kernel
theorem dX0_init_54 : decode cX0_init 54 = .ok (.putfield 27, 3) := by decide +kernel
theorem dX0_init_57 : decode cX0_init 57 = .ok (.aload_n 0, 1) := by decide +kernel
theorem dX0_init_58 : decode cX0_init 58 = .ok (.bipush 40, 2) := by decide +kernel
theorem dX0_init_60 : decode cX0_init 60 = .ok (.newarray .boolean, 2) := by decide +kernel
theorem dX0_init_62 : decode cX0_init 62 = .ok (.putfield 31, 3) := by decide +kernel
theorem dX0_init_65 : decode cX0_init 65 = .ok (.aload_n 0, 1) := by decide +kernel
theorem dX0_init_66 : decode cX0_init 66 = .ok (.iconst 0, 1) := by decide +kernel
theorem dX0_init_67 : decode cX0_init 67 = .ok (.putfield 35, 3) := by decide +kernel
theorem dX0_init_70 : decode cX0_init 70 = .ok (.aload_n 0, 1) := by decide +kernel
theorem dX0_init_71 : decode cX0_init 71 = .ok (.iconst 0, 1) := by decide +kernel
theorem dX0_init_72 : decode cX0_init 72 = .ok (.putfield 39, 3) := by decide +kernel
theorem dX0_init_75 : decode cX0_init 75 = .ok (.aload_n 0, 1) := by decide +kernel
theorem dX0_init_76 : decode cX0_init 76 = .ok (.iconst 0, 1) := by decide +kernel
theorem dX0_init_77 : decode cX0_init 77 = .ok (.putfield 42, 3) := by decide +kernel
theorem dX0_init_80 : decode cX0_init 80 = .ok (.aload_n 0, 1) := by decide +kernel
theorem dX0_init_81 : decode cX0_init 81 = .ok (.iconst (-1), 1) := by decide +kernel
theorem dX0_init_82 : decode cX0_init 82 = .ok (.putfield 45, 3) := by decide +kernel
theorem dX0_init_85 : decode cX0_init 85 = .ok (.aload_n 0, 1) := by decide +kernel
theorem dX0_init_86 : decode cX0_init 86 = .ok (.sipush 10000, 3) := by decide +kernel
theorem dX0_init_89 : decode cX0_init 89 = .ok (.putfield 48, 3) := by decide +kernel
theorem dX0_init_92 : decode cX0_init 92 = .ok (.aload_n 0, 1) := by decide +kernel
theorem dX0_init_93 : decode cX0_init 93 = .ok (.lconst 0, 1) := by decide +kernel
theorem dX0_init_94 : decode cX0_init 94 = .ok (.putfield 51, 3) := by decide +kernel
theorem dX0_init_97 : decode cX0_init 97 = .ok (.aload_n 0, 1) := by decide +kernel
theorem dX0_init_98 : decode cX0_init 98 = .ok (.bipush 40, 2) := by decide +kernel
theorem dX0_init_100 : decode cX0_init 100 = .ok (.newarray .long, 2) := by decide +kernel
theorem dX0_init_102 : decode cX0_init 102 = .ok (.putfield 55, 3) := by decide +kernel
theorem dX0_init_105 : decode cX0_init 105 = .ok (.aload_n 0, 1) := by decide +kernel
theorem dX0_init_106 : decode cX0_init 106 = .ok (.iconst 4, 1) := by decide +kernel
theorem dX0_init_107 : decode cX0_init 107 = .ok (.newarray .int, 2) := by decide +kernel
theorem dX0_init_109 : decode cX0_init 109 = .ok (.putfield 58, 3) := by decide +kernel
theorem dX0_init_112 : decode cX0_init 112 = .ok (.aload_n 0, 1) := by decide +kernel
theorem dX0_init_113 : decode cX0_init 113 = .ok (.iconst 4, 1) := by decide +kernel
theorem dX0_init_114 : decode cX0_init 114 = .ok (.newarray .int, 2) := by decide +kernel
theorem dX0_init_116 : decode cX0_init 116 = .ok (.putfield 61, 3) := by decide +kernel
theorem dX0_init_119 : decode cX0_init 119 = .ok (.iconst 0, 1) := by decide +kernel
theorem dX0_init_120 : decode cX0_init 120 = .ok (.istore_n 1, 1) := by decide +kernel
theorem dX0_init_121 : decode cX0_init 121 = .ok (.iload_n 1, 1) := by decide +kernel
theorem dX0_init_122 : decode cX0_init 122 = .ok (.iconst 3, 1) := by decide +kernel
theorem dX0_init_123 : decode cX0_init 123 = .ok (.if_icmp .ge 21, 3) := by decide +kernel
theorem dX0_init_126 : decode cX0_init 126 = .ok (.aload_n 0, 1) := by decide +kernel
theorem dX0_init_127 : decode cX0_init 127 = .ok (.getfield 11, 3) := by decide +kernel
theorem dX0_init_130 : decode cX0_init 130 = .ok (.iload_n 1, 1) := by decide +kernel
theorem dX0_init_131 : decode cX0_init 131 = .ok (.aaload, 1) := by decide +kernel
theorem dX0_init_132 : decode cX0_init 132 = .ok (.sipush 10000, 3) := by decide +kernel
theorem dX0_init_135 : decode cX0_init 135 = .ok (.invokestatic 64, 3) := by decide +kernel
theorem dX0_init_138 : decode cX0_init 138 = .ok (.iinc 1 1, 3) := by decide +kernel
theorem dX0_init_141 : decode cX0_init 141 = .ok (.goto (-20), 3) := by decide +kernel
theorem dX0_init_144 : decode cX0_init 144 = .ok (.return_, 1) := by decide +kernel
set_option maxRecDepth 20000 in
theorem dX0_add_0 : decode cX0_add 0 = .ok (.iconst 0, 1) := by decide +kernel
theorem dX0_add_1 : decode cX0_add 1 = .ok (.iload_n 1, 1) := by decide +kernel
theorem dX0_add_2 : decode cX0_add 2 = .ok (.invokestatic 70, 3) := by decide +kernel
theorem dX0_add_5 : decode cX0_add 5 = .ok (.ifCond .eq 19, 3) := by decide +kernel
theorem dX0_add_8 : decode cX0_add 8 = .ok (.iconst 1, 1) := by decide +kernel
theorem dX0_add_9 : decode cX0_add 9 = .ok (.iload_n 2, 1) := by decide +kernel
theorem dX0_add_10 : decode cX0_add 10 = .ok (.invokestatic 70, 3) := by decide +kernel
theorem dX0_add_13 : decode cX0_add 13 = .ok (.ifCond .eq 11, 3) := by decide +kernel
theorem dX0_add_16 : decode cX0_add 16 = .ok (.iconst 2, 1) := by decide +kernel
theorem dX0_add_17 : decode cX0_add 17 = .ok (.iload_n 3, 1) := by decide +kernel
theorem dX0_add_18 : decode cX0_add 18 = .ok (.invokestatic 70, 3) := by decide +kernel
theorem dX0_add_21 : decode cX0_add 21 = .ok (.ifCond .ne 13, 3) := by decide +kernel
theorem dX0_add_24 : decode cX0_add 24 = .ok (.new 74, 3) := by decide +kernel
theorem dX0_add_27 : decode cX0_add 27 = .ok (.dup, 1) := by decide +kernel
theorem dX0_add_28 : decode cX0_add 28 = .ok (.ldc 76, 2) := by decide +kernel
theorem dX0_add_30 : decode cX0_add 30 = .ok (.invokespecial 78, 3) := by decide +kernel
theorem dX0_add_33 : decode cX0_add 33 = .ok (.athrow, 1) := by decide +kernel
theorem dX0_add_34 : decode cX0_add 34 = .ok (.iload 4, 2) := by decide +kernel
theorem dX0_add_36 : decode cX0_add 36 = .ok (.iconst 1, 1) := by decide +kernel
theorem dX0_add_37 : decode cX0_add 37 = .ok (.sipush 1000, 3) := by decide +kernel
theorem dX0_add_40 : decode cX0_add 40 = .ok (.invokestatic 81, 3) := by decide +kernel
theorem dX0_add_43 : decode cX0_add 43 = .ok (.ifCond .eq 26, 3) := by decide +kernel
theorem dX0_add_46 : decode cX0_add 46 = .ok (.iload 5, 2) := by decide +kernel
theorem dX0_add_48 : decode cX0_add 48 = .ok (.iconst 0, 1) := by decide +kernel
theorem dX0_add_49 : decode cX0_add 49 = .ok (.sipush 1000, 3) := by decide +kernel
theorem dX0_add_52 : decode cX0_add 52 = .ok (.invokestatic 81, 3) := by decide +kernel
theorem dX0_add_55 : decode cX0_add 55 = .ok (.ifCond .eq 14, 3) := by decide +kernel
theorem dX0_add_58 : decode cX0_add 58 = .ok (.iload 6, 2) := by decide +kernel
theorem dX0_add_60 : decode cX0_add 60 = .ok (.iconst 0, 1) := by decide +kernel
theorem dX0_add_61 : decode cX0_add 61 = .ok (.ldc 85, 2) := by decide +kernel
theorem dX0_add_63 : decode cX0_add 63 = .ok (.invokestatic 81, 3) := by decide +kernel
theorem dX0_add_66 : decode cX0_add 66 = .ok (.ifCond .ne 13, 3) := by decide +kernel
theorem dX0_add_69 : decode cX0_add 69 = .ok (.new 74, 3) := by decide +kernel
theorem dX0_add_72 : decode cX0_add 72 = .ok (.dup, 1) := by decide +kernel
theorem dX0_add_73 : decode cX0_add 73 = .ok (.ldc 86, 2) := by decide +kernel
theorem dX0_add_75 : decode cX0_add 75 = .ok (.invokespecial 78, 3) := by decide +kernel
theorem dX0_add_78 : decode cX0_add 78 = .ok (.athrow, 1) := by decide +kernel
theorem dX0_add_79 : decode cX0_add 79 = .ok (.aload_n 0, 1) := by decide +kernel
theorem dX0_add_80 : decode cX0_add 80 = .ok (.getfield 35, 3) := by decide +kernel
theorem dX0_add_83 : decode cX0_add 83 = .ok (.bipush 40, 2) := by decide +kernel
theorem dX0_add_85 : decode cX0_add 85 = .ok (.if_icmp .lt 13, 3) := by decide +kernel
theorem dX0_add_88 : decode cX0_add 88 = .ok (.new 88, 3) := by decide +kernel
theorem dX0_add_91 : decode cX0_add 91 = .ok (.dup, 1) := by decide +kernel
theorem dX0_add_92 : decode cX0_add 92 = .ok (.ldc 90, 2) := by decide +kernel
theorem dX0_add_94 : decode cX0_add 94 = .ok (.invokespecial 92, 3) := by decide +kernel
theorem dX0_add_97 : decode cX0_add 97 = .ok (.athrow, 1) := by decide +kernel
theorem dX0_add_98 : decode cX0_add 98 = .ok (.aload_n 0, 1) := by decide +kernel
theorem dX0_add_99 : decode cX0_add 99 = .ok (.getfield 35, 3) := by decide +kernel
theorem dX0_add_102 : decode cX0_add 102 = .ok (.istore 7, 2) := by decide +kernel
theorem dX0_add_104 : decode cX0_add 104 = .ok (.aload_n 0, 1) := by decide +kernel
theorem dX0_add_105 : decode cX0_add 105 = .ok (.getfield 14, 3) := by decide +kernel
theorem dX0_add_108 : decode cX0_add 108 = .ok (.iconst 0, 1) := by decide +kernel
theorem dX0_add_109 : decode cX0_add 109 = .ok (.aaload, 1) := by decide +kernel
theorem dX0_add_110 : decode cX0_add 110 = .ok (.iload 7, 2) := by decide +kernel
theorem dX0_add_112 : decode cX0_add 112 = .ok (.iload_n 1, 1) := by decide +kernel
theorem dX0_add_113 : decode cX0_add 113 = .ok (.iastore, 1) := by decide +kernel
theorem dX0_add_114 : decode cX0_add 114 = .ok (.aload_n 0, 1) := by decide +kernel
theorem dX0_add_115 : decode cX0_add 115 = .ok (.getfield 14, 3) := by decide +kernel
theorem dX0_add_118 : decode cX0_add 118 = .ok (.iconst 1, 1) := by decide +kernel
theorem dX0_add_119 : decode cX0_add 119 = .ok (.aaload, 1) := by decide +kernel
theorem dX0_add_120 : decode cX0_add 120 = .ok (.iload 7, 2) := by decide +kernel
theorem dX0_add_122 : decode cX0_add 122 = .ok (.iload_n 2, 1) := by decide +kernel
theorem dX0_add_123 : decode cX0_add 123 = .ok (.iastore, 1) := by decide +kernel
theorem dX0_add_124 : decode cX0_add 124 = .ok (.aload_n 0, 1) := by decide +kernel
theorem dX0_add_125 : decode cX0_add 125 = .ok (.getfield 14, 3) := by decide +kernel
theorem dX0_add_128 : decode cX0_add 128 = .ok (.iconst 2, 1) := by decide +kernel
theorem dX0_add_129 : decode cX0_add 129 = .ok (.aaload, 1) := by decide +kernel
theorem dX0_add_130 : decode cX0_add 130 = .ok (.iload 7, 2) := by decide +kernel
theorem dX0_add_132 : decode cX0_add 132 = .ok (.iload_n 3, 1) := by decide +kernel
theorem dX0_add_133 : decode cX0_add 133 = .ok (.iastore, 1) := by decide +kernel
theorem dX0_add_134 : decode cX0_add 134 = .ok (.aload_n 0, 1) := by decide +kernel
theorem dX0_add_135 : decode cX0_add 135 = .ok (.getfield 17, 3) := by decide +kernel
theorem dX0_add_138 : decode cX0_add 138 = .ok (.iload 7, 2) := by decide +kernel
theorem dX0_add_140 : decode cX0_add 140 = .ok (.iload 4, 2) := by decide +kernel
theorem dX0_add_142 : decode cX0_add 142 = .ok (.i2l, 1) := by decide +kernel
theorem dX0_add_143 : decode cX0_add 143 = .ok (.lastore, 1) := by decide +kernel
theorem dX0_add_144 : decode cX0_add 144 = .ok (.aload_n 0, 1) := by decide +kernel
theorem dX0_add_145 : decode cX0_add 145 = .ok (.getfield 21, 3) := by decide +kernel
theorem dX0_add_148 : decode cX0_add 148 = .ok (.iload 7, 2) := by decide +kernel
theorem dX0_add_150 : decode cX0_add 150 = .ok (.iload 5, 2) := by decide +kernel
theorem dX0_add_152 : decode cX0_add 152 = .ok (.i2l, 1) := by decide +kernel
theorem dX0_add_153 : decode cX0_add 153 = .ok (.lastore, 1) := by decide +kernel
theorem dX0_add_154 : decode cX0_add 154 = .ok (.aload_n 0, 1) := by decide +kernel
theorem dX0_add_155 : decode cX0_add 155 = .ok (.getfield 24, 3) := by decide +kernel
theorem dX0_add_158 : decode cX0_add 158 = .ok (.iload 7, 2) := by decide +kernel
theorem dX0_add_160 : decode cX0_add 160 = .ok (.iload 6, 2) := by decide +kernel
theorem dX0_add_162 : decode cX0_add 162 = .ok (.i2l, 1) := by decide +kernel
theorem dX0_add_163 : decode cX0_add 163 = .ok (.lastore, 1) := by decide +kernel
theorem dX0_add_164 : decode cX0_add 164 = .ok (.aload_n 0, 1) := by decide +kernel
theorem dX0_add_165 : decode cX0_add 165 = .ok (.getfield 27, 3) := by decide +kernel
theorem dX0_add_168 : decode cX0_add 168 = .ok (.iload 7, 2) := by decide +kernel
theorem dX0_add_170 : decode cX0_add 170 = .ok (.iconst (-1), 1) := by decide +kernel
theorem dX0_add_171 : decode cX0_add 171 = .ok (.iastore, 1) := by decide +kernel
theorem dX0_add_172 : decode cX0_add 172 = .ok (.aload_n 0, 1) := by decide +kernel
theorem dX0_add_173 : decode cX0_add 173 = .ok (.getfield 31, 3) := by decide +kernel
theorem dX0_add_176 : decode cX0_add 176 = .ok (.iload 7, 2) := by decide +kernel
theorem dX0_add_178 : decode cX0_add 178 = .ok (.iconst 1, 1) := by decide +kernel
theorem dX0_add_179 : decode cX0_add 179 = .ok (.bastore, 1) := by decide +kernel
theorem dX0_add_180 : decode cX0_add 180 = .ok (.aload_n 0, 1) := by decide +kernel
theorem dX0_add_181 : decode cX0_add 181 = .ok (.dup, 1) := by decide +kernel
theorem dX0_add_182 : decode cX0_add 182 = .ok (.getfield 35, 3) := by decide +kernel
theorem dX0_add_185 : decode cX0_add 185 = .ok (.iconst 1, 1) := by decide +kernel
theorem dX0_add_186 : decode cX0_add 186 = .ok (.iadd, 1) := by decide +kernel
theorem dX0_add_187 : decode cX0_add 187 = .ok (.putfield 35, 3) := by decide +kernel
theorem dX0_add_190 : decode cX0_add 190 = .ok (.aload_n 0, 1) := by decide +kernel
theorem dX0_add_191 : decode cX0_add 191 = .ok (.dup, 1) := by decide +kernel
theorem dX0_add_192 : decode cX0_add 192 = .ok (.getfield 39, 3) := by decide +kernel
theorem dX0_add_195 : decode cX0_add 195 = .ok (.iconst 1, 1) := by decide +kernel
theorem dX0_add_196 : decode cX0_add 196 = .ok (.iadd, 1) := by decide +kernel
theorem dX0_add_197 : decode cX0_add 197 = .ok (.putfield 39, 3) := by decide +kernel
theorem dX0_add_200 : decode cX0_add 200 = .ok (.aload_n 0, 1) := by decide +kernel
theorem dX0_add_201 : decode cX0_add 201 = .ok (.invokevirtual 93, 3) := by decide +kernel
theorem dX0_add_204 : decode cX0_add 204 = .ok (.iload 7, 2) := by decide +kernel
theorem dX0_add_206 : decode cX0_add 206 = .ok (.ireturn, 1) := by decide +kernel
set_option maxRecDepth 20000 in
theorem dX0_withdraw_0 : decode cX0_withdraw 0 = .ok (.aload_n 0, 1) := by decide +kernel
theorem dX0_withdraw_1 : decode cX0_withdraw 1 = .ok (.iload_n 1, 1) := by decide +kernel
theorem dX0_withdraw_2 : decode cX0_withdraw 2 = .ok (.invokevirtual 96, 3) := by decide +kernel
theorem dX0_withdraw_5 : decode cX0_withdraw 5 = .ok (.ifCond .ne 13, 3) := by decide +kernel
theorem dX0_withdraw_8 : decode cX0_withdraw 8 = .ok (.new 100, 3) := by decide +kernel
theorem dX0_withdraw_11 : decode cX0_withdraw 11 = .ok (.dup, 1) := by decide +kernel
theorem dX0_withdraw_12 : decode cX0_withdraw 12 = .ok (.ldc 102, 2) := by decide +kernel
theorem dX0_withdraw_14 : decode cX0_withdraw 14 = .ok (.invokespecial 104, 3) := by decide +kernel
theorem dX0_withdraw_17 : decode cX0_withdraw 17 = .ok (.athrow, 1) := by decide +kernel
theorem dX0_withdraw_18 : decode cX0_withdraw 18 = .ok (.aload_n 0, 1) := by decide +kernel
theorem dX0_withdraw_19 : decode cX0_withdraw 19 = .ok (.getfield 31, 3) := by decide +kernel
theorem dX0_withdraw_22 : decode cX0_withdraw 22 = .ok (.iload_n 1, 1) := by decide +kernel
theorem dX0_withdraw_23 : decode cX0_withdraw 23 = .ok (.iconst 0, 1) := by decide +kernel
theorem dX0_withdraw_24 : decode cX0_withdraw 24 = .ok (.bastore, 1) := by decide +kernel
theorem dX0_withdraw_25 : decode cX0_withdraw 25 = .ok (.aload_n 0, 1) := by decide +kernel
theorem dX0_withdraw_26 : decode cX0_withdraw 26 = .ok (.dup, 1) := by decide +kernel
theorem dX0_withdraw_27 : decode cX0_withdraw 27 = .ok (.getfield 39, 3) := by decide +kernel
theorem dX0_withdraw_30 : decode cX0_withdraw 30 = .ok (.iconst 1, 1) := by decide +kernel
theorem dX0_withdraw_31 : decode cX0_withdraw 31 = .ok (.isub, 1) := by decide +kernel
theorem dX0_withdraw_32 : decode cX0_withdraw 32 = .ok (.putfield 39, 3) := by decide +kernel
theorem dX0_withdraw_35 : decode cX0_withdraw 35 = .ok (.aload_n 0, 1) := by decide +kernel
theorem dX0_withdraw_36 : decode cX0_withdraw 36 = .ok (.invokevirtual 93, 3) := by decide +kernel
theorem dX0_withdraw_39 : decode cX0_withdraw 39 = .ok (.aload_n 0, 1) := by decide +kernel
theorem dX0_withdraw_40 : decode cX0_withdraw 40 = .ok (.getfield 39, 3) := by decide +kernel
theorem dX0_withdraw_43 : decode cX0_withdraw 43 = .ok (.ireturn, 1) := by decide +kernel
set_option maxRecDepth 20000 in
theorem dX0_setOld_0 : decode cX0_setOld 0 = .ok (.aload_n 0, 1) := by decide +kernel
theorem dX0_setOld_1 : decode cX0_setOld 1 = .ok (.iload_n 1, 1) := by decide +kernel
theorem dX0_setOld_2 : decode cX0_setOld 2 = .ok (.invokevirtual 96, 3) := by decide +kernel
theorem dX0_setOld_5 : decode cX0_setOld 5 = .ok (.ifCond .ne 13, 3) := by decide +kernel
theorem dX0_setOld_8 : decode cX0_setOld 8 = .ok (.new 100, 3) := by decide +kernel
theorem dX0_setOld_11 : decode cX0_setOld 11 = .ok (.dup, 1) := by decide +kernel
theorem dX0_setOld_12 : decode cX0_setOld 12 = .ok (.ldc 102, 2) := by decide +kernel
theorem dX0_setOld_14 : decode cX0_setOld 14 = .ok (.invokespecial 104, 3) := by decide +kernel
theorem dX0_setOld_17 : decode cX0_setOld 17 = .ok (.athrow, 1) := by decide +kernel
theorem dX0_setOld_18 : decode cX0_setOld 18 = .ok (.iload_n 2, 1) := by decide +kernel
theorem dX0_setOld_19 : decode cX0_setOld 19 = .ok (.iconst (-1), 1) := by decide +kernel
theorem dX0_setOld_20 : decode cX0_setOld 20 = .ok (.if_icmp .eq 23, 3) := by decide +kernel
theorem dX0_setOld_23 : decode cX0_setOld 23 = .ok (.iload_n 2, 1) := by decide +kernel
theorem dX0_setOld_24 : decode cX0_setOld 24 = .ok (.iconst 0, 1) := by decide +kernel
theorem dX0_setOld_25 : decode cX0_setOld 25 = .ok (.ldc 105, 2) := by decide +kernel
theorem dX0_setOld_27 : decode cX0_setOld 27 = .ok (.invokestatic 81, 3) := by decide +kernel
theorem dX0_setOld_30 : decode cX0_setOld 30 = .ok (.ifCond .ne 13, 3) := by decide +kernel
theorem dX0_setOld_33 : decode cX0_setOld 33 = .ok (.new 74, 3) := by decide +kernel
theorem dX0_setOld_36 : decode cX0_setOld 36 = .ok (.dup, 1) := by decide +kernel
theorem dX0_setOld_37 : decode cX0_setOld 37 = .ok (.ldc 106, 2) := by decide +kernel
theorem dX0_setOld_39 : decode cX0_setOld 39 = .ok (.invokespecial 78, 3) := by decide +kernel
theorem dX0_setOld_42 : decode cX0_setOld 42 = .ok (.athrow, 1) := by decide +kernel
theorem dX0_setOld_43 : decode cX0_setOld 43 = .ok (.aload_n 0, 1) := by decide +kernel
theorem dX0_setOld_44 : decode cX0_setOld 44 = .ok (.getfield 27, 3) := by decide +kernel
theorem dX0_setOld_47 : decode cX0_setOld 47 = .ok (.iload_n 1, 1) := by decide +kernel
theorem dX0_setOld_48 : decode cX0_setOld 48 = .ok (.iaload, 1) := by decide +kernel
theorem dX0_setOld_49 : decode cX0_setOld 49 = .ok (.istore_n 3, 1) := by decide +kernel
theorem dX0_setOld_50 : decode cX0_setOld 50 = .ok (.aload_n 0, 1) := by decide +kernel
theorem dX0_setOld_51 : decode cX0_setOld 51 = .ok (.getfield 27, 3) := by decide +kernel
theorem dX0_setOld_54 : decode cX0_setOld 54 = .ok (.iload_n 1, 1) := by decide +kernel
theorem dX0_setOld_55 : decode cX0_setOld 55 = .ok (.iload_n 2, 1) := by decide +kernel
theorem dX0_setOld_56 : decode cX0_setOld 56 = .ok (.iastore, 1) := by decide +kernel
theorem dX0_setOld_57 : decode cX0_setOld 57 = .ok (.iload_n 3, 1) := by decide +kernel
theorem dX0_setOld_58 : decode cX0_setOld 58 = .ok (.ireturn, 1) := by decide +kernel
set_option maxRecDepth 20000 in
theorem dX0_setRules_0 : decode cX0_setRules 0 = .ok (.iload_n 1, 1) := by decide +kernel
theorem dX0_setRules_1 : decode cX0_setRules 1 = .ok (.iconst 0, 1) := by decide +kernel
theorem dX0_setRules_2 : decode cX0_setRules 2 = .ok (.sipush 1000, 3) := by decide +kernel
theorem dX0_setRules_5 : decode cX0_setRules 5 = .ok (.invokestatic 81, 3) := by decide +kernel
theorem dX0_setRules_8 : decode cX0_setRules 8 = .ok (.ifCond .ne 13, 3) := by decide +kernel
theorem dX0_setRules_11 : decode cX0_setRules 11 = .ok (.new 74, 3) := by decide +kernel
theorem dX0_setRules_14 : decode cX0_setRules 14 = .ok (.dup, 1) := by decide +kernel
theorem dX0_setRules_15 : decode cX0_setRules 15 = .ok (.ldc 108, 2) := by decide +kernel
theorem dX0_setRules_17 : decode cX0_setRules 17 = .ok (.invokespecial 78, 3) := by decide +kernel
theorem dX0_setRules_20 : decode cX0_setRules 20 = .ok (.athrow, 1) := by decide +kernel
theorem dX0_setRules_21 : decode cX0_setRules 21 = .ok (.iload_n 2, 1) := by decide +kernel
theorem dX0_setRules_22 : decode cX0_setRules 22 = .ok (.iconst (-1), 1) := by decide +kernel
theorem dX0_setRules_23 : decode cX0_setRules 23 = .ok (.if_icmp .eq 24, 3) := by decide +kernel
theorem dX0_setRules_26 : decode cX0_setRules 26 = .ok (.iload_n 2, 1) := by decide +kernel
theorem dX0_setRules_27 : decode cX0_setRules 27 = .ok (.iconst 0, 1) := by decide +kernel
theorem dX0_setRules_28 : decode cX0_setRules 28 = .ok (.sipush 1000, 3) := by decide +kernel
theorem dX0_setRules_31 : decode cX0_setRules 31 = .ok (.invokestatic 81, 3) := by decide +kernel
theorem dX0_setRules_34 : decode cX0_setRules 34 = .ok (.ifCond .ne 13, 3) := by decide +kernel
theorem dX0_setRules_37 : decode cX0_setRules 37 = .ok (.new 74, 3) := by decide +kernel
theorem dX0_setRules_40 : decode cX0_setRules 40 = .ok (.dup, 1) := by decide +kernel
theorem dX0_setRules_41 : decode cX0_setRules 41 = .ok (.ldc 110, 2) := by decide +kernel
theorem dX0_setRules_43 : decode cX0_setRules 43 = .ok (.invokespecial 78, 3) := by decide +kernel
theorem dX0_setRules_46 : decode cX0_setRules 46 = .ok (.athrow, 1) := by decide +kernel
theorem dX0_setRules_47 : decode cX0_setRules 47 = .ok (.aload_n 0, 1) := by decide +kernel
theorem dX0_setRules_48 : decode cX0_setRules 48 = .ok (.getfield 42, 3) := by decide +kernel
theorem dX0_setRules_51 : decode cX0_setRules 51 = .ok (.istore_n 3, 1) := by decide +kernel
theorem dX0_setRules_52 : decode cX0_setRules 52 = .ok (.aload_n 0, 1) := by decide +kernel
theorem dX0_setRules_53 : decode cX0_setRules 53 = .ok (.iload_n 1, 1) := by decide +kernel
theorem dX0_setRules_54 : decode cX0_setRules 54 = .ok (.putfield 42, 3) := by decide +kernel
theorem dX0_setRules_57 : decode cX0_setRules 57 = .ok (.aload_n 0, 1) := by decide +kernel
theorem dX0_setRules_58 : decode cX0_setRules 58 = .ok (.iload_n 2, 1) := by decide +kernel
theorem dX0_setRules_59 : decode cX0_setRules 59 = .ok (.putfield 45, 3) := by decide +kernel
theorem dX0_setRules_62 : decode cX0_setRules 62 = .ok (.iload_n 3, 1) := by decide +kernel
theorem dX0_setRules_63 : decode cX0_setRules 63 = .ok (.ireturn, 1) := by decide +kernel
set_option maxRecDepth 20000 in
theorem dX0_setFactor_0 : decode cX0_setFactor 0 = .ok (.iload_n 1, 1) := by decide +kernel
theorem dX0_setFactor_1 : decode cX0_setFactor 1 = .ok (.iload_n 2, 1) := by decide +kernel
theorem dX0_setFactor_2 : decode cX0_setFactor 2 = .ok (.invokestatic 70, 3) := by decide +kernel
theorem dX0_setFactor_5 : decode cX0_setFactor 5 = .ok (.ifCond .ne 13, 3) := by decide +kernel
theorem dX0_setFactor_8 : decode cX0_setFactor 8 = .ok (.new 100, 3) := by decide +kernel
theorem dX0_setFactor_11 : decode cX0_setFactor 11 = .ok (.dup, 1) := by decide +kernel
theorem dX0_setFactor_12 : decode cX0_setFactor 12 = .ok (.ldc 112, 2) := by decide +kernel
theorem dX0_setFactor_14 : decode cX0_setFactor 14 = .ok (.invokespecial 104, 3) := by decide +kernel
theorem dX0_setFactor_17 : decode cX0_setFactor 17 = .ok (.athrow, 1) := by decide +kernel
theorem dX0_setFactor_18 : decode cX0_setFactor 18 = .ok (.iload_n 3, 1) := by decide +kernel
theorem dX0_setFactor_19 : decode cX0_setFactor 19 = .ok (.bipush 100, 2) := by decide +kernel
theorem dX0_setFactor_21 : decode cX0_setFactor 21 = .ok (.ldc 114, 2) := by decide +kernel
theorem dX0_setFactor_23 : decode cX0_setFactor 23 = .ok (.invokestatic 81, 3) := by decide +kernel
theorem dX0_setFactor_26 : decode cX0_setFactor 26 = .ok (.ifCond .ne 13, 3) := by decide +kernel
theorem dX0_setFactor_29 : decode cX0_setFactor 29 = .ok (.new 74, 3) := by decide +kernel
theorem dX0_setFactor_32 : decode cX0_setFactor 32 = .ok (.dup, 1) := by decide +kernel
theorem dX0_setFactor_33 : decode cX0_setFactor 33 = .ok (.ldc 115, 2) := by decide +kernel
theorem dX0_setFactor_35 : decode cX0_setFactor 35 = .ok (.invokespecial 78, 3) := by decide +kernel
theorem dX0_setFactor_38 : decode cX0_setFactor 38 = .ok (.athrow, 1) := by decide +kernel
theorem dX0_setFactor_39 : decode cX0_setFactor 39 = .ok (.aload_n 0, 1) := by decide +kernel
theorem dX0_setFactor_40 : decode cX0_setFactor 40 = .ok (.getfield 11, 3) := by decide +kernel
theorem dX0_setFactor_43 : decode cX0_setFactor 43 = .ok (.iload_n 1, 1) := by decide +kernel
theorem dX0_setFactor_44 : decode cX0_setFactor 44 = .ok (.aaload, 1) := by decide +kernel
theorem dX0_setFactor_45 : decode cX0_setFactor 45 = .ok (.iload_n 2, 1) := by decide +kernel
theorem dX0_setFactor_46 : decode cX0_setFactor 46 = .ok (.iaload, 1) := by decide +kernel
theorem dX0_setFactor_47 : decode cX0_setFactor 47 = .ok (.istore 4, 2) := by decide +kernel
theorem dX0_setFactor_49 : decode cX0_setFactor 49 = .ok (.aload_n 0, 1) := by decide +kernel
theorem dX0_setFactor_50 : decode cX0_setFactor 50 = .ok (.getfield 11, 3) := by decide +kernel
theorem dX0_setFactor_53 : decode cX0_setFactor 53 = .ok (.iload_n 1, 1) := by decide +kernel
theorem dX0_setFactor_54 : decode cX0_setFactor 54 = .ok (.aaload, 1) := by decide +kernel
theorem dX0_setFactor_55 : decode cX0_setFactor 55 = .ok (.iload_n 2, 1) := by decide +kernel
theorem dX0_setFactor_56 : decode cX0_setFactor 56 = .ok (.iload_n 3, 1) := by decide +kernel
theorem dX0_setFactor_57 : decode cX0_setFactor 57 = .ok (.iastore, 1) := by decide +kernel
theorem dX0_setFactor_58 : decode cX0_setFactor 58 = .ok (.aload_n 0, 1) := by decide +kernel
theorem dX0_setFactor_59 : decode cX0_setFactor 59 = .ok (.invokevirtual 93, 3) := by decide +kernel
theorem dX0_setFactor_62 : decode cX0_setFactor 62 = .ok (.iload 4, 2) := by decide +kernel
theorem dX0_setFactor_64 : decode cX0_setFactor 64 = .ok (.ireturn, 1) := by decide +kernel
set_option maxRecDepth 20000 in
theorem dX0_pass_0 : decode cX0_pass 0 = .ok (.iload_n 1, 1) := by decide +kernel
theorem dX0_pass_1 : decode cX0_pass 1 = .ok (.invokestatic 117, 3) := by decide +kernel
theorem dX0_pass_4 : decode cX0_pass 4 = .ok (.ifCond .ne 13, 3) := by decide +kernel
theorem dX0_pass_7 : decode cX0_pass 7 = .ok (.new 100, 3) := by decide +kernel
theorem dX0_pass_10 : decode cX0_pass 10 = .ok (.dup, 1) := by decide +kernel
theorem dX0_pass_11 : decode cX0_pass 11 = .ok (.ldc 120, 2) := by decide +kernel
theorem dX0_pass_13 : decode cX0_pass 13 = .ok (.invokespecial 104, 3) := by decide +kernel
theorem dX0_pass_16 : decode cX0_pass 16 = .ok (.athrow, 1) := by decide +kernel
theorem dX0_pass_17 : decode cX0_pass 17 = .ok (.aload_n 0, 1) := by decide +kernel
theorem dX0_pass_18 : decode cX0_pass 18 = .ok (.iload_n 1, 1) := by decide +kernel
theorem dX0_pass_19 : decode cX0_pass 19 = .ok (.invokevirtual 122, 3) := by decide +kernel
theorem dX0_pass_22 : decode cX0_pass 22 = .ok (.ireturn, 1) := by decide +kernel
set_option maxRecDepth 20000 in
theorem dX0_settle_0 : decode cX0_settle 0 = .ok (.iconst 1, 1) := by decide +kernel
theorem dX0_settle_1 : decode cX0_settle 1 = .ok (.istore_n 1, 1) := by decide +kernel
theorem dX0_settle_2 : decode cX0_settle 2 = .ok (.iload_n 1, 1) := by decide +kernel
theorem dX0_settle_3 : decode cX0_settle 3 = .ok (.bipush 60, 2) := by decide +kernel
theorem dX0_settle_5 : decode cX0_settle 5 = .ok (.if_icmp .gt 18, 3) := by decide +kernel
theorem dX0_settle_8 : decode cX0_settle 8 = .ok (.aload_n 0, 1) := by decide +kernel
theorem dX0_settle_9 : decode cX0_settle 9 = .ok (.invokevirtual 126, 3) := by decide +kernel
theorem dX0_settle_12 : decode cX0_settle 12 = .ok (.ifCond .ne 5, 3) := by decide +kernel
theorem dX0_settle_15 : decode cX0_settle 15 = .ok (.iload_n 1, 1) := by decide +kernel
theorem dX0_settle_16 : decode cX0_settle 16 = .ok (.ireturn, 1) := by decide +kernel
theorem dX0_settle_17 : decode cX0_settle 17 = .ok (.iinc 1 1, 3) := by decide +kernel
theorem dX0_settle_20 : decode cX0_settle 20 = .ok (.goto (-18), 3) := by decide +kernel
theorem dX0_settle_23 : decode cX0_settle 23 = .ok (.bipush 60, 2) := by decide +kernel
theorem dX0_settle_25 : decode cX0_settle 25 = .ok (.ireturn, 1) := by decide +kernel
set_option maxRecDepth 20000 in
theorem dX0_smooth_0 : decode cX0_smooth 0 = .ok (.iload_n 1, 1) := by decide +kernel
theorem dX0_smooth_1 : decode cX0_smooth 1 = .ok (.invokestatic 117, 3) := by decide +kernel
theorem dX0_smooth_4 : decode cX0_smooth 4 = .ok (.ifCond .ne 13, 3) := by decide +kernel
theorem dX0_smooth_7 : decode cX0_smooth 7 = .ok (.new 100, 3) := by decide +kernel
theorem dX0_smooth_10 : decode cX0_smooth 10 = .ok (.dup, 1) := by decide +kernel
theorem dX0_smooth_11 : decode cX0_smooth 11 = .ok (.ldc 120, 2) := by decide +kernel
theorem dX0_smooth_13 : decode cX0_smooth 13 = .ok (.invokespecial 104, 3) := by decide +kernel
theorem dX0_smooth_16 : decode cX0_smooth 16 = .ok (.athrow, 1) := by decide +kernel
theorem dX0_smooth_17 : decode cX0_smooth 17 = .ok (.iconst 0, 1) := by decide +kernel
theorem dX0_smooth_18 : decode cX0_smooth 18 = .ok (.istore_n 2, 1) := by decide +kernel
theorem dX0_smooth_19 : decode cX0_smooth 19 = .ok (.iload_n 2, 1) := by decide +kernel
theorem dX0_smooth_20 : decode cX0_smooth 20 = .ok (.getstatic 130, 3) := by decide +kernel
theorem dX0_smooth_23 : decode cX0_smooth 23 = .ok (.iload_n 1, 1) := by decide +kernel
theorem dX0_smooth_24 : decode cX0_smooth 24 = .ok (.iaload, 1) := by decide +kernel
theorem dX0_smooth_25 : decode cX0_smooth 25 = .ok (.if_icmp .ge 30, 3) := by decide +kernel
theorem dX0_smooth_28 : decode cX0_smooth 28 = .ok (.aload_n 0, 1) := by decide +kernel
theorem dX0_smooth_29 : decode cX0_smooth 29 = .ok (.getfield 61, 3) := by decide +kernel
theorem dX0_smooth_32 : decode cX0_smooth 32 = .ok (.iload_n 2, 1) := by decide +kernel
theorem dX0_smooth_33 : decode cX0_smooth 33 = .ok (.aload_n 0, 1) := by decide +kernel
theorem dX0_smooth_34 : decode cX0_smooth 34 = .ok (.getfield 11, 3) := by decide +kernel
theorem dX0_smooth_37 : decode cX0_smooth 37 = .ok (.iload_n 1, 1) := by decide +kernel
theorem dX0_smooth_38 : decode cX0_smooth 38 = .ok (.aaload, 1) := by decide +kernel
theorem dX0_smooth_39 : decode cX0_smooth 39 = .ok (.iload_n 2, 1) := by decide +kernel
theorem dX0_smooth_40 : decode cX0_smooth 40 = .ok (.iaload, 1) := by decide +kernel
theorem dX0_smooth_41 : decode cX0_smooth 41 = .ok (.iastore, 1) := by decide +kernel
theorem dX0_smooth_42 : decode cX0_smooth 42 = .ok (.aload_n 0, 1) := by decide +kernel
theorem dX0_smooth_43 : decode cX0_smooth 43 = .ok (.getfield 58, 3) := by decide +kernel
theorem dX0_smooth_46 : decode cX0_smooth 46 = .ok (.iload_n 2, 1) := by decide +kernel
theorem dX0_smooth_47 : decode cX0_smooth 47 = .ok (.iload_n 2, 1) := by decide +kernel
theorem dX0_smooth_48 : decode cX0_smooth 48 = .ok (.iastore, 1) := by decide +kernel
theorem dX0_smooth_49 : decode cX0_smooth 49 = .ok (.iinc 2 1, 3) := by decide +kernel
theorem dX0_smooth_52 : decode cX0_smooth 52 = .ok (.goto (-33), 3) := by decide +kernel
theorem dX0_smooth_55 : decode cX0_smooth 55 = .ok (.iconst 0, 1) := by decide +kernel
theorem dX0_smooth_56 : decode cX0_smooth 56 = .ok (.istore_n 2, 1) := by decide +kernel
theorem dX0_smooth_57 : decode cX0_smooth 57 = .ok (.iload_n 2, 1) := by decide +kernel
theorem dX0_smooth_58 : decode cX0_smooth 58 = .ok (.getstatic 130, 3) := by decide +kernel
theorem dX0_smooth_61 : decode cX0_smooth 61 = .ok (.iload_n 1, 1) := by decide +kernel
theorem dX0_smooth_62 : decode cX0_smooth 62 = .ok (.iaload, 1) := by decide +kernel
theorem dX0_smooth_63 : decode cX0_smooth 63 = .ok (.if_icmp .ge 29, 3) := by decide +kernel
theorem dX0_smooth_66 : decode cX0_smooth 66 = .ok (.aload_n 0, 1) := by decide +kernel
theorem dX0_smooth_67 : decode cX0_smooth 67 = .ok (.iload_n 1, 1) := by decide +kernel
theorem dX0_smooth_68 : decode cX0_smooth 68 = .ok (.invokevirtual 133, 3) := by decide +kernel
theorem dX0_smooth_71 : decode cX0_smooth 71 = .ok (.istore_n 3, 1) := by decide +kernel
theorem dX0_smooth_72 : decode cX0_smooth 72 = .ok (.iload_n 3, 1) := by decide +kernel
theorem dX0_smooth_73 : decode cX0_smooth 73 = .ok (.iconst (-1), 1) := by decide +kernel
theorem dX0_smooth_74 : decode cX0_smooth 74 = .ok (.if_icmp .ne 6, 3) := by decide +kernel
theorem dX0_smooth_77 : decode cX0_smooth 77 = .ok (.goto 15, 3) := by decide +kernel
theorem dX0_smooth_80 : decode cX0_smooth 80 = .ok (.aload_n 0, 1) := by decide +kernel
theorem dX0_smooth_81 : decode cX0_smooth 81 = .ok (.iload_n 1, 1) := by decide +kernel
theorem dX0_smooth_82 : decode cX0_smooth 82 = .ok (.iload_n 3, 1) := by decide +kernel
theorem dX0_smooth_83 : decode cX0_smooth 83 = .ok (.invokevirtual 136, 3) := by decide +kernel
theorem dX0_smooth_86 : decode cX0_smooth 86 = .ok (.iinc 2 1, 3) := by decide +kernel
theorem dX0_smooth_89 : decode cX0_smooth 89 = .ok (.goto (-32), 3) := by decide +kernel
theorem dX0_smooth_92 : decode cX0_smooth 92 = .ok (.aload_n 0, 1) := by decide +kernel
theorem dX0_smooth_93 : decode cX0_smooth 93 = .ok (.invokevirtual 93, 3) := by decide +kernel
theorem dX0_smooth_96 : decode cX0_smooth 96 = .ok (.aload_n 0, 1) := by decide +kernel
theorem dX0_smooth_97 : decode cX0_smooth 97 = .ok (.iload_n 1, 1) := by decide +kernel
theorem dX0_smooth_98 : decode cX0_smooth 98 = .ok (.invokevirtual 140, 3) := by decide +kernel
theorem dX0_smooth_101 : decode cX0_smooth 101 = .ok (.ireturn, 1) := by decide +kernel
set_option maxRecDepth 20000 in
theorem dX0_spread_0 : decode cX0_spread 0 = .ok (.aload_n 0, 1) := by decide +kernel
theorem dX0_spread_1 : decode cX0_spread 1 = .ok (.invokevirtual 143, 3) := by decide +kernel
theorem dX0_spread_4 : decode cX0_spread 4 = .ok (.lstore_n 1, 1) := by decide +kernel
theorem dX0_spread_5 : decode cX0_spread 5 = .ok (.lload_n 1, 1) := by decide +kernel
theorem dX0_spread_6 : decode cX0_spread 6 = .ok (.lconst 0, 1) := by decide +kernel
theorem dX0_spread_7 : decode cX0_spread 7 = .ok (.lcmp, 1) := by decide +kernel
theorem dX0_spread_8 : decode cX0_spread 8 = .ok (.ifCond .le 47, 3) := by decide +kernel
theorem dX0_spread_11 : decode cX0_spread 11 = .ok (.ldc2_w 147, 3) := by decide +kernel
theorem dX0_spread_14 : decode cX0_spread 14 = .ok (.aload_n 0, 1) := by decide +kernel
theorem dX0_spread_15 : decode cX0_spread 15 = .ok (.aload_n 0, 1) := by decide +kernel
theorem dX0_spread_16 : decode cX0_spread 16 = .ok (.getfield 55, 3) := by decide +kernel
theorem dX0_spread_19 : decode cX0_spread 19 = .ok (.invokevirtual 149, 3) := by decide +kernel
theorem dX0_spread_22 : decode cX0_spread 22 = .ok (.lmul, 1) := by decide +kernel
theorem dX0_spread_23 : decode cX0_spread 23 = .ok (.lload_n 1, 1) := by decide +kernel
theorem dX0_spread_24 : decode cX0_spread 24 = .ok (.ldiv, 1) := by decide +kernel
theorem dX0_spread_25 : decode cX0_spread 25 = .ok (.ldc2_w 153, 3) := by decide +kernel
theorem dX0_spread_28 : decode cX0_spread 28 = .ok (.invokestatic 155, 3) := by decide +kernel
theorem dX0_spread_31 : decode cX0_spread 31 = .ok (.lstore_n 3, 1) := by decide +kernel
theorem dX0_spread_32 : decode cX0_spread 32 = .ok (.aload_n 0, 1) := by decide +kernel
theorem dX0_spread_33 : decode cX0_spread 33 = .ok (.aload_n 0, 1) := by decide +kernel
theorem dX0_spread_34 : decode cX0_spread 34 = .ok (.getfield 48, 3) := by decide +kernel
theorem dX0_spread_37 : decode cX0_spread 37 = .ok (.i2l, 1) := by decide +kernel
theorem dX0_spread_38 : decode cX0_spread 38 = .ok (.lload_n 3, 1) := by decide +kernel
theorem dX0_spread_39 : decode cX0_spread 39 = .ok (.lmul, 1) := by decide +kernel
theorem dX0_spread_40 : decode cX0_spread 40 = .ok (.ldc2_w 147, 3) := by decide +kernel
theorem dX0_spread_43 : decode cX0_spread 43 = .ok (.ldiv, 1) := by decide +kernel
theorem dX0_spread_44 : decode cX0_spread 44 = .ok (.lconst 1, 1) := by decide +kernel
theorem dX0_spread_45 : decode cX0_spread 45 = .ok (.ldc2_w 153, 3) := by decide +kernel
theorem dX0_spread_48 : decode cX0_spread 48 = .ok (.invokestatic 161, 3) := by decide +kernel
theorem dX0_spread_51 : decode cX0_spread 51 = .ok (.l2i, 1) := by decide +kernel
theorem dX0_spread_52 : decode cX0_spread 52 = .ok (.putfield 48, 3) := by decide +kernel
theorem dX0_spread_55 : decode cX0_spread 55 = .ok (.aload_n 0, 1) := by decide +kernel
theorem dX0_spread_56 : decode cX0_spread 56 = .ok (.getfield 48, 3) := by decide +kernel
theorem dX0_spread_59 : decode cX0_spread 59 = .ok (.ireturn, 1) := by decide +kernel
theorem dX0_rows_0 : decode cX0_rows 0 = .ok (.aload_n 0, 1) := by decide +kernel
theorem dX0_rows_1 : decode cX0_rows 1 = .ok (.getfield 39, 3) := by decide +kernel
theorem dX0_rows_4 : decode cX0_rows 4 = .ok (.ireturn, 1) := by decide +kernel
theorem dX0_base_0 : decode cX0_base 0 = .ok (.aload_n 0, 1) := by decide +kernel
theorem dX0_base_1 : decode cX0_base 1 = .ok (.getfield 51, 3) := by decide +kernel
theorem dX0_base_4 : decode cX0_base 4 = .ok (.lreturn, 1) := by decide +kernel
set_option maxRecDepth 20000 in
theorem dX0_factor_0 : decode cX0_factor 0 = .ok (.iload_n 1, 1) := by decide +kernel
theorem dX0_factor_1 : decode cX0_factor 1 = .ok (.iload_n 2, 1) := by decide +kernel
theorem dX0_factor_2 : decode cX0_factor 2 = .ok (.invokestatic 70, 3) := by decide +kernel
theorem dX0_factor_5 : decode cX0_factor 5 = .ok (.ifCond .ne 13, 3) := by decide +kernel
theorem dX0_factor_8 : decode cX0_factor 8 = .ok (.new 100, 3) := by decide +kernel
theorem dX0_factor_11 : decode cX0_factor 11 = .ok (.dup, 1) := by decide +kernel
theorem dX0_factor_12 : decode cX0_factor 12 = .ok (.ldc 112, 2) := by decide +kernel
theorem dX0_factor_14 : decode cX0_factor 14 = .ok (.invokespecial 104, 3) := by decide +kernel
theorem dX0_factor_17 : decode cX0_factor 17 = .ok (.athrow, 1) := by decide +kernel
theorem dX0_factor_18 : decode cX0_factor 18 = .ok (.aload_n 0, 1) := by decide +kernel
theorem dX0_factor_19 : decode cX0_factor 19 = .ok (.getfield 11, 3) := by decide +kernel
theorem dX0_factor_22 : decode cX0_factor 22 = .ok (.iload_n 1, 1) := by decide +kernel
theorem dX0_factor_23 : decode cX0_factor 23 = .ok (.aaload, 1) := by decide +kernel
theorem dX0_factor_24 : decode cX0_factor 24 = .ok (.iload_n 2, 1) := by decide +kernel
theorem dX0_factor_25 : decode cX0_factor 25 = .ok (.iaload, 1) := by decide +kernel
theorem dX0_factor_26 : decode cX0_factor 26 = .ok (.ireturn, 1) := by decide +kernel
set_option maxRecDepth 20000 in
theorem dX0_fitted_0 : decode cX0_fitted 0 = .ok (.aload_n 0, 1) := by decide +kernel
theorem dX0_fitted_1 : decode cX0_fitted 1 = .ok (.iload_n 1, 1) := by decide +kernel
theorem dX0_fitted_2 : decode cX0_fitted 2 = .ok (.invokevirtual 96, 3) := by decide +kernel
theorem dX0_fitted_5 : decode cX0_fitted 5 = .ok (.ifCond .ne 13, 3) := by decide +kernel
theorem dX0_fitted_8 : decode cX0_fitted 8 = .ok (.new 100, 3) := by decide +kernel
theorem dX0_fitted_11 : decode cX0_fitted 11 = .ok (.dup, 1) := by decide +kernel
theorem dX0_fitted_12 : decode cX0_fitted 12 = .ok (.ldc 102, 2) := by decide +kernel
theorem dX0_fitted_14 : decode cX0_fitted 14 = .ok (.invokespecial 104, 3) := by decide +kernel
theorem dX0_fitted_17 : decode cX0_fitted 17 = .ok (.athrow, 1) := by decide +kernel
theorem dX0_fitted_18 : decode cX0_fitted 18 = .ok (.aload_n 0, 1) := by decide +kernel
theorem dX0_fitted_19 : decode cX0_fitted 19 = .ok (.getfield 55, 3) := by decide +kernel
theorem dX0_fitted_22 : decode cX0_fitted 22 = .ok (.iload_n 1, 1) := by decide +kernel
theorem dX0_fitted_23 : decode cX0_fitted 23 = .ok (.laload, 1) := by decide +kernel
theorem dX0_fitted_24 : decode cX0_fitted 24 = .ok (.lreturn, 1) := by decide +kernel
set_option maxRecDepth 20000 in
theorem dX0_toldSum_0 : decode cX0_toldSum 0 = .ok (.iload_n 1, 1) := by decide +kernel
theorem dX0_toldSum_1 : decode cX0_toldSum 1 = .ok (.iload_n 2, 1) := by decide +kernel
theorem dX0_toldSum_2 : decode cX0_toldSum 2 = .ok (.invokestatic 70, 3) := by decide +kernel
theorem dX0_toldSum_5 : decode cX0_toldSum 5 = .ok (.ifCond .ne 13, 3) := by decide +kernel
theorem dX0_toldSum_8 : decode cX0_toldSum 8 = .ok (.new 100, 3) := by decide +kernel
theorem dX0_toldSum_11 : decode cX0_toldSum 11 = .ok (.dup, 1) := by decide +kernel
theorem dX0_toldSum_12 : decode cX0_toldSum 12 = .ok (.ldc 112, 2) := by decide +kernel
theorem dX0_toldSum_14 : decode cX0_toldSum 14 = .ok (.invokespecial 104, 3) := by decide +kernel
theorem dX0_toldSum_17 : decode cX0_toldSum 17 = .ok (.athrow, 1) := by decide +kernel
theorem dX0_toldSum_18 : decode cX0_toldSum 18 = .ok (.aload_n 0, 1) := by decide +kernel
theorem dX0_toldSum_19 : decode cX0_toldSum 19 = .ok (.aload_n 0, 1) := by decide +kernel
theorem dX0_toldSum_20 : decode cX0_toldSum 20 = .ok (.getfield 24, 3) := by decide +kernel
theorem dX0_toldSum_23 : decode cX0_toldSum 23 = .ok (.iload_n 1, 1) := by decide +kernel
theorem dX0_toldSum_24 : decode cX0_toldSum 24 = .ok (.iload_n 2, 1) := by decide +kernel
theorem dX0_toldSum_25 : decode cX0_toldSum 25 = .ok (.invokevirtual 165, 3) := by decide +kernel
theorem dX0_toldSum_28 : decode cX0_toldSum 28 = .ok (.lreturn, 1) := by decide +kernel
set_option maxRecDepth 20000 in
theorem dX0_fittedSum_0 : decode cX0_fittedSum 0 = .ok (.iload_n 1, 1) := by decide +kernel
theorem dX0_fittedSum_1 : decode cX0_fittedSum 1 = .ok (.iload_n 2, 1) := by decide +kernel
theorem dX0_fittedSum_2 : decode cX0_fittedSum 2 = .ok (.invokestatic 70, 3) := by decide +kernel
theorem dX0_fittedSum_5 : decode cX0_fittedSum 5 = .ok (.ifCond .ne 13, 3) := by decide +kernel
theorem dX0_fittedSum_8 : decode cX0_fittedSum 8 = .ok (.new 100, 3) := by decide +kernel
theorem dX0_fittedSum_11 : decode cX0_fittedSum 11 = .ok (.dup, 1) := by decide +kernel
theorem dX0_fittedSum_12 : decode cX0_fittedSum 12 = .ok (.ldc 112, 2) := by decide +kernel
theorem dX0_fittedSum_14 : decode cX0_fittedSum 14 = .ok (.invokespecial 104, 3) := by decide +kernel
theorem dX0_fittedSum_17 : decode cX0_fittedSum 17 = .ok (.athrow, 1) := by decide +kernel
theorem dX0_fittedSum_18 : decode cX0_fittedSum 18 = .ok (.aload_n 0, 1) := by decide +kernel
theorem dX0_fittedSum_19 : decode cX0_fittedSum 19 = .ok (.aload_n 0, 1) := by decide +kernel
theorem dX0_fittedSum_20 : decode cX0_fittedSum 20 = .ok (.getfield 55, 3) := by decide +kernel
theorem dX0_fittedSum_23 : decode cX0_fittedSum 23 = .ok (.iload_n 1, 1) := by decide +kernel
theorem dX0_fittedSum_24 : decode cX0_fittedSum 24 = .ok (.iload_n 2, 1) := by decide +kernel
theorem dX0_fittedSum_25 : decode cX0_fittedSum 25 = .ok (.invokevirtual 165, 3) := by decide +kernel
theorem dX0_fittedSum_28 : decode cX0_fittedSum 28 = .ok (.lreturn, 1) := by decide +kernel
set_option maxRecDepth 20000 in
theorem dX0_worst_0 : decode cX0_worst 0 = .ok (.iload_n 1, 1) := by decide +kernel
theorem dX0_worst_1 : decode cX0_worst 1 = .ok (.invokestatic 117, 3) := by decide +kernel
theorem dX0_worst_4 : decode cX0_worst 4 = .ok (.ifCond .ne 13, 3) := by decide +kernel
theorem dX0_worst_7 : decode cX0_worst 7 = .ok (.new 100, 3) := by decide +kernel
theorem dX0_worst_10 : decode cX0_worst 10 = .ok (.dup, 1) := by decide +kernel
theorem dX0_worst_11 : decode cX0_worst 11 = .ok (.ldc 120, 2) := by decide +kernel
theorem dX0_worst_13 : decode cX0_worst 13 = .ok (.invokespecial 104, 3) := by decide +kernel
theorem dX0_worst_16 : decode cX0_worst 16 = .ok (.athrow, 1) := by decide +kernel
theorem dX0_worst_17 : decode cX0_worst 17 = .ok (.lconst 0, 1) := by decide +kernel
theorem dX0_worst_18 : decode cX0_worst 18 = .ok (.lstore_n 2, 1) := by decide +kernel
theorem dX0_worst_19 : decode cX0_worst 19 = .ok (.iconst 0, 1) := by decide +kernel
theorem dX0_worst_20 : decode cX0_worst 20 = .ok (.istore 4, 2) := by decide +kernel
theorem dX0_worst_22 : decode cX0_worst 22 = .ok (.iload 4, 2) := by decide +kernel
theorem dX0_worst_24 : decode cX0_worst 24 = .ok (.getstatic 130, 3) := by decide +kernel
theorem dX0_worst_27 : decode cX0_worst 27 = .ok (.iload_n 1, 1) := by decide +kernel
theorem dX0_worst_28 : decode cX0_worst 28 = .ok (.iaload, 1) := by decide +kernel
theorem dX0_worst_29 : decode cX0_worst 29 = .ok (.if_icmp .ge 44, 3) := by decide +kernel
theorem dX0_worst_32 : decode cX0_worst 32 = .ok (.aload_n 0, 1) := by decide +kernel
theorem dX0_worst_33 : decode cX0_worst 33 = .ok (.aload_n 0, 1) := by decide +kernel
theorem dX0_worst_34 : decode cX0_worst 34 = .ok (.getfield 24, 3) := by decide +kernel
theorem dX0_worst_37 : decode cX0_worst 37 = .ok (.iload_n 1, 1) := by decide +kernel
theorem dX0_worst_38 : decode cX0_worst 38 = .ok (.iload 4, 2) := by decide +kernel
theorem dX0_worst_40 : decode cX0_worst 40 = .ok (.invokevirtual 165, 3) := by decide +kernel
theorem dX0_worst_43 : decode cX0_worst 43 = .ok (.aload_n 0, 1) := by decide +kernel
theorem dX0_worst_44 : decode cX0_worst 44 = .ok (.aload_n 0, 1) := by decide +kernel
theorem dX0_worst_45 : decode cX0_worst 45 = .ok (.getfield 55, 3) := by decide +kernel
theorem dX0_worst_48 : decode cX0_worst 48 = .ok (.iload_n 1, 1) := by decide +kernel
theorem dX0_worst_49 : decode cX0_worst 49 = .ok (.iload 4, 2) := by decide +kernel
theorem dX0_worst_51 : decode cX0_worst 51 = .ok (.invokevirtual 165, 3) := by decide +kernel
theorem dX0_worst_54 : decode cX0_worst 54 = .ok (.lsub, 1) := by decide +kernel
theorem dX0_worst_55 : decode cX0_worst 55 = .ok (.lstore 5, 2) := by decide +kernel
theorem dX0_worst_57 : decode cX0_worst 57 = .ok (.lload_n 2, 1) := by decide +kernel
theorem dX0_worst_58 : decode cX0_worst 58 = .ok (.lload 5, 2) := by decide +kernel
theorem dX0_worst_60 : decode cX0_worst 60 = .ok (.invokestatic 169, 3) := by decide +kernel
theorem dX0_worst_63 : decode cX0_worst 63 = .ok (.invokestatic 173, 3) := by decide +kernel
theorem dX0_worst_66 : decode cX0_worst 66 = .ok (.lstore_n 2, 1) := by decide +kernel
theorem dX0_worst_67 : decode cX0_worst 67 = .ok (.iinc 4 1, 3) := by decide +kernel
theorem dX0_worst_70 : decode cX0_worst 70 = .ok (.goto (-48), 3) := by decide +kernel
theorem dX0_worst_73 : decode cX0_worst 73 = .ok (.lload_n 2, 1) := by decide +kernel
theorem dX0_worst_74 : decode cX0_worst 74 = .ok (.lreturn, 1) := by decide +kernel
set_option maxRecDepth 20000 in
theorem dX0_premium_0 : decode cX0_premium 0 = .ok (.aload_n 0, 1) := by decide +kernel
theorem dX0_premium_1 : decode cX0_premium 1 = .ok (.iload_n 1, 1) := by decide +kernel
theorem dX0_premium_2 : decode cX0_premium 2 = .ok (.invokevirtual 96, 3) := by decide +kernel
theorem dX0_premium_5 : decode cX0_premium 5 = .ok (.ifCond .ne 13, 3) := by decide +kernel
theorem dX0_premium_8 : decode cX0_premium 8 = .ok (.new 100, 3) := by decide +kernel
theorem dX0_premium_11 : decode cX0_premium 11 = .ok (.dup, 1) := by decide +kernel
theorem dX0_premium_12 : decode cX0_premium 12 = .ok (.ldc 102, 2) := by decide +kernel
theorem dX0_premium_14 : decode cX0_premium 14 = .ok (.invokespecial 104, 3) := by decide +kernel
theorem dX0_premium_17 : decode cX0_premium 17 = .ok (.athrow, 1) := by decide +kernel
theorem dX0_premium_18 : decode cX0_premium 18 = .ok (.aload_n 0, 1) := by decide +kernel
theorem dX0_premium_19 : decode cX0_premium 19 = .ok (.iload_n 1, 1) := by decide +kernel
theorem dX0_premium_20 : decode cX0_premium 20 = .ok (.invokevirtual 176, 3) := by decide +kernel
theorem dX0_premium_23 : decode cX0_premium 23 = .ok (.lreturn, 1) := by decide +kernel
set_option maxRecDepth 20000 in
theorem dX0_capped_0 : decode cX0_capped 0 = .ok (.aload_n 0, 1) := by decide +kernel
theorem dX0_capped_1 : decode cX0_capped 1 = .ok (.iload_n 1, 1) := by decide +kernel
theorem dX0_capped_2 : decode cX0_capped 2 = .ok (.invokevirtual 96, 3) := by decide +kernel
theorem dX0_capped_5 : decode cX0_capped 5 = .ok (.ifCond .ne 13, 3) := by decide +kernel
theorem dX0_capped_8 : decode cX0_capped 8 = .ok (.new 100, 3) := by decide +kernel
theorem dX0_capped_11 : decode cX0_capped 11 = .ok (.dup, 1) := by decide +kernel
theorem dX0_capped_12 : decode cX0_capped 12 = .ok (.ldc 102, 2) := by decide +kernel
theorem dX0_capped_14 : decode cX0_capped 14 = .ok (.invokespecial 104, 3) := by decide +kernel
theorem dX0_capped_17 : decode cX0_capped 17 = .ok (.athrow, 1) := by decide +kernel
theorem dX0_capped_18 : decode cX0_capped 18 = .ok (.aload_n 0, 1) := by decide +kernel
theorem dX0_capped_19 : decode cX0_capped 19 = .ok (.iload_n 1, 1) := by decide +kernel
theorem dX0_capped_20 : decode cX0_capped 20 = .ok (.invokevirtual 180, 3) := by decide +kernel
theorem dX0_capped_23 : decode cX0_capped 23 = .ok (.lreturn, 1) := by decide +kernel
set_option maxRecDepth 20000 in
theorem dX0_lost_0 : decode cX0_lost 0 = .ok (.aload_n 0, 1) := by decide +kernel
theorem dX0_lost_1 : decode cX0_lost 1 = .ok (.aload_n 0, 1) := by decide +kernel
theorem dX0_lost_2 : decode cX0_lost 2 = .ok (.getfield 55, 3) := by decide +kernel
theorem dX0_lost_5 : decode cX0_lost 5 = .ok (.invokevirtual 149, 3) := by decide +kernel
theorem dX0_lost_8 : decode cX0_lost 8 = .ok (.aload_n 0, 1) := by decide +kernel
theorem dX0_lost_9 : decode cX0_lost 9 = .ok (.invokevirtual 143, 3) := by decide +kernel
theorem dX0_lost_12 : decode cX0_lost 12 = .ok (.lsub, 1) := by decide +kernel
theorem dX0_lost_13 : decode cX0_lost 13 = .ok (.lreturn, 1) := by decide +kernel
set_option maxRecDepth 20000 in
theorem dX0_rankedAt_0 : decode cX0_rankedAt 0 = .ok (.iconst 0, 1) := by decide +kernel
theorem dX0_rankedAt_1 : decode cX0_rankedAt 1 = .ok (.istore_n 2, 1) := by decide +kernel
theorem dX0_rankedAt_2 : decode cX0_rankedAt 2 = .ok (.iload_n 2, 1) := by decide +kernel
theorem dX0_rankedAt_3 : decode cX0_rankedAt 3 = .ok (.aload_n 0, 1) := by decide +kernel
theorem dX0_rankedAt_4 : decode cX0_rankedAt 4 = .ok (.getfield 35, 3) := by decide +kernel
theorem dX0_rankedAt_7 : decode cX0_rankedAt 7 = .ok (.if_icmp .ge 29, 3) := by decide +kernel
theorem dX0_rankedAt_10 : decode cX0_rankedAt 10 = .ok (.aload_n 0, 1) := by decide +kernel
theorem dX0_rankedAt_11 : decode cX0_rankedAt 11 = .ok (.getfield 31, 3) := by decide +kernel
theorem dX0_rankedAt_14 : decode cX0_rankedAt 14 = .ok (.iload_n 2, 1) := by decide +kernel
theorem dX0_rankedAt_15 : decode cX0_rankedAt 15 = .ok (.baload, 1) := by decide +kernel
theorem dX0_rankedAt_16 : decode cX0_rankedAt 16 = .ok (.ifCond .eq 14, 3) := by decide +kernel
theorem dX0_rankedAt_19 : decode cX0_rankedAt 19 = .ok (.aload_n 0, 1) := by decide +kernel
theorem dX0_rankedAt_20 : decode cX0_rankedAt 20 = .ok (.iload_n 2, 1) := by decide +kernel
theorem dX0_rankedAt_21 : decode cX0_rankedAt 21 = .ok (.invokevirtual 183, 3) := by decide +kernel
theorem dX0_rankedAt_24 : decode cX0_rankedAt 24 = .ok (.iload_n 1, 1) := by decide +kernel
theorem dX0_rankedAt_25 : decode cX0_rankedAt 25 = .ok (.if_icmp .ne 5, 3) := by decide +kernel
theorem dX0_rankedAt_28 : decode cX0_rankedAt 28 = .ok (.iload_n 2, 1) := by decide +kernel
theorem dX0_rankedAt_29 : decode cX0_rankedAt 29 = .ok (.ireturn, 1) := by decide +kernel
theorem dX0_rankedAt_30 : decode cX0_rankedAt 30 = .ok (.iinc 2 1, 3) := by decide +kernel
theorem dX0_rankedAt_33 : decode cX0_rankedAt 33 = .ok (.goto (-31), 3) := by decide +kernel
theorem dX0_rankedAt_36 : decode cX0_rankedAt 36 = .ok (.new 100, 3) := by decide +kernel
theorem dX0_rankedAt_39 : decode cX0_rankedAt 39 = .ok (.dup, 1) := by decide +kernel
theorem dX0_rankedAt_40 : decode cX0_rankedAt 40 = .ok (.ldc 186, 2) := by decide +kernel
theorem dX0_rankedAt_42 : decode cX0_rankedAt 42 = .ok (.invokespecial 104, 3) := by decide +kernel
theorem dX0_rankedAt_45 : decode cX0_rankedAt 45 = .ok (.athrow, 1) := by decide +kernel
theorem dX0_isWithin_0 : decode cX0_isWithin 0 = .ok (.iload_n 0, 1) := by decide +kernel
theorem dX0_isWithin_1 : decode cX0_isWithin 1 = .ok (.iload_n 1, 1) := by decide +kernel
theorem dX0_isWithin_2 : decode cX0_isWithin 2 = .ok (.if_icmp .lt 12, 3) := by decide +kernel
theorem dX0_isWithin_5 : decode cX0_isWithin 5 = .ok (.iload_n 0, 1) := by decide +kernel
theorem dX0_isWithin_6 : decode cX0_isWithin 6 = .ok (.iload_n 2, 1) := by decide +kernel
theorem dX0_isWithin_7 : decode cX0_isWithin 7 = .ok (.if_icmp .gt 7, 3) := by decide +kernel
theorem dX0_isWithin_10 : decode cX0_isWithin 10 = .ok (.iconst 1, 1) := by decide +kernel
theorem dX0_isWithin_11 : decode cX0_isWithin 11 = .ok (.goto 4, 3) := by decide +kernel
theorem dX0_isWithin_14 : decode cX0_isWithin 14 = .ok (.iconst 0, 1) := by decide +kernel
theorem dX0_isWithin_15 : decode cX0_isWithin 15 = .ok (.ireturn, 1) := by decide +kernel
theorem dX0_hasTrait_0 : decode cX0_hasTrait 0 = .ok (.iload_n 0, 1) := by decide +kernel
theorem dX0_hasTrait_1 : decode cX0_hasTrait 1 = .ok (.ifCond .lt 12, 3) := by decide +kernel
theorem dX0_hasTrait_4 : decode cX0_hasTrait 4 = .ok (.iload_n 0, 1) := by decide +kernel
theorem dX0_hasTrait_5 : decode cX0_hasTrait 5 = .ok (.iconst 3, 1) := by decide +kernel
theorem dX0_hasTrait_6 : decode cX0_hasTrait 6 = .ok (.if_icmp .ge 7, 3) := by decide +kernel
theorem dX0_hasTrait_9 : decode cX0_hasTrait 9 = .ok (.iconst 1, 1) := by decide +kernel
theorem dX0_hasTrait_10 : decode cX0_hasTrait 10 = .ok (.goto 4, 3) := by decide +kernel
theorem dX0_hasTrait_13 : decode cX0_hasTrait 13 = .ok (.iconst 0, 1) := by decide +kernel
theorem dX0_hasTrait_14 : decode cX0_hasTrait 14 = .ok (.ireturn, 1) := by decide +kernel
set_option maxRecDepth 20000 in
theorem dX0_hasLevel_0 : decode cX0_hasLevel 0 = .ok (.iload_n 0, 1) := by decide +kernel
theorem dX0_hasLevel_1 : decode cX0_hasLevel 1 = .ok (.invokestatic 117, 3) := by decide +kernel
theorem dX0_hasLevel_4 : decode cX0_hasLevel 4 = .ok (.ifCond .eq 20, 3) := by decide +kernel
theorem dX0_hasLevel_7 : decode cX0_hasLevel 7 = .ok (.iload_n 1, 1) := by decide +kernel
theorem dX0_hasLevel_8 : decode cX0_hasLevel 8 = .ok (.ifCond .lt 16, 3) := by decide +kernel
theorem dX0_hasLevel_11 : decode cX0_hasLevel 11 = .ok (.iload_n 1, 1) := by decide +kernel
theorem dX0_hasLevel_12 : decode cX0_hasLevel 12 = .ok (.getstatic 130, 3) := by decide +kernel
theorem dX0_hasLevel_15 : decode cX0_hasLevel 15 = .ok (.iload_n 0, 1) := by decide +kernel
theorem dX0_hasLevel_16 : decode cX0_hasLevel 16 = .ok (.iaload, 1) := by decide +kernel
theorem dX0_hasLevel_17 : decode cX0_hasLevel 17 = .ok (.if_icmp .ge 7, 3) := by decide +kernel
theorem dX0_hasLevel_20 : decode cX0_hasLevel 20 = .ok (.iconst 1, 1) := by decide +kernel
theorem dX0_hasLevel_21 : decode cX0_hasLevel 21 = .ok (.goto 4, 3) := by decide +kernel
theorem dX0_hasLevel_24 : decode cX0_hasLevel 24 = .ok (.iconst 0, 1) := by decide +kernel
theorem dX0_hasLevel_25 : decode cX0_hasLevel 25 = .ok (.ireturn, 1) := by decide +kernel
theorem dX0_hasRow_0 : decode cX0_hasRow 0 = .ok (.iload_n 1, 1) := by decide +kernel
theorem dX0_hasRow_1 : decode cX0_hasRow 1 = .ok (.ifCond .lt 24, 3) := by decide +kernel
theorem dX0_hasRow_4 : decode cX0_hasRow 4 = .ok (.iload_n 1, 1) := by decide +kernel
theorem dX0_hasRow_5 : decode cX0_hasRow 5 = .ok (.aload_n 0, 1) := by decide +kernel
theorem dX0_hasRow_6 : decode cX0_hasRow 6 = .ok (.getfield 35, 3) := by decide +kernel
theorem dX0_hasRow_9 : decode cX0_hasRow 9 = .ok (.if_icmp .ge 16, 3) := by decide +kernel
theorem dX0_hasRow_12 : decode cX0_hasRow 12 = .ok (.aload_n 0, 1) := by decide +kernel
theorem dX0_hasRow_13 : decode cX0_hasRow 13 = .ok (.getfield 31, 3) := by decide +kernel
theorem dX0_hasRow_16 : decode cX0_hasRow 16 = .ok (.iload_n 1, 1) := by decide +kernel
theorem dX0_hasRow_17 : decode cX0_hasRow 17 = .ok (.baload, 1) := by decide +kernel
theorem dX0_hasRow_18 : decode cX0_hasRow 18 = .ok (.ifCond .eq 7, 3) := by decide +kernel
theorem dX0_hasRow_21 : decode cX0_hasRow 21 = .ok (.iconst 1, 1) := by decide +kernel
theorem dX0_hasRow_22 : decode cX0_hasRow 22 = .ok (.goto 4, 3) := by decide +kernel
theorem dX0_hasRow_25 : decode cX0_hasRow 25 = .ok (.iconst 0, 1) := by decide +kernel
theorem dX0_hasRow_26 : decode cX0_hasRow 26 = .ok (.ireturn, 1) := by decide +kernel
theorem dX0_total_0 : decode cX0_total 0 = .ok (.lconst 0, 1) := by decide +kernel
theorem dX0_total_1 : decode cX0_total 1 = .ok (.lstore_n 2, 1) := by decide +kernel
theorem dX0_total_2 : decode cX0_total 2 = .ok (.iconst 0, 1) := by decide +kernel
theorem dX0_total_3 : decode cX0_total 3 = .ok (.istore 4, 2) := by decide +kernel
theorem dX0_total_5 : decode cX0_total 5 = .ok (.iload 4, 2) := by decide +kernel
theorem dX0_total_7 : decode cX0_total 7 = .ok (.aload_n 0, 1) := by decide +kernel
theorem dX0_total_8 : decode cX0_total 8 = .ok (.getfield 35, 3) := by decide +kernel
theorem dX0_total_11 : decode cX0_total 11 = .ok (.if_icmp .ge 26, 3) := by decide +kernel
theorem dX0_total_14 : decode cX0_total 14 = .ok (.aload_n 0, 1) := by decide +kernel
theorem dX0_total_15 : decode cX0_total 15 = .ok (.getfield 31, 3) := by decide +kernel
theorem dX0_total_18 : decode cX0_total 18 = .ok (.iload 4, 2) := by decide +kernel
theorem dX0_total_20 : decode cX0_total 20 = .ok (.baload, 1) := by decide +kernel
theorem dX0_total_21 : decode cX0_total 21 = .ok (.ifCond .eq 10, 3) := by decide +kernel
theorem dX0_total_24 : decode cX0_total 24 = .ok (.lload_n 2, 1) := by decide +kernel
theorem dX0_total_25 : decode cX0_total 25 = .ok (.aload_n 1, 1) := by decide +kernel
theorem dX0_total_26 : decode cX0_total 26 = .ok (.iload 4, 2) := by decide +kernel
theorem dX0_total_28 : decode cX0_total 28 = .ok (.laload, 1) := by decide +kernel
theorem dX0_total_29 : decode cX0_total 29 = .ok (.ladd, 1) := by decide +kernel
theorem dX0_total_30 : decode cX0_total 30 = .ok (.lstore_n 2, 1) := by decide +kernel
theorem dX0_total_31 : decode cX0_total 31 = .ok (.iinc 4 1, 3) := by decide +kernel
theorem dX0_total_34 : decode cX0_total 34 = .ok (.goto (-29), 3) := by decide +kernel
theorem dX0_total_37 : decode cX0_total 37 = .ok (.lload_n 2, 1) := by decide +kernel
theorem dX0_total_38 : decode cX0_total 38 = .ok (.lreturn, 1) := by decide +kernel
theorem dX0_levelTotal_0 : decode cX0_levelTotal 0 = .ok (.lconst 0, 1) := by decide +kernel
theorem dX0_levelTotal_1 : decode cX0_levelTotal 1 = .ok (.lstore 4, 2) := by decide +kernel
theorem dX0_levelTotal_3 : decode cX0_levelTotal 3 = .ok (.iconst 0, 1) := by decide +kernel
theorem dX0_levelTotal_4 : decode cX0_levelTotal 4 = .ok (.istore 6, 2) := by decide +kernel
theorem dX0_levelTotal_6 : decode cX0_levelTotal 6 = .ok (.iload 6, 2) := by decide +kernel
theorem dX0_levelTotal_8 : decode cX0_levelTotal 8 = .ok (.aload_n 0, 1) := by decide +kernel
theorem dX0_levelTotal_9 : decode cX0_levelTotal 9 = .ok (.getfield 35, 3) := by decide +kernel
theorem dX0_levelTotal_12 : decode cX0_levelTotal 12 = .ok (.if_icmp .ge 41, 3) := by decide +kernel
theorem dX0_levelTotal_15 : decode cX0_levelTotal 15 = .ok (.aload_n 0, 1) := by decide +kernel
theorem dX0_levelTotal_16 : decode cX0_levelTotal 16 = .ok (.getfield 31, 3) := by decide +kernel
theorem dX0_levelTotal_19 : decode cX0_levelTotal 19 = .ok (.iload 6, 2) := by decide +kernel
theorem dX0_levelTotal_21 : decode cX0_levelTotal 21 = .ok (.baload, 1) := by decide +kernel
theorem dX0_levelTotal_22 : decode cX0_levelTotal 22 = .ok (.ifCond .eq 25, 3) := by decide +kernel
theorem dX0_levelTotal_25 : decode cX0_levelTotal 25 = .ok (.aload_n 0, 1) := by decide +kernel
theorem dX0_levelTotal_26 : decode cX0_levelTotal 26 = .ok (.getfield 14, 3) := by decide +kernel
theorem dX0_levelTotal_29 : decode cX0_levelTotal 29 = .ok (.iload_n 2, 1) := by decide +kernel
theorem dX0_levelTotal_30 : decode cX0_levelTotal 30 = .ok (.aaload, 1) := by decide +kernel
theorem dX0_levelTotal_31 : decode cX0_levelTotal 31 = .ok (.iload 6, 2) := by decide +kernel
theorem dX0_levelTotal_33 : decode cX0_levelTotal 33 = .ok (.iaload, 1) := by decide +kernel
theorem dX0_levelTotal_34 : decode cX0_levelTotal 34 = .ok (.iload_n 3, 1) := by decide +kernel
theorem dX0_levelTotal_35 : decode cX0_levelTotal 35 = .ok (.if_icmp .ne 12, 3) := by decide +kernel
theorem dX0_levelTotal_38 : decode cX0_levelTotal 38 = .ok (.lload 4, 2) := by decide +kernel
theorem dX0_levelTotal_40 : decode cX0_levelTotal 40 = .ok (.aload_n 1, 1) := by decide +kernel
end
section
theorem dX0_levelTotal_41 : decode cX0_levelTotal 41 = .ok (.iload 6, 2) := by decide +kernel
theorem dX0_levelTotal_43 : decode cX0_levelTotal 43 = .ok (.laload, 1) := by decide +kernel
theorem dX0_levelTotal_44 : decode cX0_levelTotal 44 = .ok (.ladd, 1) := by decide +kernel
theorem dX0_levelTotal_45 : decode cX0_levelTotal 45 = .ok (.lstore 4, 2) := by decide +kernel
theorem dX0_levelTotal_47 : decode cX0_levelTotal 47 = .ok (.iinc 6 1, 3) := by decide +kernel
theorem dX0_levelTotal_50 : decode cX0_levelTotal 50 = .ok (.goto (-44), 3) := by decide +kernel
theorem dX0_levelTotal_53 : decode cX0_levelTotal 53 = .ok (.lload 4, 2) := by decide +kernel
theorem dX0_levelTotal_55 : decode cX0_levelTotal 55 = .ok (.lreturn, 1) := by decide +kernel
set_option maxRecDepth 20000 in
theorem dX0_cappedTotal_0 : decode cX0_cappedTotal 0 = .ok (.lconst 0, 1) := by decide +kernel
theorem dX0_cappedTotal_1 : decode cX0_cappedTotal 1 = .ok (.lstore_n 1, 1) := by decide +kernel
theorem dX0_cappedTotal_2 : decode cX0_cappedTotal 2 = .ok (.iconst 0, 1) := by decide +kernel
theorem dX0_cappedTotal_3 : decode cX0_cappedTotal 3 = .ok (.istore_n 3, 1) := by decide +kernel
theorem dX0_cappedTotal_4 : decode cX0_cappedTotal 4 = .ok (.iload_n 3, 1) := by decide +kernel
theorem dX0_cappedTotal_5 : decode cX0_cappedTotal 5 = .ok (.aload_n 0, 1) := by decide +kernel
theorem dX0_cappedTotal_6 : decode cX0_cappedTotal 6 = .ok (.getfield 35, 3) := by decide +kernel
theorem dX0_cappedTotal_9 : decode cX0_cappedTotal 9 = .ok (.if_icmp .ge 26, 3) := by decide +kernel
theorem dX0_cappedTotal_12 : decode cX0_cappedTotal 12 = .ok (.aload_n 0, 1) := by decide +kernel
theorem dX0_cappedTotal_13 : decode cX0_cappedTotal 13 = .ok (.getfield 31, 3) := by decide +kernel
theorem dX0_cappedTotal_16 : decode cX0_cappedTotal 16 = .ok (.iload_n 3, 1) := by decide +kernel
theorem dX0_cappedTotal_17 : decode cX0_cappedTotal 17 = .ok (.baload, 1) := by decide +kernel
theorem dX0_cappedTotal_18 : decode cX0_cappedTotal 18 = .ok (.ifCond .eq 11, 3) := by decide +kernel
theorem dX0_cappedTotal_21 : decode cX0_cappedTotal 21 = .ok (.lload_n 1, 1) := by decide +kernel
theorem dX0_cappedTotal_22 : decode cX0_cappedTotal 22 = .ok (.aload_n 0, 1) := by decide +kernel
theorem dX0_cappedTotal_23 : decode cX0_cappedTotal 23 = .ok (.iload_n 3, 1) := by decide +kernel
theorem dX0_cappedTotal_24 : decode cX0_cappedTotal 24 = .ok (.invokevirtual 180, 3) := by decide +kernel
theorem dX0_cappedTotal_27 : decode cX0_cappedTotal 27 = .ok (.ladd, 1) := by decide +kernel
theorem dX0_cappedTotal_28 : decode cX0_cappedTotal 28 = .ok (.lstore_n 1, 1) := by decide +kernel
theorem dX0_cappedTotal_29 : decode cX0_cappedTotal 29 = .ok (.iinc 3 1, 3) := by decide +kernel
theorem dX0_cappedTotal_32 : decode cX0_cappedTotal 32 = .ok (.goto (-28), 3) := by decide +kernel
theorem dX0_cappedTotal_35 : decode cX0_cappedTotal 35 = .ok (.lload_n 1, 1) := by decide +kernel
theorem dX0_cappedTotal_36 : decode cX0_cappedTotal 36 = .ok (.lreturn, 1) := by decide +kernel
set_option maxRecDepth 20000 in
theorem dX0_refit_0 : decode cX0_refit 0 = .ok (.aload_n 0, 1) := by decide +kernel
theorem dX0_refit_1 : decode cX0_refit 1 = .ok (.aload_n 0, 1) := by decide +kernel
theorem dX0_refit_2 : decode cX0_refit 2 = .ok (.getfield 17, 3) := by decide +kernel
theorem dX0_refit_5 : decode cX0_refit 5 = .ok (.invokevirtual 149, 3) := by decide +kernel
theorem dX0_refit_8 : decode cX0_refit 8 = .ok (.lstore_n 1, 1) := by decide +kernel
theorem dX0_refit_9 : decode cX0_refit 9 = .ok (.aload_n 0, 1) := by decide +kernel
theorem dX0_refit_10 : decode cX0_refit 10 = .ok (.lload_n 1, 1) := by decide +kernel
theorem dX0_refit_11 : decode cX0_refit 11 = .ok (.lconst 0, 1) := by decide +kernel
theorem dX0_refit_12 : decode cX0_refit 12 = .ok (.lcmp, 1) := by decide +kernel
theorem dX0_refit_13 : decode cX0_refit 13 = .ok (.ifCond .le 20, 3) := by decide +kernel
theorem dX0_refit_16 : decode cX0_refit 16 = .ok (.ldc2_w 147, 3) := by decide +kernel
theorem dX0_refit_19 : decode cX0_refit 19 = .ok (.aload_n 0, 1) := by decide +kernel
theorem dX0_refit_20 : decode cX0_refit 20 = .ok (.aload_n 0, 1) := by decide +kernel
theorem dX0_refit_21 : decode cX0_refit 21 = .ok (.getfield 24, 3) := by decide +kernel
theorem dX0_refit_24 : decode cX0_refit 24 = .ok (.invokevirtual 149, 3) := by decide +kernel
theorem dX0_refit_27 : decode cX0_refit 27 = .ok (.lmul, 1) := by decide +kernel
theorem dX0_refit_28 : decode cX0_refit 28 = .ok (.lload_n 1, 1) := by decide +kernel
theorem dX0_refit_29 : decode cX0_refit 29 = .ok (.ldiv, 1) := by decide +kernel
theorem dX0_refit_30 : decode cX0_refit 30 = .ok (.goto 4, 3) := by decide +kernel
theorem dX0_refit_33 : decode cX0_refit 33 = .ok (.lconst 0, 1) := by decide +kernel
theorem dX0_refit_34 : decode cX0_refit 34 = .ok (.putfield 51, 3) := by decide +kernel
theorem dX0_refit_37 : decode cX0_refit 37 = .ok (.iconst 0, 1) := by decide +kernel
theorem dX0_refit_38 : decode cX0_refit 38 = .ok (.istore_n 3, 1) := by decide +kernel
theorem dX0_refit_39 : decode cX0_refit 39 = .ok (.iload_n 3, 1) := by decide +kernel
theorem dX0_refit_40 : decode cX0_refit 40 = .ok (.aload_n 0, 1) := by decide +kernel
theorem dX0_refit_41 : decode cX0_refit 41 = .ok (.getfield 35, 3) := by decide +kernel
theorem dX0_refit_44 : decode cX0_refit 44 = .ok (.if_icmp .ge 20, 3) := by decide +kernel
theorem dX0_refit_47 : decode cX0_refit 47 = .ok (.aload_n 0, 1) := by decide +kernel
theorem dX0_refit_48 : decode cX0_refit 48 = .ok (.getfield 55, 3) := by decide +kernel
theorem dX0_refit_51 : decode cX0_refit 51 = .ok (.iload_n 3, 1) := by decide +kernel
theorem dX0_refit_52 : decode cX0_refit 52 = .ok (.aload_n 0, 1) := by decide +kernel
theorem dX0_refit_53 : decode cX0_refit 53 = .ok (.iload_n 3, 1) := by decide +kernel
theorem dX0_refit_54 : decode cX0_refit 54 = .ok (.invokevirtual 188, 3) := by decide +kernel
theorem dX0_refit_57 : decode cX0_refit 57 = .ok (.lastore, 1) := by decide +kernel
theorem dX0_refit_58 : decode cX0_refit 58 = .ok (.iinc 3 1, 3) := by decide +kernel
theorem dX0_refit_61 : decode cX0_refit 61 = .ok (.goto (-22), 3) := by decide +kernel
theorem dX0_refit_64 : decode cX0_refit 64 = .ok (.return_, 1) := by decide +kernel
theorem dX0_fittedLoss_0 : decode cX0_fittedLoss 0 = .ok (.aload_n 0, 1) := by decide +kernel
theorem dX0_fittedLoss_1 : decode cX0_fittedLoss 1 = .ok (.getfield 17, 3) := by decide +kernel
theorem dX0_fittedLoss_4 : decode cX0_fittedLoss 4 = .ok (.iload_n 1, 1) := by decide +kernel
theorem dX0_fittedLoss_5 : decode cX0_fittedLoss 5 = .ok (.laload, 1) := by decide +kernel
theorem dX0_fittedLoss_6 : decode cX0_fittedLoss 6 = .ok (.aload_n 0, 1) := by decide +kernel
theorem dX0_fittedLoss_7 : decode cX0_fittedLoss 7 = .ok (.getfield 51, 3) := by decide +kernel
theorem dX0_fittedLoss_10 : decode cX0_fittedLoss 10 = .ok (.lmul, 1) := by decide +kernel
theorem dX0_fittedLoss_11 : decode cX0_fittedLoss 11 = .ok (.ldc2_w 147, 3) := by decide +kernel
theorem dX0_fittedLoss_14 : decode cX0_fittedLoss 14 = .ok (.ldiv, 1) := by decide +kernel
theorem dX0_fittedLoss_15 : decode cX0_fittedLoss 15 = .ok (.lstore_n 2, 1) := by decide +kernel
theorem dX0_fittedLoss_16 : decode cX0_fittedLoss 16 = .ok (.iconst 0, 1) := by decide +kernel
theorem dX0_fittedLoss_17 : decode cX0_fittedLoss 17 = .ok (.istore 4, 2) := by decide +kernel
theorem dX0_fittedLoss_19 : decode cX0_fittedLoss 19 = .ok (.iload 4, 2) := by decide +kernel
theorem dX0_fittedLoss_21 : decode cX0_fittedLoss 21 = .ok (.iconst 3, 1) := by decide +kernel
theorem dX0_fittedLoss_22 : decode cX0_fittedLoss 22 = .ok (.if_icmp .ge 34, 3) := by decide +kernel
theorem dX0_fittedLoss_25 : decode cX0_fittedLoss 25 = .ok (.lload_n 2, 1) := by decide +kernel
theorem dX0_fittedLoss_26 : decode cX0_fittedLoss 26 = .ok (.aload_n 0, 1) := by decide +kernel
theorem dX0_fittedLoss_27 : decode cX0_fittedLoss 27 = .ok (.getfield 11, 3) := by decide +kernel
theorem dX0_fittedLoss_30 : decode cX0_fittedLoss 30 = .ok (.iload 4, 2) := by decide +kernel
theorem dX0_fittedLoss_32 : decode cX0_fittedLoss 32 = .ok (.aaload, 1) := by decide +kernel
theorem dX0_fittedLoss_33 : decode cX0_fittedLoss 33 = .ok (.aload_n 0, 1) := by decide +kernel
theorem dX0_fittedLoss_34 : decode cX0_fittedLoss 34 = .ok (.getfield 14, 3) := by decide +kernel
theorem dX0_fittedLoss_37 : decode cX0_fittedLoss 37 = .ok (.iload 4, 2) := by decide +kernel
theorem dX0_fittedLoss_39 : decode cX0_fittedLoss 39 = .ok (.aaload, 1) := by decide +kernel
theorem dX0_fittedLoss_40 : decode cX0_fittedLoss 40 = .ok (.iload_n 1, 1) := by decide +kernel
theorem dX0_fittedLoss_41 : decode cX0_fittedLoss 41 = .ok (.iaload, 1) := by decide +kernel
theorem dX0_fittedLoss_42 : decode cX0_fittedLoss 42 = .ok (.iaload, 1) := by decide +kernel
theorem dX0_fittedLoss_43 : decode cX0_fittedLoss 43 = .ok (.i2l, 1) := by decide +kernel
theorem dX0_fittedLoss_44 : decode cX0_fittedLoss 44 = .ok (.lmul, 1) := by decide +kernel
theorem dX0_fittedLoss_45 : decode cX0_fittedLoss 45 = .ok (.ldc2_w 147, 3) := by decide +kernel
theorem dX0_fittedLoss_48 : decode cX0_fittedLoss 48 = .ok (.ldiv, 1) := by decide +kernel
theorem dX0_fittedLoss_49 : decode cX0_fittedLoss 49 = .ok (.lstore_n 2, 1) := by decide +kernel
theorem dX0_fittedLoss_50 : decode cX0_fittedLoss 50 = .ok (.iinc 4 1, 3) := by decide +kernel
theorem dX0_fittedLoss_53 : decode cX0_fittedLoss 53 = .ok (.goto (-34), 3) := by decide +kernel
theorem dX0_fittedLoss_56 : decode cX0_fittedLoss 56 = .ok (.lload_n 2, 1) := by decide +kernel
theorem dX0_fittedLoss_57 : decode cX0_fittedLoss 57 = .ok (.lreturn, 1) := by decide +kernel
set_option maxRecDepth 20000 in
theorem dX0_changedByRound_0 : decode cX0_changedByRound 0 = .ok (.iconst 0, 1) := by decide +kernel
theorem dX0_changedByRound_1 : decode cX0_changedByRound 1 = .ok (.istore_n 1, 1) := by decide +kernel
theorem dX0_changedByRound_2 : decode cX0_changedByRound 2 = .ok (.iconst 0, 1) := by decide +kernel
theorem dX0_changedByRound_3 : decode cX0_changedByRound 3 = .ok (.istore_n 2, 1) := by decide +kernel
theorem dX0_changedByRound_4 : decode cX0_changedByRound 4 = .ok (.iload_n 2, 1) := by decide +kernel
theorem dX0_changedByRound_5 : decode cX0_changedByRound 5 = .ok (.iconst 3, 1) := by decide +kernel
theorem dX0_changedByRound_6 : decode cX0_changedByRound 6 = .ok (.if_icmp .ge 17, 3) := by decide +kernel
theorem dX0_changedByRound_9 : decode cX0_changedByRound 9 = .ok (.iload_n 1, 1) := by decide +kernel
theorem dX0_changedByRound_10 : decode cX0_changedByRound 10 = .ok (.aload_n 0, 1) := by decide +kernel
theorem dX0_changedByRound_11 : decode cX0_changedByRound 11 = .ok (.iload_n 2, 1) := by decide +kernel
theorem dX0_changedByRound_12 : decode cX0_changedByRound 12 = .ok (.invokevirtual 122, 3) := by decide +kernel
theorem dX0_changedByRound_15 : decode cX0_changedByRound 15 = .ok (.iadd, 1) := by decide +kernel
theorem dX0_changedByRound_16 : decode cX0_changedByRound 16 = .ok (.istore_n 1, 1) := by decide +kernel
theorem dX0_changedByRound_17 : decode cX0_changedByRound 17 = .ok (.iinc 2 1, 3) := by decide +kernel
theorem dX0_changedByRound_20 : decode cX0_changedByRound 20 = .ok (.goto (-16), 3) := by decide +kernel
theorem dX0_changedByRound_23 : decode cX0_changedByRound 23 = .ok (.iload_n 1, 1) := by decide +kernel
theorem dX0_changedByRound_24 : decode cX0_changedByRound 24 = .ok (.ireturn, 1) := by decide +kernel
set_option maxRecDepth 20000 in
theorem dX0_passOver_0 : decode cX0_passOver 0 = .ok (.iconst 0, 1) := by decide +kernel
theorem dX0_passOver_1 : decode cX0_passOver 1 = .ok (.istore_n 2, 1) := by decide +kernel
theorem dX0_passOver_2 : decode cX0_passOver 2 = .ok (.iconst 0, 1) := by decide +kernel
theorem dX0_passOver_3 : decode cX0_passOver 3 = .ok (.istore_n 3, 1) := by decide +kernel
theorem dX0_passOver_4 : decode cX0_passOver 4 = .ok (.iload_n 3, 1) := by decide +kernel
theorem dX0_passOver_5 : decode cX0_passOver 5 = .ok (.getstatic 130, 3) := by decide +kernel
theorem dX0_passOver_8 : decode cX0_passOver 8 = .ok (.iload_n 1, 1) := by decide +kernel
theorem dX0_passOver_9 : decode cX0_passOver 9 = .ok (.iaload, 1) := by decide +kernel
theorem dX0_passOver_10 : decode cX0_passOver 10 = .ok (.if_icmp .ge 43, 3) := by decide +kernel
theorem dX0_passOver_13 : decode cX0_passOver 13 = .ok (.aload_n 0, 1) := by decide +kernel
theorem dX0_passOver_14 : decode cX0_passOver 14 = .ok (.iload_n 1, 1) := by decide +kernel
theorem dX0_passOver_15 : decode cX0_passOver 15 = .ok (.iload_n 3, 1) := by decide +kernel
theorem dX0_passOver_16 : decode cX0_passOver 16 = .ok (.invokevirtual 191, 3) := by decide +kernel
theorem dX0_passOver_19 : decode cX0_passOver 19 = .ok (.istore 4, 2) := by decide +kernel
theorem dX0_passOver_21 : decode cX0_passOver 21 = .ok (.iload 4, 2) := by decide +kernel
theorem dX0_passOver_23 : decode cX0_passOver 23 = .ok (.aload_n 0, 1) := by decide +kernel
theorem dX0_passOver_24 : decode cX0_passOver 24 = .ok (.getfield 11, 3) := by decide +kernel
theorem dX0_passOver_27 : decode cX0_passOver 27 = .ok (.iload_n 1, 1) := by decide +kernel
theorem dX0_passOver_28 : decode cX0_passOver 28 = .ok (.aaload, 1) := by decide +kernel
theorem dX0_passOver_29 : decode cX0_passOver 29 = .ok (.iload_n 3, 1) := by decide +kernel
theorem dX0_passOver_30 : decode cX0_passOver 30 = .ok (.iaload, 1) := by decide +kernel
theorem dX0_passOver_31 : decode cX0_passOver 31 = .ok (.if_icmp .eq 16, 3) := by decide +kernel
theorem dX0_passOver_34 : decode cX0_passOver 34 = .ok (.aload_n 0, 1) := by decide +kernel
theorem dX0_passOver_35 : decode cX0_passOver 35 = .ok (.getfield 11, 3) := by decide +kernel
theorem dX0_passOver_38 : decode cX0_passOver 38 = .ok (.iload_n 1, 1) := by decide +kernel
theorem dX0_passOver_39 : decode cX0_passOver 39 = .ok (.aaload, 1) := by decide +kernel
theorem dX0_passOver_40 : decode cX0_passOver 40 = .ok (.iload_n 3, 1) := by decide +kernel
theorem dX0_passOver_41 : decode cX0_passOver 41 = .ok (.iload 4, 2) := by decide +kernel
theorem dX0_passOver_43 : decode cX0_passOver 43 = .ok (.iastore, 1) := by decide +kernel
theorem dX0_passOver_44 : decode cX0_passOver 44 = .ok (.iinc 2 1, 3) := by decide +kernel
theorem dX0_passOver_47 : decode cX0_passOver 47 = .ok (.iinc 3 1, 3) := by decide +kernel
theorem dX0_passOver_50 : decode cX0_passOver 50 = .ok (.goto (-46), 3) := by decide +kernel
theorem dX0_passOver_53 : decode cX0_passOver 53 = .ok (.aload_n 0, 1) := by decide +kernel
theorem dX0_passOver_54 : decode cX0_passOver 54 = .ok (.invokevirtual 93, 3) := by decide +kernel
theorem dX0_passOver_57 : decode cX0_passOver 57 = .ok (.iload_n 2, 1) := by decide +kernel
theorem dX0_passOver_58 : decode cX0_passOver 58 = .ok (.ireturn, 1) := by decide +kernel
set_option maxRecDepth 20000 in
theorem dX0_foundFactor_0 : decode cX0_foundFactor 0 = .ok (.aload_n 0, 1) := by decide +kernel
theorem dX0_foundFactor_1 : decode cX0_foundFactor 1 = .ok (.getfield 11, 3) := by decide +kernel
theorem dX0_foundFactor_4 : decode cX0_foundFactor 4 = .ok (.iload_n 1, 1) := by decide +kernel
theorem dX0_foundFactor_5 : decode cX0_foundFactor 5 = .ok (.aaload, 1) := by decide +kernel
theorem dX0_foundFactor_6 : decode cX0_foundFactor 6 = .ok (.iload_n 2, 1) := by decide +kernel
theorem dX0_foundFactor_7 : decode cX0_foundFactor 7 = .ok (.iaload, 1) := by decide +kernel
theorem dX0_foundFactor_8 : decode cX0_foundFactor 8 = .ok (.istore_n 3, 1) := by decide +kernel
theorem dX0_foundFactor_9 : decode cX0_foundFactor 9 = .ok (.aload_n 0, 1) := by decide +kernel
theorem dX0_foundFactor_10 : decode cX0_foundFactor 10 = .ok (.aload_n 0, 1) := by decide +kernel
theorem dX0_foundFactor_11 : decode cX0_foundFactor 11 = .ok (.getfield 55, 3) := by decide +kernel
theorem dX0_foundFactor_14 : decode cX0_foundFactor 14 = .ok (.iload_n 1, 1) := by decide +kernel
theorem dX0_foundFactor_15 : decode cX0_foundFactor 15 = .ok (.iload_n 2, 1) := by decide +kernel
theorem dX0_foundFactor_16 : decode cX0_foundFactor 16 = .ok (.invokevirtual 165, 3) := by decide +kernel
theorem dX0_foundFactor_19 : decode cX0_foundFactor 19 = .ok (.lstore 4, 2) := by decide +kernel
theorem dX0_foundFactor_21 : decode cX0_foundFactor 21 = .ok (.aload_n 0, 1) := by decide +kernel
theorem dX0_foundFactor_22 : decode cX0_foundFactor 22 = .ok (.aload_n 0, 1) := by decide +kernel
theorem dX0_foundFactor_23 : decode cX0_foundFactor 23 = .ok (.getfield 21, 3) := by decide +kernel
theorem dX0_foundFactor_26 : decode cX0_foundFactor 26 = .ok (.iload_n 1, 1) := by decide +kernel
theorem dX0_foundFactor_27 : decode cX0_foundFactor 27 = .ok (.iload_n 2, 1) := by decide +kernel
theorem dX0_foundFactor_28 : decode cX0_foundFactor 28 = .ok (.invokevirtual 165, 3) := by decide +kernel
theorem dX0_foundFactor_31 : decode cX0_foundFactor 31 = .ok (.lstore 6, 2) := by decide +kernel
theorem dX0_foundFactor_33 : decode cX0_foundFactor 33 = .ok (.lload 4, 2) := by decide +kernel
theorem dX0_foundFactor_35 : decode cX0_foundFactor 35 = .ok (.lconst 0, 1) := by decide +kernel
theorem dX0_foundFactor_36 : decode cX0_foundFactor 36 = .ok (.lcmp, 1) := by decide +kernel
theorem dX0_foundFactor_37 : decode cX0_foundFactor 37 = .ok (.ifCond .le 10, 3) := by decide +kernel
theorem dX0_foundFactor_40 : decode cX0_foundFactor 40 = .ok (.lload 6, 2) := by decide +kernel
theorem dX0_foundFactor_42 : decode cX0_foundFactor 42 = .ok (.lconst 0, 1) := by decide +kernel
theorem dX0_foundFactor_43 : decode cX0_foundFactor 43 = .ok (.lcmp, 1) := by decide +kernel
theorem dX0_foundFactor_44 : decode cX0_foundFactor 44 = .ok (.ifCond .gt 5, 3) := by decide +kernel
theorem dX0_foundFactor_47 : decode cX0_foundFactor 47 = .ok (.iload_n 3, 1) := by decide +kernel
theorem dX0_foundFactor_48 : decode cX0_foundFactor 48 = .ok (.ireturn, 1) := by decide +kernel
theorem dX0_foundFactor_49 : decode cX0_foundFactor 49 = .ok (.iload_n 3, 1) := by decide +kernel
theorem dX0_foundFactor_50 : decode cX0_foundFactor 50 = .ok (.i2l, 1) := by decide +kernel
theorem dX0_foundFactor_51 : decode cX0_foundFactor 51 = .ok (.aload_n 0, 1) := by decide +kernel
theorem dX0_foundFactor_52 : decode cX0_foundFactor 52 = .ok (.aload_n 0, 1) := by decide +kernel
theorem dX0_foundFactor_53 : decode cX0_foundFactor 53 = .ok (.getfield 24, 3) := by decide +kernel
theorem dX0_foundFactor_56 : decode cX0_foundFactor 56 = .ok (.iload_n 1, 1) := by decide +kernel
theorem dX0_foundFactor_57 : decode cX0_foundFactor 57 = .ok (.iload_n 2, 1) := by decide +kernel
theorem dX0_foundFactor_58 : decode cX0_foundFactor 58 = .ok (.invokevirtual 165, 3) := by decide +kernel
theorem dX0_foundFactor_61 : decode cX0_foundFactor 61 = .ok (.lmul, 1) := by decide +kernel
theorem dX0_foundFactor_62 : decode cX0_foundFactor 62 = .ok (.lload 4, 2) := by decide +kernel
theorem dX0_foundFactor_64 : decode cX0_foundFactor 64 = .ok (.ldiv, 1) := by decide +kernel
theorem dX0_foundFactor_65 : decode cX0_foundFactor 65 = .ok (.lstore 8, 2) := by decide +kernel
theorem dX0_foundFactor_67 : decode cX0_foundFactor 67 = .ok (.lload 8, 2) := by decide +kernel
theorem dX0_foundFactor_69 : decode cX0_foundFactor 69 = .ok (.iload_n 3, 1) := by decide +kernel
theorem dX0_foundFactor_70 : decode cX0_foundFactor 70 = .ok (.i2l, 1) := by decide +kernel
theorem dX0_foundFactor_71 : decode cX0_foundFactor 71 = .ok (.lsub, 1) := by decide +kernel
theorem dX0_foundFactor_72 : decode cX0_foundFactor 72 = .ok (.lload 6, 2) := by decide +kernel
theorem dX0_foundFactor_74 : decode cX0_foundFactor 74 = .ok (.lmul, 1) := by decide +kernel
theorem dX0_foundFactor_75 : decode cX0_foundFactor 75 = .ok (.lload 6, 2) := by decide +kernel
theorem dX0_foundFactor_77 : decode cX0_foundFactor 77 = .ok (.aload_n 0, 1) := by decide +kernel
theorem dX0_foundFactor_78 : decode cX0_foundFactor 78 = .ok (.getfield 42, 3) := by decide +kernel
theorem dX0_foundFactor_81 : decode cX0_foundFactor 81 = .ok (.i2l, 1) := by decide +kernel
theorem dX0_foundFactor_82 : decode cX0_foundFactor 82 = .ok (.ladd, 1) := by decide +kernel
theorem dX0_foundFactor_83 : decode cX0_foundFactor 83 = .ok (.ldiv, 1) := by decide +kernel
theorem dX0_foundFactor_84 : decode cX0_foundFactor 84 = .ok (.lstore 10, 2) := by decide +kernel
theorem dX0_foundFactor_86 : decode cX0_foundFactor 86 = .ok (.iload_n 3, 1) := by decide +kernel
theorem dX0_foundFactor_87 : decode cX0_foundFactor 87 = .ok (.i2l, 1) := by decide +kernel
theorem dX0_foundFactor_88 : decode cX0_foundFactor 88 = .ok (.lload 10, 2) := by decide +kernel
theorem dX0_foundFactor_90 : decode cX0_foundFactor 90 = .ok (.ladd, 1) := by decide +kernel
theorem dX0_foundFactor_91 : decode cX0_foundFactor 91 = .ok (.ldc2_w 195, 3) := by decide +kernel
theorem dX0_foundFactor_94 : decode cX0_foundFactor 94 = .ok (.ldc2_w 197, 3) := by decide +kernel
theorem dX0_foundFactor_97 : decode cX0_foundFactor 97 = .ok (.invokestatic 161, 3) := by decide +kernel
theorem dX0_foundFactor_100 : decode cX0_foundFactor 100 = .ok (.l2i, 1) := by decide +kernel
theorem dX0_foundFactor_101 : decode cX0_foundFactor 101 = .ok (.ireturn, 1) := by decide +kernel
theorem dX0_bounded_0 : decode cX0_bounded 0 = .ok (.lload_n 0, 1) := by decide +kernel
theorem dX0_bounded_1 : decode cX0_bounded 1 = .ok (.lload_n 2, 1) := by decide +kernel
theorem dX0_bounded_2 : decode cX0_bounded 2 = .ok (.invokestatic 173, 3) := by decide +kernel
theorem dX0_bounded_5 : decode cX0_bounded 5 = .ok (.lload 4, 2) := by decide +kernel
theorem dX0_bounded_7 : decode cX0_bounded 7 = .ok (.invokestatic 155, 3) := by decide +kernel
theorem dX0_bounded_10 : decode cX0_bounded 10 = .ok (.lreturn, 1) := by decide +kernel
theorem dX0_lowestFallingLevel_0 : decode cX0_lowestFallingLevel 0 = .ok (.iconst 1, 1) := by decide +kernel
theorem dX0_lowestFallingLevel_1 : decode cX0_lowestFallingLevel 1 = .ok (.istore_n 2, 1) := by decide +kernel
theorem dX0_lowestFallingLevel_2 : decode cX0_lowestFallingLevel 2 = .ok (.iload_n 2, 1) := by decide +kernel
theorem dX0_lowestFallingLevel_3 : decode cX0_lowestFallingLevel 3 = .ok (.getstatic 130, 3) := by decide +kernel
theorem dX0_lowestFallingLevel_6 : decode cX0_lowestFallingLevel 6 = .ok (.iload_n 1, 1) := by decide +kernel
theorem dX0_lowestFallingLevel_7 : decode cX0_lowestFallingLevel 7 = .ok (.iaload, 1) := by decide +kernel
theorem dX0_lowestFallingLevel_8 : decode cX0_lowestFallingLevel 8 = .ok (.if_icmp .ge 32, 3) := by decide +kernel
theorem dX0_lowestFallingLevel_11 : decode cX0_lowestFallingLevel 11 = .ok (.aload_n 0, 1) := by decide +kernel
theorem dX0_lowestFallingLevel_12 : decode cX0_lowestFallingLevel 12 = .ok (.getfield 11, 3) := by decide +kernel
theorem dX0_lowestFallingLevel_15 : decode cX0_lowestFallingLevel 15 = .ok (.iload_n 1, 1) := by decide +kernel
theorem dX0_lowestFallingLevel_16 : decode cX0_lowestFallingLevel 16 = .ok (.aaload, 1) := by decide +kernel
theorem dX0_lowestFallingLevel_17 : decode cX0_lowestFallingLevel 17 = .ok (.iload_n 2, 1) := by decide +kernel
theorem dX0_lowestFallingLevel_18 : decode cX0_lowestFallingLevel 18 = .ok (.iaload, 1) := by decide +kernel
theorem dX0_lowestFallingLevel_19 : decode cX0_lowestFallingLevel 19 = .ok (.aload_n 0, 1) := by decide +kernel
theorem dX0_lowestFallingLevel_20 : decode cX0_lowestFallingLevel 20 = .ok (.getfield 11, 3) := by decide +kernel
theorem dX0_lowestFallingLevel_23 : decode cX0_lowestFallingLevel 23 = .ok (.iload_n 1, 1) := by decide +kernel
theorem dX0_lowestFallingLevel_24 : decode cX0_lowestFallingLevel 24 = .ok (.aaload, 1) := by decide +kernel
theorem dX0_lowestFallingLevel_25 : decode cX0_lowestFallingLevel 25 = .ok (.iload_n 2, 1) := by decide +kernel
theorem dX0_lowestFallingLevel_26 : decode cX0_lowestFallingLevel 26 = .ok (.iconst 1, 1) := by decide +kernel
theorem dX0_lowestFallingLevel_27 : decode cX0_lowestFallingLevel 27 = .ok (.isub, 1) := by decide +kernel
theorem dX0_lowestFallingLevel_28 : decode cX0_lowestFallingLevel 28 = .ok (.iaload, 1) := by decide +kernel
theorem dX0_lowestFallingLevel_29 : decode cX0_lowestFallingLevel 29 = .ok (.if_icmp .ge 5, 3) := by decide +kernel
theorem dX0_lowestFallingLevel_32 : decode cX0_lowestFallingLevel 32 = .ok (.iload_n 2, 1) := by decide +kernel
theorem dX0_lowestFallingLevel_33 : decode cX0_lowestFallingLevel 33 = .ok (.ireturn, 1) := by decide +kernel
theorem dX0_lowestFallingLevel_34 : decode cX0_lowestFallingLevel 34 = .ok (.iinc 2 1, 3) := by decide +kernel
theorem dX0_lowestFallingLevel_37 : decode cX0_lowestFallingLevel 37 = .ok (.goto (-35), 3) := by decide +kernel
theorem dX0_lowestFallingLevel_40 : decode cX0_lowestFallingLevel 40 = .ok (.iconst (-1), 1) := by decide +kernel
theorem dX0_lowestFallingLevel_41 : decode cX0_lowestFallingLevel 41 = .ok (.ireturn, 1) := by decide +kernel
set_option maxRecDepth 20000 in
theorem dX0_joinToLevelAhead_0 : decode cX0_joinToLevelAhead 0 = .ok (.aload_n 0, 1) := by decide +kernel
theorem dX0_joinToLevelAhead_1 : decode cX0_joinToLevelAhead 1 = .ok (.getfield 58, 3) := by decide +kernel
theorem dX0_joinToLevelAhead_4 : decode cX0_joinToLevelAhead 4 = .ok (.iload_n 2, 1) := by decide +kernel
theorem dX0_joinToLevelAhead_5 : decode cX0_joinToLevelAhead 5 = .ok (.iconst 1, 1) := by decide +kernel
theorem dX0_joinToLevelAhead_6 : decode cX0_joinToLevelAhead 6 = .ok (.isub, 1) := by decide +kernel
theorem dX0_joinToLevelAhead_7 : decode cX0_joinToLevelAhead 7 = .ok (.iaload, 1) := by decide +kernel
theorem dX0_joinToLevelAhead_8 : decode cX0_joinToLevelAhead 8 = .ok (.istore_n 3, 1) := by decide +kernel
theorem dX0_joinToLevelAhead_9 : decode cX0_joinToLevelAhead 9 = .ok (.iload_n 2, 1) := by decide +kernel
theorem dX0_joinToLevelAhead_10 : decode cX0_joinToLevelAhead 10 = .ok (.istore 4, 2) := by decide +kernel
theorem dX0_joinToLevelAhead_12 : decode cX0_joinToLevelAhead 12 = .ok (.iload 4, 2) := by decide +kernel
theorem dX0_joinToLevelAhead_14 : decode cX0_joinToLevelAhead 14 = .ok (.getstatic 130, 3) := by decide +kernel
theorem dX0_joinToLevelAhead_17 : decode cX0_joinToLevelAhead 17 = .ok (.iload_n 1, 1) := by decide +kernel
theorem dX0_joinToLevelAhead_18 : decode cX0_joinToLevelAhead 18 = .ok (.iaload, 1) := by decide +kernel
theorem dX0_joinToLevelAhead_19 : decode cX0_joinToLevelAhead 19 = .ok (.if_icmp .ge 28, 3) := by decide +kernel
theorem dX0_joinToLevelAhead_22 : decode cX0_joinToLevelAhead 22 = .ok (.aload_n 0, 1) := by decide +kernel
theorem dX0_joinToLevelAhead_23 : decode cX0_joinToLevelAhead 23 = .ok (.getfield 58, 3) := by decide +kernel
theorem dX0_joinToLevelAhead_26 : decode cX0_joinToLevelAhead 26 = .ok (.iload 4, 2) := by decide +kernel
theorem dX0_joinToLevelAhead_28 : decode cX0_joinToLevelAhead 28 = .ok (.iaload, 1) := by decide +kernel
theorem dX0_joinToLevelAhead_29 : decode cX0_joinToLevelAhead 29 = .ok (.iload_n 2, 1) := by decide +kernel
theorem dX0_joinToLevelAhead_30 : decode cX0_joinToLevelAhead 30 = .ok (.if_icmp .ne 11, 3) := by decide +kernel
theorem dX0_joinToLevelAhead_33 : decode cX0_joinToLevelAhead 33 = .ok (.aload_n 0, 1) := by decide +kernel
theorem dX0_joinToLevelAhead_34 : decode cX0_joinToLevelAhead 34 = .ok (.getfield 58, 3) := by decide +kernel
theorem dX0_joinToLevelAhead_37 : decode cX0_joinToLevelAhead 37 = .ok (.iload 4, 2) := by decide +kernel
theorem dX0_joinToLevelAhead_39 : decode cX0_joinToLevelAhead 39 = .ok (.iload_n 3, 1) := by decide +kernel
theorem dX0_joinToLevelAhead_40 : decode cX0_joinToLevelAhead 40 = .ok (.iastore, 1) := by decide +kernel
theorem dX0_joinToLevelAhead_41 : decode cX0_joinToLevelAhead 41 = .ok (.iinc 4 1, 3) := by decide +kernel
theorem dX0_joinToLevelAhead_44 : decode cX0_joinToLevelAhead 44 = .ok (.goto (-32), 3) := by decide +kernel
theorem dX0_joinToLevelAhead_47 : decode cX0_joinToLevelAhead 47 = .ok (.aload_n 0, 1) := by decide +kernel
theorem dX0_joinToLevelAhead_48 : decode cX0_joinToLevelAhead 48 = .ok (.iload_n 1, 1) := by decide +kernel
theorem dX0_joinToLevelAhead_49 : decode cX0_joinToLevelAhead 49 = .ok (.iload_n 3, 1) := by decide +kernel
theorem dX0_joinToLevelAhead_50 : decode cX0_joinToLevelAhead 50 = .ok (.invokevirtual 199, 3) := by decide +kernel
theorem dX0_joinToLevelAhead_53 : decode cX0_joinToLevelAhead 53 = .ok (.istore 4, 2) := by decide +kernel
theorem dX0_joinToLevelAhead_55 : decode cX0_joinToLevelAhead 55 = .ok (.iload_n 3, 1) := by decide +kernel
theorem dX0_joinToLevelAhead_56 : decode cX0_joinToLevelAhead 56 = .ok (.istore 5, 2) := by decide +kernel
theorem dX0_joinToLevelAhead_58 : decode cX0_joinToLevelAhead 58 = .ok (.iload 5, 2) := by decide +kernel
theorem dX0_joinToLevelAhead_60 : decode cX0_joinToLevelAhead 60 = .ok (.getstatic 130, 3) := by decide +kernel
theorem dX0_joinToLevelAhead_63 : decode cX0_joinToLevelAhead 63 = .ok (.iload_n 1, 1) := by decide +kernel
theorem dX0_joinToLevelAhead_64 : decode cX0_joinToLevelAhead 64 = .ok (.iaload, 1) := by decide +kernel
theorem dX0_joinToLevelAhead_65 : decode cX0_joinToLevelAhead 65 = .ok (.if_icmp .ge 31, 3) := by decide +kernel
theorem dX0_joinToLevelAhead_68 : decode cX0_joinToLevelAhead 68 = .ok (.aload_n 0, 1) := by decide +kernel
theorem dX0_joinToLevelAhead_69 : decode cX0_joinToLevelAhead 69 = .ok (.getfield 58, 3) := by decide +kernel
theorem dX0_joinToLevelAhead_72 : decode cX0_joinToLevelAhead 72 = .ok (.iload 5, 2) := by decide +kernel
theorem dX0_joinToLevelAhead_74 : decode cX0_joinToLevelAhead 74 = .ok (.iaload, 1) := by decide +kernel
theorem dX0_joinToLevelAhead_75 : decode cX0_joinToLevelAhead 75 = .ok (.iload_n 3, 1) := by decide +kernel
theorem dX0_joinToLevelAhead_76 : decode cX0_joinToLevelAhead 76 = .ok (.if_icmp .ne 14, 3) := by decide +kernel
theorem dX0_joinToLevelAhead_79 : decode cX0_joinToLevelAhead 79 = .ok (.aload_n 0, 1) := by decide +kernel
theorem dX0_joinToLevelAhead_80 : decode cX0_joinToLevelAhead 80 = .ok (.getfield 11, 3) := by decide +kernel
theorem dX0_joinToLevelAhead_83 : decode cX0_joinToLevelAhead 83 = .ok (.iload_n 1, 1) := by decide +kernel
theorem dX0_joinToLevelAhead_84 : decode cX0_joinToLevelAhead 84 = .ok (.aaload, 1) := by decide +kernel
theorem dX0_joinToLevelAhead_85 : decode cX0_joinToLevelAhead 85 = .ok (.iload 5, 2) := by decide +kernel
theorem dX0_joinToLevelAhead_87 : decode cX0_joinToLevelAhead 87 = .ok (.iload 4, 2) := by decide +kernel
theorem dX0_joinToLevelAhead_89 : decode cX0_joinToLevelAhead 89 = .ok (.iastore, 1) := by decide +kernel
theorem dX0_joinToLevelAhead_90 : decode cX0_joinToLevelAhead 90 = .ok (.iinc 5 1, 3) := by decide +kernel
theorem dX0_joinToLevelAhead_93 : decode cX0_joinToLevelAhead 93 = .ok (.goto (-35), 3) := by decide +kernel
theorem dX0_joinToLevelAhead_96 : decode cX0_joinToLevelAhead 96 = .ok (.return_, 1) := by decide +kernel
set_option maxRecDepth 20000 in
theorem dX0_groupMean_0 : decode cX0_groupMean 0 = .ok (.lconst 0, 1) := by decide +kernel
theorem dX0_groupMean_1 : decode cX0_groupMean 1 = .ok (.lstore_n 3, 1) := by decide +kernel
theorem dX0_groupMean_2 : decode cX0_groupMean 2 = .ok (.iconst 0, 1) := by decide +kernel
theorem dX0_groupMean_3 : decode cX0_groupMean 3 = .ok (.istore 5, 2) := by decide +kernel
theorem dX0_groupMean_5 : decode cX0_groupMean 5 = .ok (.lconst 0, 1) := by decide +kernel
theorem dX0_groupMean_6 : decode cX0_groupMean 6 = .ok (.lstore 6, 2) := by decide +kernel
theorem dX0_groupMean_8 : decode cX0_groupMean 8 = .ok (.lconst 0, 1) := by decide +kernel
theorem dX0_groupMean_9 : decode cX0_groupMean 9 = .ok (.lstore 8, 2) := by decide +kernel
theorem dX0_groupMean_11 : decode cX0_groupMean 11 = .ok (.iload_n 2, 1) := by decide +kernel
theorem dX0_groupMean_12 : decode cX0_groupMean 12 = .ok (.istore 10, 2) := by decide +kernel
theorem dX0_groupMean_14 : decode cX0_groupMean 14 = .ok (.iload 10, 2) := by decide +kernel
theorem dX0_groupMean_16 : decode cX0_groupMean 16 = .ok (.getstatic 130, 3) := by decide +kernel
theorem dX0_groupMean_19 : decode cX0_groupMean 19 = .ok (.iload_n 1, 1) := by decide +kernel
theorem dX0_groupMean_20 : decode cX0_groupMean 20 = .ok (.iaload, 1) := by decide +kernel
theorem dX0_groupMean_21 : decode cX0_groupMean 21 = .ok (.if_icmp .ge 74, 3) := by decide +kernel
theorem dX0_groupMean_24 : decode cX0_groupMean 24 = .ok (.aload_n 0, 1) := by decide +kernel
theorem dX0_groupMean_25 : decode cX0_groupMean 25 = .ok (.getfield 58, 3) := by decide +kernel
theorem dX0_groupMean_28 : decode cX0_groupMean 28 = .ok (.iload 10, 2) := by decide +kernel
theorem dX0_groupMean_30 : decode cX0_groupMean 30 = .ok (.iaload, 1) := by decide +kernel
theorem dX0_groupMean_31 : decode cX0_groupMean 31 = .ok (.iload_n 2, 1) := by decide +kernel
theorem dX0_groupMean_32 : decode cX0_groupMean 32 = .ok (.if_icmp .ne 57, 3) := by decide +kernel
theorem dX0_groupMean_35 : decode cX0_groupMean 35 = .ok (.aload_n 0, 1) := by decide +kernel
theorem dX0_groupMean_36 : decode cX0_groupMean 36 = .ok (.aload_n 0, 1) := by decide +kernel
theorem dX0_groupMean_37 : decode cX0_groupMean 37 = .ok (.getfield 17, 3) := by decide +kernel
theorem dX0_groupMean_40 : decode cX0_groupMean 40 = .ok (.iload_n 1, 1) := by decide +kernel
theorem dX0_groupMean_41 : decode cX0_groupMean 41 = .ok (.iload 10, 2) := by decide +kernel
theorem dX0_groupMean_43 : decode cX0_groupMean 43 = .ok (.invokevirtual 165, 3) := by decide +kernel
theorem dX0_groupMean_46 : decode cX0_groupMean 46 = .ok (.lstore 11, 2) := by decide +kernel
theorem dX0_groupMean_48 : decode cX0_groupMean 48 = .ok (.lload_n 3, 1) := by decide +kernel
theorem dX0_groupMean_49 : decode cX0_groupMean 49 = .ok (.aload_n 0, 1) := by decide +kernel
theorem dX0_groupMean_50 : decode cX0_groupMean 50 = .ok (.getfield 11, 3) := by decide +kernel
theorem dX0_groupMean_53 : decode cX0_groupMean 53 = .ok (.iload_n 1, 1) := by decide +kernel
theorem dX0_groupMean_54 : decode cX0_groupMean 54 = .ok (.aaload, 1) := by decide +kernel
theorem dX0_groupMean_55 : decode cX0_groupMean 55 = .ok (.iload 10, 2) := by decide +kernel
theorem dX0_groupMean_57 : decode cX0_groupMean 57 = .ok (.iaload, 1) := by decide +kernel
theorem dX0_groupMean_58 : decode cX0_groupMean 58 = .ok (.i2l, 1) := by decide +kernel
theorem dX0_groupMean_59 : decode cX0_groupMean 59 = .ok (.ladd, 1) := by decide +kernel
theorem dX0_groupMean_60 : decode cX0_groupMean 60 = .ok (.lstore_n 3, 1) := by decide +kernel
theorem dX0_groupMean_61 : decode cX0_groupMean 61 = .ok (.iinc 5 1, 3) := by decide +kernel
theorem dX0_groupMean_64 : decode cX0_groupMean 64 = .ok (.lload 6, 2) := by decide +kernel
theorem dX0_groupMean_66 : decode cX0_groupMean 66 = .ok (.lload 11, 2) := by decide +kernel
theorem dX0_groupMean_68 : decode cX0_groupMean 68 = .ok (.aload_n 0, 1) := by decide +kernel
theorem dX0_groupMean_69 : decode cX0_groupMean 69 = .ok (.getfield 11, 3) := by decide +kernel
theorem dX0_groupMean_72 : decode cX0_groupMean 72 = .ok (.iload_n 1, 1) := by decide +kernel
theorem dX0_groupMean_73 : decode cX0_groupMean 73 = .ok (.aaload, 1) := by decide +kernel
theorem dX0_groupMean_74 : decode cX0_groupMean 74 = .ok (.iload 10, 2) := by decide +kernel
theorem dX0_groupMean_76 : decode cX0_groupMean 76 = .ok (.iaload, 1) := by decide +kernel
theorem dX0_groupMean_77 : decode cX0_groupMean 77 = .ok (.i2l, 1) := by decide +kernel
theorem dX0_groupMean_78 : decode cX0_groupMean 78 = .ok (.lmul, 1) := by decide +kernel
theorem dX0_groupMean_79 : decode cX0_groupMean 79 = .ok (.ladd, 1) := by decide +kernel
theorem dX0_groupMean_80 : decode cX0_groupMean 80 = .ok (.lstore 6, 2) := by decide +kernel
theorem dX0_groupMean_82 : decode cX0_groupMean 82 = .ok (.lload 8, 2) := by decide +kernel
theorem dX0_groupMean_84 : decode cX0_groupMean 84 = .ok (.lload 11, 2) := by decide +kernel
theorem dX0_groupMean_86 : decode cX0_groupMean 86 = .ok (.ladd, 1) := by decide +kernel
theorem dX0_groupMean_87 : decode cX0_groupMean 87 = .ok (.lstore 8, 2) := by decide +kernel
theorem dX0_groupMean_89 : decode cX0_groupMean 89 = .ok (.iinc 10 1, 3) := by decide +kernel
theorem dX0_groupMean_92 : decode cX0_groupMean 92 = .ok (.goto (-78), 3) := by decide +kernel
theorem dX0_groupMean_95 : decode cX0_groupMean 95 = .ok (.lload 8, 2) := by decide +kernel
theorem dX0_groupMean_97 : decode cX0_groupMean 97 = .ok (.lconst 0, 1) := by decide +kernel
theorem dX0_groupMean_98 : decode cX0_groupMean 98 = .ok (.lcmp, 1) := by decide +kernel
theorem dX0_groupMean_99 : decode cX0_groupMean 99 = .ok (.ifCond .le 11, 3) := by decide +kernel
theorem dX0_groupMean_102 : decode cX0_groupMean 102 = .ok (.lload 6, 2) := by decide +kernel
theorem dX0_groupMean_104 : decode cX0_groupMean 104 = .ok (.lload 8, 2) := by decide +kernel
theorem dX0_groupMean_106 : decode cX0_groupMean 106 = .ok (.ldiv, 1) := by decide +kernel
theorem dX0_groupMean_107 : decode cX0_groupMean 107 = .ok (.goto 12, 3) := by decide +kernel
theorem dX0_groupMean_110 : decode cX0_groupMean 110 = .ok (.lload_n 3, 1) := by decide +kernel
theorem dX0_groupMean_111 : decode cX0_groupMean 111 = .ok (.iload 5, 2) := by decide +kernel
theorem dX0_groupMean_113 : decode cX0_groupMean 113 = .ok (.iconst 1, 1) := by decide +kernel
theorem dX0_groupMean_114 : decode cX0_groupMean 114 = .ok (.invokestatic 202, 3) := by decide +kernel
theorem dX0_groupMean_117 : decode cX0_groupMean 117 = .ok (.i2l, 1) := by decide +kernel
theorem dX0_groupMean_118 : decode cX0_groupMean 118 = .ok (.ldiv, 1) := by decide +kernel
theorem dX0_groupMean_119 : decode cX0_groupMean 119 = .ok (.l2i, 1) := by decide +kernel
theorem dX0_groupMean_120 : decode cX0_groupMean 120 = .ok (.ireturn, 1) := by decide +kernel
theorem dX0_changedSinceBefore_0 : decode cX0_changedSinceBefore 0 = .ok (.iconst 0, 1) := by decide +kernel
theorem dX0_changedSinceBefore_1 : decode cX0_changedSinceBefore 1 = .ok (.istore_n 2, 1) := by decide +kernel
theorem dX0_changedSinceBefore_2 : decode cX0_changedSinceBefore 2 = .ok (.iconst 0, 1) := by decide +kernel
theorem dX0_changedSinceBefore_3 : decode cX0_changedSinceBefore 3 = .ok (.istore_n 3, 1) := by decide +kernel
theorem dX0_changedSinceBefore_4 : decode cX0_changedSinceBefore 4 = .ok (.iload_n 3, 1) := by decide +kernel
theorem dX0_changedSinceBefore_5 : decode cX0_changedSinceBefore 5 = .ok (.getstatic 130, 3) := by decide +kernel
theorem dX0_changedSinceBefore_8 : decode cX0_changedSinceBefore 8 = .ok (.iload_n 1, 1) := by decide +kernel
theorem dX0_changedSinceBefore_9 : decode cX0_changedSinceBefore 9 = .ok (.iaload, 1) := by decide +kernel
theorem dX0_changedSinceBefore_10 : decode cX0_changedSinceBefore 10 = .ok (.if_icmp .ge 29, 3) := by decide +kernel
theorem dX0_changedSinceBefore_13 : decode cX0_changedSinceBefore 13 = .ok (.aload_n 0, 1) := by decide +kernel
theorem dX0_changedSinceBefore_14 : decode cX0_changedSinceBefore 14 = .ok (.getfield 11, 3) := by decide +kernel
theorem dX0_changedSinceBefore_17 : decode cX0_changedSinceBefore 17 = .ok (.iload_n 1, 1) := by decide +kernel
theorem dX0_changedSinceBefore_18 : decode cX0_changedSinceBefore 18 = .ok (.aaload, 1) := by decide +kernel
theorem dX0_changedSinceBefore_19 : decode cX0_changedSinceBefore 19 = .ok (.iload_n 3, 1) := by decide +kernel
theorem dX0_changedSinceBefore_20 : decode cX0_changedSinceBefore 20 = .ok (.iaload, 1) := by decide +kernel
theorem dX0_changedSinceBefore_21 : decode cX0_changedSinceBefore 21 = .ok (.aload_n 0, 1) := by decide +kernel
theorem dX0_changedSinceBefore_22 : decode cX0_changedSinceBefore 22 = .ok (.getfield 61, 3) := by decide +kernel
theorem dX0_changedSinceBefore_25 : decode cX0_changedSinceBefore 25 = .ok (.iload_n 3, 1) := by decide +kernel
theorem dX0_changedSinceBefore_26 : decode cX0_changedSinceBefore 26 = .ok (.iaload, 1) := by decide +kernel
theorem dX0_changedSinceBefore_27 : decode cX0_changedSinceBefore 27 = .ok (.if_icmp .eq 6, 3) := by decide +kernel
theorem dX0_changedSinceBefore_30 : decode cX0_changedSinceBefore 30 = .ok (.iinc 2 1, 3) := by decide +kernel
theorem dX0_changedSinceBefore_33 : decode cX0_changedSinceBefore 33 = .ok (.iinc 3 1, 3) := by decide +kernel
theorem dX0_changedSinceBefore_36 : decode cX0_changedSinceBefore 36 = .ok (.goto (-32), 3) := by decide +kernel
theorem dX0_changedSinceBefore_39 : decode cX0_changedSinceBefore 39 = .ok (.iload_n 2, 1) := by decide +kernel
theorem dX0_changedSinceBefore_40 : decode cX0_changedSinceBefore 40 = .ok (.ireturn, 1) := by decide +kernel
theorem dX0_newPremium_0 : decode cX0_newPremium 0 = .ok (.aload_n 0, 1) := by decide +kernel
theorem dX0_newPremium_1 : decode cX0_newPremium 1 = .ok (.getfield 55, 3) := by decide +kernel
theorem dX0_newPremium_4 : decode cX0_newPremium 4 = .ok (.iload_n 1, 1) := by decide +kernel
theorem dX0_newPremium_5 : decode cX0_newPremium 5 = .ok (.laload, 1) := by decide +kernel
theorem dX0_newPremium_6 : decode cX0_newPremium 6 = .ok (.aload_n 0, 1) := by decide +kernel
theorem dX0_newPremium_7 : decode cX0_newPremium 7 = .ok (.getfield 48, 3) := by decide +kernel
theorem dX0_newPremium_10 : decode cX0_newPremium 10 = .ok (.i2l, 1) := by decide +kernel
theorem dX0_newPremium_11 : decode cX0_newPremium 11 = .ok (.lmul, 1) := by decide +kernel
theorem dX0_newPremium_12 : decode cX0_newPremium 12 = .ok (.ldc2_w 147, 3) := by decide +kernel
theorem dX0_newPremium_15 : decode cX0_newPremium 15 = .ok (.ldiv, 1) := by decide +kernel
theorem dX0_newPremium_16 : decode cX0_newPremium 16 = .ok (.lreturn, 1) := by decide +kernel
set_option maxRecDepth 20000 in
theorem dX0_cappedPremium_0 : decode cX0_cappedPremium 0 = .ok (.aload_n 0, 1) := by decide +kernel
theorem dX0_cappedPremium_1 : decode cX0_cappedPremium 1 = .ok (.getfield 45, 3) := by decide +kernel
theorem dX0_cappedPremium_4 : decode cX0_cappedPremium 4 = .ok (.iconst (-1), 1) := by decide +kernel
theorem dX0_cappedPremium_5 : decode cX0_cappedPremium 5 = .ok (.if_icmp .eq 13, 3) := by decide +kernel
theorem dX0_cappedPremium_8 : decode cX0_cappedPremium 8 = .ok (.aload_n 0, 1) := by decide +kernel
theorem dX0_cappedPremium_9 : decode cX0_cappedPremium 9 = .ok (.getfield 27, 3) := by decide +kernel
theorem dX0_cappedPremium_12 : decode cX0_cappedPremium 12 = .ok (.iload_n 1, 1) := by decide +kernel
theorem dX0_cappedPremium_13 : decode cX0_cappedPremium 13 = .ok (.iaload, 1) := by decide +kernel
theorem dX0_cappedPremium_14 : decode cX0_cappedPremium 14 = .ok (.iconst (-1), 1) := by decide +kernel
theorem dX0_cappedPremium_15 : decode cX0_cappedPremium 15 = .ok (.if_icmp .ne 9, 3) := by decide +kernel
theorem dX0_cappedPremium_18 : decode cX0_cappedPremium 18 = .ok (.aload_n 0, 1) := by decide +kernel
theorem dX0_cappedPremium_19 : decode cX0_cappedPremium 19 = .ok (.iload_n 1, 1) := by decide +kernel
theorem dX0_cappedPremium_20 : decode cX0_cappedPremium 20 = .ok (.invokevirtual 176, 3) := by decide +kernel
theorem dX0_cappedPremium_23 : decode cX0_cappedPremium 23 = .ok (.lreturn, 1) := by decide +kernel
theorem dX0_cappedPremium_24 : decode cX0_cappedPremium 24 = .ok (.aload_n 0, 1) := by decide +kernel
theorem dX0_cappedPremium_25 : decode cX0_cappedPremium 25 = .ok (.getfield 27, 3) := by decide +kernel
theorem dX0_cappedPremium_28 : decode cX0_cappedPremium 28 = .ok (.iload_n 1, 1) := by decide +kernel
theorem dX0_cappedPremium_29 : decode cX0_cappedPremium 29 = .ok (.iaload, 1) := by decide +kernel
theorem dX0_cappedPremium_30 : decode cX0_cappedPremium 30 = .ok (.i2l, 1) := by decide +kernel
theorem dX0_cappedPremium_31 : decode cX0_cappedPremium 31 = .ok (.lstore_n 2, 1) := by decide +kernel
theorem dX0_cappedPremium_32 : decode cX0_cappedPremium 32 = .ok (.lload_n 2, 1) := by decide +kernel
theorem dX0_cappedPremium_33 : decode cX0_cappedPremium 33 = .ok (.bipush 100, 2) := by decide +kernel
theorem dX0_cappedPremium_35 : decode cX0_cappedPremium 35 = .ok (.aload_n 0, 1) := by decide +kernel
theorem dX0_cappedPremium_36 : decode cX0_cappedPremium 36 = .ok (.getfield 45, 3) := by decide +kernel
theorem dX0_cappedPremium_39 : decode cX0_cappedPremium 39 = .ok (.isub, 1) := by decide +kernel
theorem dX0_cappedPremium_40 : decode cX0_cappedPremium 40 = .ok (.iconst 0, 1) := by decide +kernel
theorem dX0_cappedPremium_41 : decode cX0_cappedPremium 41 = .ok (.invokestatic 202, 3) := by decide +kernel
theorem dX0_cappedPremium_44 : decode cX0_cappedPremium 44 = .ok (.i2l, 1) := by decide +kernel
theorem dX0_cappedPremium_45 : decode cX0_cappedPremium 45 = .ok (.lmul, 1) := by decide +kernel
theorem dX0_cappedPremium_46 : decode cX0_cappedPremium 46 = .ok (.ldc2_w 195, 3) := by decide +kernel
theorem dX0_cappedPremium_49 : decode cX0_cappedPremium 49 = .ok (.ldiv, 1) := by decide +kernel
theorem dX0_cappedPremium_50 : decode cX0_cappedPremium 50 = .ok (.lstore 4, 2) := by decide +kernel
theorem dX0_cappedPremium_52 : decode cX0_cappedPremium 52 = .ok (.lload_n 2, 1) := by decide +kernel
theorem dX0_cappedPremium_53 : decode cX0_cappedPremium 53 = .ok (.bipush 100, 2) := by decide +kernel
theorem dX0_cappedPremium_55 : decode cX0_cappedPremium 55 = .ok (.aload_n 0, 1) := by decide +kernel
theorem dX0_cappedPremium_56 : decode cX0_cappedPremium 56 = .ok (.getfield 45, 3) := by decide +kernel
theorem dX0_cappedPremium_59 : decode cX0_cappedPremium 59 = .ok (.iadd, 1) := by decide +kernel
theorem dX0_cappedPremium_60 : decode cX0_cappedPremium 60 = .ok (.i2l, 1) := by decide +kernel
theorem dX0_cappedPremium_61 : decode cX0_cappedPremium 61 = .ok (.lmul, 1) := by decide +kernel
theorem dX0_cappedPremium_62 : decode cX0_cappedPremium 62 = .ok (.ldc2_w 195, 3) := by decide +kernel
theorem dX0_cappedPremium_65 : decode cX0_cappedPremium 65 = .ok (.ldiv, 1) := by decide +kernel
theorem dX0_cappedPremium_66 : decode cX0_cappedPremium 66 = .ok (.lstore 6, 2) := by decide +kernel
theorem dX0_cappedPremium_68 : decode cX0_cappedPremium 68 = .ok (.aload_n 0, 1) := by decide +kernel
theorem dX0_cappedPremium_69 : decode cX0_cappedPremium 69 = .ok (.iload_n 1, 1) := by decide +kernel
theorem dX0_cappedPremium_70 : decode cX0_cappedPremium 70 = .ok (.invokevirtual 176, 3) := by decide +kernel
theorem dX0_cappedPremium_73 : decode cX0_cappedPremium 73 = .ok (.lload 4, 2) := by decide +kernel
theorem dX0_cappedPremium_75 : decode cX0_cappedPremium 75 = .ok (.lload 6, 2) := by decide +kernel
theorem dX0_cappedPremium_77 : decode cX0_cappedPremium 77 = .ok (.invokestatic 161, 3) := by decide +kernel
theorem dX0_cappedPremium_80 : decode cX0_cappedPremium 80 = .ok (.lreturn, 1) := by decide +kernel
set_option maxRecDepth 20000 in
theorem dX0_placeOf_0 : decode cX0_placeOf 0 = .ok (.iconst 0, 1) := by decide +kernel
theorem dX0_placeOf_1 : decode cX0_placeOf 1 = .ok (.istore_n 2, 1) := by decide +kernel
theorem dX0_placeOf_2 : decode cX0_placeOf 2 = .ok (.iconst 0, 1) := by decide +kernel
theorem dX0_placeOf_3 : decode cX0_placeOf 3 = .ok (.istore_n 3, 1) := by decide +kernel
theorem dX0_placeOf_4 : decode cX0_placeOf 4 = .ok (.iload_n 3, 1) := by decide +kernel
theorem dX0_placeOf_5 : decode cX0_placeOf 5 = .ok (.aload_n 0, 1) := by decide +kernel
theorem dX0_placeOf_6 : decode cX0_placeOf 6 = .ok (.getfield 35, 3) := by decide +kernel
theorem dX0_placeOf_9 : decode cX0_placeOf 9 = .ok (.if_icmp .ge 30, 3) := by decide +kernel
theorem dX0_placeOf_12 : decode cX0_placeOf 12 = .ok (.aload_n 0, 1) := by decide +kernel
theorem dX0_placeOf_13 : decode cX0_placeOf 13 = .ok (.getfield 31, 3) := by decide +kernel
theorem dX0_placeOf_16 : decode cX0_placeOf 16 = .ok (.iload_n 3, 1) := by decide +kernel
theorem dX0_placeOf_17 : decode cX0_placeOf 17 = .ok (.baload, 1) := by decide +kernel
theorem dX0_placeOf_18 : decode cX0_placeOf 18 = .ok (.ifCond .eq 15, 3) := by decide +kernel
theorem dX0_placeOf_21 : decode cX0_placeOf 21 = .ok (.aload_n 0, 1) := by decide +kernel
theorem dX0_placeOf_22 : decode cX0_placeOf 22 = .ok (.iload_n 3, 1) := by decide +kernel
theorem dX0_placeOf_23 : decode cX0_placeOf 23 = .ok (.iload_n 1, 1) := by decide +kernel
theorem dX0_placeOf_24 : decode cX0_placeOf 24 = .ok (.invokevirtual 204, 3) := by decide +kernel
theorem dX0_placeOf_27 : decode cX0_placeOf 27 = .ok (.ifCond .eq 6, 3) := by decide +kernel
theorem dX0_placeOf_30 : decode cX0_placeOf 30 = .ok (.iinc 2 1, 3) := by decide +kernel
theorem dX0_placeOf_33 : decode cX0_placeOf 33 = .ok (.iinc 3 1, 3) := by decide +kernel
theorem dX0_placeOf_36 : decode cX0_placeOf 36 = .ok (.goto (-32), 3) := by decide +kernel
theorem dX0_placeOf_39 : decode cX0_placeOf 39 = .ok (.iload_n 2, 1) := by decide +kernel
theorem dX0_placeOf_40 : decode cX0_placeOf 40 = .ok (.ireturn, 1) := by decide +kernel
theorem dX0_isAhead_0 : decode cX0_isAhead 0 = .ok (.aload_n 0, 1) := by decide +kernel
theorem dX0_isAhead_1 : decode cX0_isAhead 1 = .ok (.getfield 24, 3) := by decide +kernel
theorem dX0_isAhead_4 : decode cX0_isAhead 4 = .ok (.iload_n 1, 1) := by decide +kernel
theorem dX0_isAhead_5 : decode cX0_isAhead 5 = .ok (.laload, 1) := by decide +kernel
theorem dX0_isAhead_6 : decode cX0_isAhead 6 = .ok (.lconst 1, 1) := by decide +kernel
theorem dX0_isAhead_7 : decode cX0_isAhead 7 = .ok (.aload_n 0, 1) := by decide +kernel
theorem dX0_isAhead_8 : decode cX0_isAhead 8 = .ok (.getfield 55, 3) := by decide +kernel
theorem dX0_isAhead_11 : decode cX0_isAhead 11 = .ok (.iload_n 2, 1) := by decide +kernel
theorem dX0_isAhead_12 : decode cX0_isAhead 12 = .ok (.laload, 1) := by decide +kernel
theorem dX0_isAhead_13 : decode cX0_isAhead 13 = .ok (.ladd, 1) := by decide +kernel
theorem dX0_isAhead_14 : decode cX0_isAhead 14 = .ok (.lmul, 1) := by decide +kernel
theorem dX0_isAhead_15 : decode cX0_isAhead 15 = .ok (.lstore_n 3, 1) := by decide +kernel
theorem dX0_isAhead_16 : decode cX0_isAhead 16 = .ok (.aload_n 0, 1) := by decide +kernel
theorem dX0_isAhead_17 : decode cX0_isAhead 17 = .ok (.getfield 24, 3) := by decide +kernel
theorem dX0_isAhead_20 : decode cX0_isAhead 20 = .ok (.iload_n 2, 1) := by decide +kernel
theorem dX0_isAhead_21 : decode cX0_isAhead 21 = .ok (.laload, 1) := by decide +kernel
theorem dX0_isAhead_22 : decode cX0_isAhead 22 = .ok (.lconst 1, 1) := by decide +kernel
theorem dX0_isAhead_23 : decode cX0_isAhead 23 = .ok (.aload_n 0, 1) := by decide +kernel
theorem dX0_isAhead_24 : decode cX0_isAhead 24 = .ok (.getfield 55, 3) := by decide +kernel
theorem dX0_isAhead_27 : decode cX0_isAhead 27 = .ok (.iload_n 1, 1) := by decide +kernel
theorem dX0_isAhead_28 : decode cX0_isAhead 28 = .ok (.laload, 1) := by decide +kernel
theorem dX0_isAhead_29 : decode cX0_isAhead 29 = .ok (.ladd, 1) := by decide +kernel
theorem dX0_isAhead_30 : decode cX0_isAhead 30 = .ok (.lmul, 1) := by decide +kernel
theorem dX0_isAhead_31 : decode cX0_isAhead 31 = .ok (.lstore 5, 2) := by decide +kernel
theorem dX0_isAhead_33 : decode cX0_isAhead 33 = .ok (.lload_n 3, 1) := by decide +kernel
theorem dX0_isAhead_34 : decode cX0_isAhead 34 = .ok (.lload 5, 2) := by decide +kernel
theorem dX0_isAhead_36 : decode cX0_isAhead 36 = .ok (.lcmp, 1) := by decide +kernel
theorem dX0_isAhead_37 : decode cX0_isAhead 37 = .ok (.ifCond .gt 15, 3) := by decide +kernel
theorem dX0_isAhead_40 : decode cX0_isAhead 40 = .ok (.lload_n 3, 1) := by decide +kernel
theorem dX0_isAhead_41 : decode cX0_isAhead 41 = .ok (.lload 5, 2) := by decide +kernel
theorem dX0_isAhead_43 : decode cX0_isAhead 43 = .ok (.lcmp, 1) := by decide +kernel
theorem dX0_isAhead_44 : decode cX0_isAhead 44 = .ok (.ifCond .ne 12, 3) := by decide +kernel
theorem dX0_isAhead_47 : decode cX0_isAhead 47 = .ok (.iload_n 1, 1) := by decide +kernel
theorem dX0_isAhead_48 : decode cX0_isAhead 48 = .ok (.iload_n 2, 1) := by decide +kernel
theorem dX0_isAhead_49 : decode cX0_isAhead 49 = .ok (.if_icmp .ge 7, 3) := by decide +kernel
theorem dX0_isAhead_52 : decode cX0_isAhead 52 = .ok (.iconst 1, 1) := by decide +kernel
theorem dX0_isAhead_53 : decode cX0_isAhead 53 = .ok (.goto 4, 3) := by decide +kernel
theorem dX0_isAhead_56 : decode cX0_isAhead 56 = .ok (.iconst 0, 1) := by decide +kernel
theorem dX0_isAhead_57 : decode cX0_isAhead 57 = .ok (.ireturn, 1) := by decide +kernel
end
section
theorem dX1_init_0 : decode cX1_init 0 = .ok (.aload_n 0, 1) := by decide +kernel
theorem dX1_init_1 : decode cX1_init 1 = .ok (.invokespecial 1, 3) := by decide +kernel
theorem dX1_init_4 : decode cX1_init 4 = .ok (.aload_n 0, 1) := by decide +kernel
theorem dX1_init_5 : decode cX1_init 5 = .ok (.bipush 120, 2) := by decide +kernel
theorem dX1_init_7 : decode cX1_init 7 = .ok (.newarray .int, 2) := by decide +kernel
theorem dX1_init_9 : decode cX1_init 9 = .ok (.putfield 7, 3) := by decide +kernel
theorem dX1_init_12 : decode cX1_init 12 = .ok (.aload_n 0, 1) := by decide +kernel
theorem dX1_init_13 : decode cX1_init 13 = .ok (.bipush 40, 2) := by decide +kernel
theorem dX1_init_15 : decode cX1_init 15 = .ok (.newarray .int, 2) := by decide +kernel
theorem dX1_init_17 : decode cX1_init 17 = .ok (.putfield 13, 3) := by decide +kernel
theorem dX1_init_20 : decode cX1_init 20 = .ok (.aload_n 0, 1) := by decide +kernel
theorem dX1_init_21 : decode cX1_init 21 = .ok (.bipush 40, 2) := by decide +kernel
theorem dX1_init_23 : decode cX1_init 23 = .ok (.newarray .int, 2) := by decide +kernel
theorem dX1_init_25 : decode cX1_init 25 = .ok (.putfield 16, 3) := by decide +kernel
theorem dX1_init_28 : decode cX1_init 28 = .ok (.aload_n 0, 1) := by decide +kernel
theorem dX1_init_29 : decode cX1_init 29 = .ok (.bipush 40, 2) := by decide +kernel
theorem dX1_init_31 : decode cX1_init 31 = .ok (.newarray .int, 2) := by decide +kernel
theorem dX1_init_33 : decode cX1_init 33 = .ok (.putfield 19, 3) := by decide +kernel
theorem dX1_init_36 : decode cX1_init 36 = .ok (.aload_n 0, 1) := by decide +kernel
theorem dX1_init_37 : decode cX1_init 37 = .ok (.bipush 40, 2) := by decide +kernel
theorem dX1_init_39 : decode cX1_init 39 = .ok (.newarray .int, 2) := by decide +kernel
theorem dX1_init_41 : decode cX1_init 41 = .ok (.putfield 22, 3) := by decide +kernel
theorem dX1_init_44 : decode cX1_init 44 = .ok (.aload_n 0, 1) := by decide +kernel
theorem dX1_init_45 : decode cX1_init 45 = .ok (.bipush 40, 2) := by decide +kernel
theorem dX1_init_47 : decode cX1_init 47 = .ok (.newarray .boolean, 2) := by decide +kernel
theorem dX1_init_49 : decode cX1_init 49 = .ok (.putfield 25, 3) := by decide +kernel
theorem dX1_init_52 : decode cX1_init 52 = .ok (.aload_n 0, 1) := by decide +kernel
theorem dX1_init_53 : decode cX1_init 53 = .ok (.iconst (-1), 1) := by decide +kernel
theorem dX1_init_54 : decode cX1_init 54 = .ok (.putfield 29, 3) := by decide +kernel
theorem dX1_init_57 : decode cX1_init 57 = .ok (.aload_n 0, 1) := by decide +kernel
theorem dX1_init_58 : decode cX1_init 58 = .ok (.ldc2_w 33, 3) := by decide +kernel
theorem dX1_init_61 : decode cX1_init 61 = .ok (.putfield 35, 3) := by decide +kernel
theorem dX1_init_64 : decode cX1_init 64 = .ok (.aload_n 0, 1) := by decide +kernel
theorem dX1_init_65 : decode cX1_init 65 = .ok (.bipush 12, 2) := by decide +kernel
theorem dX1_init_67 : decode cX1_init 67 = .ok (.newarray .int, 2) := by decide +kernel
theorem dX1_init_69 : decode cX1_init 69 = .ok (.putfield 39, 3) := by decide +kernel
theorem dX1_init_72 : decode cX1_init 72 = .ok (.aload_n 0, 1) := by decide +kernel
theorem dX1_init_73 : decode cX1_init 73 = .ok (.iconst 4, 1) := by decide +kernel
theorem dX1_init_74 : decode cX1_init 74 = .ok (.newarray .int, 2) := by decide +kernel
theorem dX1_init_76 : decode cX1_init 76 = .ok (.putfield 42, 3) := by decide +kernel
theorem dX1_init_79 : decode cX1_init 79 = .ok (.aload_n 0, 1) := by decide +kernel
theorem dX1_init_80 : decode cX1_init 80 = .ok (.iconst 4, 1) := by decide +kernel
theorem dX1_init_81 : decode cX1_init 81 = .ok (.newarray .int, 2) := by decide +kernel
theorem dX1_init_83 : decode cX1_init 83 = .ok (.putfield 45, 3) := by decide +kernel
theorem dX1_init_86 : decode cX1_init 86 = .ok (.iconst 0, 1) := by decide +kernel
theorem dX1_init_87 : decode cX1_init 87 = .ok (.istore_n 1, 1) := by decide +kernel
theorem dX1_init_88 : decode cX1_init 88 = .ok (.iload_n 1, 1) := by decide +kernel
theorem dX1_init_89 : decode cX1_init 89 = .ok (.bipush 12, 2) := by decide +kernel
theorem dX1_init_91 : decode cX1_init 91 = .ok (.if_icmp .ge 18, 3) := by decide +kernel
theorem dX1_init_94 : decode cX1_init 94 = .ok (.aload_n 0, 1) := by decide +kernel
theorem dX1_init_95 : decode cX1_init 95 = .ok (.getfield 39, 3) := by decide +kernel
theorem dX1_init_98 : decode cX1_init 98 = .ok (.iload_n 1, 1) := by decide +kernel
theorem dX1_init_99 : decode cX1_init 99 = .ok (.sipush 10000, 3) := by decide +kernel
theorem dX1_init_102 : decode cX1_init 102 = .ok (.iastore, 1) := by decide +kernel
theorem dX1_init_103 : decode cX1_init 103 = .ok (.iinc 1 1, 3) := by decide +kernel
theorem dX1_init_106 : decode cX1_init 106 = .ok (.goto (-18), 3) := by decide +kernel
theorem dX1_init_109 : decode cX1_init 109 = .ok (.return_, 1) := by decide +kernel
theorem dX1_thrown_0 : decode cX1_thrown 0 = .ok (.aload_n 0, 1) := by decide +kernel
theorem dX1_thrown_1 : decode cX1_thrown 1 = .ok (.getfield 48, 3) := by decide +kernel
theorem dX1_thrown_4 : decode cX1_thrown 4 = .ok (.ireturn, 1) := by decide +kernel
theorem dX1_in_0 : decode cX1_in 0 = .ok (.iload_n 0, 1) := by decide +kernel
theorem dX1_in_1 : decode cX1_in 1 = .ok (.iload_n 1, 1) := by decide +kernel
theorem dX1_in_2 : decode cX1_in 2 = .ok (.if_icmp .lt 12, 3) := by decide +kernel
theorem dX1_in_5 : decode cX1_in 5 = .ok (.iload_n 0, 1) := by decide +kernel
theorem dX1_in_6 : decode cX1_in 6 = .ok (.iload_n 2, 1) := by decide +kernel
theorem dX1_in_7 : decode cX1_in 7 = .ok (.if_icmp .gt 7, 3) := by decide +kernel
theorem dX1_in_10 : decode cX1_in 10 = .ok (.iconst 1, 1) := by decide +kernel
theorem dX1_in_11 : decode cX1_in 11 = .ok (.goto 4, 3) := by decide +kernel
theorem dX1_in_14 : decode cX1_in 14 = .ok (.iconst 0, 1) := by decide +kernel
theorem dX1_in_15 : decode cX1_in 15 = .ok (.ireturn, 1) := by decide +kernel
theorem dX1_goes_0 : decode cX1_goes 0 = .ok (.aload_n 0, 1) := by decide +kernel
theorem dX1_goes_1 : decode cX1_goes 1 = .ok (.iload_n 1, 1) := by decide +kernel
theorem dX1_goes_2 : decode cX1_goes 2 = .ok (.ifCond .ne 7, 3) := by decide +kernel
theorem dX1_goes_5 : decode cX1_goes 5 = .ok (.iconst 1, 1) := by decide +kernel
theorem dX1_goes_6 : decode cX1_goes 6 = .ok (.goto 20, 3) := by decide +kernel
theorem dX1_goes_9 : decode cX1_goes 9 = .ok (.iload_n 2, 1) := by decide +kernel
theorem dX1_goes_10 : decode cX1_goes 10 = .ok (.ifCond .ne 7, 3) := by decide +kernel
theorem dX1_goes_13 : decode cX1_goes 13 = .ok (.iconst 2, 1) := by decide +kernel
theorem dX1_goes_14 : decode cX1_goes 14 = .ok (.goto 12, 3) := by decide +kernel
theorem dX1_goes_17 : decode cX1_goes 17 = .ok (.iload_n 3, 1) := by decide +kernel
theorem dX1_goes_18 : decode cX1_goes 18 = .ok (.ifCond .eq 7, 3) := by decide +kernel
theorem dX1_goes_21 : decode cX1_goes 21 = .ok (.iconst 0, 1) := by decide +kernel
theorem dX1_goes_22 : decode cX1_goes 22 = .ok (.goto 4, 3) := by decide +kernel
theorem dX1_goes_25 : decode cX1_goes 25 = .ok (.iconst 3, 1) := by decide +kernel
theorem dX1_goes_26 : decode cX1_goes 26 = .ok (.putfield 48, 3) := by decide +kernel
theorem dX1_goes_29 : decode cX1_goes 29 = .ok (.aload_n 0, 1) := by decide +kernel
theorem dX1_goes_30 : decode cX1_goes 30 = .ok (.getfield 48, 3) := by decide +kernel
theorem dX1_goes_33 : decode cX1_goes 33 = .ok (.ifCond .ne 7, 3) := by decide +kernel
theorem dX1_goes_36 : decode cX1_goes 36 = .ok (.iconst 1, 1) := by decide +kernel
theorem dX1_goes_37 : decode cX1_goes 37 = .ok (.goto 4, 3) := by decide +kernel
theorem dX1_goes_40 : decode cX1_goes 40 = .ok (.iconst 0, 1) := by decide +kernel
theorem dX1_goes_41 : decode cX1_goes 41 = .ok (.ireturn, 1) := by decide +kernel
theorem dX1_levelsOf_0 : decode cX1_levelsOf 0 = .ok (.iload_n 0, 1) := by decide +kernel
theorem dX1_levelsOf_1 : decode cX1_levelsOf 1 = .ok (.iconst 1, 1) := by decide +kernel
theorem dX1_levelsOf_2 : decode cX1_levelsOf 2 = .ok (.if_icmp .ne 7, 3) := by decide +kernel
theorem dX1_levelsOf_5 : decode cX1_levelsOf 5 = .ok (.iconst 3, 1) := by decide +kernel
theorem dX1_levelsOf_6 : decode cX1_levelsOf 6 = .ok (.goto 4, 3) := by decide +kernel
theorem dX1_levelsOf_9 : decode cX1_levelsOf 9 = .ok (.iconst 4, 1) := by decide +kernel
theorem dX1_levelsOf_10 : decode cX1_levelsOf 10 = .ok (.ireturn, 1) := by decide +kernel
set_option maxRecDepth 20000 in
theorem dX1_isTrait_0 : decode cX1_isTrait 0 = .ok (.iload_n 0, 1) := by decide +kernel
theorem dX1_isTrait_1 : decode cX1_isTrait 1 = .ok (.iconst 0, 1) := by decide +kernel
theorem dX1_isTrait_2 : decode cX1_isTrait 2 = .ok (.iconst 2, 1) := by decide +kernel
theorem dX1_isTrait_3 : decode cX1_isTrait 3 = .ok (.invokestatic 51, 3) := by decide +kernel
theorem dX1_isTrait_6 : decode cX1_isTrait 6 = .ok (.ireturn, 1) := by decide +kernel
set_option maxRecDepth 20000 in
theorem dX1_isLevel_0 : decode cX1_isLevel 0 = .ok (.iload_n 0, 1) := by decide +kernel
theorem dX1_isLevel_1 : decode cX1_isLevel 1 = .ok (.invokestatic 55, 3) := by decide +kernel
theorem dX1_isLevel_4 : decode cX1_isLevel 4 = .ok (.ifCond .eq 21, 3) := by decide +kernel
theorem dX1_isLevel_7 : decode cX1_isLevel 7 = .ok (.iload_n 1, 1) := by decide +kernel
theorem dX1_isLevel_8 : decode cX1_isLevel 8 = .ok (.iconst 0, 1) := by decide +kernel
theorem dX1_isLevel_9 : decode cX1_isLevel 9 = .ok (.iload_n 0, 1) := by decide +kernel
theorem dX1_isLevel_10 : decode cX1_isLevel 10 = .ok (.invokestatic 59, 3) := by decide +kernel
theorem dX1_isLevel_13 : decode cX1_isLevel 13 = .ok (.iconst 1, 1) := by decide +kernel
theorem dX1_isLevel_14 : decode cX1_isLevel 14 = .ok (.isub, 1) := by decide +kernel
theorem dX1_isLevel_15 : decode cX1_isLevel 15 = .ok (.invokestatic 51, 3) := by decide +kernel
theorem dX1_isLevel_18 : decode cX1_isLevel 18 = .ok (.ifCond .eq 7, 3) := by decide +kernel
theorem dX1_isLevel_21 : decode cX1_isLevel 21 = .ok (.iconst 1, 1) := by decide +kernel
theorem dX1_isLevel_22 : decode cX1_isLevel 22 = .ok (.goto 4, 3) := by decide +kernel
theorem dX1_isLevel_25 : decode cX1_isLevel 25 = .ok (.iconst 0, 1) := by decide +kernel
theorem dX1_isLevel_26 : decode cX1_isLevel 26 = .ok (.ireturn, 1) := by decide +kernel
set_option maxRecDepth 20000 in
theorem dX1_isRow_0 : decode cX1_isRow 0 = .ok (.iload_n 1, 1) := by decide +kernel
theorem dX1_isRow_1 : decode cX1_isRow 1 = .ok (.iconst 0, 1) := by decide +kernel
theorem dX1_isRow_2 : decode cX1_isRow 2 = .ok (.aload_n 0, 1) := by decide +kernel
theorem dX1_isRow_3 : decode cX1_isRow 3 = .ok (.getfield 63, 3) := by decide +kernel
theorem dX1_isRow_6 : decode cX1_isRow 6 = .ok (.iconst 1, 1) := by decide +kernel
theorem dX1_isRow_7 : decode cX1_isRow 7 = .ok (.isub, 1) := by decide +kernel
theorem dX1_isRow_8 : decode cX1_isRow 8 = .ok (.invokestatic 51, 3) := by decide +kernel
theorem dX1_isRow_11 : decode cX1_isRow 11 = .ok (.ifCond .eq 16, 3) := by decide +kernel
theorem dX1_isRow_14 : decode cX1_isRow 14 = .ok (.aload_n 0, 1) := by decide +kernel
theorem dX1_isRow_15 : decode cX1_isRow 15 = .ok (.getfield 25, 3) := by decide +kernel
theorem dX1_isRow_18 : decode cX1_isRow 18 = .ok (.iload_n 1, 1) := by decide +kernel
theorem dX1_isRow_19 : decode cX1_isRow 19 = .ok (.baload, 1) := by decide +kernel
theorem dX1_isRow_20 : decode cX1_isRow 20 = .ok (.ifCond .ne 7, 3) := by decide +kernel
theorem dX1_isRow_23 : decode cX1_isRow 23 = .ok (.iconst 1, 1) := by decide +kernel
theorem dX1_isRow_24 : decode cX1_isRow 24 = .ok (.goto 4, 3) := by decide +kernel
theorem dX1_isRow_27 : decode cX1_isRow 27 = .ok (.iconst 0, 1) := by decide +kernel
theorem dX1_isRow_28 : decode cX1_isRow 28 = .ok (.ireturn, 1) := by decide +kernel
set_option maxRecDepth 20000 in
theorem dX1_add_0 : decode cX1_add 0 = .ok (.iconst 0, 1) := by decide +kernel
theorem dX1_add_1 : decode cX1_add 1 = .ok (.iload_n 1, 1) := by decide +kernel
theorem dX1_add_2 : decode cX1_add 2 = .ok (.invokestatic 66, 3) := by decide +kernel
theorem dX1_add_5 : decode cX1_add 5 = .ok (.ifCond .eq 58, 3) := by decide +kernel
theorem dX1_add_8 : decode cX1_add 8 = .ok (.iconst 1, 1) := by decide +kernel
theorem dX1_add_9 : decode cX1_add 9 = .ok (.iload_n 2, 1) := by decide +kernel
theorem dX1_add_10 : decode cX1_add 10 = .ok (.invokestatic 66, 3) := by decide +kernel
theorem dX1_add_13 : decode cX1_add 13 = .ok (.ifCond .eq 50, 3) := by decide +kernel
theorem dX1_add_16 : decode cX1_add 16 = .ok (.iconst 2, 1) := by decide +kernel
theorem dX1_add_17 : decode cX1_add 17 = .ok (.iload_n 3, 1) := by decide +kernel
theorem dX1_add_18 : decode cX1_add 18 = .ok (.invokestatic 66, 3) := by decide +kernel
theorem dX1_add_21 : decode cX1_add 21 = .ok (.ifCond .eq 42, 3) := by decide +kernel
theorem dX1_add_24 : decode cX1_add 24 = .ok (.iload 4, 2) := by decide +kernel
theorem dX1_add_26 : decode cX1_add 26 = .ok (.iconst 1, 1) := by decide +kernel
theorem dX1_add_27 : decode cX1_add 27 = .ok (.sipush 1000, 3) := by decide +kernel
theorem dX1_add_30 : decode cX1_add 30 = .ok (.invokestatic 51, 3) := by decide +kernel
theorem dX1_add_33 : decode cX1_add 33 = .ok (.ifCond .eq 30, 3) := by decide +kernel
theorem dX1_add_36 : decode cX1_add 36 = .ok (.iload 5, 2) := by decide +kernel
theorem dX1_add_38 : decode cX1_add 38 = .ok (.iconst 0, 1) := by decide +kernel
theorem dX1_add_39 : decode cX1_add 39 = .ok (.sipush 1000, 3) := by decide +kernel
theorem dX1_add_42 : decode cX1_add 42 = .ok (.invokestatic 51, 3) := by decide +kernel
theorem dX1_add_45 : decode cX1_add 45 = .ok (.ifCond .eq 18, 3) := by decide +kernel
theorem dX1_add_48 : decode cX1_add 48 = .ok (.iload 6, 2) := by decide +kernel
theorem dX1_add_50 : decode cX1_add 50 = .ok (.iconst 0, 1) := by decide +kernel
theorem dX1_add_51 : decode cX1_add 51 = .ok (.ldc 70, 2) := by decide +kernel
theorem dX1_add_53 : decode cX1_add 53 = .ok (.invokestatic 51, 3) := by decide +kernel
theorem dX1_add_56 : decode cX1_add 56 = .ok (.ifCond .eq 7, 3) := by decide +kernel
theorem dX1_add_59 : decode cX1_add 59 = .ok (.iconst 1, 1) := by decide +kernel
theorem dX1_add_60 : decode cX1_add 60 = .ok (.goto 4, 3) := by decide +kernel
theorem dX1_add_63 : decode cX1_add 63 = .ok (.iconst 0, 1) := by decide +kernel
theorem dX1_add_64 : decode cX1_add 64 = .ok (.istore 7, 2) := by decide +kernel
theorem dX1_add_66 : decode cX1_add 66 = .ok (.aload_n 0, 1) := by decide +kernel
theorem dX1_add_67 : decode cX1_add 67 = .ok (.iload 7, 2) := by decide +kernel
theorem dX1_add_69 : decode cX1_add 69 = .ok (.aload_n 0, 1) := by decide +kernel
theorem dX1_add_70 : decode cX1_add 70 = .ok (.getfield 63, 3) := by decide +kernel
theorem dX1_add_73 : decode cX1_add 73 = .ok (.bipush 40, 2) := by decide +kernel
theorem dX1_add_75 : decode cX1_add 75 = .ok (.if_icmp .ge 7, 3) := by decide +kernel
theorem dX1_add_78 : decode cX1_add 78 = .ok (.iconst 1, 1) := by decide +kernel
theorem dX1_add_79 : decode cX1_add 79 = .ok (.goto 4, 3) := by decide +kernel
theorem dX1_add_82 : decode cX1_add 82 = .ok (.iconst 0, 1) := by decide +kernel
theorem dX1_add_83 : decode cX1_add 83 = .ok (.iconst 1, 1) := by decide +kernel
theorem dX1_add_84 : decode cX1_add 84 = .ok (.invokevirtual 71, 3) := by decide +kernel
theorem dX1_add_87 : decode cX1_add 87 = .ok (.ifCond .ne 5, 3) := by decide +kernel
theorem dX1_add_90 : decode cX1_add 90 = .ok (.iconst 0, 1) := by decide +kernel
theorem dX1_add_91 : decode cX1_add 91 = .ok (.ireturn, 1) := by decide +kernel
theorem dX1_add_92 : decode cX1_add 92 = .ok (.aload_n 0, 1) := by decide +kernel
theorem dX1_add_93 : decode cX1_add 93 = .ok (.getfield 7, 3) := by decide +kernel
theorem dX1_add_96 : decode cX1_add 96 = .ok (.iconst 3, 1) := by decide +kernel
theorem dX1_add_97 : decode cX1_add 97 = .ok (.aload_n 0, 1) := by decide +kernel
theorem dX1_add_98 : decode cX1_add 98 = .ok (.getfield 63, 3) := by decide +kernel
theorem dX1_add_101 : decode cX1_add 101 = .ok (.imul, 1) := by decide +kernel
theorem dX1_add_102 : decode cX1_add 102 = .ok (.iload_n 1, 1) := by decide +kernel
theorem dX1_add_103 : decode cX1_add 103 = .ok (.iastore, 1) := by decide +kernel
theorem dX1_add_104 : decode cX1_add 104 = .ok (.aload_n 0, 1) := by decide +kernel
theorem dX1_add_105 : decode cX1_add 105 = .ok (.getfield 7, 3) := by decide +kernel
theorem dX1_add_108 : decode cX1_add 108 = .ok (.iconst 3, 1) := by decide +kernel
theorem dX1_add_109 : decode cX1_add 109 = .ok (.aload_n 0, 1) := by decide +kernel
theorem dX1_add_110 : decode cX1_add 110 = .ok (.getfield 63, 3) := by decide +kernel
theorem dX1_add_113 : decode cX1_add 113 = .ok (.imul, 1) := by decide +kernel
theorem dX1_add_114 : decode cX1_add 114 = .ok (.iconst 1, 1) := by decide +kernel
theorem dX1_add_115 : decode cX1_add 115 = .ok (.iadd, 1) := by decide +kernel
theorem dX1_add_116 : decode cX1_add 116 = .ok (.iload_n 2, 1) := by decide +kernel
theorem dX1_add_117 : decode cX1_add 117 = .ok (.iastore, 1) := by decide +kernel
theorem dX1_add_118 : decode cX1_add 118 = .ok (.aload_n 0, 1) := by decide +kernel
theorem dX1_add_119 : decode cX1_add 119 = .ok (.getfield 7, 3) := by decide +kernel
theorem dX1_add_122 : decode cX1_add 122 = .ok (.iconst 3, 1) := by decide +kernel
theorem dX1_add_123 : decode cX1_add 123 = .ok (.aload_n 0, 1) := by decide +kernel
theorem dX1_add_124 : decode cX1_add 124 = .ok (.getfield 63, 3) := by decide +kernel
theorem dX1_add_127 : decode cX1_add 127 = .ok (.imul, 1) := by decide +kernel
theorem dX1_add_128 : decode cX1_add 128 = .ok (.iconst 2, 1) := by decide +kernel
theorem dX1_add_129 : decode cX1_add 129 = .ok (.iadd, 1) := by decide +kernel
theorem dX1_add_130 : decode cX1_add 130 = .ok (.iload_n 3, 1) := by decide +kernel
theorem dX1_add_131 : decode cX1_add 131 = .ok (.iastore, 1) := by decide +kernel
theorem dX1_add_132 : decode cX1_add 132 = .ok (.aload_n 0, 1) := by decide +kernel
theorem dX1_add_133 : decode cX1_add 133 = .ok (.getfield 13, 3) := by decide +kernel
theorem dX1_add_136 : decode cX1_add 136 = .ok (.aload_n 0, 1) := by decide +kernel
theorem dX1_add_137 : decode cX1_add 137 = .ok (.getfield 63, 3) := by decide +kernel
theorem dX1_add_140 : decode cX1_add 140 = .ok (.iload 4, 2) := by decide +kernel
theorem dX1_add_142 : decode cX1_add 142 = .ok (.iastore, 1) := by decide +kernel
theorem dX1_add_143 : decode cX1_add 143 = .ok (.aload_n 0, 1) := by decide +kernel
theorem dX1_add_144 : decode cX1_add 144 = .ok (.getfield 16, 3) := by decide +kernel
theorem dX1_add_147 : decode cX1_add 147 = .ok (.aload_n 0, 1) := by decide +kernel
theorem dX1_add_148 : decode cX1_add 148 = .ok (.getfield 63, 3) := by decide +kernel
theorem dX1_add_151 : decode cX1_add 151 = .ok (.iload 5, 2) := by decide +kernel
theorem dX1_add_153 : decode cX1_add 153 = .ok (.iastore, 1) := by decide +kernel
theorem dX1_add_154 : decode cX1_add 154 = .ok (.aload_n 0, 1) := by decide +kernel
theorem dX1_add_155 : decode cX1_add 155 = .ok (.getfield 19, 3) := by decide +kernel
theorem dX1_add_158 : decode cX1_add 158 = .ok (.aload_n 0, 1) := by decide +kernel
theorem dX1_add_159 : decode cX1_add 159 = .ok (.getfield 63, 3) := by decide +kernel
theorem dX1_add_162 : decode cX1_add 162 = .ok (.iload 6, 2) := by decide +kernel
theorem dX1_add_164 : decode cX1_add 164 = .ok (.iastore, 1) := by decide +kernel
theorem dX1_add_165 : decode cX1_add 165 = .ok (.aload_n 0, 1) := by decide +kernel
theorem dX1_add_166 : decode cX1_add 166 = .ok (.getfield 22, 3) := by decide +kernel
theorem dX1_add_169 : decode cX1_add 169 = .ok (.aload_n 0, 1) := by decide +kernel
theorem dX1_add_170 : decode cX1_add 170 = .ok (.getfield 63, 3) := by decide +kernel
theorem dX1_add_173 : decode cX1_add 173 = .ok (.iconst (-1), 1) := by decide +kernel
theorem dX1_add_174 : decode cX1_add 174 = .ok (.iastore, 1) := by decide +kernel
theorem dX1_add_175 : decode cX1_add 175 = .ok (.aload_n 0, 1) := by decide +kernel
theorem dX1_add_176 : decode cX1_add 176 = .ok (.dup, 1) := by decide +kernel
theorem dX1_add_177 : decode cX1_add 177 = .ok (.getfield 63, 3) := by decide +kernel
theorem dX1_add_180 : decode cX1_add 180 = .ok (.iconst 1, 1) := by decide +kernel
theorem dX1_add_181 : decode cX1_add 181 = .ok (.iadd, 1) := by decide +kernel
theorem dX1_add_182 : decode cX1_add 182 = .ok (.putfield 63, 3) := by decide +kernel
theorem dX1_add_185 : decode cX1_add 185 = .ok (.aload_n 0, 1) := by decide +kernel
theorem dX1_add_186 : decode cX1_add 186 = .ok (.getfield 63, 3) := by decide +kernel
theorem dX1_add_189 : decode cX1_add 189 = .ok (.iconst 1, 1) := by decide +kernel
theorem dX1_add_190 : decode cX1_add 190 = .ok (.isub, 1) := by decide +kernel
theorem dX1_add_191 : decode cX1_add 191 = .ok (.ireturn, 1) := by decide +kernel
theorem dX1_count_0 : decode cX1_count 0 = .ok (.iconst 0, 1) := by decide +kernel
theorem dX1_count_1 : decode cX1_count 1 = .ok (.istore_n 1, 1) := by decide +kernel
theorem dX1_count_2 : decode cX1_count 2 = .ok (.iconst 0, 1) := by decide +kernel
theorem dX1_count_3 : decode cX1_count 3 = .ok (.istore_n 2, 1) := by decide +kernel
theorem dX1_count_4 : decode cX1_count 4 = .ok (.iload_n 2, 1) := by decide +kernel
theorem dX1_count_5 : decode cX1_count 5 = .ok (.aload_n 0, 1) := by decide +kernel
theorem dX1_count_6 : decode cX1_count 6 = .ok (.getfield 63, 3) := by decide +kernel
theorem dX1_count_9 : decode cX1_count 9 = .ok (.if_icmp .ge 26, 3) := by decide +kernel
theorem dX1_count_12 : decode cX1_count 12 = .ok (.iload_n 1, 1) := by decide +kernel
theorem dX1_count_13 : decode cX1_count 13 = .ok (.aload_n 0, 1) := by decide +kernel
theorem dX1_count_14 : decode cX1_count 14 = .ok (.getfield 25, 3) := by decide +kernel
theorem dX1_count_17 : decode cX1_count 17 = .ok (.iload_n 2, 1) := by decide +kernel
theorem dX1_count_18 : decode cX1_count 18 = .ok (.baload, 1) := by decide +kernel
theorem dX1_count_19 : decode cX1_count 19 = .ok (.ifCond .eq 7, 3) := by decide +kernel
theorem dX1_count_22 : decode cX1_count 22 = .ok (.iconst 0, 1) := by decide +kernel
theorem dX1_count_23 : decode cX1_count 23 = .ok (.goto 4, 3) := by decide +kernel
theorem dX1_count_26 : decode cX1_count 26 = .ok (.iconst 1, 1) := by decide +kernel
theorem dX1_count_27 : decode cX1_count 27 = .ok (.iadd, 1) := by decide +kernel
theorem dX1_count_28 : decode cX1_count 28 = .ok (.istore_n 1, 1) := by decide +kernel
theorem dX1_count_29 : decode cX1_count 29 = .ok (.iinc 2 1, 3) := by decide +kernel
theorem dX1_count_32 : decode cX1_count 32 = .ok (.goto (-28), 3) := by decide +kernel
theorem dX1_count_35 : decode cX1_count 35 = .ok (.iload_n 1, 1) := by decide +kernel
theorem dX1_count_36 : decode cX1_count 36 = .ok (.ireturn, 1) := by decide +kernel
set_option maxRecDepth 20000 in
theorem dX1_withdraw_0 : decode cX1_withdraw 0 = .ok (.aload_n 0, 1) := by decide +kernel
theorem dX1_withdraw_1 : decode cX1_withdraw 1 = .ok (.aload_n 0, 1) := by decide +kernel
theorem dX1_withdraw_2 : decode cX1_withdraw 2 = .ok (.iload_n 1, 1) := by decide +kernel
theorem dX1_withdraw_3 : decode cX1_withdraw 3 = .ok (.invokevirtual 75, 3) := by decide +kernel
theorem dX1_withdraw_6 : decode cX1_withdraw 6 = .ok (.iconst 1, 1) := by decide +kernel
theorem dX1_withdraw_7 : decode cX1_withdraw 7 = .ok (.iconst 1, 1) := by decide +kernel
theorem dX1_withdraw_8 : decode cX1_withdraw 8 = .ok (.invokevirtual 71, 3) := by decide +kernel
theorem dX1_withdraw_11 : decode cX1_withdraw 11 = .ok (.ifCond .ne 5, 3) := by decide +kernel
theorem dX1_withdraw_14 : decode cX1_withdraw 14 = .ok (.iconst 0, 1) := by decide +kernel
theorem dX1_withdraw_15 : decode cX1_withdraw 15 = .ok (.ireturn, 1) := by decide +kernel
theorem dX1_withdraw_16 : decode cX1_withdraw 16 = .ok (.aload_n 0, 1) := by decide +kernel
theorem dX1_withdraw_17 : decode cX1_withdraw 17 = .ok (.getfield 25, 3) := by decide +kernel
theorem dX1_withdraw_20 : decode cX1_withdraw 20 = .ok (.iload_n 1, 1) := by decide +kernel
theorem dX1_withdraw_21 : decode cX1_withdraw 21 = .ok (.iconst 1, 1) := by decide +kernel
theorem dX1_withdraw_22 : decode cX1_withdraw 22 = .ok (.bastore, 1) := by decide +kernel
theorem dX1_withdraw_23 : decode cX1_withdraw 23 = .ok (.aload_n 0, 1) := by decide +kernel
theorem dX1_withdraw_24 : decode cX1_withdraw 24 = .ok (.invokevirtual 78, 3) := by decide +kernel
theorem dX1_withdraw_27 : decode cX1_withdraw 27 = .ok (.ireturn, 1) := by decide +kernel
set_option maxRecDepth 20000 in
theorem dX1_setOld_0 : decode cX1_setOld 0 = .ok (.aload_n 0, 1) := by decide +kernel
theorem dX1_setOld_1 : decode cX1_setOld 1 = .ok (.aload_n 0, 1) := by decide +kernel
theorem dX1_setOld_2 : decode cX1_setOld 2 = .ok (.iload_n 1, 1) := by decide +kernel
theorem dX1_setOld_3 : decode cX1_setOld 3 = .ok (.invokevirtual 75, 3) := by decide +kernel
theorem dX1_setOld_6 : decode cX1_setOld 6 = .ok (.iload_n 2, 1) := by decide +kernel
theorem dX1_setOld_7 : decode cX1_setOld 7 = .ok (.iconst (-1), 1) := by decide +kernel
theorem dX1_setOld_8 : decode cX1_setOld 8 = .ok (.ldc 82, 2) := by decide +kernel
theorem dX1_setOld_10 : decode cX1_setOld 10 = .ok (.invokestatic 51, 3) := by decide +kernel
theorem dX1_setOld_13 : decode cX1_setOld 13 = .ok (.iconst 1, 1) := by decide +kernel
theorem dX1_setOld_14 : decode cX1_setOld 14 = .ok (.invokevirtual 71, 3) := by decide +kernel
theorem dX1_setOld_17 : decode cX1_setOld 17 = .ok (.ifCond .ne 5, 3) := by decide +kernel
theorem dX1_setOld_20 : decode cX1_setOld 20 = .ok (.iconst 0, 1) := by decide +kernel
theorem dX1_setOld_21 : decode cX1_setOld 21 = .ok (.ireturn, 1) := by decide +kernel
theorem dX1_setOld_22 : decode cX1_setOld 22 = .ok (.aload_n 0, 1) := by decide +kernel
theorem dX1_setOld_23 : decode cX1_setOld 23 = .ok (.getfield 22, 3) := by decide +kernel
theorem dX1_setOld_26 : decode cX1_setOld 26 = .ok (.iload_n 1, 1) := by decide +kernel
theorem dX1_setOld_27 : decode cX1_setOld 27 = .ok (.iaload, 1) := by decide +kernel
theorem dX1_setOld_28 : decode cX1_setOld 28 = .ok (.istore_n 3, 1) := by decide +kernel
theorem dX1_setOld_29 : decode cX1_setOld 29 = .ok (.aload_n 0, 1) := by decide +kernel
theorem dX1_setOld_30 : decode cX1_setOld 30 = .ok (.getfield 22, 3) := by decide +kernel
theorem dX1_setOld_33 : decode cX1_setOld 33 = .ok (.iload_n 1, 1) := by decide +kernel
theorem dX1_setOld_34 : decode cX1_setOld 34 = .ok (.iload_n 2, 1) := by decide +kernel
theorem dX1_setOld_35 : decode cX1_setOld 35 = .ok (.iastore, 1) := by decide +kernel
theorem dX1_setOld_36 : decode cX1_setOld 36 = .ok (.iload_n 3, 1) := by decide +kernel
theorem dX1_setOld_37 : decode cX1_setOld 37 = .ok (.ireturn, 1) := by decide +kernel
set_option maxRecDepth 20000 in
theorem dX1_setRules_0 : decode cX1_setRules 0 = .ok (.aload_n 0, 1) := by decide +kernel
theorem dX1_setRules_1 : decode cX1_setRules 1 = .ok (.iload_n 1, 1) := by decide +kernel
theorem dX1_setRules_2 : decode cX1_setRules 2 = .ok (.iconst 0, 1) := by decide +kernel
theorem dX1_setRules_3 : decode cX1_setRules 3 = .ok (.sipush 1000, 3) := by decide +kernel
theorem dX1_setRules_6 : decode cX1_setRules 6 = .ok (.invokestatic 51, 3) := by decide +kernel
theorem dX1_setRules_9 : decode cX1_setRules 9 = .ok (.ifCond .eq 18, 3) := by decide +kernel
theorem dX1_setRules_12 : decode cX1_setRules 12 = .ok (.iload_n 2, 1) := by decide +kernel
theorem dX1_setRules_13 : decode cX1_setRules 13 = .ok (.iconst (-1), 1) := by decide +kernel
theorem dX1_setRules_14 : decode cX1_setRules 14 = .ok (.sipush 1000, 3) := by decide +kernel
theorem dX1_setRules_17 : decode cX1_setRules 17 = .ok (.invokestatic 51, 3) := by decide +kernel
theorem dX1_setRules_20 : decode cX1_setRules 20 = .ok (.ifCond .eq 7, 3) := by decide +kernel
theorem dX1_setRules_23 : decode cX1_setRules 23 = .ok (.iconst 1, 1) := by decide +kernel
theorem dX1_setRules_24 : decode cX1_setRules 24 = .ok (.goto 4, 3) := by decide +kernel
theorem dX1_setRules_27 : decode cX1_setRules 27 = .ok (.iconst 0, 1) := by decide +kernel
theorem dX1_setRules_28 : decode cX1_setRules 28 = .ok (.iconst 1, 1) := by decide +kernel
theorem dX1_setRules_29 : decode cX1_setRules 29 = .ok (.iconst 1, 1) := by decide +kernel
theorem dX1_setRules_30 : decode cX1_setRules 30 = .ok (.invokevirtual 71, 3) := by decide +kernel
theorem dX1_setRules_33 : decode cX1_setRules 33 = .ok (.ifCond .ne 5, 3) := by decide +kernel
theorem dX1_setRules_36 : decode cX1_setRules 36 = .ok (.iconst 0, 1) := by decide +kernel
theorem dX1_setRules_37 : decode cX1_setRules 37 = .ok (.ireturn, 1) := by decide +kernel
theorem dX1_setRules_38 : decode cX1_setRules 38 = .ok (.aload_n 0, 1) := by decide +kernel
theorem dX1_setRules_39 : decode cX1_setRules 39 = .ok (.getfield 83, 3) := by decide +kernel
theorem dX1_setRules_42 : decode cX1_setRules 42 = .ok (.istore_n 3, 1) := by decide +kernel
theorem dX1_setRules_43 : decode cX1_setRules 43 = .ok (.aload_n 0, 1) := by decide +kernel
theorem dX1_setRules_44 : decode cX1_setRules 44 = .ok (.iload_n 1, 1) := by decide +kernel
theorem dX1_setRules_45 : decode cX1_setRules 45 = .ok (.putfield 83, 3) := by decide +kernel
theorem dX1_setRules_48 : decode cX1_setRules 48 = .ok (.aload_n 0, 1) := by decide +kernel
theorem dX1_setRules_49 : decode cX1_setRules 49 = .ok (.iload_n 2, 1) := by decide +kernel
theorem dX1_setRules_50 : decode cX1_setRules 50 = .ok (.putfield 29, 3) := by decide +kernel
theorem dX1_setRules_53 : decode cX1_setRules 53 = .ok (.iload_n 3, 1) := by decide +kernel
theorem dX1_setRules_54 : decode cX1_setRules 54 = .ok (.ireturn, 1) := by decide +kernel
set_option maxRecDepth 20000 in
theorem dX1_setFactor_0 : decode cX1_setFactor 0 = .ok (.aload_n 0, 1) := by decide +kernel
theorem dX1_setFactor_1 : decode cX1_setFactor 1 = .ok (.iload_n 1, 1) := by decide +kernel
theorem dX1_setFactor_2 : decode cX1_setFactor 2 = .ok (.iload_n 2, 1) := by decide +kernel
theorem dX1_setFactor_3 : decode cX1_setFactor 3 = .ok (.invokestatic 66, 3) := by decide +kernel
theorem dX1_setFactor_6 : decode cX1_setFactor 6 = .ok (.iload_n 3, 1) := by decide +kernel
theorem dX1_setFactor_7 : decode cX1_setFactor 7 = .ok (.bipush 100, 2) := by decide +kernel
theorem dX1_setFactor_9 : decode cX1_setFactor 9 = .ok (.ldc 86, 2) := by decide +kernel
theorem dX1_setFactor_11 : decode cX1_setFactor 11 = .ok (.invokestatic 51, 3) := by decide +kernel
theorem dX1_setFactor_14 : decode cX1_setFactor 14 = .ok (.iconst 1, 1) := by decide +kernel
theorem dX1_setFactor_15 : decode cX1_setFactor 15 = .ok (.invokevirtual 71, 3) := by decide +kernel
theorem dX1_setFactor_18 : decode cX1_setFactor 18 = .ok (.ifCond .ne 5, 3) := by decide +kernel
theorem dX1_setFactor_21 : decode cX1_setFactor 21 = .ok (.iconst 0, 1) := by decide +kernel
theorem dX1_setFactor_22 : decode cX1_setFactor 22 = .ok (.ireturn, 1) := by decide +kernel
theorem dX1_setFactor_23 : decode cX1_setFactor 23 = .ok (.aload_n 0, 1) := by decide +kernel
theorem dX1_setFactor_24 : decode cX1_setFactor 24 = .ok (.getfield 39, 3) := by decide +kernel
theorem dX1_setFactor_27 : decode cX1_setFactor 27 = .ok (.iconst 4, 1) := by decide +kernel
theorem dX1_setFactor_28 : decode cX1_setFactor 28 = .ok (.iload_n 1, 1) := by decide +kernel
theorem dX1_setFactor_29 : decode cX1_setFactor 29 = .ok (.imul, 1) := by decide +kernel
theorem dX1_setFactor_30 : decode cX1_setFactor 30 = .ok (.iload_n 2, 1) := by decide +kernel
theorem dX1_setFactor_31 : decode cX1_setFactor 31 = .ok (.iadd, 1) := by decide +kernel
theorem dX1_setFactor_32 : decode cX1_setFactor 32 = .ok (.iaload, 1) := by decide +kernel
theorem dX1_setFactor_33 : decode cX1_setFactor 33 = .ok (.istore 4, 2) := by decide +kernel
theorem dX1_setFactor_35 : decode cX1_setFactor 35 = .ok (.aload_n 0, 1) := by decide +kernel
theorem dX1_setFactor_36 : decode cX1_setFactor 36 = .ok (.getfield 39, 3) := by decide +kernel
theorem dX1_setFactor_39 : decode cX1_setFactor 39 = .ok (.iconst 4, 1) := by decide +kernel
theorem dX1_setFactor_40 : decode cX1_setFactor 40 = .ok (.iload_n 1, 1) := by decide +kernel
theorem dX1_setFactor_41 : decode cX1_setFactor 41 = .ok (.imul, 1) := by decide +kernel
theorem dX1_setFactor_42 : decode cX1_setFactor 42 = .ok (.iload_n 2, 1) := by decide +kernel
theorem dX1_setFactor_43 : decode cX1_setFactor 43 = .ok (.iadd, 1) := by decide +kernel
theorem dX1_setFactor_44 : decode cX1_setFactor 44 = .ok (.iload_n 3, 1) := by decide +kernel
theorem dX1_setFactor_45 : decode cX1_setFactor 45 = .ok (.iastore, 1) := by decide +kernel
theorem dX1_setFactor_46 : decode cX1_setFactor 46 = .ok (.iload 4, 2) := by decide +kernel
theorem dX1_setFactor_48 : decode cX1_setFactor 48 = .ok (.ireturn, 1) := by decide +kernel
theorem dX1_baseNow_0 : decode cX1_baseNow 0 = .ok (.lconst 0, 1) := by decide +kernel
theorem dX1_baseNow_1 : decode cX1_baseNow 1 = .ok (.lstore_n 1, 1) := by decide +kernel
theorem dX1_baseNow_2 : decode cX1_baseNow 2 = .ok (.lconst 0, 1) := by decide +kernel
theorem dX1_baseNow_3 : decode cX1_baseNow 3 = .ok (.lstore_n 3, 1) := by decide +kernel
theorem dX1_baseNow_4 : decode cX1_baseNow 4 = .ok (.iconst 0, 1) := by decide +kernel
theorem dX1_baseNow_5 : decode cX1_baseNow 5 = .ok (.istore 5, 2) := by decide +kernel
theorem dX1_baseNow_7 : decode cX1_baseNow 7 = .ok (.iload 5, 2) := by decide +kernel
theorem dX1_baseNow_9 : decode cX1_baseNow 9 = .ok (.aload_n 0, 1) := by decide +kernel
theorem dX1_baseNow_10 : decode cX1_baseNow 10 = .ok (.getfield 63, 3) := by decide +kernel
theorem dX1_baseNow_13 : decode cX1_baseNow 13 = .ok (.if_icmp .ge 59, 3) := by decide +kernel
theorem dX1_baseNow_16 : decode cX1_baseNow 16 = .ok (.lload_n 1, 1) := by decide +kernel
theorem dX1_baseNow_17 : decode cX1_baseNow 17 = .ok (.aload_n 0, 1) := by decide +kernel
theorem dX1_baseNow_18 : decode cX1_baseNow 18 = .ok (.getfield 25, 3) := by decide +kernel
theorem dX1_baseNow_21 : decode cX1_baseNow 21 = .ok (.iload 5, 2) := by decide +kernel
theorem dX1_baseNow_23 : decode cX1_baseNow 23 = .ok (.baload, 1) := by decide +kernel
theorem dX1_baseNow_24 : decode cX1_baseNow 24 = .ok (.ifCond .eq 7, 3) := by decide +kernel
theorem dX1_baseNow_27 : decode cX1_baseNow 27 = .ok (.lconst 0, 1) := by decide +kernel
theorem dX1_baseNow_28 : decode cX1_baseNow 28 = .ok (.goto 11, 3) := by decide +kernel
theorem dX1_baseNow_31 : decode cX1_baseNow 31 = .ok (.aload_n 0, 1) := by decide +kernel
theorem dX1_baseNow_32 : decode cX1_baseNow 32 = .ok (.getfield 19, 3) := by decide +kernel
theorem dX1_baseNow_35 : decode cX1_baseNow 35 = .ok (.iload 5, 2) := by decide +kernel
theorem dX1_baseNow_37 : decode cX1_baseNow 37 = .ok (.iaload, 1) := by decide +kernel
theorem dX1_baseNow_38 : decode cX1_baseNow 38 = .ok (.i2l, 1) := by decide +kernel
theorem dX1_baseNow_39 : decode cX1_baseNow 39 = .ok (.ladd, 1) := by decide +kernel
theorem dX1_baseNow_40 : decode cX1_baseNow 40 = .ok (.lstore_n 1, 1) := by decide +kernel
theorem dX1_baseNow_41 : decode cX1_baseNow 41 = .ok (.lload_n 3, 1) := by decide +kernel
theorem dX1_baseNow_42 : decode cX1_baseNow 42 = .ok (.aload_n 0, 1) := by decide +kernel
theorem dX1_baseNow_43 : decode cX1_baseNow 43 = .ok (.getfield 25, 3) := by decide +kernel
theorem dX1_baseNow_46 : decode cX1_baseNow 46 = .ok (.iload 5, 2) := by decide +kernel
theorem dX1_baseNow_48 : decode cX1_baseNow 48 = .ok (.baload, 1) := by decide +kernel
theorem dX1_baseNow_49 : decode cX1_baseNow 49 = .ok (.ifCond .eq 7, 3) := by decide +kernel
theorem dX1_baseNow_52 : decode cX1_baseNow 52 = .ok (.lconst 0, 1) := by decide +kernel
theorem dX1_baseNow_53 : decode cX1_baseNow 53 = .ok (.goto 11, 3) := by decide +kernel
theorem dX1_baseNow_56 : decode cX1_baseNow 56 = .ok (.aload_n 0, 1) := by decide +kernel
theorem dX1_baseNow_57 : decode cX1_baseNow 57 = .ok (.getfield 13, 3) := by decide +kernel
theorem dX1_baseNow_60 : decode cX1_baseNow 60 = .ok (.iload 5, 2) := by decide +kernel
theorem dX1_baseNow_62 : decode cX1_baseNow 62 = .ok (.iaload, 1) := by decide +kernel
theorem dX1_baseNow_63 : decode cX1_baseNow 63 = .ok (.i2l, 1) := by decide +kernel
theorem dX1_baseNow_64 : decode cX1_baseNow 64 = .ok (.ladd, 1) := by decide +kernel
theorem dX1_baseNow_65 : decode cX1_baseNow 65 = .ok (.lstore_n 3, 1) := by decide +kernel
theorem dX1_baseNow_66 : decode cX1_baseNow 66 = .ok (.iinc 5 1, 3) := by decide +kernel
theorem dX1_baseNow_69 : decode cX1_baseNow 69 = .ok (.goto (-62), 3) := by decide +kernel
theorem dX1_baseNow_72 : decode cX1_baseNow 72 = .ok (.lload_n 3, 1) := by decide +kernel
theorem dX1_baseNow_73 : decode cX1_baseNow 73 = .ok (.lconst 0, 1) := by decide +kernel
theorem dX1_baseNow_74 : decode cX1_baseNow 74 = .ok (.lcmp, 1) := by decide +kernel
theorem dX1_baseNow_75 : decode cX1_baseNow 75 = .ok (.ifCond .ne 7, 3) := by decide +kernel
theorem dX1_baseNow_78 : decode cX1_baseNow 78 = .ok (.lconst 0, 1) := by decide +kernel
theorem dX1_baseNow_79 : decode cX1_baseNow 79 = .ok (.goto 10, 3) := by decide +kernel
theorem dX1_baseNow_82 : decode cX1_baseNow 82 = .ok (.ldc2_w 33, 3) := by decide +kernel
theorem dX1_baseNow_85 : decode cX1_baseNow 85 = .ok (.lload_n 1, 1) := by decide +kernel
theorem dX1_baseNow_86 : decode cX1_baseNow 86 = .ok (.lmul, 1) := by decide +kernel
theorem dX1_baseNow_87 : decode cX1_baseNow 87 = .ok (.lload_n 3, 1) := by decide +kernel
theorem dX1_baseNow_88 : decode cX1_baseNow 88 = .ok (.ldiv, 1) := by decide +kernel
theorem dX1_baseNow_89 : decode cX1_baseNow 89 = .ok (.lreturn, 1) := by decide +kernel
theorem dX1_fit_0 : decode cX1_fit 0 = .ok (.aload_n 0, 1) := by decide +kernel
theorem dX1_fit_1 : decode cX1_fit 1 = .ok (.getfield 13, 3) := by decide +kernel
theorem dX1_fit_4 : decode cX1_fit 4 = .ok (.iload_n 1, 1) := by decide +kernel
theorem dX1_fit_5 : decode cX1_fit 5 = .ok (.iaload, 1) := by decide +kernel
theorem dX1_fit_6 : decode cX1_fit 6 = .ok (.i2l, 1) := by decide +kernel
theorem dX1_fit_7 : decode cX1_fit 7 = .ok (.lload_n 2, 1) := by decide +kernel
theorem dX1_fit_8 : decode cX1_fit 8 = .ok (.lmul, 1) := by decide +kernel
theorem dX1_fit_9 : decode cX1_fit 9 = .ok (.ldc2_w 33, 3) := by decide +kernel
theorem dX1_fit_12 : decode cX1_fit 12 = .ok (.ldiv, 1) := by decide +kernel
theorem dX1_fit_13 : decode cX1_fit 13 = .ok (.lstore 4, 2) := by decide +kernel
theorem dX1_fit_15 : decode cX1_fit 15 = .ok (.iconst 0, 1) := by decide +kernel
theorem dX1_fit_16 : decode cX1_fit 16 = .ok (.istore 6, 2) := by decide +kernel
theorem dX1_fit_18 : decode cX1_fit 18 = .ok (.iload 6, 2) := by decide +kernel
theorem dX1_fit_20 : decode cX1_fit 20 = .ok (.iconst 3, 1) := by decide +kernel
theorem dX1_fit_21 : decode cX1_fit 21 = .ok (.if_icmp .ge 40, 3) := by decide +kernel
theorem dX1_fit_24 : decode cX1_fit 24 = .ok (.lload 4, 2) := by decide +kernel
theorem dX1_fit_26 : decode cX1_fit 26 = .ok (.aload_n 0, 1) := by decide +kernel
theorem dX1_fit_27 : decode cX1_fit 27 = .ok (.getfield 39, 3) := by decide +kernel
theorem dX1_fit_30 : decode cX1_fit 30 = .ok (.iconst 4, 1) := by decide +kernel
theorem dX1_fit_31 : decode cX1_fit 31 = .ok (.iload 6, 2) := by decide +kernel
theorem dX1_fit_33 : decode cX1_fit 33 = .ok (.imul, 1) := by decide +kernel
theorem dX1_fit_34 : decode cX1_fit 34 = .ok (.aload_n 0, 1) := by decide +kernel
theorem dX1_fit_35 : decode cX1_fit 35 = .ok (.getfield 7, 3) := by decide +kernel
theorem dX1_fit_38 : decode cX1_fit 38 = .ok (.iconst 3, 1) := by decide +kernel
theorem dX1_fit_39 : decode cX1_fit 39 = .ok (.iload_n 1, 1) := by decide +kernel
theorem dX1_fit_40 : decode cX1_fit 40 = .ok (.imul, 1) := by decide +kernel
theorem dX1_fit_41 : decode cX1_fit 41 = .ok (.iload 6, 2) := by decide +kernel
theorem dX1_fit_43 : decode cX1_fit 43 = .ok (.iadd, 1) := by decide +kernel
theorem dX1_fit_44 : decode cX1_fit 44 = .ok (.iaload, 1) := by decide +kernel
theorem dX1_fit_45 : decode cX1_fit 45 = .ok (.iadd, 1) := by decide +kernel
theorem dX1_fit_46 : decode cX1_fit 46 = .ok (.iaload, 1) := by decide +kernel
theorem dX1_fit_47 : decode cX1_fit 47 = .ok (.i2l, 1) := by decide +kernel
theorem dX1_fit_48 : decode cX1_fit 48 = .ok (.lmul, 1) := by decide +kernel
theorem dX1_fit_49 : decode cX1_fit 49 = .ok (.ldc2_w 33, 3) := by decide +kernel
theorem dX1_fit_52 : decode cX1_fit 52 = .ok (.ldiv, 1) := by decide +kernel
theorem dX1_fit_53 : decode cX1_fit 53 = .ok (.lstore 4, 2) := by decide +kernel
theorem dX1_fit_55 : decode cX1_fit 55 = .ok (.iinc 6 1, 3) := by decide +kernel
theorem dX1_fit_58 : decode cX1_fit 58 = .ok (.goto (-40), 3) := by decide +kernel
theorem dX1_fit_61 : decode cX1_fit 61 = .ok (.lload 4, 2) := by decide +kernel
theorem dX1_fit_63 : decode cX1_fit 63 = .ok (.lreturn, 1) := by decide +kernel
theorem dX1_has_0 : decode cX1_has 0 = .ok (.aload_n 0, 1) := by decide +kernel
theorem dX1_has_1 : decode cX1_has 1 = .ok (.getfield 25, 3) := by decide +kernel
theorem dX1_has_4 : decode cX1_has 4 = .ok (.iload_n 1, 1) := by decide +kernel
theorem dX1_has_5 : decode cX1_has 5 = .ok (.baload, 1) := by decide +kernel
theorem dX1_has_6 : decode cX1_has 6 = .ok (.ifCond .ne 21, 3) := by decide +kernel
theorem dX1_has_9 : decode cX1_has 9 = .ok (.aload_n 0, 1) := by decide +kernel
theorem dX1_has_10 : decode cX1_has 10 = .ok (.getfield 7, 3) := by decide +kernel
theorem dX1_has_13 : decode cX1_has 13 = .ok (.iconst 3, 1) := by decide +kernel
theorem dX1_has_14 : decode cX1_has 14 = .ok (.iload_n 1, 1) := by decide +kernel
theorem dX1_has_15 : decode cX1_has 15 = .ok (.imul, 1) := by decide +kernel
theorem dX1_has_16 : decode cX1_has 16 = .ok (.iload_n 2, 1) := by decide +kernel
theorem dX1_has_17 : decode cX1_has 17 = .ok (.iadd, 1) := by decide +kernel
theorem dX1_has_18 : decode cX1_has 18 = .ok (.iaload, 1) := by decide +kernel
theorem dX1_has_19 : decode cX1_has 19 = .ok (.iload_n 3, 1) := by decide +kernel
theorem dX1_has_20 : decode cX1_has 20 = .ok (.if_icmp .ne 7, 3) := by decide +kernel
theorem dX1_has_23 : decode cX1_has 23 = .ok (.iconst 1, 1) := by decide +kernel
theorem dX1_has_24 : decode cX1_has 24 = .ok (.goto 4, 3) := by decide +kernel
theorem dX1_has_27 : decode cX1_has 27 = .ok (.iconst 0, 1) := by decide +kernel
theorem dX1_has_28 : decode cX1_has 28 = .ok (.ireturn, 1) := by decide +kernel
set_option maxRecDepth 20000 in
theorem dX1_told_0 : decode cX1_told 0 = .ok (.lconst 0, 1) := by decide +kernel
theorem dX1_told_1 : decode cX1_told 1 = .ok (.lstore_n 3, 1) := by decide +kernel
theorem dX1_told_2 : decode cX1_told 2 = .ok (.iconst 0, 1) := by decide +kernel
theorem dX1_told_3 : decode cX1_told 3 = .ok (.istore 5, 2) := by decide +kernel
theorem dX1_told_5 : decode cX1_told 5 = .ok (.iload 5, 2) := by decide +kernel
theorem dX1_told_7 : decode cX1_told 7 = .ok (.aload_n 0, 1) := by decide +kernel
theorem dX1_told_8 : decode cX1_told 8 = .ok (.getfield 63, 3) := by decide +kernel
theorem dX1_told_11 : decode cX1_told 11 = .ok (.if_icmp .ge 35, 3) := by decide +kernel
theorem dX1_told_14 : decode cX1_told 14 = .ok (.lload_n 3, 1) := by decide +kernel
theorem dX1_told_15 : decode cX1_told 15 = .ok (.aload_n 0, 1) := by decide +kernel
theorem dX1_told_16 : decode cX1_told 16 = .ok (.iload 5, 2) := by decide +kernel
theorem dX1_told_18 : decode cX1_told 18 = .ok (.iload_n 1, 1) := by decide +kernel
theorem dX1_told_19 : decode cX1_told 19 = .ok (.iload_n 2, 1) := by decide +kernel
theorem dX1_told_20 : decode cX1_told 20 = .ok (.invokevirtual 87, 3) := by decide +kernel
theorem dX1_told_23 : decode cX1_told 23 = .ok (.ifCond .eq 14, 3) := by decide +kernel
theorem dX1_told_26 : decode cX1_told 26 = .ok (.aload_n 0, 1) := by decide +kernel
theorem dX1_told_27 : decode cX1_told 27 = .ok (.getfield 19, 3) := by decide +kernel
theorem dX1_told_30 : decode cX1_told 30 = .ok (.iload 5, 2) := by decide +kernel
theorem dX1_told_32 : decode cX1_told 32 = .ok (.iaload, 1) := by decide +kernel
theorem dX1_told_33 : decode cX1_told 33 = .ok (.i2l, 1) := by decide +kernel
theorem dX1_told_34 : decode cX1_told 34 = .ok (.goto 4, 3) := by decide +kernel
theorem dX1_told_37 : decode cX1_told 37 = .ok (.lconst 0, 1) := by decide +kernel
theorem dX1_told_38 : decode cX1_told 38 = .ok (.ladd, 1) := by decide +kernel
theorem dX1_told_39 : decode cX1_told 39 = .ok (.lstore_n 3, 1) := by decide +kernel
theorem dX1_told_40 : decode cX1_told 40 = .ok (.iinc 5 1, 3) := by decide +kernel
theorem dX1_told_43 : decode cX1_told 43 = .ok (.goto (-38), 3) := by decide +kernel
theorem dX1_told_46 : decode cX1_told 46 = .ok (.lload_n 3, 1) := by decide +kernel
theorem dX1_told_47 : decode cX1_told 47 = .ok (.lreturn, 1) := by decide +kernel
set_option maxRecDepth 20000 in
theorem dX1_fittedOf_0 : decode cX1_fittedOf 0 = .ok (.aload_n 0, 1) := by decide +kernel
theorem dX1_fittedOf_1 : decode cX1_fittedOf 1 = .ok (.invokevirtual 90, 3) := by decide +kernel
theorem dX1_fittedOf_4 : decode cX1_fittedOf 4 = .ok (.lstore_n 3, 1) := by decide +kernel
theorem dX1_fittedOf_5 : decode cX1_fittedOf 5 = .ok (.lconst 0, 1) := by decide +kernel
theorem dX1_fittedOf_6 : decode cX1_fittedOf 6 = .ok (.lstore 5, 2) := by decide +kernel
theorem dX1_fittedOf_8 : decode cX1_fittedOf 8 = .ok (.iconst 0, 1) := by decide +kernel
theorem dX1_fittedOf_9 : decode cX1_fittedOf 9 = .ok (.istore 7, 2) := by decide +kernel
theorem dX1_fittedOf_11 : decode cX1_fittedOf 11 = .ok (.iload 7, 2) := by decide +kernel
theorem dX1_fittedOf_13 : decode cX1_fittedOf 13 = .ok (.aload_n 0, 1) := by decide +kernel
theorem dX1_fittedOf_14 : decode cX1_fittedOf 14 = .ok (.getfield 63, 3) := by decide +kernel
theorem dX1_fittedOf_17 : decode cX1_fittedOf 17 = .ok (.if_icmp .ge 36, 3) := by decide +kernel
theorem dX1_fittedOf_20 : decode cX1_fittedOf 20 = .ok (.lload 5, 2) := by decide +kernel
theorem dX1_fittedOf_22 : decode cX1_fittedOf 22 = .ok (.aload_n 0, 1) := by decide +kernel
theorem dX1_fittedOf_23 : decode cX1_fittedOf 23 = .ok (.iload 7, 2) := by decide +kernel
theorem dX1_fittedOf_25 : decode cX1_fittedOf 25 = .ok (.iload_n 1, 1) := by decide +kernel
theorem dX1_fittedOf_26 : decode cX1_fittedOf 26 = .ok (.iload_n 2, 1) := by decide +kernel
theorem dX1_fittedOf_27 : decode cX1_fittedOf 27 = .ok (.invokevirtual 87, 3) := by decide +kernel
theorem dX1_fittedOf_30 : decode cX1_fittedOf 30 = .ok (.ifCond .eq 13, 3) := by decide +kernel
theorem dX1_fittedOf_33 : decode cX1_fittedOf 33 = .ok (.aload_n 0, 1) := by decide +kernel
theorem dX1_fittedOf_34 : decode cX1_fittedOf 34 = .ok (.iload 7, 2) := by decide +kernel
theorem dX1_fittedOf_36 : decode cX1_fittedOf 36 = .ok (.lload_n 3, 1) := by decide +kernel
theorem dX1_fittedOf_37 : decode cX1_fittedOf 37 = .ok (.invokevirtual 94, 3) := by decide +kernel
theorem dX1_fittedOf_40 : decode cX1_fittedOf 40 = .ok (.goto 4, 3) := by decide +kernel
theorem dX1_fittedOf_43 : decode cX1_fittedOf 43 = .ok (.lconst 0, 1) := by decide +kernel
theorem dX1_fittedOf_44 : decode cX1_fittedOf 44 = .ok (.ladd, 1) := by decide +kernel
theorem dX1_fittedOf_45 : decode cX1_fittedOf 45 = .ok (.lstore 5, 2) := by decide +kernel
theorem dX1_fittedOf_47 : decode cX1_fittedOf 47 = .ok (.iinc 7 1, 3) := by decide +kernel
theorem dX1_fittedOf_50 : decode cX1_fittedOf 50 = .ok (.goto (-39), 3) := by decide +kernel
theorem dX1_fittedOf_53 : decode cX1_fittedOf 53 = .ok (.lload 5, 2) := by decide +kernel
theorem dX1_fittedOf_55 : decode cX1_fittedOf 55 = .ok (.lreturn, 1) := by decide +kernel
set_option maxRecDepth 20000 in
theorem dX1_claimed_0 : decode cX1_claimed 0 = .ok (.lconst 0, 1) := by decide +kernel
theorem dX1_claimed_1 : decode cX1_claimed 1 = .ok (.lstore_n 3, 1) := by decide +kernel
theorem dX1_claimed_2 : decode cX1_claimed 2 = .ok (.iconst 0, 1) := by decide +kernel
theorem dX1_claimed_3 : decode cX1_claimed 3 = .ok (.istore 5, 2) := by decide +kernel
theorem dX1_claimed_5 : decode cX1_claimed 5 = .ok (.iload 5, 2) := by decide +kernel
theorem dX1_claimed_7 : decode cX1_claimed 7 = .ok (.aload_n 0, 1) := by decide +kernel
theorem dX1_claimed_8 : decode cX1_claimed 8 = .ok (.getfield 63, 3) := by decide +kernel
theorem dX1_claimed_11 : decode cX1_claimed 11 = .ok (.if_icmp .ge 35, 3) := by decide +kernel
theorem dX1_claimed_14 : decode cX1_claimed 14 = .ok (.lload_n 3, 1) := by decide +kernel
theorem dX1_claimed_15 : decode cX1_claimed 15 = .ok (.aload_n 0, 1) := by decide +kernel
theorem dX1_claimed_16 : decode cX1_claimed 16 = .ok (.iload 5, 2) := by decide +kernel
theorem dX1_claimed_18 : decode cX1_claimed 18 = .ok (.iload_n 1, 1) := by decide +kernel
theorem dX1_claimed_19 : decode cX1_claimed 19 = .ok (.iload_n 2, 1) := by decide +kernel
theorem dX1_claimed_20 : decode cX1_claimed 20 = .ok (.invokevirtual 87, 3) := by decide +kernel
theorem dX1_claimed_23 : decode cX1_claimed 23 = .ok (.ifCond .eq 14, 3) := by decide +kernel
theorem dX1_claimed_26 : decode cX1_claimed 26 = .ok (.aload_n 0, 1) := by decide +kernel
theorem dX1_claimed_27 : decode cX1_claimed 27 = .ok (.getfield 16, 3) := by decide +kernel
theorem dX1_claimed_30 : decode cX1_claimed 30 = .ok (.iload 5, 2) := by decide +kernel
theorem dX1_claimed_32 : decode cX1_claimed 32 = .ok (.iaload, 1) := by decide +kernel
theorem dX1_claimed_33 : decode cX1_claimed 33 = .ok (.i2l, 1) := by decide +kernel
theorem dX1_claimed_34 : decode cX1_claimed 34 = .ok (.goto 4, 3) := by decide +kernel
theorem dX1_claimed_37 : decode cX1_claimed 37 = .ok (.lconst 0, 1) := by decide +kernel
theorem dX1_claimed_38 : decode cX1_claimed 38 = .ok (.ladd, 1) := by decide +kernel
theorem dX1_claimed_39 : decode cX1_claimed 39 = .ok (.lstore_n 3, 1) := by decide +kernel
theorem dX1_claimed_40 : decode cX1_claimed 40 = .ok (.iinc 5 1, 3) := by decide +kernel
theorem dX1_claimed_43 : decode cX1_claimed 43 = .ok (.goto (-38), 3) := by decide +kernel
theorem dX1_claimed_46 : decode cX1_claimed 46 = .ok (.lload_n 3, 1) := by decide +kernel
theorem dX1_claimed_47 : decode cX1_claimed 47 = .ok (.lreturn, 1) := by decide +kernel
set_option maxRecDepth 20000 in
theorem dX1_exposed_0 : decode cX1_exposed 0 = .ok (.lconst 0, 1) := by decide +kernel
theorem dX1_exposed_1 : decode cX1_exposed 1 = .ok (.lstore_n 3, 1) := by decide +kernel
theorem dX1_exposed_2 : decode cX1_exposed 2 = .ok (.iconst 0, 1) := by decide +kernel
theorem dX1_exposed_3 : decode cX1_exposed 3 = .ok (.istore 5, 2) := by decide +kernel
theorem dX1_exposed_5 : decode cX1_exposed 5 = .ok (.iload 5, 2) := by decide +kernel
theorem dX1_exposed_7 : decode cX1_exposed 7 = .ok (.aload_n 0, 1) := by decide +kernel
theorem dX1_exposed_8 : decode cX1_exposed 8 = .ok (.getfield 63, 3) := by decide +kernel
theorem dX1_exposed_11 : decode cX1_exposed 11 = .ok (.if_icmp .ge 35, 3) := by decide +kernel
theorem dX1_exposed_14 : decode cX1_exposed 14 = .ok (.lload_n 3, 1) := by decide +kernel
theorem dX1_exposed_15 : decode cX1_exposed 15 = .ok (.aload_n 0, 1) := by decide +kernel
theorem dX1_exposed_16 : decode cX1_exposed 16 = .ok (.iload 5, 2) := by decide +kernel
theorem dX1_exposed_18 : decode cX1_exposed 18 = .ok (.iload_n 1, 1) := by decide +kernel
theorem dX1_exposed_19 : decode cX1_exposed 19 = .ok (.iload_n 2, 1) := by decide +kernel
theorem dX1_exposed_20 : decode cX1_exposed 20 = .ok (.invokevirtual 87, 3) := by decide +kernel
theorem dX1_exposed_23 : decode cX1_exposed 23 = .ok (.ifCond .eq 14, 3) := by decide +kernel
theorem dX1_exposed_26 : decode cX1_exposed 26 = .ok (.aload_n 0, 1) := by decide +kernel
theorem dX1_exposed_27 : decode cX1_exposed 27 = .ok (.getfield 13, 3) := by decide +kernel
theorem dX1_exposed_30 : decode cX1_exposed 30 = .ok (.iload 5, 2) := by decide +kernel
theorem dX1_exposed_32 : decode cX1_exposed 32 = .ok (.iaload, 1) := by decide +kernel
theorem dX1_exposed_33 : decode cX1_exposed 33 = .ok (.i2l, 1) := by decide +kernel
theorem dX1_exposed_34 : decode cX1_exposed 34 = .ok (.goto 4, 3) := by decide +kernel
theorem dX1_exposed_37 : decode cX1_exposed 37 = .ok (.lconst 0, 1) := by decide +kernel
theorem dX1_exposed_38 : decode cX1_exposed 38 = .ok (.ladd, 1) := by decide +kernel
theorem dX1_exposed_39 : decode cX1_exposed 39 = .ok (.lstore_n 3, 1) := by decide +kernel
theorem dX1_exposed_40 : decode cX1_exposed 40 = .ok (.iinc 5 1, 3) := by decide +kernel
theorem dX1_exposed_43 : decode cX1_exposed 43 = .ok (.goto (-38), 3) := by decide +kernel
theorem dX1_exposed_46 : decode cX1_exposed 46 = .ok (.lload_n 3, 1) := by decide +kernel
theorem dX1_exposed_47 : decode cX1_exposed 47 = .ok (.lreturn, 1) := by decide +kernel
theorem dX1_bounded_0 : decode cX1_bounded 0 = .ok (.lload_n 1, 1) := by decide +kernel
theorem dX1_bounded_1 : decode cX1_bounded 1 = .ok (.ldc2_w 98, 3) := by decide +kernel
theorem dX1_bounded_4 : decode cX1_bounded 4 = .ok (.lcmp, 1) := by decide +kernel
theorem dX1_bounded_5 : decode cX1_bounded 5 = .ok (.ifCond .ge 8, 3) := by decide +kernel
theorem dX1_bounded_8 : decode cX1_bounded 8 = .ok (.bipush 100, 2) := by decide +kernel
theorem dX1_bounded_10 : decode cX1_bounded 10 = .ok (.goto 18, 3) := by decide +kernel
theorem dX1_bounded_13 : decode cX1_bounded 13 = .ok (.lload_n 1, 1) := by decide +kernel
theorem dX1_bounded_14 : decode cX1_bounded 14 = .ok (.ldc2_w 100, 3) := by decide +kernel
theorem dX1_bounded_17 : decode cX1_bounded 17 = .ok (.lcmp, 1) := by decide +kernel
theorem dX1_bounded_18 : decode cX1_bounded 18 = .ok (.ifCond .le 8, 3) := by decide +kernel
theorem dX1_bounded_21 : decode cX1_bounded 21 = .ok (.ldc 86, 2) := by decide +kernel
theorem dX1_bounded_23 : decode cX1_bounded 23 = .ok (.goto 5, 3) := by decide +kernel
theorem dX1_bounded_26 : decode cX1_bounded 26 = .ok (.lload_n 1, 1) := by decide +kernel
theorem dX1_bounded_27 : decode cX1_bounded 27 = .ok (.l2i, 1) := by decide +kernel
theorem dX1_bounded_28 : decode cX1_bounded 28 = .ok (.ireturn, 1) := by decide +kernel
set_option maxRecDepth 20000 in
theorem dX1_passes_0 : decode cX1_passes 0 = .ok (.iconst 0, 1) := by decide +kernel
theorem dX1_passes_1 : decode cX1_passes 1 = .ok (.istore_n 2, 1) := by decide +kernel
theorem dX1_passes_2 : decode cX1_passes 2 = .ok (.iconst 0, 1) := by decide +kernel
theorem dX1_passes_3 : decode cX1_passes 3 = .ok (.istore_n 3, 1) := by decide +kernel
theorem dX1_passes_4 : decode cX1_passes 4 = .ok (.iload_n 3, 1) := by decide +kernel
theorem dX1_passes_5 : decode cX1_passes 5 = .ok (.iload_n 1, 1) := by decide +kernel
theorem dX1_passes_6 : decode cX1_passes 6 = .ok (.invokestatic 59, 3) := by decide +kernel
theorem dX1_passes_9 : decode cX1_passes 9 = .ok (.if_icmp .ge 105, 3) := by decide +kernel
theorem dX1_passes_12 : decode cX1_passes 12 = .ok (.aload_n 0, 1) := by decide +kernel
theorem dX1_passes_13 : decode cX1_passes 13 = .ok (.iload_n 1, 1) := by decide +kernel
theorem dX1_passes_14 : decode cX1_passes 14 = .ok (.iload_n 3, 1) := by decide +kernel
theorem dX1_passes_15 : decode cX1_passes 15 = .ok (.invokevirtual 102, 3) := by decide +kernel
theorem dX1_passes_18 : decode cX1_passes 18 = .ok (.lstore 4, 2) := by decide +kernel
theorem dX1_passes_20 : decode cX1_passes 20 = .ok (.aload_n 0, 1) := by decide +kernel
theorem dX1_passes_21 : decode cX1_passes 21 = .ok (.iload_n 1, 1) := by decide +kernel
theorem dX1_passes_22 : decode cX1_passes 22 = .ok (.iload_n 3, 1) := by decide +kernel
theorem dX1_passes_23 : decode cX1_passes 23 = .ok (.invokevirtual 106, 3) := by decide +kernel
theorem dX1_passes_26 : decode cX1_passes 26 = .ok (.lstore 6, 2) := by decide +kernel
theorem dX1_passes_28 : decode cX1_passes 28 = .ok (.aload_n 0, 1) := by decide +kernel
theorem dX1_passes_29 : decode cX1_passes 29 = .ok (.getfield 39, 3) := by decide +kernel
theorem dX1_passes_32 : decode cX1_passes 32 = .ok (.iconst 4, 1) := by decide +kernel
theorem dX1_passes_33 : decode cX1_passes 33 = .ok (.iload_n 1, 1) := by decide +kernel
theorem dX1_passes_34 : decode cX1_passes 34 = .ok (.imul, 1) := by decide +kernel
theorem dX1_passes_35 : decode cX1_passes 35 = .ok (.iload_n 3, 1) := by decide +kernel
theorem dX1_passes_36 : decode cX1_passes 36 = .ok (.iadd, 1) := by decide +kernel
theorem dX1_passes_37 : decode cX1_passes 37 = .ok (.iaload, 1) := by decide +kernel
theorem dX1_passes_38 : decode cX1_passes 38 = .ok (.i2l, 1) := by decide +kernel
theorem dX1_passes_39 : decode cX1_passes 39 = .ok (.lstore 8, 2) := by decide +kernel
theorem dX1_passes_41 : decode cX1_passes 41 = .ok (.aload_n 0, 1) := by decide +kernel
theorem dX1_passes_42 : decode cX1_passes 42 = .ok (.getfield 42, 3) := by decide +kernel
theorem dX1_passes_45 : decode cX1_passes 45 = .ok (.iload_n 3, 1) := by decide +kernel
theorem dX1_passes_46 : decode cX1_passes 46 = .ok (.lload 8, 2) := by decide +kernel
theorem dX1_passes_48 : decode cX1_passes 48 = .ok (.l2i, 1) := by decide +kernel
theorem dX1_passes_49 : decode cX1_passes 49 = .ok (.iastore, 1) := by decide +kernel
theorem dX1_passes_50 : decode cX1_passes 50 = .ok (.lload 4, 2) := by decide +kernel
theorem dX1_passes_52 : decode cX1_passes 52 = .ok (.lconst 0, 1) := by decide +kernel
theorem dX1_passes_53 : decode cX1_passes 53 = .ok (.lcmp, 1) := by decide +kernel
theorem dX1_passes_54 : decode cX1_passes 54 = .ok (.ifCond .le 54, 3) := by decide +kernel
theorem dX1_passes_57 : decode cX1_passes 57 = .ok (.lload 6, 2) := by decide +kernel
theorem dX1_passes_59 : decode cX1_passes 59 = .ok (.lconst 0, 1) := by decide +kernel
theorem dX1_passes_60 : decode cX1_passes 60 = .ok (.lcmp, 1) := by decide +kernel
theorem dX1_passes_61 : decode cX1_passes 61 = .ok (.ifCond .le 47, 3) := by decide +kernel
theorem dX1_passes_64 : decode cX1_passes 64 = .ok (.lload 8, 2) := by decide +kernel
theorem dX1_passes_66 : decode cX1_passes 66 = .ok (.aload_n 0, 1) := by decide +kernel
theorem dX1_passes_67 : decode cX1_passes 67 = .ok (.iload_n 1, 1) := by decide +kernel
theorem dX1_passes_68 : decode cX1_passes 68 = .ok (.iload_n 3, 1) := by decide +kernel
theorem dX1_passes_69 : decode cX1_passes 69 = .ok (.invokevirtual 109, 3) := by decide +kernel
theorem dX1_passes_72 : decode cX1_passes 72 = .ok (.lmul, 1) := by decide +kernel
theorem dX1_passes_73 : decode cX1_passes 73 = .ok (.lload 4, 2) := by decide +kernel
theorem dX1_passes_75 : decode cX1_passes 75 = .ok (.ldiv, 1) := by decide +kernel
theorem dX1_passes_76 : decode cX1_passes 76 = .ok (.lstore 10, 2) := by decide +kernel
theorem dX1_passes_78 : decode cX1_passes 78 = .ok (.aload_n 0, 1) := by decide +kernel
theorem dX1_passes_79 : decode cX1_passes 79 = .ok (.getfield 42, 3) := by decide +kernel
theorem dX1_passes_82 : decode cX1_passes 82 = .ok (.iload_n 3, 1) := by decide +kernel
theorem dX1_passes_83 : decode cX1_passes 83 = .ok (.aload_n 0, 1) := by decide +kernel
theorem dX1_passes_84 : decode cX1_passes 84 = .ok (.lload 8, 2) := by decide +kernel
theorem dX1_passes_86 : decode cX1_passes 86 = .ok (.lload 10, 2) := by decide +kernel
theorem dX1_passes_88 : decode cX1_passes 88 = .ok (.lload 8, 2) := by decide +kernel
theorem dX1_passes_90 : decode cX1_passes 90 = .ok (.lsub, 1) := by decide +kernel
theorem dX1_passes_91 : decode cX1_passes 91 = .ok (.lload 6, 2) := by decide +kernel
theorem dX1_passes_93 : decode cX1_passes 93 = .ok (.lmul, 1) := by decide +kernel
theorem dX1_passes_94 : decode cX1_passes 94 = .ok (.lload 6, 2) := by decide +kernel
theorem dX1_passes_96 : decode cX1_passes 96 = .ok (.aload_n 0, 1) := by decide +kernel
theorem dX1_passes_97 : decode cX1_passes 97 = .ok (.getfield 83, 3) := by decide +kernel
theorem dX1_passes_100 : decode cX1_passes 100 = .ok (.i2l, 1) := by decide +kernel
theorem dX1_passes_101 : decode cX1_passes 101 = .ok (.ladd, 1) := by decide +kernel
theorem dX1_passes_102 : decode cX1_passes 102 = .ok (.ldiv, 1) := by decide +kernel
theorem dX1_passes_103 : decode cX1_passes 103 = .ok (.ladd, 1) := by decide +kernel
theorem dX1_passes_104 : decode cX1_passes 104 = .ok (.invokevirtual 112, 3) := by decide +kernel
theorem dX1_passes_107 : decode cX1_passes 107 = .ok (.iastore, 1) := by decide +kernel
theorem dX1_passes_108 : decode cX1_passes 108 = .ok (.iinc 3 1, 3) := by decide +kernel
theorem dX1_passes_111 : decode cX1_passes 111 = .ok (.goto (-107), 3) := by decide +kernel
theorem dX1_passes_114 : decode cX1_passes 114 = .ok (.iconst 0, 1) := by decide +kernel
theorem dX1_passes_115 : decode cX1_passes 115 = .ok (.istore_n 3, 1) := by decide +kernel
theorem dX1_passes_116 : decode cX1_passes 116 = .ok (.iload_n 3, 1) := by decide +kernel
theorem dX1_passes_117 : decode cX1_passes 117 = .ok (.iload_n 1, 1) := by decide +kernel
theorem dX1_passes_118 : decode cX1_passes 118 = .ok (.invokestatic 59, 3) := by decide +kernel
theorem dX1_passes_121 : decode cX1_passes 121 = .ok (.if_icmp .ge 52, 3) := by decide +kernel
theorem dX1_passes_124 : decode cX1_passes 124 = .ok (.iload_n 2, 1) := by decide +kernel
theorem dX1_passes_125 : decode cX1_passes 125 = .ok (.aload_n 0, 1) := by decide +kernel
theorem dX1_passes_126 : decode cX1_passes 126 = .ok (.getfield 39, 3) := by decide +kernel
theorem dX1_passes_129 : decode cX1_passes 129 = .ok (.iconst 4, 1) := by decide +kernel
theorem dX1_passes_130 : decode cX1_passes 130 = .ok (.iload_n 1, 1) := by decide +kernel
theorem dX1_passes_131 : decode cX1_passes 131 = .ok (.imul, 1) := by decide +kernel
end
section
theorem dX1_passes_132 : decode cX1_passes 132 = .ok (.iload_n 3, 1) := by decide +kernel
theorem dX1_passes_133 : decode cX1_passes 133 = .ok (.iadd, 1) := by decide +kernel
theorem dX1_passes_134 : decode cX1_passes 134 = .ok (.iaload, 1) := by decide +kernel
theorem dX1_passes_135 : decode cX1_passes 135 = .ok (.aload_n 0, 1) := by decide +kernel
theorem dX1_passes_136 : decode cX1_passes 136 = .ok (.getfield 42, 3) := by decide +kernel
theorem dX1_passes_139 : decode cX1_passes 139 = .ok (.iload_n 3, 1) := by decide +kernel
theorem dX1_passes_140 : decode cX1_passes 140 = .ok (.iaload, 1) := by decide +kernel
theorem dX1_passes_141 : decode cX1_passes 141 = .ok (.if_icmp .eq 7, 3) := by decide +kernel
theorem dX1_passes_144 : decode cX1_passes 144 = .ok (.iconst 1, 1) := by decide +kernel
theorem dX1_passes_145 : decode cX1_passes 145 = .ok (.goto 4, 3) := by decide +kernel
theorem dX1_passes_148 : decode cX1_passes 148 = .ok (.iconst 0, 1) := by decide +kernel
theorem dX1_passes_149 : decode cX1_passes 149 = .ok (.iadd, 1) := by decide +kernel
theorem dX1_passes_150 : decode cX1_passes 150 = .ok (.istore_n 2, 1) := by decide +kernel
theorem dX1_passes_151 : decode cX1_passes 151 = .ok (.aload_n 0, 1) := by decide +kernel
theorem dX1_passes_152 : decode cX1_passes 152 = .ok (.getfield 39, 3) := by decide +kernel
theorem dX1_passes_155 : decode cX1_passes 155 = .ok (.iconst 4, 1) := by decide +kernel
theorem dX1_passes_156 : decode cX1_passes 156 = .ok (.iload_n 1, 1) := by decide +kernel
theorem dX1_passes_157 : decode cX1_passes 157 = .ok (.imul, 1) := by decide +kernel
theorem dX1_passes_158 : decode cX1_passes 158 = .ok (.iload_n 3, 1) := by decide +kernel
theorem dX1_passes_159 : decode cX1_passes 159 = .ok (.iadd, 1) := by decide +kernel
theorem dX1_passes_160 : decode cX1_passes 160 = .ok (.aload_n 0, 1) := by decide +kernel
theorem dX1_passes_161 : decode cX1_passes 161 = .ok (.getfield 42, 3) := by decide +kernel
theorem dX1_passes_164 : decode cX1_passes 164 = .ok (.iload_n 3, 1) := by decide +kernel
theorem dX1_passes_165 : decode cX1_passes 165 = .ok (.iaload, 1) := by decide +kernel
theorem dX1_passes_166 : decode cX1_passes 166 = .ok (.iastore, 1) := by decide +kernel
theorem dX1_passes_167 : decode cX1_passes 167 = .ok (.iinc 3 1, 3) := by decide +kernel
theorem dX1_passes_170 : decode cX1_passes 170 = .ok (.goto (-54), 3) := by decide +kernel
theorem dX1_passes_173 : decode cX1_passes 173 = .ok (.iload_n 2, 1) := by decide +kernel
theorem dX1_passes_174 : decode cX1_passes 174 = .ok (.ireturn, 1) := by decide +kernel
set_option maxRecDepth 20000 in
theorem dX1_pass_0 : decode cX1_pass 0 = .ok (.aload_n 0, 1) := by decide +kernel
theorem dX1_pass_1 : decode cX1_pass 1 = .ok (.iload_n 1, 1) := by decide +kernel
theorem dX1_pass_2 : decode cX1_pass 2 = .ok (.invokestatic 55, 3) := by decide +kernel
theorem dX1_pass_5 : decode cX1_pass 5 = .ok (.iconst 1, 1) := by decide +kernel
theorem dX1_pass_6 : decode cX1_pass 6 = .ok (.iconst 1, 1) := by decide +kernel
theorem dX1_pass_7 : decode cX1_pass 7 = .ok (.invokevirtual 71, 3) := by decide +kernel
theorem dX1_pass_10 : decode cX1_pass 10 = .ok (.ifCond .eq 11, 3) := by decide +kernel
theorem dX1_pass_13 : decode cX1_pass 13 = .ok (.aload_n 0, 1) := by decide +kernel
theorem dX1_pass_14 : decode cX1_pass 14 = .ok (.iload_n 1, 1) := by decide +kernel
theorem dX1_pass_15 : decode cX1_pass 15 = .ok (.invokevirtual 116, 3) := by decide +kernel
theorem dX1_pass_18 : decode cX1_pass 18 = .ok (.goto 4, 3) := by decide +kernel
theorem dX1_pass_21 : decode cX1_pass 21 = .ok (.iconst 0, 1) := by decide +kernel
theorem dX1_pass_22 : decode cX1_pass 22 = .ok (.ireturn, 1) := by decide +kernel
set_option maxRecDepth 20000 in
theorem dX1_settle_0 : decode cX1_settle 0 = .ok (.aload_n 0, 1) := by decide +kernel
theorem dX1_settle_1 : decode cX1_settle 1 = .ok (.iconst 0, 1) := by decide +kernel
theorem dX1_settle_2 : decode cX1_settle 2 = .ok (.putfield 48, 3) := by decide +kernel
theorem dX1_settle_5 : decode cX1_settle 5 = .ok (.iconst 0, 1) := by decide +kernel
theorem dX1_settle_6 : decode cX1_settle 6 = .ok (.istore_n 1, 1) := by decide +kernel
theorem dX1_settle_7 : decode cX1_settle 7 = .ok (.iconst 1, 1) := by decide +kernel
theorem dX1_settle_8 : decode cX1_settle 8 = .ok (.istore_n 2, 1) := by decide +kernel
theorem dX1_settle_9 : decode cX1_settle 9 = .ok (.iload_n 2, 1) := by decide +kernel
theorem dX1_settle_10 : decode cX1_settle 10 = .ok (.ifCond .eq 47, 3) := by decide +kernel
theorem dX1_settle_13 : decode cX1_settle 13 = .ok (.iload_n 1, 1) := by decide +kernel
theorem dX1_settle_14 : decode cX1_settle 14 = .ok (.bipush 60, 2) := by decide +kernel
theorem dX1_settle_16 : decode cX1_settle 16 = .ok (.if_icmp .ge 41, 3) := by decide +kernel
theorem dX1_settle_19 : decode cX1_settle 19 = .ok (.aload_n 0, 1) := by decide +kernel
theorem dX1_settle_20 : decode cX1_settle 20 = .ok (.iconst 0, 1) := by decide +kernel
theorem dX1_settle_21 : decode cX1_settle 21 = .ok (.invokevirtual 116, 3) := by decide +kernel
theorem dX1_settle_24 : decode cX1_settle 24 = .ok (.istore_n 3, 1) := by decide +kernel
theorem dX1_settle_25 : decode cX1_settle 25 = .ok (.iload_n 3, 1) := by decide +kernel
theorem dX1_settle_26 : decode cX1_settle 26 = .ok (.aload_n 0, 1) := by decide +kernel
theorem dX1_settle_27 : decode cX1_settle 27 = .ok (.iconst 1, 1) := by decide +kernel
theorem dX1_settle_28 : decode cX1_settle 28 = .ok (.invokevirtual 116, 3) := by decide +kernel
theorem dX1_settle_31 : decode cX1_settle 31 = .ok (.iadd, 1) := by decide +kernel
theorem dX1_settle_32 : decode cX1_settle 32 = .ok (.istore_n 3, 1) := by decide +kernel
theorem dX1_settle_33 : decode cX1_settle 33 = .ok (.iload_n 3, 1) := by decide +kernel
theorem dX1_settle_34 : decode cX1_settle 34 = .ok (.aload_n 0, 1) := by decide +kernel
theorem dX1_settle_35 : decode cX1_settle 35 = .ok (.iconst 2, 1) := by decide +kernel
theorem dX1_settle_36 : decode cX1_settle 36 = .ok (.invokevirtual 116, 3) := by decide +kernel
theorem dX1_settle_39 : decode cX1_settle 39 = .ok (.iadd, 1) := by decide +kernel
theorem dX1_settle_40 : decode cX1_settle 40 = .ok (.istore_n 3, 1) := by decide +kernel
theorem dX1_settle_41 : decode cX1_settle 41 = .ok (.iload_n 3, 1) := by decide +kernel
theorem dX1_settle_42 : decode cX1_settle 42 = .ok (.ifCond .le 7, 3) := by decide +kernel
theorem dX1_settle_45 : decode cX1_settle 45 = .ok (.iconst 1, 1) := by decide +kernel
theorem dX1_settle_46 : decode cX1_settle 46 = .ok (.goto 4, 3) := by decide +kernel
theorem dX1_settle_49 : decode cX1_settle 49 = .ok (.iconst 0, 1) := by decide +kernel
theorem dX1_settle_50 : decode cX1_settle 50 = .ok (.istore_n 2, 1) := by decide +kernel
theorem dX1_settle_51 : decode cX1_settle 51 = .ok (.iinc 1 1, 3) := by decide +kernel
theorem dX1_settle_54 : decode cX1_settle 54 = .ok (.goto (-45), 3) := by decide +kernel
theorem dX1_settle_57 : decode cX1_settle 57 = .ok (.iload_n 1, 1) := by decide +kernel
theorem dX1_settle_58 : decode cX1_settle 58 = .ok (.ireturn, 1) := by decide +kernel
set_option maxRecDepth 20000 in
theorem dX1_means_0 : decode cX1_means 0 = .ok (.lconst 0, 1) := by decide +kernel
theorem dX1_means_1 : decode cX1_means 1 = .ok (.lstore 4, 2) := by decide +kernel
theorem dX1_means_3 : decode cX1_means 3 = .ok (.lconst 0, 1) := by decide +kernel
theorem dX1_means_4 : decode cX1_means 4 = .ok (.lstore 6, 2) := by decide +kernel
theorem dX1_means_6 : decode cX1_means 6 = .ok (.lconst 0, 1) := by decide +kernel
theorem dX1_means_7 : decode cX1_means 7 = .ok (.lstore 8, 2) := by decide +kernel
theorem dX1_means_9 : decode cX1_means 9 = .ok (.iconst 0, 1) := by decide +kernel
theorem dX1_means_10 : decode cX1_means 10 = .ok (.istore 10, 2) := by decide +kernel
theorem dX1_means_12 : decode cX1_means 12 = .ok (.iconst 0, 1) := by decide +kernel
theorem dX1_means_13 : decode cX1_means 13 = .ok (.istore 11, 2) := by decide +kernel
theorem dX1_means_15 : decode cX1_means 15 = .ok (.iload 11, 2) := by decide +kernel
theorem dX1_means_17 : decode cX1_means 17 = .ok (.iload_n 1, 1) := by decide +kernel
theorem dX1_means_18 : decode cX1_means 18 = .ok (.invokestatic 59, 3) := by decide +kernel
theorem dX1_means_21 : decode cX1_means 21 = .ok (.if_icmp .ge 88, 3) := by decide +kernel
theorem dX1_means_24 : decode cX1_means 24 = .ok (.aload_n 0, 1) := by decide +kernel
theorem dX1_means_25 : decode cX1_means 25 = .ok (.getfield 45, 3) := by decide +kernel
theorem dX1_means_28 : decode cX1_means 28 = .ok (.iload 11, 2) := by decide +kernel
theorem dX1_means_30 : decode cX1_means 30 = .ok (.iaload, 1) := by decide +kernel
theorem dX1_means_31 : decode cX1_means 31 = .ok (.iload_n 2, 1) := by decide +kernel
theorem dX1_means_32 : decode cX1_means 32 = .ok (.if_icmp .eq 14, 3) := by decide +kernel
theorem dX1_means_35 : decode cX1_means 35 = .ok (.aload_n 0, 1) := by decide +kernel
theorem dX1_means_36 : decode cX1_means 36 = .ok (.getfield 45, 3) := by decide +kernel
theorem dX1_means_39 : decode cX1_means 39 = .ok (.iload 11, 2) := by decide +kernel
theorem dX1_means_41 : decode cX1_means 41 = .ok (.iaload, 1) := by decide +kernel
theorem dX1_means_42 : decode cX1_means 42 = .ok (.iload_n 3, 1) := by decide +kernel
theorem dX1_means_43 : decode cX1_means 43 = .ok (.if_icmp .ne 60, 3) := by decide +kernel
theorem dX1_means_46 : decode cX1_means 46 = .ok (.lload 4, 2) := by decide +kernel
theorem dX1_means_48 : decode cX1_means 48 = .ok (.aload_n 0, 1) := by decide +kernel
theorem dX1_means_49 : decode cX1_means 49 = .ok (.iload_n 1, 1) := by decide +kernel
theorem dX1_means_50 : decode cX1_means 50 = .ok (.iload 11, 2) := by decide +kernel
theorem dX1_means_52 : decode cX1_means 52 = .ok (.invokevirtual 119, 3) := by decide +kernel
theorem dX1_means_55 : decode cX1_means 55 = .ok (.aload_n 0, 1) := by decide +kernel
theorem dX1_means_56 : decode cX1_means 56 = .ok (.getfield 39, 3) := by decide +kernel
theorem dX1_means_59 : decode cX1_means 59 = .ok (.iconst 4, 1) := by decide +kernel
theorem dX1_means_60 : decode cX1_means 60 = .ok (.iload_n 1, 1) := by decide +kernel
theorem dX1_means_61 : decode cX1_means 61 = .ok (.imul, 1) := by decide +kernel
theorem dX1_means_62 : decode cX1_means 62 = .ok (.iload 11, 2) := by decide +kernel
theorem dX1_means_64 : decode cX1_means 64 = .ok (.iadd, 1) := by decide +kernel
theorem dX1_means_65 : decode cX1_means 65 = .ok (.iaload, 1) := by decide +kernel
theorem dX1_means_66 : decode cX1_means 66 = .ok (.i2l, 1) := by decide +kernel
theorem dX1_means_67 : decode cX1_means 67 = .ok (.lmul, 1) := by decide +kernel
theorem dX1_means_68 : decode cX1_means 68 = .ok (.ladd, 1) := by decide +kernel
theorem dX1_means_69 : decode cX1_means 69 = .ok (.lstore 4, 2) := by decide +kernel
theorem dX1_means_71 : decode cX1_means 71 = .ok (.lload 8, 2) := by decide +kernel
theorem dX1_means_73 : decode cX1_means 73 = .ok (.aload_n 0, 1) := by decide +kernel
theorem dX1_means_74 : decode cX1_means 74 = .ok (.iload_n 1, 1) := by decide +kernel
theorem dX1_means_75 : decode cX1_means 75 = .ok (.iload 11, 2) := by decide +kernel
theorem dX1_means_77 : decode cX1_means 77 = .ok (.invokevirtual 119, 3) := by decide +kernel
theorem dX1_means_80 : decode cX1_means 80 = .ok (.ladd, 1) := by decide +kernel
theorem dX1_means_81 : decode cX1_means 81 = .ok (.lstore 8, 2) := by decide +kernel
theorem dX1_means_83 : decode cX1_means 83 = .ok (.lload 6, 2) := by decide +kernel
theorem dX1_means_85 : decode cX1_means 85 = .ok (.aload_n 0, 1) := by decide +kernel
theorem dX1_means_86 : decode cX1_means 86 = .ok (.getfield 39, 3) := by decide +kernel
theorem dX1_means_89 : decode cX1_means 89 = .ok (.iconst 4, 1) := by decide +kernel
theorem dX1_means_90 : decode cX1_means 90 = .ok (.iload_n 1, 1) := by decide +kernel
theorem dX1_means_91 : decode cX1_means 91 = .ok (.imul, 1) := by decide +kernel
theorem dX1_means_92 : decode cX1_means 92 = .ok (.iload 11, 2) := by decide +kernel
theorem dX1_means_94 : decode cX1_means 94 = .ok (.iadd, 1) := by decide +kernel
theorem dX1_means_95 : decode cX1_means 95 = .ok (.iaload, 1) := by decide +kernel
theorem dX1_means_96 : decode cX1_means 96 = .ok (.i2l, 1) := by decide +kernel
theorem dX1_means_97 : decode cX1_means 97 = .ok (.ladd, 1) := by decide +kernel
theorem dX1_means_98 : decode cX1_means 98 = .ok (.lstore 6, 2) := by decide +kernel
theorem dX1_means_100 : decode cX1_means 100 = .ok (.iinc 10 1, 3) := by decide +kernel
theorem dX1_means_103 : decode cX1_means 103 = .ok (.iinc 11 1, 3) := by decide +kernel
theorem dX1_means_106 : decode cX1_means 106 = .ok (.goto (-91), 3) := by decide +kernel
theorem dX1_means_109 : decode cX1_means 109 = .ok (.lload 8, 2) := by decide +kernel
theorem dX1_means_111 : decode cX1_means 111 = .ok (.lconst 0, 1) := by decide +kernel
theorem dX1_means_112 : decode cX1_means 112 = .ok (.lcmp, 1) := by decide +kernel
theorem dX1_means_113 : decode cX1_means 113 = .ok (.ifCond .ne 12, 3) := by decide +kernel
theorem dX1_means_116 : decode cX1_means 116 = .ok (.lload 6, 2) := by decide +kernel
theorem dX1_means_118 : decode cX1_means 118 = .ok (.iload 10, 2) := by decide +kernel
theorem dX1_means_120 : decode cX1_means 120 = .ok (.i2l, 1) := by decide +kernel
theorem dX1_means_121 : decode cX1_means 121 = .ok (.ldiv, 1) := by decide +kernel
theorem dX1_means_122 : decode cX1_means 122 = .ok (.goto 8, 3) := by decide +kernel
theorem dX1_means_125 : decode cX1_means 125 = .ok (.lload 4, 2) := by decide +kernel
theorem dX1_means_127 : decode cX1_means 127 = .ok (.lload 8, 2) := by decide +kernel
theorem dX1_means_129 : decode cX1_means 129 = .ok (.ldiv, 1) := by decide +kernel
theorem dX1_means_130 : decode cX1_means 130 = .ok (.lstore 11, 2) := by decide +kernel
theorem dX1_means_132 : decode cX1_means 132 = .ok (.iconst 0, 1) := by decide +kernel
theorem dX1_means_133 : decode cX1_means 133 = .ok (.istore 13, 2) := by decide +kernel
theorem dX1_means_135 : decode cX1_means 135 = .ok (.iload 13, 2) := by decide +kernel
theorem dX1_means_137 : decode cX1_means 137 = .ok (.iload_n 1, 1) := by decide +kernel
theorem dX1_means_138 : decode cX1_means 138 = .ok (.invokestatic 59, 3) := by decide +kernel
theorem dX1_means_141 : decode cX1_means 141 = .ok (.if_icmp .ge 53, 3) := by decide +kernel
theorem dX1_means_144 : decode cX1_means 144 = .ok (.aload_n 0, 1) := by decide +kernel
theorem dX1_means_145 : decode cX1_means 145 = .ok (.getfield 45, 3) := by decide +kernel
theorem dX1_means_148 : decode cX1_means 148 = .ok (.iload 13, 2) := by decide +kernel
theorem dX1_means_150 : decode cX1_means 150 = .ok (.iaload, 1) := by decide +kernel
theorem dX1_means_151 : decode cX1_means 151 = .ok (.iload_n 2, 1) := by decide +kernel
theorem dX1_means_152 : decode cX1_means 152 = .ok (.if_icmp .eq 14, 3) := by decide +kernel
theorem dX1_means_155 : decode cX1_means 155 = .ok (.aload_n 0, 1) := by decide +kernel
theorem dX1_means_156 : decode cX1_means 156 = .ok (.getfield 45, 3) := by decide +kernel
theorem dX1_means_159 : decode cX1_means 159 = .ok (.iload 13, 2) := by decide +kernel
theorem dX1_means_161 : decode cX1_means 161 = .ok (.iaload, 1) := by decide +kernel
theorem dX1_means_162 : decode cX1_means 162 = .ok (.iload_n 3, 1) := by decide +kernel
theorem dX1_means_163 : decode cX1_means 163 = .ok (.if_icmp .ne 25, 3) := by decide +kernel
theorem dX1_means_166 : decode cX1_means 166 = .ok (.aload_n 0, 1) := by decide +kernel
theorem dX1_means_167 : decode cX1_means 167 = .ok (.getfield 45, 3) := by decide +kernel
theorem dX1_means_170 : decode cX1_means 170 = .ok (.iload 13, 2) := by decide +kernel
theorem dX1_means_172 : decode cX1_means 172 = .ok (.iload_n 2, 1) := by decide +kernel
theorem dX1_means_173 : decode cX1_means 173 = .ok (.iastore, 1) := by decide +kernel
theorem dX1_means_174 : decode cX1_means 174 = .ok (.aload_n 0, 1) := by decide +kernel
theorem dX1_means_175 : decode cX1_means 175 = .ok (.getfield 39, 3) := by decide +kernel
theorem dX1_means_178 : decode cX1_means 178 = .ok (.iconst 4, 1) := by decide +kernel
theorem dX1_means_179 : decode cX1_means 179 = .ok (.iload_n 1, 1) := by decide +kernel
theorem dX1_means_180 : decode cX1_means 180 = .ok (.imul, 1) := by decide +kernel
theorem dX1_means_181 : decode cX1_means 181 = .ok (.iload 13, 2) := by decide +kernel
theorem dX1_means_183 : decode cX1_means 183 = .ok (.iadd, 1) := by decide +kernel
theorem dX1_means_184 : decode cX1_means 184 = .ok (.lload 11, 2) := by decide +kernel
theorem dX1_means_186 : decode cX1_means 186 = .ok (.l2i, 1) := by decide +kernel
theorem dX1_means_187 : decode cX1_means 187 = .ok (.iastore, 1) := by decide +kernel
theorem dX1_means_188 : decode cX1_means 188 = .ok (.iinc 13 1, 3) := by decide +kernel
theorem dX1_means_191 : decode cX1_means 191 = .ok (.goto (-56), 3) := by decide +kernel
theorem dX1_means_194 : decode cX1_means 194 = .ok (.return_, 1) := by decide +kernel
set_option maxRecDepth 20000 in
theorem dX1_lowestLess_0 : decode cX1_lowestLess 0 = .ok (.iconst 1, 1) := by decide +kernel
theorem dX1_lowestLess_1 : decode cX1_lowestLess 1 = .ok (.istore_n 2, 1) := by decide +kernel
theorem dX1_lowestLess_2 : decode cX1_lowestLess 2 = .ok (.iload_n 2, 1) := by decide +kernel
theorem dX1_lowestLess_3 : decode cX1_lowestLess 3 = .ok (.iload_n 1, 1) := by decide +kernel
theorem dX1_lowestLess_4 : decode cX1_lowestLess 4 = .ok (.invokestatic 59, 3) := by decide +kernel
theorem dX1_lowestLess_7 : decode cX1_lowestLess 7 = .ok (.if_icmp .ge 36, 3) := by decide +kernel
theorem dX1_lowestLess_10 : decode cX1_lowestLess 10 = .ok (.aload_n 0, 1) := by decide +kernel
theorem dX1_lowestLess_11 : decode cX1_lowestLess 11 = .ok (.getfield 39, 3) := by decide +kernel
theorem dX1_lowestLess_14 : decode cX1_lowestLess 14 = .ok (.iconst 4, 1) := by decide +kernel
theorem dX1_lowestLess_15 : decode cX1_lowestLess 15 = .ok (.iload_n 1, 1) := by decide +kernel
theorem dX1_lowestLess_16 : decode cX1_lowestLess 16 = .ok (.imul, 1) := by decide +kernel
theorem dX1_lowestLess_17 : decode cX1_lowestLess 17 = .ok (.iload_n 2, 1) := by decide +kernel
theorem dX1_lowestLess_18 : decode cX1_lowestLess 18 = .ok (.iadd, 1) := by decide +kernel
theorem dX1_lowestLess_19 : decode cX1_lowestLess 19 = .ok (.iaload, 1) := by decide +kernel
theorem dX1_lowestLess_20 : decode cX1_lowestLess 20 = .ok (.aload_n 0, 1) := by decide +kernel
theorem dX1_lowestLess_21 : decode cX1_lowestLess 21 = .ok (.getfield 39, 3) := by decide +kernel
theorem dX1_lowestLess_24 : decode cX1_lowestLess 24 = .ok (.iconst 4, 1) := by decide +kernel
theorem dX1_lowestLess_25 : decode cX1_lowestLess 25 = .ok (.iload_n 1, 1) := by decide +kernel
theorem dX1_lowestLess_26 : decode cX1_lowestLess 26 = .ok (.imul, 1) := by decide +kernel
theorem dX1_lowestLess_27 : decode cX1_lowestLess 27 = .ok (.iload_n 2, 1) := by decide +kernel
theorem dX1_lowestLess_28 : decode cX1_lowestLess 28 = .ok (.iadd, 1) := by decide +kernel
theorem dX1_lowestLess_29 : decode cX1_lowestLess 29 = .ok (.iconst 1, 1) := by decide +kernel
theorem dX1_lowestLess_30 : decode cX1_lowestLess 30 = .ok (.isub, 1) := by decide +kernel
theorem dX1_lowestLess_31 : decode cX1_lowestLess 31 = .ok (.iaload, 1) := by decide +kernel
theorem dX1_lowestLess_32 : decode cX1_lowestLess 32 = .ok (.if_icmp .ge 5, 3) := by decide +kernel
theorem dX1_lowestLess_35 : decode cX1_lowestLess 35 = .ok (.iload_n 2, 1) := by decide +kernel
theorem dX1_lowestLess_36 : decode cX1_lowestLess 36 = .ok (.ireturn, 1) := by decide +kernel
theorem dX1_lowestLess_37 : decode cX1_lowestLess 37 = .ok (.iinc 2 1, 3) := by decide +kernel
theorem dX1_lowestLess_40 : decode cX1_lowestLess 40 = .ok (.goto (-38), 3) := by decide +kernel
theorem dX1_lowestLess_43 : decode cX1_lowestLess 43 = .ok (.iconst (-1), 1) := by decide +kernel
theorem dX1_lowestLess_44 : decode cX1_lowestLess 44 = .ok (.ireturn, 1) := by decide +kernel
set_option maxRecDepth 20000 in
theorem dX1_smooth_0 : decode cX1_smooth 0 = .ok (.aload_n 0, 1) := by decide +kernel
theorem dX1_smooth_1 : decode cX1_smooth 1 = .ok (.iload_n 1, 1) := by decide +kernel
theorem dX1_smooth_2 : decode cX1_smooth 2 = .ok (.invokestatic 55, 3) := by decide +kernel
theorem dX1_smooth_5 : decode cX1_smooth 5 = .ok (.iconst 1, 1) := by decide +kernel
theorem dX1_smooth_6 : decode cX1_smooth 6 = .ok (.iconst 1, 1) := by decide +kernel
theorem dX1_smooth_7 : decode cX1_smooth 7 = .ok (.invokevirtual 71, 3) := by decide +kernel
theorem dX1_smooth_10 : decode cX1_smooth 10 = .ok (.ifCond .ne 5, 3) := by decide +kernel
theorem dX1_smooth_13 : decode cX1_smooth 13 = .ok (.iconst 0, 1) := by decide +kernel
theorem dX1_smooth_14 : decode cX1_smooth 14 = .ok (.ireturn, 1) := by decide +kernel
theorem dX1_smooth_15 : decode cX1_smooth 15 = .ok (.iconst 0, 1) := by decide +kernel
theorem dX1_smooth_16 : decode cX1_smooth 16 = .ok (.istore_n 2, 1) := by decide +kernel
theorem dX1_smooth_17 : decode cX1_smooth 17 = .ok (.iload_n 2, 1) := by decide +kernel
theorem dX1_smooth_18 : decode cX1_smooth 18 = .ok (.iload_n 1, 1) := by decide +kernel
theorem dX1_smooth_19 : decode cX1_smooth 19 = .ok (.invokestatic 59, 3) := by decide +kernel
theorem dX1_smooth_22 : decode cX1_smooth 22 = .ok (.if_icmp .ge 32, 3) := by decide +kernel
theorem dX1_smooth_25 : decode cX1_smooth 25 = .ok (.aload_n 0, 1) := by decide +kernel
theorem dX1_smooth_26 : decode cX1_smooth 26 = .ok (.getfield 45, 3) := by decide +kernel
theorem dX1_smooth_29 : decode cX1_smooth 29 = .ok (.iload_n 2, 1) := by decide +kernel
theorem dX1_smooth_30 : decode cX1_smooth 30 = .ok (.iload_n 2, 1) := by decide +kernel
theorem dX1_smooth_31 : decode cX1_smooth 31 = .ok (.iastore, 1) := by decide +kernel
theorem dX1_smooth_32 : decode cX1_smooth 32 = .ok (.aload_n 0, 1) := by decide +kernel
theorem dX1_smooth_33 : decode cX1_smooth 33 = .ok (.getfield 42, 3) := by decide +kernel
theorem dX1_smooth_36 : decode cX1_smooth 36 = .ok (.iload_n 2, 1) := by decide +kernel
theorem dX1_smooth_37 : decode cX1_smooth 37 = .ok (.aload_n 0, 1) := by decide +kernel
theorem dX1_smooth_38 : decode cX1_smooth 38 = .ok (.getfield 39, 3) := by decide +kernel
theorem dX1_smooth_41 : decode cX1_smooth 41 = .ok (.iconst 4, 1) := by decide +kernel
theorem dX1_smooth_42 : decode cX1_smooth 42 = .ok (.iload_n 1, 1) := by decide +kernel
theorem dX1_smooth_43 : decode cX1_smooth 43 = .ok (.imul, 1) := by decide +kernel
theorem dX1_smooth_44 : decode cX1_smooth 44 = .ok (.iload_n 2, 1) := by decide +kernel
theorem dX1_smooth_45 : decode cX1_smooth 45 = .ok (.iadd, 1) := by decide +kernel
theorem dX1_smooth_46 : decode cX1_smooth 46 = .ok (.iaload, 1) := by decide +kernel
theorem dX1_smooth_47 : decode cX1_smooth 47 = .ok (.iastore, 1) := by decide +kernel
theorem dX1_smooth_48 : decode cX1_smooth 48 = .ok (.iinc 2 1, 3) := by decide +kernel
theorem dX1_smooth_51 : decode cX1_smooth 51 = .ok (.goto (-34), 3) := by decide +kernel
theorem dX1_smooth_54 : decode cX1_smooth 54 = .ok (.aload_n 0, 1) := by decide +kernel
theorem dX1_smooth_55 : decode cX1_smooth 55 = .ok (.iload_n 1, 1) := by decide +kernel
theorem dX1_smooth_56 : decode cX1_smooth 56 = .ok (.invokevirtual 122, 3) := by decide +kernel
theorem dX1_smooth_59 : decode cX1_smooth 59 = .ok (.iconst (-1), 1) := by decide +kernel
theorem dX1_smooth_60 : decode cX1_smooth 60 = .ok (.if_icmp .eq 31, 3) := by decide +kernel
theorem dX1_smooth_63 : decode cX1_smooth 63 = .ok (.aload_n 0, 1) := by decide +kernel
theorem dX1_smooth_64 : decode cX1_smooth 64 = .ok (.iload_n 1, 1) := by decide +kernel
theorem dX1_smooth_65 : decode cX1_smooth 65 = .ok (.invokevirtual 122, 3) := by decide +kernel
theorem dX1_smooth_68 : decode cX1_smooth 68 = .ok (.istore_n 2, 1) := by decide +kernel
theorem dX1_smooth_69 : decode cX1_smooth 69 = .ok (.aload_n 0, 1) := by decide +kernel
theorem dX1_smooth_70 : decode cX1_smooth 70 = .ok (.iload_n 1, 1) := by decide +kernel
theorem dX1_smooth_71 : decode cX1_smooth 71 = .ok (.aload_n 0, 1) := by decide +kernel
theorem dX1_smooth_72 : decode cX1_smooth 72 = .ok (.getfield 45, 3) := by decide +kernel
theorem dX1_smooth_75 : decode cX1_smooth 75 = .ok (.iload_n 2, 1) := by decide +kernel
theorem dX1_smooth_76 : decode cX1_smooth 76 = .ok (.iconst 1, 1) := by decide +kernel
theorem dX1_smooth_77 : decode cX1_smooth 77 = .ok (.isub, 1) := by decide +kernel
theorem dX1_smooth_78 : decode cX1_smooth 78 = .ok (.iaload, 1) := by decide +kernel
theorem dX1_smooth_79 : decode cX1_smooth 79 = .ok (.aload_n 0, 1) := by decide +kernel
theorem dX1_smooth_80 : decode cX1_smooth 80 = .ok (.getfield 45, 3) := by decide +kernel
theorem dX1_smooth_83 : decode cX1_smooth 83 = .ok (.iload_n 2, 1) := by decide +kernel
theorem dX1_smooth_84 : decode cX1_smooth 84 = .ok (.iaload, 1) := by decide +kernel
theorem dX1_smooth_85 : decode cX1_smooth 85 = .ok (.invokevirtual 125, 3) := by decide +kernel
theorem dX1_smooth_88 : decode cX1_smooth 88 = .ok (.goto (-34), 3) := by decide +kernel
theorem dX1_smooth_91 : decode cX1_smooth 91 = .ok (.iconst 0, 1) := by decide +kernel
theorem dX1_smooth_92 : decode cX1_smooth 92 = .ok (.istore_n 2, 1) := by decide +kernel
theorem dX1_smooth_93 : decode cX1_smooth 93 = .ok (.iconst 0, 1) := by decide +kernel
theorem dX1_smooth_94 : decode cX1_smooth 94 = .ok (.istore_n 3, 1) := by decide +kernel
theorem dX1_smooth_95 : decode cX1_smooth 95 = .ok (.iload_n 3, 1) := by decide +kernel
theorem dX1_smooth_96 : decode cX1_smooth 96 = .ok (.iload_n 1, 1) := by decide +kernel
theorem dX1_smooth_97 : decode cX1_smooth 97 = .ok (.invokestatic 59, 3) := by decide +kernel
theorem dX1_smooth_100 : decode cX1_smooth 100 = .ok (.if_icmp .ge 36, 3) := by decide +kernel
theorem dX1_smooth_103 : decode cX1_smooth 103 = .ok (.iload_n 2, 1) := by decide +kernel
theorem dX1_smooth_104 : decode cX1_smooth 104 = .ok (.aload_n 0, 1) := by decide +kernel
theorem dX1_smooth_105 : decode cX1_smooth 105 = .ok (.getfield 39, 3) := by decide +kernel
theorem dX1_smooth_108 : decode cX1_smooth 108 = .ok (.iconst 4, 1) := by decide +kernel
theorem dX1_smooth_109 : decode cX1_smooth 109 = .ok (.iload_n 1, 1) := by decide +kernel
theorem dX1_smooth_110 : decode cX1_smooth 110 = .ok (.imul, 1) := by decide +kernel
theorem dX1_smooth_111 : decode cX1_smooth 111 = .ok (.iload_n 3, 1) := by decide +kernel
theorem dX1_smooth_112 : decode cX1_smooth 112 = .ok (.iadd, 1) := by decide +kernel
theorem dX1_smooth_113 : decode cX1_smooth 113 = .ok (.iaload, 1) := by decide +kernel
theorem dX1_smooth_114 : decode cX1_smooth 114 = .ok (.aload_n 0, 1) := by decide +kernel
theorem dX1_smooth_115 : decode cX1_smooth 115 = .ok (.getfield 42, 3) := by decide +kernel
theorem dX1_smooth_118 : decode cX1_smooth 118 = .ok (.iload_n 3, 1) := by decide +kernel
theorem dX1_smooth_119 : decode cX1_smooth 119 = .ok (.iaload, 1) := by decide +kernel
theorem dX1_smooth_120 : decode cX1_smooth 120 = .ok (.if_icmp .eq 7, 3) := by decide +kernel
theorem dX1_smooth_123 : decode cX1_smooth 123 = .ok (.iconst 1, 1) := by decide +kernel
theorem dX1_smooth_124 : decode cX1_smooth 124 = .ok (.goto 4, 3) := by decide +kernel
theorem dX1_smooth_127 : decode cX1_smooth 127 = .ok (.iconst 0, 1) := by decide +kernel
theorem dX1_smooth_128 : decode cX1_smooth 128 = .ok (.iadd, 1) := by decide +kernel
theorem dX1_smooth_129 : decode cX1_smooth 129 = .ok (.istore_n 2, 1) := by decide +kernel
theorem dX1_smooth_130 : decode cX1_smooth 130 = .ok (.iinc 3 1, 3) := by decide +kernel
theorem dX1_smooth_133 : decode cX1_smooth 133 = .ok (.goto (-38), 3) := by decide +kernel
theorem dX1_smooth_136 : decode cX1_smooth 136 = .ok (.iload_n 2, 1) := by decide +kernel
theorem dX1_smooth_137 : decode cX1_smooth 137 = .ok (.ireturn, 1) := by decide +kernel
set_option maxRecDepth 20000 in
theorem dX1_premiumOf_0 : decode cX1_premiumOf 0 = .ok (.aload_n 0, 1) := by decide +kernel
theorem dX1_premiumOf_1 : decode cX1_premiumOf 1 = .ok (.iload_n 1, 1) := by decide +kernel
theorem dX1_premiumOf_2 : decode cX1_premiumOf 2 = .ok (.aload_n 0, 1) := by decide +kernel
theorem dX1_premiumOf_3 : decode cX1_premiumOf 3 = .ok (.invokevirtual 90, 3) := by decide +kernel
theorem dX1_premiumOf_6 : decode cX1_premiumOf 6 = .ok (.invokevirtual 94, 3) := by decide +kernel
theorem dX1_premiumOf_9 : decode cX1_premiumOf 9 = .ok (.aload_n 0, 1) := by decide +kernel
theorem dX1_premiumOf_10 : decode cX1_premiumOf 10 = .ok (.getfield 35, 3) := by decide +kernel
theorem dX1_premiumOf_13 : decode cX1_premiumOf 13 = .ok (.lmul, 1) := by decide +kernel
theorem dX1_premiumOf_14 : decode cX1_premiumOf 14 = .ok (.ldc2_w 33, 3) := by decide +kernel
theorem dX1_premiumOf_17 : decode cX1_premiumOf 17 = .ok (.ldiv, 1) := by decide +kernel
theorem dX1_premiumOf_18 : decode cX1_premiumOf 18 = .ok (.lreturn, 1) := by decide +kernel
set_option maxRecDepth 20000 in
theorem dX1_cappedOf_0 : decode cX1_cappedOf 0 = .ok (.aload_n 0, 1) := by decide +kernel
theorem dX1_cappedOf_1 : decode cX1_cappedOf 1 = .ok (.iload_n 1, 1) := by decide +kernel
theorem dX1_cappedOf_2 : decode cX1_cappedOf 2 = .ok (.invokevirtual 129, 3) := by decide +kernel
theorem dX1_cappedOf_5 : decode cX1_cappedOf 5 = .ok (.lstore_n 2, 1) := by decide +kernel
theorem dX1_cappedOf_6 : decode cX1_cappedOf 6 = .ok (.aload_n 0, 1) := by decide +kernel
theorem dX1_cappedOf_7 : decode cX1_cappedOf 7 = .ok (.getfield 29, 3) := by decide +kernel
theorem dX1_cappedOf_10 : decode cX1_cappedOf 10 = .ok (.iconst (-1), 1) := by decide +kernel
theorem dX1_cappedOf_11 : decode cX1_cappedOf 11 = .ok (.if_icmp .eq 13, 3) := by decide +kernel
theorem dX1_cappedOf_14 : decode cX1_cappedOf 14 = .ok (.aload_n 0, 1) := by decide +kernel
theorem dX1_cappedOf_15 : decode cX1_cappedOf 15 = .ok (.getfield 22, 3) := by decide +kernel
theorem dX1_cappedOf_18 : decode cX1_cappedOf 18 = .ok (.iload_n 1, 1) := by decide +kernel
theorem dX1_cappedOf_19 : decode cX1_cappedOf 19 = .ok (.iaload, 1) := by decide +kernel
theorem dX1_cappedOf_20 : decode cX1_cappedOf 20 = .ok (.iconst (-1), 1) := by decide +kernel
theorem dX1_cappedOf_21 : decode cX1_cappedOf 21 = .ok (.if_icmp .ne 5, 3) := by decide +kernel
theorem dX1_cappedOf_24 : decode cX1_cappedOf 24 = .ok (.lload_n 2, 1) := by decide +kernel
theorem dX1_cappedOf_25 : decode cX1_cappedOf 25 = .ok (.lreturn, 1) := by decide +kernel
theorem dX1_cappedOf_26 : decode cX1_cappedOf 26 = .ok (.aload_n 0, 1) := by decide +kernel
theorem dX1_cappedOf_27 : decode cX1_cappedOf 27 = .ok (.getfield 22, 3) := by decide +kernel
theorem dX1_cappedOf_30 : decode cX1_cappedOf 30 = .ok (.iload_n 1, 1) := by decide +kernel
theorem dX1_cappedOf_31 : decode cX1_cappedOf 31 = .ok (.iaload, 1) := by decide +kernel
theorem dX1_cappedOf_32 : decode cX1_cappedOf 32 = .ok (.i2l, 1) := by decide +kernel
theorem dX1_cappedOf_33 : decode cX1_cappedOf 33 = .ok (.aload_n 0, 1) := by decide +kernel
theorem dX1_cappedOf_34 : decode cX1_cappedOf 34 = .ok (.getfield 29, 3) := by decide +kernel
theorem dX1_cappedOf_37 : decode cX1_cappedOf 37 = .ok (.bipush 100, 2) := by decide +kernel
theorem dX1_cappedOf_39 : decode cX1_cappedOf 39 = .ok (.if_icmp .le 7, 3) := by decide +kernel
theorem dX1_cappedOf_42 : decode cX1_cappedOf 42 = .ok (.iconst 0, 1) := by decide +kernel
theorem dX1_cappedOf_43 : decode cX1_cappedOf 43 = .ok (.goto 10, 3) := by decide +kernel
theorem dX1_cappedOf_46 : decode cX1_cappedOf 46 = .ok (.bipush 100, 2) := by decide +kernel
theorem dX1_cappedOf_48 : decode cX1_cappedOf 48 = .ok (.aload_n 0, 1) := by decide +kernel
theorem dX1_cappedOf_49 : decode cX1_cappedOf 49 = .ok (.getfield 29, 3) := by decide +kernel
theorem dX1_cappedOf_52 : decode cX1_cappedOf 52 = .ok (.isub, 1) := by decide +kernel
theorem dX1_cappedOf_53 : decode cX1_cappedOf 53 = .ok (.i2l, 1) := by decide +kernel
theorem dX1_cappedOf_54 : decode cX1_cappedOf 54 = .ok (.lmul, 1) := by decide +kernel
theorem dX1_cappedOf_55 : decode cX1_cappedOf 55 = .ok (.ldc2_w 98, 3) := by decide +kernel
theorem dX1_cappedOf_58 : decode cX1_cappedOf 58 = .ok (.ldiv, 1) := by decide +kernel
theorem dX1_cappedOf_59 : decode cX1_cappedOf 59 = .ok (.lstore 4, 2) := by decide +kernel
theorem dX1_cappedOf_61 : decode cX1_cappedOf 61 = .ok (.aload_n 0, 1) := by decide +kernel
theorem dX1_cappedOf_62 : decode cX1_cappedOf 62 = .ok (.getfield 22, 3) := by decide +kernel
theorem dX1_cappedOf_65 : decode cX1_cappedOf 65 = .ok (.iload_n 1, 1) := by decide +kernel
theorem dX1_cappedOf_66 : decode cX1_cappedOf 66 = .ok (.iaload, 1) := by decide +kernel
theorem dX1_cappedOf_67 : decode cX1_cappedOf 67 = .ok (.i2l, 1) := by decide +kernel
theorem dX1_cappedOf_68 : decode cX1_cappedOf 68 = .ok (.bipush 100, 2) := by decide +kernel
theorem dX1_cappedOf_70 : decode cX1_cappedOf 70 = .ok (.aload_n 0, 1) := by decide +kernel
theorem dX1_cappedOf_71 : decode cX1_cappedOf 71 = .ok (.getfield 29, 3) := by decide +kernel
theorem dX1_cappedOf_74 : decode cX1_cappedOf 74 = .ok (.iadd, 1) := by decide +kernel
theorem dX1_cappedOf_75 : decode cX1_cappedOf 75 = .ok (.i2l, 1) := by decide +kernel
theorem dX1_cappedOf_76 : decode cX1_cappedOf 76 = .ok (.lmul, 1) := by decide +kernel
theorem dX1_cappedOf_77 : decode cX1_cappedOf 77 = .ok (.ldc2_w 98, 3) := by decide +kernel
theorem dX1_cappedOf_80 : decode cX1_cappedOf 80 = .ok (.ldiv, 1) := by decide +kernel
theorem dX1_cappedOf_81 : decode cX1_cappedOf 81 = .ok (.lstore 6, 2) := by decide +kernel
theorem dX1_cappedOf_83 : decode cX1_cappedOf 83 = .ok (.lload_n 2, 1) := by decide +kernel
theorem dX1_cappedOf_84 : decode cX1_cappedOf 84 = .ok (.lload 4, 2) := by decide +kernel
theorem dX1_cappedOf_86 : decode cX1_cappedOf 86 = .ok (.lcmp, 1) := by decide +kernel
theorem dX1_cappedOf_87 : decode cX1_cappedOf 87 = .ok (.ifCond .ge 8, 3) := by decide +kernel
theorem dX1_cappedOf_90 : decode cX1_cappedOf 90 = .ok (.lload 4, 2) := by decide +kernel
theorem dX1_cappedOf_92 : decode cX1_cappedOf 92 = .ok (.goto 4, 3) := by decide +kernel
theorem dX1_cappedOf_95 : decode cX1_cappedOf 95 = .ok (.lload_n 2, 1) := by decide +kernel
theorem dX1_cappedOf_96 : decode cX1_cappedOf 96 = .ok (.lstore_n 2, 1) := by decide +kernel
theorem dX1_cappedOf_97 : decode cX1_cappedOf 97 = .ok (.lload_n 2, 1) := by decide +kernel
theorem dX1_cappedOf_98 : decode cX1_cappedOf 98 = .ok (.lload 6, 2) := by decide +kernel
theorem dX1_cappedOf_100 : decode cX1_cappedOf 100 = .ok (.lcmp, 1) := by decide +kernel
theorem dX1_cappedOf_101 : decode cX1_cappedOf 101 = .ok (.ifCond .le 8, 3) := by decide +kernel
theorem dX1_cappedOf_104 : decode cX1_cappedOf 104 = .ok (.lload 6, 2) := by decide +kernel
theorem dX1_cappedOf_106 : decode cX1_cappedOf 106 = .ok (.goto 4, 3) := by decide +kernel
theorem dX1_cappedOf_109 : decode cX1_cappedOf 109 = .ok (.lload_n 2, 1) := by decide +kernel
theorem dX1_cappedOf_110 : decode cX1_cappedOf 110 = .ok (.lreturn, 1) := by decide +kernel
set_option maxRecDepth 20000 in
theorem dX1_allFitted_0 : decode cX1_allFitted 0 = .ok (.aload_n 0, 1) := by decide +kernel
theorem dX1_allFitted_1 : decode cX1_allFitted 1 = .ok (.invokevirtual 90, 3) := by decide +kernel
theorem dX1_allFitted_4 : decode cX1_allFitted 4 = .ok (.lstore_n 1, 1) := by decide +kernel
theorem dX1_allFitted_5 : decode cX1_allFitted 5 = .ok (.lconst 0, 1) := by decide +kernel
theorem dX1_allFitted_6 : decode cX1_allFitted 6 = .ok (.lstore_n 3, 1) := by decide +kernel
theorem dX1_allFitted_7 : decode cX1_allFitted 7 = .ok (.iconst 0, 1) := by decide +kernel
theorem dX1_allFitted_8 : decode cX1_allFitted 8 = .ok (.istore 5, 2) := by decide +kernel
theorem dX1_allFitted_10 : decode cX1_allFitted 10 = .ok (.iload 5, 2) := by decide +kernel
theorem dX1_allFitted_12 : decode cX1_allFitted 12 = .ok (.aload_n 0, 1) := by decide +kernel
theorem dX1_allFitted_13 : decode cX1_allFitted 13 = .ok (.getfield 63, 3) := by decide +kernel
theorem dX1_allFitted_16 : decode cX1_allFitted 16 = .ok (.if_icmp .ge 33, 3) := by decide +kernel
theorem dX1_allFitted_19 : decode cX1_allFitted 19 = .ok (.lload_n 3, 1) := by decide +kernel
theorem dX1_allFitted_20 : decode cX1_allFitted 20 = .ok (.aload_n 0, 1) := by decide +kernel
theorem dX1_allFitted_21 : decode cX1_allFitted 21 = .ok (.getfield 25, 3) := by decide +kernel
theorem dX1_allFitted_24 : decode cX1_allFitted 24 = .ok (.iload 5, 2) := by decide +kernel
theorem dX1_allFitted_26 : decode cX1_allFitted 26 = .ok (.baload, 1) := by decide +kernel
theorem dX1_allFitted_27 : decode cX1_allFitted 27 = .ok (.ifCond .eq 7, 3) := by decide +kernel
theorem dX1_allFitted_30 : decode cX1_allFitted 30 = .ok (.lconst 0, 1) := by decide +kernel
theorem dX1_allFitted_31 : decode cX1_allFitted 31 = .ok (.goto 10, 3) := by decide +kernel
theorem dX1_allFitted_34 : decode cX1_allFitted 34 = .ok (.aload_n 0, 1) := by decide +kernel
theorem dX1_allFitted_35 : decode cX1_allFitted 35 = .ok (.iload 5, 2) := by decide +kernel
theorem dX1_allFitted_37 : decode cX1_allFitted 37 = .ok (.lload_n 1, 1) := by decide +kernel
theorem dX1_allFitted_38 : decode cX1_allFitted 38 = .ok (.invokevirtual 94, 3) := by decide +kernel
theorem dX1_allFitted_41 : decode cX1_allFitted 41 = .ok (.ladd, 1) := by decide +kernel
theorem dX1_allFitted_42 : decode cX1_allFitted 42 = .ok (.lstore_n 3, 1) := by decide +kernel
theorem dX1_allFitted_43 : decode cX1_allFitted 43 = .ok (.iinc 5 1, 3) := by decide +kernel
theorem dX1_allFitted_46 : decode cX1_allFitted 46 = .ok (.goto (-36), 3) := by decide +kernel
theorem dX1_allFitted_49 : decode cX1_allFitted 49 = .ok (.lload_n 3, 1) := by decide +kernel
theorem dX1_allFitted_50 : decode cX1_allFitted 50 = .ok (.lreturn, 1) := by decide +kernel
set_option maxRecDepth 20000 in
theorem dX1_allCapped_0 : decode cX1_allCapped 0 = .ok (.lconst 0, 1) := by decide +kernel
theorem dX1_allCapped_1 : decode cX1_allCapped 1 = .ok (.lstore_n 1, 1) := by decide +kernel
theorem dX1_allCapped_2 : decode cX1_allCapped 2 = .ok (.iconst 0, 1) := by decide +kernel
theorem dX1_allCapped_3 : decode cX1_allCapped 3 = .ok (.istore_n 3, 1) := by decide +kernel
theorem dX1_allCapped_4 : decode cX1_allCapped 4 = .ok (.iload_n 3, 1) := by decide +kernel
theorem dX1_allCapped_5 : decode cX1_allCapped 5 = .ok (.aload_n 0, 1) := by decide +kernel
theorem dX1_allCapped_6 : decode cX1_allCapped 6 = .ok (.getfield 63, 3) := by decide +kernel
theorem dX1_allCapped_9 : decode cX1_allCapped 9 = .ok (.if_icmp .ge 30, 3) := by decide +kernel
theorem dX1_allCapped_12 : decode cX1_allCapped 12 = .ok (.lload_n 1, 1) := by decide +kernel
theorem dX1_allCapped_13 : decode cX1_allCapped 13 = .ok (.aload_n 0, 1) := by decide +kernel
theorem dX1_allCapped_14 : decode cX1_allCapped 14 = .ok (.getfield 25, 3) := by decide +kernel
theorem dX1_allCapped_17 : decode cX1_allCapped 17 = .ok (.iload_n 3, 1) := by decide +kernel
theorem dX1_allCapped_18 : decode cX1_allCapped 18 = .ok (.baload, 1) := by decide +kernel
theorem dX1_allCapped_19 : decode cX1_allCapped 19 = .ok (.ifCond .eq 7, 3) := by decide +kernel
theorem dX1_allCapped_22 : decode cX1_allCapped 22 = .ok (.lconst 0, 1) := by decide +kernel
theorem dX1_allCapped_23 : decode cX1_allCapped 23 = .ok (.goto 8, 3) := by decide +kernel
theorem dX1_allCapped_26 : decode cX1_allCapped 26 = .ok (.aload_n 0, 1) := by decide +kernel
theorem dX1_allCapped_27 : decode cX1_allCapped 27 = .ok (.iload_n 3, 1) := by decide +kernel
theorem dX1_allCapped_28 : decode cX1_allCapped 28 = .ok (.invokevirtual 133, 3) := by decide +kernel
theorem dX1_allCapped_31 : decode cX1_allCapped 31 = .ok (.ladd, 1) := by decide +kernel
theorem dX1_allCapped_32 : decode cX1_allCapped 32 = .ok (.lstore_n 1, 1) := by decide +kernel
theorem dX1_allCapped_33 : decode cX1_allCapped 33 = .ok (.iinc 3 1, 3) := by decide +kernel
theorem dX1_allCapped_36 : decode cX1_allCapped 36 = .ok (.goto (-32), 3) := by decide +kernel
theorem dX1_allCapped_39 : decode cX1_allCapped 39 = .ok (.lload_n 1, 1) := by decide +kernel
theorem dX1_allCapped_40 : decode cX1_allCapped 40 = .ok (.lreturn, 1) := by decide +kernel
set_option maxRecDepth 20000 in
theorem dX1_spread_0 : decode cX1_spread 0 = .ok (.aload_n 0, 1) := by decide +kernel
theorem dX1_spread_1 : decode cX1_spread 1 = .ok (.iconst 0, 1) := by decide +kernel
theorem dX1_spread_2 : decode cX1_spread 2 = .ok (.putfield 48, 3) := by decide +kernel
theorem dX1_spread_5 : decode cX1_spread 5 = .ok (.aload_n 0, 1) := by decide +kernel
theorem dX1_spread_6 : decode cX1_spread 6 = .ok (.invokevirtual 136, 3) := by decide +kernel
theorem dX1_spread_9 : decode cX1_spread 9 = .ok (.lstore_n 1, 1) := by decide +kernel
theorem dX1_spread_10 : decode cX1_spread 10 = .ok (.lload_n 1, 1) := by decide +kernel
theorem dX1_spread_11 : decode cX1_spread 11 = .ok (.lconst 0, 1) := by decide +kernel
theorem dX1_spread_12 : decode cX1_spread 12 = .ok (.lcmp, 1) := by decide +kernel
theorem dX1_spread_13 : decode cX1_spread 13 = .ok (.ifCond .le 74, 3) := by decide +kernel
theorem dX1_spread_16 : decode cX1_spread 16 = .ok (.ldc2_w 33, 3) := by decide +kernel
theorem dX1_spread_19 : decode cX1_spread 19 = .ok (.aload_n 0, 1) := by decide +kernel
theorem dX1_spread_20 : decode cX1_spread 20 = .ok (.invokevirtual 139, 3) := by decide +kernel
theorem dX1_spread_23 : decode cX1_spread 23 = .ok (.lmul, 1) := by decide +kernel
theorem dX1_spread_24 : decode cX1_spread 24 = .ok (.lload_n 1, 1) := by decide +kernel
theorem dX1_spread_25 : decode cX1_spread 25 = .ok (.ldiv, 1) := by decide +kernel
theorem dX1_spread_26 : decode cX1_spread 26 = .ok (.lstore_n 3, 1) := by decide +kernel
theorem dX1_spread_27 : decode cX1_spread 27 = .ok (.lload_n 3, 1) := by decide +kernel
theorem dX1_spread_28 : decode cX1_spread 28 = .ok (.ldc2_w 142, 3) := by decide +kernel
theorem dX1_spread_31 : decode cX1_spread 31 = .ok (.lcmp, 1) := by decide +kernel
theorem dX1_spread_32 : decode cX1_spread 32 = .ok (.ifCond .le 9, 3) := by decide +kernel
theorem dX1_spread_35 : decode cX1_spread 35 = .ok (.ldc2_w 142, 3) := by decide +kernel
theorem dX1_spread_38 : decode cX1_spread 38 = .ok (.goto 4, 3) := by decide +kernel
theorem dX1_spread_41 : decode cX1_spread 41 = .ok (.lload_n 3, 1) := by decide +kernel
theorem dX1_spread_42 : decode cX1_spread 42 = .ok (.lstore_n 3, 1) := by decide +kernel
theorem dX1_spread_43 : decode cX1_spread 43 = .ok (.aload_n 0, 1) := by decide +kernel
theorem dX1_spread_44 : decode cX1_spread 44 = .ok (.getfield 35, 3) := by decide +kernel
theorem dX1_spread_47 : decode cX1_spread 47 = .ok (.lload_n 3, 1) := by decide +kernel
theorem dX1_spread_48 : decode cX1_spread 48 = .ok (.lmul, 1) := by decide +kernel
theorem dX1_spread_49 : decode cX1_spread 49 = .ok (.ldc2_w 33, 3) := by decide +kernel
theorem dX1_spread_52 : decode cX1_spread 52 = .ok (.ldiv, 1) := by decide +kernel
theorem dX1_spread_53 : decode cX1_spread 53 = .ok (.lstore 5, 2) := by decide +kernel
theorem dX1_spread_55 : decode cX1_spread 55 = .ok (.aload_n 0, 1) := by decide +kernel
theorem dX1_spread_56 : decode cX1_spread 56 = .ok (.lload 5, 2) := by decide +kernel
theorem dX1_spread_58 : decode cX1_spread 58 = .ok (.lconst 1, 1) := by decide +kernel
theorem dX1_spread_59 : decode cX1_spread 59 = .ok (.lcmp, 1) := by decide +kernel
theorem dX1_spread_60 : decode cX1_spread 60 = .ok (.ifCond .ge 7, 3) := by decide +kernel
theorem dX1_spread_63 : decode cX1_spread 63 = .ok (.lconst 1, 1) := by decide +kernel
theorem dX1_spread_64 : decode cX1_spread 64 = .ok (.goto 20, 3) := by decide +kernel
theorem dX1_spread_67 : decode cX1_spread 67 = .ok (.lload 5, 2) := by decide +kernel
theorem dX1_spread_69 : decode cX1_spread 69 = .ok (.ldc2_w 142, 3) := by decide +kernel
theorem dX1_spread_72 : decode cX1_spread 72 = .ok (.lcmp, 1) := by decide +kernel
theorem dX1_spread_73 : decode cX1_spread 73 = .ok (.ifCond .le 9, 3) := by decide +kernel
theorem dX1_spread_76 : decode cX1_spread 76 = .ok (.ldc2_w 142, 3) := by decide +kernel
theorem dX1_spread_79 : decode cX1_spread 79 = .ok (.goto 5, 3) := by decide +kernel
theorem dX1_spread_82 : decode cX1_spread 82 = .ok (.lload 5, 2) := by decide +kernel
theorem dX1_spread_84 : decode cX1_spread 84 = .ok (.putfield 35, 3) := by decide +kernel
theorem dX1_spread_87 : decode cX1_spread 87 = .ok (.aload_n 0, 1) := by decide +kernel
theorem dX1_spread_88 : decode cX1_spread 88 = .ok (.getfield 35, 3) := by decide +kernel
theorem dX1_spread_91 : decode cX1_spread 91 = .ok (.l2i, 1) := by decide +kernel
theorem dX1_spread_92 : decode cX1_spread 92 = .ok (.ireturn, 1) := by decide +kernel
set_option maxRecDepth 20000 in
theorem dX1_rows_0 : decode cX1_rows 0 = .ok (.aload_n 0, 1) := by decide +kernel
theorem dX1_rows_1 : decode cX1_rows 1 = .ok (.iconst 0, 1) := by decide +kernel
theorem dX1_rows_2 : decode cX1_rows 2 = .ok (.putfield 48, 3) := by decide +kernel
theorem dX1_rows_5 : decode cX1_rows 5 = .ok (.aload_n 0, 1) := by decide +kernel
theorem dX1_rows_6 : decode cX1_rows 6 = .ok (.invokevirtual 78, 3) := by decide +kernel
theorem dX1_rows_9 : decode cX1_rows 9 = .ok (.ireturn, 1) := by decide +kernel
set_option maxRecDepth 20000 in
theorem dX1_base_0 : decode cX1_base 0 = .ok (.aload_n 0, 1) := by decide +kernel
theorem dX1_base_1 : decode cX1_base 1 = .ok (.iconst 0, 1) := by decide +kernel
theorem dX1_base_2 : decode cX1_base 2 = .ok (.putfield 48, 3) := by decide +kernel
theorem dX1_base_5 : decode cX1_base 5 = .ok (.aload_n 0, 1) := by decide +kernel
theorem dX1_base_6 : decode cX1_base 6 = .ok (.invokevirtual 90, 3) := by decide +kernel
theorem dX1_base_9 : decode cX1_base 9 = .ok (.lreturn, 1) := by decide +kernel
set_option maxRecDepth 20000 in
theorem dX1_factor_0 : decode cX1_factor 0 = .ok (.aload_n 0, 1) := by decide +kernel
theorem dX1_factor_1 : decode cX1_factor 1 = .ok (.iload_n 1, 1) := by decide +kernel
theorem dX1_factor_2 : decode cX1_factor 2 = .ok (.iload_n 2, 1) := by decide +kernel
theorem dX1_factor_3 : decode cX1_factor 3 = .ok (.invokestatic 66, 3) := by decide +kernel
theorem dX1_factor_6 : decode cX1_factor 6 = .ok (.iconst 1, 1) := by decide +kernel
theorem dX1_factor_7 : decode cX1_factor 7 = .ok (.iconst 1, 1) := by decide +kernel
theorem dX1_factor_8 : decode cX1_factor 8 = .ok (.invokevirtual 71, 3) := by decide +kernel
theorem dX1_factor_11 : decode cX1_factor 11 = .ok (.ifCond .eq 16, 3) := by decide +kernel
theorem dX1_factor_14 : decode cX1_factor 14 = .ok (.aload_n 0, 1) := by decide +kernel
theorem dX1_factor_15 : decode cX1_factor 15 = .ok (.getfield 39, 3) := by decide +kernel
theorem dX1_factor_18 : decode cX1_factor 18 = .ok (.iconst 4, 1) := by decide +kernel
theorem dX1_factor_19 : decode cX1_factor 19 = .ok (.iload_n 1, 1) := by decide +kernel
theorem dX1_factor_20 : decode cX1_factor 20 = .ok (.imul, 1) := by decide +kernel
theorem dX1_factor_21 : decode cX1_factor 21 = .ok (.iload_n 2, 1) := by decide +kernel
theorem dX1_factor_22 : decode cX1_factor 22 = .ok (.iadd, 1) := by decide +kernel
theorem dX1_factor_23 : decode cX1_factor 23 = .ok (.iaload, 1) := by decide +kernel
theorem dX1_factor_24 : decode cX1_factor 24 = .ok (.goto 4, 3) := by decide +kernel
theorem dX1_factor_27 : decode cX1_factor 27 = .ok (.iconst 0, 1) := by decide +kernel
theorem dX1_factor_28 : decode cX1_factor 28 = .ok (.ireturn, 1) := by decide +kernel
set_option maxRecDepth 20000 in
theorem dX1_fitted_0 : decode cX1_fitted 0 = .ok (.aload_n 0, 1) := by decide +kernel
theorem dX1_fitted_1 : decode cX1_fitted 1 = .ok (.aload_n 0, 1) := by decide +kernel
theorem dX1_fitted_2 : decode cX1_fitted 2 = .ok (.iload_n 1, 1) := by decide +kernel
theorem dX1_fitted_3 : decode cX1_fitted 3 = .ok (.invokevirtual 75, 3) := by decide +kernel
theorem dX1_fitted_6 : decode cX1_fitted 6 = .ok (.iconst 1, 1) := by decide +kernel
theorem dX1_fitted_7 : decode cX1_fitted 7 = .ok (.iconst 1, 1) := by decide +kernel
theorem dX1_fitted_8 : decode cX1_fitted 8 = .ok (.invokevirtual 71, 3) := by decide +kernel
theorem dX1_fitted_11 : decode cX1_fitted 11 = .ok (.ifCond .eq 15, 3) := by decide +kernel
theorem dX1_fitted_14 : decode cX1_fitted 14 = .ok (.aload_n 0, 1) := by decide +kernel
theorem dX1_fitted_15 : decode cX1_fitted 15 = .ok (.iload_n 1, 1) := by decide +kernel
theorem dX1_fitted_16 : decode cX1_fitted 16 = .ok (.aload_n 0, 1) := by decide +kernel
theorem dX1_fitted_17 : decode cX1_fitted 17 = .ok (.invokevirtual 90, 3) := by decide +kernel
theorem dX1_fitted_20 : decode cX1_fitted 20 = .ok (.invokevirtual 94, 3) := by decide +kernel
theorem dX1_fitted_23 : decode cX1_fitted 23 = .ok (.goto 4, 3) := by decide +kernel
theorem dX1_fitted_26 : decode cX1_fitted 26 = .ok (.lconst 0, 1) := by decide +kernel
theorem dX1_fitted_27 : decode cX1_fitted 27 = .ok (.lreturn, 1) := by decide +kernel
set_option maxRecDepth 20000 in
theorem dX1_toldSum_0 : decode cX1_toldSum 0 = .ok (.aload_n 0, 1) := by decide +kernel
theorem dX1_toldSum_1 : decode cX1_toldSum 1 = .ok (.iload_n 1, 1) := by decide +kernel
theorem dX1_toldSum_2 : decode cX1_toldSum 2 = .ok (.iload_n 2, 1) := by decide +kernel
theorem dX1_toldSum_3 : decode cX1_toldSum 3 = .ok (.invokestatic 66, 3) := by decide +kernel
theorem dX1_toldSum_6 : decode cX1_toldSum 6 = .ok (.iconst 1, 1) := by decide +kernel
theorem dX1_toldSum_7 : decode cX1_toldSum 7 = .ok (.iconst 1, 1) := by decide +kernel
theorem dX1_toldSum_8 : decode cX1_toldSum 8 = .ok (.invokevirtual 71, 3) := by decide +kernel
theorem dX1_toldSum_11 : decode cX1_toldSum 11 = .ok (.ifCond .eq 12, 3) := by decide +kernel
theorem dX1_toldSum_14 : decode cX1_toldSum 14 = .ok (.aload_n 0, 1) := by decide +kernel
theorem dX1_toldSum_15 : decode cX1_toldSum 15 = .ok (.iload_n 1, 1) := by decide +kernel
theorem dX1_toldSum_16 : decode cX1_toldSum 16 = .ok (.iload_n 2, 1) := by decide +kernel
theorem dX1_toldSum_17 : decode cX1_toldSum 17 = .ok (.invokevirtual 109, 3) := by decide +kernel
theorem dX1_toldSum_20 : decode cX1_toldSum 20 = .ok (.goto 4, 3) := by decide +kernel
theorem dX1_toldSum_23 : decode cX1_toldSum 23 = .ok (.lconst 0, 1) := by decide +kernel
theorem dX1_toldSum_24 : decode cX1_toldSum 24 = .ok (.lreturn, 1) := by decide +kernel
set_option maxRecDepth 20000 in
theorem dX1_fittedSum_0 : decode cX1_fittedSum 0 = .ok (.aload_n 0, 1) := by decide +kernel
theorem dX1_fittedSum_1 : decode cX1_fittedSum 1 = .ok (.iload_n 1, 1) := by decide +kernel
theorem dX1_fittedSum_2 : decode cX1_fittedSum 2 = .ok (.iload_n 2, 1) := by decide +kernel
theorem dX1_fittedSum_3 : decode cX1_fittedSum 3 = .ok (.invokestatic 66, 3) := by decide +kernel
theorem dX1_fittedSum_6 : decode cX1_fittedSum 6 = .ok (.iconst 1, 1) := by decide +kernel
theorem dX1_fittedSum_7 : decode cX1_fittedSum 7 = .ok (.iconst 1, 1) := by decide +kernel
theorem dX1_fittedSum_8 : decode cX1_fittedSum 8 = .ok (.invokevirtual 71, 3) := by decide +kernel
theorem dX1_fittedSum_11 : decode cX1_fittedSum 11 = .ok (.ifCond .eq 12, 3) := by decide +kernel
theorem dX1_fittedSum_14 : decode cX1_fittedSum 14 = .ok (.aload_n 0, 1) := by decide +kernel
theorem dX1_fittedSum_15 : decode cX1_fittedSum 15 = .ok (.iload_n 1, 1) := by decide +kernel
theorem dX1_fittedSum_16 : decode cX1_fittedSum 16 = .ok (.iload_n 2, 1) := by decide +kernel
theorem dX1_fittedSum_17 : decode cX1_fittedSum 17 = .ok (.invokevirtual 102, 3) := by decide +kernel
theorem dX1_fittedSum_20 : decode cX1_fittedSum 20 = .ok (.goto 4, 3) := by decide +kernel
theorem dX1_fittedSum_23 : decode cX1_fittedSum 23 = .ok (.lconst 0, 1) := by decide +kernel
theorem dX1_fittedSum_24 : decode cX1_fittedSum 24 = .ok (.lreturn, 1) := by decide +kernel
set_option maxRecDepth 20000 in
theorem dX1_worst_0 : decode cX1_worst 0 = .ok (.lconst 0, 1) := by decide +kernel
theorem dX1_worst_1 : decode cX1_worst 1 = .ok (.lstore_n 2, 1) := by decide +kernel
theorem dX1_worst_2 : decode cX1_worst 2 = .ok (.aload_n 0, 1) := by decide +kernel
theorem dX1_worst_3 : decode cX1_worst 3 = .ok (.iload_n 1, 1) := by decide +kernel
theorem dX1_worst_4 : decode cX1_worst 4 = .ok (.invokestatic 55, 3) := by decide +kernel
theorem dX1_worst_7 : decode cX1_worst 7 = .ok (.iconst 1, 1) := by decide +kernel
theorem dX1_worst_8 : decode cX1_worst 8 = .ok (.iconst 1, 1) := by decide +kernel
theorem dX1_worst_9 : decode cX1_worst 9 = .ok (.invokevirtual 71, 3) := by decide +kernel
theorem dX1_worst_12 : decode cX1_worst 12 = .ok (.istore 4, 2) := by decide +kernel
theorem dX1_worst_14 : decode cX1_worst 14 = .ok (.iconst 0, 1) := by decide +kernel
theorem dX1_worst_15 : decode cX1_worst 15 = .ok (.istore 5, 2) := by decide +kernel
theorem dX1_worst_17 : decode cX1_worst 17 = .ok (.iload 4, 2) := by decide +kernel
theorem dX1_worst_19 : decode cX1_worst 19 = .ok (.ifCond .eq 66, 3) := by decide +kernel
theorem dX1_worst_22 : decode cX1_worst 22 = .ok (.iload 5, 2) := by decide +kernel
theorem dX1_worst_24 : decode cX1_worst 24 = .ok (.iload_n 1, 1) := by decide +kernel
theorem dX1_worst_25 : decode cX1_worst 25 = .ok (.invokestatic 59, 3) := by decide +kernel
theorem dX1_worst_28 : decode cX1_worst 28 = .ok (.if_icmp .ge 57, 3) := by decide +kernel
theorem dX1_worst_31 : decode cX1_worst 31 = .ok (.aload_n 0, 1) := by decide +kernel
theorem dX1_worst_32 : decode cX1_worst 32 = .ok (.iload_n 1, 1) := by decide +kernel
theorem dX1_worst_33 : decode cX1_worst 33 = .ok (.iload 5, 2) := by decide +kernel
theorem dX1_worst_35 : decode cX1_worst 35 = .ok (.invokevirtual 109, 3) := by decide +kernel
theorem dX1_worst_38 : decode cX1_worst 38 = .ok (.aload_n 0, 1) := by decide +kernel
theorem dX1_worst_39 : decode cX1_worst 39 = .ok (.iload_n 1, 1) := by decide +kernel
theorem dX1_worst_40 : decode cX1_worst 40 = .ok (.iload 5, 2) := by decide +kernel
theorem dX1_worst_42 : decode cX1_worst 42 = .ok (.invokevirtual 102, 3) := by decide +kernel
theorem dX1_worst_45 : decode cX1_worst 45 = .ok (.lsub, 1) := by decide +kernel
theorem dX1_worst_46 : decode cX1_worst 46 = .ok (.lstore 6, 2) := by decide +kernel
theorem dX1_worst_48 : decode cX1_worst 48 = .ok (.lload 6, 2) := by decide +kernel
theorem dX1_worst_50 : decode cX1_worst 50 = .ok (.lconst 0, 1) := by decide +kernel
theorem dX1_worst_51 : decode cX1_worst 51 = .ok (.lcmp, 1) := by decide +kernel
theorem dX1_worst_52 : decode cX1_worst 52 = .ok (.ifCond .ge 9, 3) := by decide +kernel
theorem dX1_worst_55 : decode cX1_worst 55 = .ok (.lload 6, 2) := by decide +kernel
theorem dX1_worst_57 : decode cX1_worst 57 = .ok (.lneg, 1) := by decide +kernel
theorem dX1_worst_58 : decode cX1_worst 58 = .ok (.goto 5, 3) := by decide +kernel
theorem dX1_worst_61 : decode cX1_worst 61 = .ok (.lload 6, 2) := by decide +kernel
theorem dX1_worst_63 : decode cX1_worst 63 = .ok (.lstore 6, 2) := by decide +kernel
theorem dX1_worst_65 : decode cX1_worst 65 = .ok (.lload 6, 2) := by decide +kernel
theorem dX1_worst_67 : decode cX1_worst 67 = .ok (.lload_n 2, 1) := by decide +kernel
theorem dX1_worst_68 : decode cX1_worst 68 = .ok (.lcmp, 1) := by decide +kernel
theorem dX1_worst_69 : decode cX1_worst 69 = .ok (.ifCond .le 8, 3) := by decide +kernel
theorem dX1_worst_72 : decode cX1_worst 72 = .ok (.lload 6, 2) := by decide +kernel
theorem dX1_worst_74 : decode cX1_worst 74 = .ok (.goto 4, 3) := by decide +kernel
theorem dX1_worst_77 : decode cX1_worst 77 = .ok (.lload_n 2, 1) := by decide +kernel
theorem dX1_worst_78 : decode cX1_worst 78 = .ok (.lstore_n 2, 1) := by decide +kernel
theorem dX1_worst_79 : decode cX1_worst 79 = .ok (.iinc 5 1, 3) := by decide +kernel
theorem dX1_worst_82 : decode cX1_worst 82 = .ok (.goto (-65), 3) := by decide +kernel
theorem dX1_worst_85 : decode cX1_worst 85 = .ok (.lload_n 2, 1) := by decide +kernel
theorem dX1_worst_86 : decode cX1_worst 86 = .ok (.lreturn, 1) := by decide +kernel
set_option maxRecDepth 20000 in
theorem dX1_premium_0 : decode cX1_premium 0 = .ok (.aload_n 0, 1) := by decide +kernel
theorem dX1_premium_1 : decode cX1_premium 1 = .ok (.aload_n 0, 1) := by decide +kernel
theorem dX1_premium_2 : decode cX1_premium 2 = .ok (.iload_n 1, 1) := by decide +kernel
theorem dX1_premium_3 : decode cX1_premium 3 = .ok (.invokevirtual 75, 3) := by decide +kernel
theorem dX1_premium_6 : decode cX1_premium 6 = .ok (.iconst 1, 1) := by decide +kernel
theorem dX1_premium_7 : decode cX1_premium 7 = .ok (.iconst 1, 1) := by decide +kernel
theorem dX1_premium_8 : decode cX1_premium 8 = .ok (.invokevirtual 71, 3) := by decide +kernel
theorem dX1_premium_11 : decode cX1_premium 11 = .ok (.ifCond .eq 11, 3) := by decide +kernel
theorem dX1_premium_14 : decode cX1_premium 14 = .ok (.aload_n 0, 1) := by decide +kernel
theorem dX1_premium_15 : decode cX1_premium 15 = .ok (.iload_n 1, 1) := by decide +kernel
theorem dX1_premium_16 : decode cX1_premium 16 = .ok (.invokevirtual 129, 3) := by decide +kernel
theorem dX1_premium_19 : decode cX1_premium 19 = .ok (.goto 4, 3) := by decide +kernel
theorem dX1_premium_22 : decode cX1_premium 22 = .ok (.lconst 0, 1) := by decide +kernel
theorem dX1_premium_23 : decode cX1_premium 23 = .ok (.lreturn, 1) := by decide +kernel
set_option maxRecDepth 20000 in
theorem dX1_capped_0 : decode cX1_capped 0 = .ok (.aload_n 0, 1) := by decide +kernel
theorem dX1_capped_1 : decode cX1_capped 1 = .ok (.aload_n 0, 1) := by decide +kernel
theorem dX1_capped_2 : decode cX1_capped 2 = .ok (.iload_n 1, 1) := by decide +kernel
theorem dX1_capped_3 : decode cX1_capped 3 = .ok (.invokevirtual 75, 3) := by decide +kernel
theorem dX1_capped_6 : decode cX1_capped 6 = .ok (.iconst 1, 1) := by decide +kernel
theorem dX1_capped_7 : decode cX1_capped 7 = .ok (.iconst 1, 1) := by decide +kernel
theorem dX1_capped_8 : decode cX1_capped 8 = .ok (.invokevirtual 71, 3) := by decide +kernel
theorem dX1_capped_11 : decode cX1_capped 11 = .ok (.ifCond .eq 11, 3) := by decide +kernel
theorem dX1_capped_14 : decode cX1_capped 14 = .ok (.aload_n 0, 1) := by decide +kernel
theorem dX1_capped_15 : decode cX1_capped 15 = .ok (.iload_n 1, 1) := by decide +kernel
theorem dX1_capped_16 : decode cX1_capped 16 = .ok (.invokevirtual 133, 3) := by decide +kernel
theorem dX1_capped_19 : decode cX1_capped 19 = .ok (.goto 4, 3) := by decide +kernel
theorem dX1_capped_22 : decode cX1_capped 22 = .ok (.lconst 0, 1) := by decide +kernel
theorem dX1_capped_23 : decode cX1_capped 23 = .ok (.lreturn, 1) := by decide +kernel
set_option maxRecDepth 20000 in
theorem dX1_lost_0 : decode cX1_lost 0 = .ok (.aload_n 0, 1) := by decide +kernel
theorem dX1_lost_1 : decode cX1_lost 1 = .ok (.iconst 0, 1) := by decide +kernel
theorem dX1_lost_2 : decode cX1_lost 2 = .ok (.putfield 48, 3) := by decide +kernel
theorem dX1_lost_5 : decode cX1_lost 5 = .ok (.aload_n 0, 1) := by decide +kernel
theorem dX1_lost_6 : decode cX1_lost 6 = .ok (.invokevirtual 139, 3) := by decide +kernel
theorem dX1_lost_9 : decode cX1_lost 9 = .ok (.aload_n 0, 1) := by decide +kernel
theorem dX1_lost_10 : decode cX1_lost 10 = .ok (.invokevirtual 136, 3) := by decide +kernel
theorem dX1_lost_13 : decode cX1_lost 13 = .ok (.lsub, 1) := by decide +kernel
theorem dX1_lost_14 : decode cX1_lost 14 = .ok (.lreturn, 1) := by decide +kernel
set_option maxRecDepth 20000 in
theorem dX1_isAhead_0 : decode cX1_isAhead 0 = .ok (.aload_n 0, 1) := by decide +kernel
theorem dX1_isAhead_1 : decode cX1_isAhead 1 = .ok (.getfield 19, 3) := by decide +kernel
theorem dX1_isAhead_4 : decode cX1_isAhead 4 = .ok (.iload_n 1, 1) := by decide +kernel
theorem dX1_isAhead_5 : decode cX1_isAhead 5 = .ok (.iaload, 1) := by decide +kernel
theorem dX1_isAhead_6 : decode cX1_isAhead 6 = .ok (.i2l, 1) := by decide +kernel
theorem dX1_isAhead_7 : decode cX1_isAhead 7 = .ok (.lconst 1, 1) := by decide +kernel
theorem dX1_isAhead_8 : decode cX1_isAhead 8 = .ok (.aload_n 0, 1) := by decide +kernel
theorem dX1_isAhead_9 : decode cX1_isAhead 9 = .ok (.iload_n 2, 1) := by decide +kernel
theorem dX1_isAhead_10 : decode cX1_isAhead 10 = .ok (.lload_n 3, 1) := by decide +kernel
theorem dX1_isAhead_11 : decode cX1_isAhead 11 = .ok (.invokevirtual 94, 3) := by decide +kernel
theorem dX1_isAhead_14 : decode cX1_isAhead 14 = .ok (.ladd, 1) := by decide +kernel
theorem dX1_isAhead_15 : decode cX1_isAhead 15 = .ok (.lmul, 1) := by decide +kernel
theorem dX1_isAhead_16 : decode cX1_isAhead 16 = .ok (.lstore 5, 2) := by decide +kernel
theorem dX1_isAhead_18 : decode cX1_isAhead 18 = .ok (.aload_n 0, 1) := by decide +kernel
theorem dX1_isAhead_19 : decode cX1_isAhead 19 = .ok (.getfield 19, 3) := by decide +kernel
theorem dX1_isAhead_22 : decode cX1_isAhead 22 = .ok (.iload_n 2, 1) := by decide +kernel
theorem dX1_isAhead_23 : decode cX1_isAhead 23 = .ok (.iaload, 1) := by decide +kernel
theorem dX1_isAhead_24 : decode cX1_isAhead 24 = .ok (.i2l, 1) := by decide +kernel
theorem dX1_isAhead_25 : decode cX1_isAhead 25 = .ok (.lconst 1, 1) := by decide +kernel
theorem dX1_isAhead_26 : decode cX1_isAhead 26 = .ok (.aload_n 0, 1) := by decide +kernel
theorem dX1_isAhead_27 : decode cX1_isAhead 27 = .ok (.iload_n 1, 1) := by decide +kernel
theorem dX1_isAhead_28 : decode cX1_isAhead 28 = .ok (.lload_n 3, 1) := by decide +kernel
theorem dX1_isAhead_29 : decode cX1_isAhead 29 = .ok (.invokevirtual 94, 3) := by decide +kernel
theorem dX1_isAhead_32 : decode cX1_isAhead 32 = .ok (.ladd, 1) := by decide +kernel
theorem dX1_isAhead_33 : decode cX1_isAhead 33 = .ok (.lmul, 1) := by decide +kernel
theorem dX1_isAhead_34 : decode cX1_isAhead 34 = .ok (.lstore 7, 2) := by decide +kernel
theorem dX1_isAhead_36 : decode cX1_isAhead 36 = .ok (.lload 5, 2) := by decide +kernel
theorem dX1_isAhead_38 : decode cX1_isAhead 38 = .ok (.lload 7, 2) := by decide +kernel
theorem dX1_isAhead_40 : decode cX1_isAhead 40 = .ok (.lcmp, 1) := by decide +kernel
theorem dX1_isAhead_41 : decode cX1_isAhead 41 = .ok (.ifCond .gt 16, 3) := by decide +kernel
theorem dX1_isAhead_44 : decode cX1_isAhead 44 = .ok (.lload 5, 2) := by decide +kernel
theorem dX1_isAhead_46 : decode cX1_isAhead 46 = .ok (.lload 7, 2) := by decide +kernel
theorem dX1_isAhead_48 : decode cX1_isAhead 48 = .ok (.lcmp, 1) := by decide +kernel
theorem dX1_isAhead_49 : decode cX1_isAhead 49 = .ok (.ifCond .ne 12, 3) := by decide +kernel
theorem dX1_isAhead_52 : decode cX1_isAhead 52 = .ok (.iload_n 1, 1) := by decide +kernel
theorem dX1_isAhead_53 : decode cX1_isAhead 53 = .ok (.iload_n 2, 1) := by decide +kernel
theorem dX1_isAhead_54 : decode cX1_isAhead 54 = .ok (.if_icmp .ge 7, 3) := by decide +kernel
theorem dX1_isAhead_57 : decode cX1_isAhead 57 = .ok (.iconst 1, 1) := by decide +kernel
theorem dX1_isAhead_58 : decode cX1_isAhead 58 = .ok (.goto 4, 3) := by decide +kernel
theorem dX1_isAhead_61 : decode cX1_isAhead 61 = .ok (.iconst 0, 1) := by decide +kernel
theorem dX1_isAhead_62 : decode cX1_isAhead 62 = .ok (.ireturn, 1) := by decide +kernel
set_option maxRecDepth 20000 in
theorem dX1_ranked_0 : decode cX1_ranked 0 = .ok (.aload_n 0, 1) := by decide +kernel
theorem dX1_ranked_1 : decode cX1_ranked 1 = .ok (.invokevirtual 90, 3) := by decide +kernel
end
section
theorem dX1_ranked_4 : decode cX1_ranked 4 = .ok (.lstore_n 2, 1) := by decide +kernel
theorem dX1_ranked_5 : decode cX1_ranked 5 = .ok (.iconst 0, 1) := by decide +kernel
theorem dX1_ranked_6 : decode cX1_ranked 6 = .ok (.istore 4, 2) := by decide +kernel
theorem dX1_ranked_8 : decode cX1_ranked 8 = .ok (.iload 4, 2) := by decide +kernel
theorem dX1_ranked_10 : decode cX1_ranked 10 = .ok (.aload_n 0, 1) := by decide +kernel
theorem dX1_ranked_11 : decode cX1_ranked 11 = .ok (.getfield 63, 3) := by decide +kernel
theorem dX1_ranked_14 : decode cX1_ranked 14 = .ok (.if_icmp .ge 98, 3) := by decide +kernel
theorem dX1_ranked_17 : decode cX1_ranked 17 = .ok (.iconst 0, 1) := by decide +kernel
theorem dX1_ranked_18 : decode cX1_ranked 18 = .ok (.istore 5, 2) := by decide +kernel
theorem dX1_ranked_20 : decode cX1_ranked 20 = .ok (.iconst 0, 1) := by decide +kernel
theorem dX1_ranked_21 : decode cX1_ranked 21 = .ok (.istore 6, 2) := by decide +kernel
theorem dX1_ranked_23 : decode cX1_ranked 23 = .ok (.iload 6, 2) := by decide +kernel
theorem dX1_ranked_25 : decode cX1_ranked 25 = .ok (.aload_n 0, 1) := by decide +kernel
theorem dX1_ranked_26 : decode cX1_ranked 26 = .ok (.getfield 63, 3) := by decide +kernel
theorem dX1_ranked_29 : decode cX1_ranked 29 = .ok (.if_icmp .ge 58, 3) := by decide +kernel
theorem dX1_ranked_32 : decode cX1_ranked 32 = .ok (.aload_n 0, 1) := by decide +kernel
theorem dX1_ranked_33 : decode cX1_ranked 33 = .ok (.getfield 25, 3) := by decide +kernel
theorem dX1_ranked_36 : decode cX1_ranked 36 = .ok (.iload 4, 2) := by decide +kernel
theorem dX1_ranked_38 : decode cX1_ranked 38 = .ok (.baload, 1) := by decide +kernel
theorem dX1_ranked_39 : decode cX1_ranked 39 = .ok (.ifCond .ne 48, 3) := by decide +kernel
theorem dX1_ranked_42 : decode cX1_ranked 42 = .ok (.iload 5, 2) := by decide +kernel
theorem dX1_ranked_44 : decode cX1_ranked 44 = .ok (.aload_n 0, 1) := by decide +kernel
theorem dX1_ranked_45 : decode cX1_ranked 45 = .ok (.getfield 25, 3) := by decide +kernel
theorem dX1_ranked_48 : decode cX1_ranked 48 = .ok (.iload 6, 2) := by decide +kernel
theorem dX1_ranked_50 : decode cX1_ranked 50 = .ok (.baload, 1) := by decide +kernel
theorem dX1_ranked_51 : decode cX1_ranked 51 = .ok (.ifCond .ne 26, 3) := by decide +kernel
theorem dX1_ranked_54 : decode cX1_ranked 54 = .ok (.iload 6, 2) := by decide +kernel
theorem dX1_ranked_56 : decode cX1_ranked 56 = .ok (.iload 4, 2) := by decide +kernel
theorem dX1_ranked_58 : decode cX1_ranked 58 = .ok (.if_icmp .eq 19, 3) := by decide +kernel
theorem dX1_ranked_61 : decode cX1_ranked 61 = .ok (.aload_n 0, 1) := by decide +kernel
theorem dX1_ranked_62 : decode cX1_ranked 62 = .ok (.iload 6, 2) := by decide +kernel
theorem dX1_ranked_64 : decode cX1_ranked 64 = .ok (.iload 4, 2) := by decide +kernel
theorem dX1_ranked_66 : decode cX1_ranked 66 = .ok (.lload_n 2, 1) := by decide +kernel
theorem dX1_ranked_67 : decode cX1_ranked 67 = .ok (.invokevirtual 144, 3) := by decide +kernel
theorem dX1_ranked_70 : decode cX1_ranked 70 = .ok (.ifCond .eq 7, 3) := by decide +kernel
theorem dX1_ranked_73 : decode cX1_ranked 73 = .ok (.iconst 1, 1) := by decide +kernel
theorem dX1_ranked_74 : decode cX1_ranked 74 = .ok (.goto 4, 3) := by decide +kernel
theorem dX1_ranked_77 : decode cX1_ranked 77 = .ok (.iconst 0, 1) := by decide +kernel
theorem dX1_ranked_78 : decode cX1_ranked 78 = .ok (.iadd, 1) := by decide +kernel
theorem dX1_ranked_79 : decode cX1_ranked 79 = .ok (.istore 5, 2) := by decide +kernel
theorem dX1_ranked_81 : decode cX1_ranked 81 = .ok (.iinc 6 1, 3) := by decide +kernel
theorem dX1_ranked_84 : decode cX1_ranked 84 = .ok (.goto (-61), 3) := by decide +kernel
theorem dX1_ranked_87 : decode cX1_ranked 87 = .ok (.aload_n 0, 1) := by decide +kernel
theorem dX1_ranked_88 : decode cX1_ranked 88 = .ok (.getfield 25, 3) := by decide +kernel
theorem dX1_ranked_91 : decode cX1_ranked 91 = .ok (.iload 4, 2) := by decide +kernel
theorem dX1_ranked_93 : decode cX1_ranked 93 = .ok (.baload, 1) := by decide +kernel
theorem dX1_ranked_94 : decode cX1_ranked 94 = .ok (.ifCond .ne 12, 3) := by decide +kernel
theorem dX1_ranked_97 : decode cX1_ranked 97 = .ok (.iload 5, 2) := by decide +kernel
theorem dX1_ranked_99 : decode cX1_ranked 99 = .ok (.iload_n 1, 1) := by decide +kernel
theorem dX1_ranked_100 : decode cX1_ranked 100 = .ok (.if_icmp .ne 6, 3) := by decide +kernel
theorem dX1_ranked_103 : decode cX1_ranked 103 = .ok (.iload 4, 2) := by decide +kernel
theorem dX1_ranked_105 : decode cX1_ranked 105 = .ok (.ireturn, 1) := by decide +kernel
theorem dX1_ranked_106 : decode cX1_ranked 106 = .ok (.iinc 4 1, 3) := by decide +kernel
theorem dX1_ranked_109 : decode cX1_ranked 109 = .ok (.goto (-101), 3) := by decide +kernel
theorem dX1_ranked_112 : decode cX1_ranked 112 = .ok (.iconst (-1), 1) := by decide +kernel
theorem dX1_ranked_113 : decode cX1_ranked 113 = .ok (.ireturn, 1) := by decide +kernel
set_option maxRecDepth 20000 in
theorem dX1_rankedAt_0 : decode cX1_rankedAt 0 = .ok (.iload_n 1, 1) := by decide +kernel
theorem dX1_rankedAt_1 : decode cX1_rankedAt 1 = .ok (.ifCond .ge 7, 3) := by decide +kernel
theorem dX1_rankedAt_4 : decode cX1_rankedAt 4 = .ok (.iconst (-1), 1) := by decide +kernel
theorem dX1_rankedAt_5 : decode cX1_rankedAt 5 = .ok (.goto 8, 3) := by decide +kernel
theorem dX1_rankedAt_8 : decode cX1_rankedAt 8 = .ok (.aload_n 0, 1) := by decide +kernel
theorem dX1_rankedAt_9 : decode cX1_rankedAt 9 = .ok (.iload_n 1, 1) := by decide +kernel
theorem dX1_rankedAt_10 : decode cX1_rankedAt 10 = .ok (.invokevirtual 148, 3) := by decide +kernel
theorem dX1_rankedAt_13 : decode cX1_rankedAt 13 = .ok (.istore_n 2, 1) := by decide +kernel
theorem dX1_rankedAt_14 : decode cX1_rankedAt 14 = .ok (.aload_n 0, 1) := by decide +kernel
theorem dX1_rankedAt_15 : decode cX1_rankedAt 15 = .ok (.iload_n 2, 1) := by decide +kernel
theorem dX1_rankedAt_16 : decode cX1_rankedAt 16 = .ok (.iconst (-1), 1) := by decide +kernel
theorem dX1_rankedAt_17 : decode cX1_rankedAt 17 = .ok (.if_icmp .eq 7, 3) := by decide +kernel
theorem dX1_rankedAt_20 : decode cX1_rankedAt 20 = .ok (.iconst 1, 1) := by decide +kernel
theorem dX1_rankedAt_21 : decode cX1_rankedAt 21 = .ok (.goto 4, 3) := by decide +kernel
theorem dX1_rankedAt_24 : decode cX1_rankedAt 24 = .ok (.iconst 0, 1) := by decide +kernel
theorem dX1_rankedAt_25 : decode cX1_rankedAt 25 = .ok (.iconst 1, 1) := by decide +kernel
theorem dX1_rankedAt_26 : decode cX1_rankedAt 26 = .ok (.iconst 1, 1) := by decide +kernel
theorem dX1_rankedAt_27 : decode cX1_rankedAt 27 = .ok (.invokevirtual 71, 3) := by decide +kernel
theorem dX1_rankedAt_30 : decode cX1_rankedAt 30 = .ok (.ifCond .eq 7, 3) := by decide +kernel
theorem dX1_rankedAt_33 : decode cX1_rankedAt 33 = .ok (.iload_n 2, 1) := by decide +kernel
theorem dX1_rankedAt_34 : decode cX1_rankedAt 34 = .ok (.goto 4, 3) := by decide +kernel
theorem dX1_rankedAt_37 : decode cX1_rankedAt 37 = .ok (.iconst 0, 1) := by decide +kernel
theorem dX1_rankedAt_38 : decode cX1_rankedAt 38 = .ok (.ireturn, 1) := by decide +kernel
end
section
/-! what the class's private methods answer, in the numbers of the state -/
theorem le_nI {a b : Nat} (ha : a < 2 ^ 31) (hb : b < 2 ^ 31) (h : nI a ≤ nI b) : a ≤ b := (nI_leI ha hb).mp h
theorem nle_nI {a b : Nat} (ha : a < 2 ^ 31) (hb : b < 2 ^ 31) (h : ¬ nI a ≤ nI b) : b < a := Nat.lt_of_not_le (fun q => h ((nI_leI ha hb).mpr q))
theorem ixN {r : Int32} {n : Nat} (hn : n < 2 ^ 31) (h1 : ¬ r < 0) (h2 : ¬ nI n ≤ r) : r = nI (tN r) ∧ tN r < n := by
  rcases pk_ix r hn with h | h | ⟨j, hj, rfl⟩
  · exact absurd h h1
  · exact absurd h h2
  · unfold tN
    rw [nI_clamp (by omega)]
    exact ⟨rfl, hj⟩
theorem tN_nI {j : Nat} (h : j < 2 ^ 31) : tN (nI j) = j := nI_clamp h
theorem levN_4 (t : Nat) : levN t ≤ 4 := by unfold levN; split <;> omega
theorem levN_3 (t : Nat) : 3 ≤ levN t := by unfold levN; split <;> omega
def lngP (q : Nat) : Nat := if q = 3 then 14 else 9 + q
def xHasTrait (t : Int32) : Bool := !decide (t < 0) && !decide (3 ≤ t)
def xIsWithin (v lo hi : Int32) : Bool := !decide (v < lo) && !decide (hi < v)
def xHasLevel (t k : Int32) : Bool := xHasTrait t && (!decide (k < 0) && !decide (nI (levN (tN t)) ≤ k))
def xHasRow (S : WS) (r : Int32) : Bool := !decide (r < 0) && (!decide (xSc S 0 ≤ r) && !decide (xIa S 1 (tN r) = 0))
theorem xHasTrait_ix {t : Int32} (h : xHasTrait t = true) : t = nI (tN t) ∧ tN t < 3 := by
  simp only [xHasTrait, Bool.and_eq_true, Bool.not_eq_true', decide_eq_false_iff_not] at h
  exact ixN (n := 3) (by decide) h.1 h.2
theorem xHasLevel_ix {t k : Int32} (h : xHasLevel t k = true) : (t = nI (tN t) ∧ tN t < 3) ∧ (k = nI (tN k) ∧ tN k < levN (tN t)) := by
  simp only [xHasLevel, Bool.and_eq_true, Bool.not_eq_true', decide_eq_false_iff_not] at h
  have h3 := levN_4 (tN t)
  exact ⟨xHasTrait_ix h.1, ixN (n := levN (tN t)) (by omega) h.2.1 h.2.2⟩
theorem xHasRow_ix {S : WS} {r : Int32} {n : Nat} (hn : n ≤ 40) (h0 : xSc S 0 = nI n) (h : xHasRow S r = true) : (r = nI (tN r) ∧ tN r < n) ∧ ¬ xIa S 1 (tN r) = 0 := by
  simp only [xHasRow, Bool.and_eq_true, Bool.not_eq_true', decide_eq_false_iff_not, h0] at h
  exact ⟨ixN (n := n) (by omega) h.1 h.2.1, h.2.2⟩
def xTot (live : Nat → Int32) (f : Nat → Int64) : Nat → Int64
  | 0 => 0
  | k + 1 => if live k = 0 then xTot live f k else xTot live f k + f k
theorem xTot_z {live : Nat → Int32} {f : Nat → Int64} {k : Nat} (h : live k = 0) : xTot live f (k + 1) = xTot live f k := if_pos h
theorem xTot_n {live : Nat → Int32} {f : Nat → Int64} {k : Nat} (h : ¬ live k = 0) : xTot live f (k + 1) = xTot live f k + f k := if_neg h
def xLTot (live lv : Nat → Int32) (q : Int32) (f : Nat → Int64) : Nat → Int64
  | 0 => 0
  | k + 1 => if live k = 0 then xLTot live lv q f k else if lv k = q then xLTot live lv q f k + f k else xLTot live lv q f k
theorem xLTot_z {live lv : Nat → Int32} {q : Int32} {f : Nat → Int64} {k : Nat} (h : live k = 0) : xLTot live lv q f (k + 1) = xLTot live lv q f k := if_pos h
theorem xLTot_q {live lv : Nat → Int32} {q : Int32} {f : Nat → Int64} {k : Nat} (h : ¬ live k = 0) (h2 : lv k = q) : xLTot live lv q f (k + 1) = xLTot live lv q f k + f k := (if_neg h).trans (if_pos h2)
theorem xLTot_o {live lv : Nat → Int32} {q : Int32} {f : Nat → Int64} {k : Nat} (h : ¬ live k = 0) (h2 : ¬ lv k = q) : xLTot live lv q f (k + 1) = xLTot live lv q f k := (if_neg h).trans (if_neg h2)
def mx64 (x y : Int64) : Int64 := if y < x then x else y
def mn64 (x y : Int64) : Int64 := if y < x then y else x
def ab64 (x : Int64) : Int64 := if 0 < x then x else -x
def xBnd (v lo hi : Int64) : Int64 := mn64 (mx64 v lo) hi
/-- the class's state as its calls leave it: n rows were added -/
def XI (n : Nat) (S : WS) : Prop := n ≤ 40 ∧ xSc S 0 = nI n ∧ (∀ t k : Nat, t < 3 → k < n → ∃ j : Nat, j < 4 ∧ xLev S t k = nI j) ∧ (∀ k : Nat, k < n → ∃ c : Nat, c ≤ 1000 ∧ xLng S 1 k = lN c) ∧ ∃ c : Nat, c ≤ 1000 ∧ xSc S 2 = nI c
def xFitN (S : WS) (r : Nat) : Nat → Int64
  | 0 => xLng S 0 r * xBase S / 10000
  | t + 1 => xFitN S r t * (xFac S t (tN (xLev S t r))).toInt64 / 10000
def xFit (S : WS) (r : Nat) : Int64 := xFitN S r 3
def xNewP (S : WS) (r : Nat) : Int64 := xLng S 3 r * (xSc S 4).toInt64 / 10000
def mxI (x y : Int32) : Int32 := if x < y then y else x
def xCapP (S : WS) (r : Nat) : Int64 := if xSc S 3 = -1 then xNewP S r else if xIa S 0 r = -1 then xNewP S r else
  xBnd (xNewP S r) ((xIa S 0 r).toInt64 * (mxI (100 - xSc S 3) 0).toInt64 / 100) ((xIa S 0 r).toInt64 * (100 + xSc S 3).toInt64 / 100)
def xAhead (S : WS) (r q : Nat) : Bool := decide (xLng S 2 q * (1 + xLng S 3 r) < xLng S 2 r * (1 + xLng S 3 q)) || (decide (xLng S 2 r * (1 + xLng S 3 q) = xLng S 2 q * (1 + xLng S 3 r)) && !decide (nI q ≤ nI r))
def xCnt (p : Nat → Bool) : Nat → Nat
  | 0 => 0
  | k + 1 => if p k then xCnt p k + 1 else xCnt p k
theorem xCnt_t {p : Nat → Bool} {k : Nat} (h : p k = true) : xCnt p (k + 1) = xCnt p k + 1 := if_pos h
theorem xCnt_f {p : Nat → Bool} {k : Nat} (h : p k = false) : xCnt p (k + 1) = xCnt p k := if_neg (by rw [h]; decide)
theorem xCnt_le (p : Nat → Bool) : ∀ k, xCnt p k ≤ k
  | 0 => Nat.le_refl 0
  | k + 1 => by
    have h := xCnt_le p k
    cases hp : p k
    · rw [xCnt_f hp]; omega
    · rw [xCnt_t hp]; omega
def xPlP (S : WS) (r : Nat) : Nat → Bool := fun k => !decide (xIa S 1 k = 0) && xAhead S k r
def xPlace (S : WS) (r n : Nat) : Nat := xCnt (xPlP S r) n
def xFound (S : WS) (n t k : Nat) : Int32 :=
  if xLTot (xIa S 1) (xLev S t) (nI k) (xLng S 3) n ≤ 0 then xFac S t k else
  if 0 < xLTot (xIa S 1) (xLev S t) (nI k) (xLng S 1) n then
    (xBnd ((xFac S t k).toInt64 + ((xFac S t k).toInt64 * xLTot (xIa S 1) (xLev S t) (nI k) (xLng S 2) n / xLTot (xIa S 1) (xLev S t) (nI k) (xLng S 3) n - (xFac S t k).toInt64) * xLTot (xIa S 1) (xLev S t) (nI k) (xLng S 1) n / (xLTot (xIa S 1) (xLev S t) (nI k) (xLng S 1) n + (xSc S 2).toInt64)) 100 100000).toInt32
  else xFac S t k
/-- f up to i, g behind -/
def fil {α : Type} (f g : Nat → α) (i : Nat) : Nat → α := fun k => if k < i then f k else g k
theorem fil_0 {α : Type} (f g : Nat → α) : fil f g 0 = g := funext fun k => if_neg (Nat.not_lt_zero k)
theorem fil_at {α : Type} (f g : Nat → α) (i : Nat) : fil f g i i = g i := if_neg (Nat.lt_irrefl i)
theorem fil_lo {α : Type} {f g : Nat → α} {i k : Nat} (h : k < i) : fil f g i k = f k := if_pos h
theorem fil_hi {α : Type} {f g : Nat → α} {i k : Nat} (h : i ≤ k) : fil f g i k = g k := if_neg (by omega)
theorem fil_sI (f g : Nat → Int32) (i : Nat) : upd (fil f g i) i (f i) = fil f g (i + 1) := by
  funext k
  unfold upd fil
  by_cases h : k = i
  · subst h; rw [if_pos rfl, if_pos (by omega)]
  · rw [if_neg h]
    by_cases h2 : k < i
    · rw [if_pos h2, if_pos (by omega)]
    · rw [if_neg h2, if_neg (by omega)]
theorem fil_sL (f g : Nat → Int64) (i : Nat) : vp_updL (fil f g i) i (f i) = fil f g (i + 1) := by
  funext k
  unfold vp_updL fil
  by_cases h : k = i
  · subst h; rw [if_pos rfl, if_pos (by omega)]
  · rw [if_neg h]
    by_cases h2 : k < i
    · rw [if_pos h2, if_pos (by omega)]
    · rw [if_neg h2, if_neg (by omega)]
theorem fil_k {α : Type} {f g : Nat → α} {i : Nat} (h : f i = g i) : fil f g (i + 1) = fil f g i := by
  funext k
  unfold fil
  by_cases h1 : k = i
  · subst h1; rw [if_pos (by omega), if_neg (by omega), h]
  · by_cases h2 : k < i
    · rw [if_pos h2, if_pos (by omega)]
    · rw [if_neg h2, if_neg (by omega)]
def xBase1 (S : WS) (n : Nat) : Int64 := if xTot (xIa S 1) (xLng S 0) n ≤ 0 then 0 else 10000 * xTot (xIa S 1) (xLng S 2) n / xTot (xIa S 1) (xLng S 0) n
def xRefit (S : WS) (n : Nat) : WS := xsLng (xsBase S (xBase1 S n)) 3 (fil (xFit (xsBase S (xBase1 S n))) (xLng S 3) n)
def xPassF (S : WS) (n t : Nat) : WS := xsFac S t (fil (xFound S n t) (xFac S t) (levN t))
def xPass (S : WS) (n t : Nat) : WS := xRefit (xPassF S n t) n
def xPasP (S : WS) (n t : Nat) : Nat → Bool := fun k => !decide (xFound S n t k = xFac S t k)
def xPassC (S : WS) (n t : Nat) : Nat := xCnt (xPasP S n t) (levN t)
def xRound (S : WS) (n : Nat) : Nat → WS
  | 0 => S
  | t + 1 => xPass (xRound S n t) n t
def xRoundC (S : WS) (n : Nat) : Nat → Nat
  | 0 => 0
  | t + 1 => xRoundC S n t + xPassC (xRound S n t) n t
theorem wW_lng (g : gG) (S : WS) {q : Nat} (hq : q < 4) : (wW g S)[lngP q]? = some (gA g (lngP q), .inl (gT g 1, 40, .inr (.inl (xLng S q)))) := by
  rcases (show q = 0 ∨ q = 1 ∨ q = 2 ∨ q = 3 by omega) with rfl | rfl | rfl | rfl <;> rfl
section WLNG
variable {p : Program} {l : Launch} {e : Env} {R : Room} {s : State} {m : MethodId} {args : Array Value} {below : List Frame} {meth : Method} {c : Code} {H : Heap} {locs : List Loc} {cells slots : Nat} {Q : State → Prop}
variable {cc : ByteArray} {pc : Nat} {ls : Array Slot} {rest : List Value} {g : gG} {S : WS} {own : String}
theorem ldX_lng (C : CW g own p s m args) (hb : c.code = cc) (hP : HW g S H) {q : Nat} (hq : q < 4) {i : Int32} {j : Nat} (hi : i = nI j) (hj : j < 40) (hdg : decode cc pc = .ok (.laload, 1)) (kk : W p l e R s m args below meth c H locs cells slots Q (F0 m (pc + 1) ls (.long (xLng S q j) :: rest))) : W p l e R s m args below meth c H locs cells slots Q (F0 m (pc) ls (.int i :: .ref (gA g (lngP q)) :: rest)) := by
  subst hi
  refine va_lald (D := gD g) (f := xLng S q) C.1 hb C.2.2.2.1 hP (lngP q) 1 (wW_lng g S hq) rfl (vp_in_nI hj (by decide)) hdg ?_
  rw [nI_clamp (by omega)]
  exact kk
end WLNG
end
section
theorem ne0_nle {y : Int64} (h : ¬ y ≤ 0) : ¬ y = 0 := fun q => h (by rw [q]; decide)
theorem ne0_lt {y : Int64} (h : 0 < y) : ¬ y = 0 := fun q => absurd h (by rw [q]; decide)
theorem XI_lev {n : Nat} {S : WS} (hI : XI n S) {t k : Nat} (ht : t < 3) (hk : k < n) : xLev S t k = nI (tN (xLev S t k)) ∧ tN (xLev S t k) < 4 := by
  obtain ⟨j, hj, e⟩ := hI.2.2.1 t k ht hk
  rw [e, tN_nI (by omega)]
  exact ⟨rfl, hj⟩
theorem XI_lng3 {n : Nat} {S : WS} (f : Nat → Int64) (h : XI n S) : XI n (xsLng S 3 f) := h
theorem XI_base {n : Nat} {S : WS} (v : Int64) (h : XI n S) : XI n (xsBase S v) := h
theorem XI_fac {n : Nat} {S : WS} (t : Nat) (f : Nat → Int32) (h : XI n S) : XI n (xsFac S t f) := h
theorem XI_ia {n : Nat} {S : WS} (t : Nat) (f : Nat → Int32) (h : XI n S) : XI n (xsIa S t f) := h
theorem XI_refit {n : Nat} {S : WS} (h : XI n S) : XI n (xRefit S n) := h
theorem XI_pass {n : Nat} {S : WS} (t : Nat) (h : XI n S) : XI n (xPass S n t) := h
theorem XI_round {n : Nat} {S : WS} (h : XI n S) : ∀ t : Nat, XI n (xRound S n t)
  | 0 => h
  | t + 1 => XI_pass t (XI_round h t)
theorem xFit_lng3 (S : WS) (f : Nat → Int64) (r : Nat) : xFit (xsLng S 3 f) r = xFit S r := rfl
theorem lng_twice (S : WS) (q : Nat) (a b : Nat → Int64) : xsLng (xsLng S q a) q b = xsLng S q b := by
  show ((_, _, va_up (va_up S.1.2.2.1 q a) q b, _), _) = _
  rw [bx_uu]
theorem lng_at (S : WS) (q : Nat) (a : Nat → Int64) : xLng (xsLng S q a) q = a := va_up_self _ _ _
theorem fac_twice (S : WS) (q : Nat) (a b : Nat → Int32) : xsFac (xsFac S q a) q b = xsFac S q b := by
  show ((va_up (va_up S.1.1 q a) q b, _), _) = _
  rw [bx_uu]
theorem fac_at (S : WS) (q : Nat) (a : Nat → Int32) : xFac (xsFac S q a) q = a := va_up_self _ _ _
theorem ia_twice (S : WS) (q : Nat) (a b : Nat → Int32) : xsIa (xsIa S q a) q b = xsIa S q b := by
  show ((_, _, _, va_up (va_up S.1.2.2.2.1 q a) q b, _), _) = _
  rw [bx_uu]
theorem ia_at (S : WS) (q : Nat) (a : Nat → Int32) : xIa (xsIa S q a) q = a := va_up_self _ _ _
theorem fac_self (S : WS) (t : Nat) : xsFac S t (xFac S t) = S := by
  have h : va_up S.1.1 t (S.1.1 t) = S.1.1 := by
    funext j
    unfold va_up
    by_cases hj : j = t
    · rw [if_pos hj, hj]
    · rw [if_neg hj]
  show ((va_up S.1.1 t (S.1.1 t), _), _) = S
  rw [h]
theorem lng_self (S : WS) (t : Nat) : xsLng S t (xLng S t) = S := by
  have h : va_up S.1.2.2.1 t (S.1.2.2.1 t) = S.1.2.2.1 := by
    funext j
    unfold va_up
    by_cases hj : j = t
    · rw [if_pos hj, hj]
    · rw [if_neg hj]
  show ((_, _, va_up S.1.2.2.1 t (S.1.2.2.1 t), _), _) = S
  rw [h]
theorem ia_self (S : WS) (t : Nat) : xsIa S t (xIa S t) = S := by
  have h : va_up S.1.2.2.2.1 t (S.1.2.2.2.1 t) = S.1.2.2.2.1 := by
    funext j
    unfold va_up
    by_cases hj : j = t
    · rw [if_pos hj, hj]
    · rw [if_neg hj]
  show ((_, _, _, va_up S.1.2.2.2.1 t (S.1.2.2.2.1 t), _), _) = S
  rw [h]
theorem refit_0 (S : WS) (n : Nat) : xsLng (xsBase S (xBase1 S n)) 3 (fil (xFit (xsBase S (xBase1 S n))) (xLng S 3) 0) = xsBase S (xBase1 S n) := by
  rw [fil_0]
  exact lng_self (xsBase S (xBase1 S n)) 3
theorem refit_step (S : WS) (F G : Nat → Int64) (i : Nat) : xsLng (xsLng S 3 (fil F G i)) 3 (vp_updL (xLng (xsLng S 3 (fil F G i)) 3) i (F i)) = xsLng S 3 (fil F G (i + 1)) := by
  rw [lng_twice, lng_at, fil_sL]
theorem xFound_fil (S : WS) (n t i : Nat) (F : Nat → Int32) : xFound (xsFac S t (fil F (xFac S t) i)) n t i = xFound S n t i := by
  have h : xFac (xsFac S t (fil F (xFac S t) i)) t i = xFac S t i := by rw [fac_at, fil_at]
  unfold xFound
  rw [h]
theorem passf_0 (S : WS) (t : Nat) (F : Nat → Int32) : xsFac S t (fil F (xFac S t) 0) = S := by
  rw [fil_0]
  exact fac_self S t
theorem passf_step (S : WS) (t i : Nat) (F : Nat → Int32) : xsFac (xsFac S t (fil F (xFac S t) i)) t (upd (xFac (xsFac S t (fil F (xFac S t) i)) t) i (F i)) = xsFac S t (fil F (xFac S t) (i + 1)) := by
  rw [fac_twice, fac_at, fil_sI]
theorem passf_keep (S : WS) (t i : Nat) (F : Nat → Int32) (h : F i = xFac S t i) : xsFac S t (fil F (xFac S t) (i + 1)) = xsFac S t (fil F (xFac S t) i) := by
  rw [fil_k h]
/-- a sum of small numbers -/
theorem xLTot_small {live lv : Nat → Int32} {q : Int32} {f : Nat → Int64} {B : Nat} : ∀ k : Nat, (∀ i, i < k → ∃ c : Nat, c ≤ B ∧ f i = lN c) → ∃ c : Nat, c ≤ k * B ∧ xLTot live lv q f k = lN c
  | 0, _ => ⟨0, Nat.zero_le _, rfl⟩
  | k + 1, h => by
    obtain ⟨c, hc, e⟩ := xLTot_small (live := live) (lv := lv) (q := q) k (fun i hi => h i (by omega))
    obtain ⟨d, hd, e2⟩ := h k (by omega)
    have e3 : (k + 1) * B = k * B + B := Nat.succ_mul k B
    by_cases h1 : live k = 0
    · exact ⟨c, by omega, by rw [xLTot_z h1]; exact e⟩
    · by_cases h2 : lv k = q
      · exact ⟨c + d, by omega, by rw [xLTot_q h1 h2, e, e2, lN_add]⟩
      · exact ⟨c, by omega, by rw [xLTot_o h1 h2]; exact e⟩
theorem lN_pos {c : Nat} (hc : c < 2 ^ 31) (h : (0 : Int64) < lN c) : 0 < c := (lN_lt (a := 0) (by decide) hc).mp h
theorem lN_ne0 {c : Nat} (hc : c < 2 ^ 31) (h : 0 < c) : ¬ lN c = 0 := fun q => by
  have := (lN_eq (a := c) (b := 0) hc (by decide)).mp q
  omega
theorem xFound_div {n : Nat} {S : WS} (hI : XI n S) {live lv : Nat → Int32} {q : Int32} (h : 0 < xLTot live lv q (xLng S 1) n) : ¬ xLTot live lv q (xLng S 1) n + (xSc S 2).toInt64 = 0 := by
  obtain ⟨hn, -, -, hc, d, hd, e2⟩ := hI
  obtain ⟨c, hc1, e⟩ := xLTot_small (live := live) (lv := lv) (q := q) (B := 1000) n hc
  have hb : c ≤ 40000 := by have : n * 1000 ≤ 40 * 1000 := Nat.mul_le_mul_right _ hn; omega
  rw [e] at h ⊢
  have hp := lN_pos (by omega) h
  rw [e2, nI_l (by omega), lN_add]
  exact lN_ne0 (by omega) (by omega)
def wsum (P : Nat → Bool) (h : Nat → Int64) : Nat → Int64
  | 0 => 0
  | k + 1 => if P k then wsum P h k + h k else wsum P h k
theorem wsum_t {P : Nat → Bool} {h : Nat → Int64} {k : Nat} (e : P k = true) : wsum P h (k + 1) = wsum P h k + h k := if_pos e
theorem wsum_f {P : Nat → Bool} {h : Nat → Int64} {k : Nat} (e : P k = false) : wsum P h (k + 1) = wsum P h k := if_neg (by rw [e]; decide)
theorem wsum_z {P : Nat → Bool} {h : Nat → Int64} : ∀ {k : Nat}, (∀ i, i < k → P i = false) → wsum P h k = 0
  | 0, _ => rfl
  | k + 1, e => by rw [wsum_f (e k (by omega))]; exact wsum_z (fun i hi => e i (by omega))
theorem xCnt_z {P : Nat → Bool} : ∀ {k : Nat}, (∀ i, i < k → P i = false) → xCnt P k = 0
  | 0, _ => rfl
  | k + 1, e => by rw [xCnt_f (e k (by omega))]; exact xCnt_z (fun i hi => e i (by omega))
/-- the levels of the group that starts at st -/
def xGP (S : WS) (st : Nat) : Nat → Bool := fun k => decide (st ≤ k) && decide (xIa S 2 k = nI st)
def xWt (S : WS) (n t k : Nat) : Int64 := xLTot (xIa S 1) (xLev S t) (nI k) (xLng S 0) n
def xMean (S : WS) (n t st : Nat) : Int32 :=
  (if wsum (xGP S st) (xWt S n t) (levN t) ≤ 0 then wsum (xGP S st) (fun k => (xFac S t k).toInt64) (levN t) / (mxI (nI (xCnt (xGP S st) (levN t))) 1).toInt64
   else wsum (xGP S st) (fun k => xWt S n t k * (xFac S t k).toInt64) (levN t) / wsum (xGP S st) (xWt S n t) (levN t)).toInt32
theorem mxI_ne0 {k : Nat} (h : k ≤ 40) : ¬ (mxI (nI k) 1).toInt64 = 0 := by
  unfold mxI
  by_cases h1 : k = 0
  · subst h1; decide
  · rw [if_neg (fun q => by have := (nI_ltI (a := k) (b := 1) (by omega) (by decide)).mp q; omega), nI_l (by omega)]
    exact lN_ne0 (by omega) (by omega)
/-- the first level from i on that falls behind the one ahead of it -/
def xLowF (f : Nat → Int32) : Nat → Nat → Int32
  | 0, _ => -1
  | d + 1, i => if f (i - 1) ≤ f i then xLowF f d (i + 1) else nI i
def xLow (S : WS) (t : Nat) : Int32 := xLowF (xFac S t) (levN t - 1) 1
def xJoinG (S : WS) (t fl st : Nat) (i : Nat) : Nat → Int32 := fun k => if fl ≤ k ∧ k < i ∧ xIa S 2 k = nI fl then nI st else xIa S 2 k
def xJoin1 (S : WS) (t fl st : Nat) : WS := xsIa S 2 (xJoinG S t fl st (levN t))
def xJoinF (S : WS) (t st : Nat) (v : Int32) (i : Nat) : Nat → Int32 := fun k => if st ≤ k ∧ k < i ∧ xIa S 2 k = nI st then v else xFac S t k
def xJoin (S : WS) (n t fl st : Nat) : WS := xsFac (xJoin1 S t fl st) t (xJoinF (xJoin1 S t fl st) t st (xMean (xJoin1 S t fl st) n t st) (levN t))
theorem jg_0 (S : WS) (t fl st : Nat) : xsIa S 2 (xJoinG S t fl st fl) = S := by
  have h : xJoinG S t fl st fl = xIa S 2 := funext fun k => if_neg (fun q => by omega)
  rw [h]; exact ia_self S 2
theorem jg_keep (S : WS) (t fl st i : Nat) (h : ¬ xIa S 2 i = nI fl) : xJoinG S t fl st (i + 1) = xJoinG S t fl st i := by
  funext k
  unfold xJoinG
  by_cases hk : k = i
  · subst hk
    rw [if_neg (fun q => h q.2.2), if_neg (fun q => by omega)]
  · by_cases h2 : fl ≤ k ∧ k < i ∧ xIa S 2 k = nI fl
    · rw [if_pos h2, if_pos ⟨h2.1, by omega, h2.2.2⟩]
    · rw [if_neg h2, if_neg (fun q => h2 ⟨q.1, by omega, q.2.2⟩)]
theorem jg_put (S : WS) (t fl st i : Nat) (h0 : fl ≤ i) (h : xIa S 2 i = nI fl) : upd (xJoinG S t fl st i) i (nI st) = xJoinG S t fl st (i + 1) := by
  funext k
  unfold upd
  by_cases hk : k = i
  · subst hk
    rw [if_pos rfl]
    exact (if_pos ⟨h0, by omega, h⟩).symm
  · rw [if_neg hk]
    unfold xJoinG
    by_cases h2 : fl ≤ k ∧ k < i ∧ xIa S 2 k = nI fl
    · rw [if_pos h2, if_pos ⟨h2.1, by omega, h2.2.2⟩]
    · rw [if_neg h2, if_neg (fun q => h2 ⟨q.1, by omega, q.2.2⟩)]
theorem jg_at (S : WS) (t fl st i : Nat) : xJoinG S t fl st i i = xIa S 2 i := if_neg (fun q => by omega)
theorem jg_step (S : WS) (t fl st i : Nat) (h0 : fl ≤ i) (h : xIa S 2 i = nI fl) : xsIa (xsIa S 2 (xJoinG S t fl st i)) 2 (upd (xIa (xsIa S 2 (xJoinG S t fl st i)) 2) i (nI st)) = xsIa S 2 (xJoinG S t fl st (i + 1)) := by
  rw [ia_twice, ia_at, jg_put S t fl st i h0 h]
theorem jf_0 (S : WS) (t st : Nat) (v : Int32) : xsFac S t (xJoinF S t st v st) = S := by
  have h : xJoinF S t st v st = xFac S t := funext fun k => if_neg (fun q => by omega)
  rw [h]; exact fac_self S t
theorem jf_keep (S : WS) (t st i : Nat) (v : Int32) (h : ¬ xIa S 2 i = nI st) : xJoinF S t st v (i + 1) = xJoinF S t st v i := by
  funext k
  unfold xJoinF
  by_cases hk : k = i
  · subst hk
    rw [if_neg (fun q => h q.2.2), if_neg (fun q => by omega)]
  · by_cases h2 : st ≤ k ∧ k < i ∧ xIa S 2 k = nI st
    · rw [if_pos h2, if_pos ⟨h2.1, by omega, h2.2.2⟩]
    · rw [if_neg h2, if_neg (fun q => h2 ⟨q.1, by omega, q.2.2⟩)]
theorem jf_put (S : WS) (t st i : Nat) (v : Int32) (h0 : st ≤ i) (h : xIa S 2 i = nI st) : upd (xJoinF S t st v i) i v = xJoinF S t st v (i + 1) := by
  funext k
  unfold upd
  by_cases hk : k = i
  · subst hk
    rw [if_pos rfl]
    exact (if_pos ⟨h0, by omega, h⟩).symm
  · rw [if_neg hk]
    unfold xJoinF
    by_cases h2 : st ≤ k ∧ k < i ∧ xIa S 2 k = nI st
    · rw [if_pos h2, if_pos ⟨h2.1, by omega, h2.2.2⟩]
    · rw [if_neg h2, if_neg (fun q => h2 ⟨q.1, by omega, q.2.2⟩)]
theorem jf_step (S : WS) (t st i : Nat) (v : Int32) (h0 : st ≤ i) (h : xIa S 2 i = nI st) : xsFac (xsFac S t (xJoinF S t st v i)) t (upd (xFac (xsFac S t (xJoinF S t st v i)) t) i v) = xsFac S t (xJoinF S t st v (i + 1)) := by
  rw [fac_twice, fac_at, jf_put S t st i v h0 h]
def xChP (S : WS) (t : Nat) : Nat → Bool := fun k => !decide (xFac S t k = xIa S 3 k)
end
section
set_option maxRecDepth 100000 in
set_option maxHeartbeats 4000000 in
theorem k_X0_isWithin (l : Launch) (g : gG) (S : WS) (v lo hi : Int32) : Met l yX0_isWithin (wA yX0_isWithin cX0_isWithin 3 (some .boolean)) ({ frames := 0, cells := 0, slots := 0, locals := 0 }) (PW g S [.int v, .int lo, .int hi]) (RQ (some (.int (bI (xIsWithin v lo hi))))) 0 0 (fun _ => False) := by
  refine metI (by decide +kernel) (Nat.le_of_ble_eq_true rfl) ?_
  intro p e s m below meth c C hb hml hret hlk hP ls hl
  have C : CW g RX0 p s m ([.int v, .int lo, .int hi] : List Value).toArray := C
  have hS : va_S (Ab g) s.heap s.heap [] := va_S.rf
  have hl : lv_has ls 3 [(0, .int v), (1, .int lo), (2, .int hi)] := hl
  refine lv_iload_n C.1 hb dX0_isWithin_0 rfl (lv_at hl 0 rfl) ?_
  refine lv_iload_n C.1 hb dX0_isWithin_1 rfl (lv_at hl 1 rfl) ?_
  refine lv_icmp_lt (tgt := 14) C.1 hb dX0_isWithin_2 (by decide) (fun c1 => ?_) (fun c1 => ?_)
  · refine lv_iconst (v := 0) C.1 hb dX0_isWithin_14 (by decide) ?_
    exact rdZ C hb hret hlk dX0_isWithin_15 (by simp [xIsWithin, bI, c1])
  · refine lv_iload_n C.1 hb dX0_isWithin_5 rfl (lv_at hl 0 rfl) ?_
    refine lv_iload_n C.1 hb dX0_isWithin_6 rfl (lv_at hl 2 rfl) ?_
    refine lv_icmp_gt (tgt := 14) C.1 hb dX0_isWithin_7 (by decide) (fun c2 => ?_) (fun c2 => ?_)
    · refine lv_iconst (v := 0) C.1 hb dX0_isWithin_14 (by decide) ?_
      exact rdZ C hb hret hlk dX0_isWithin_15 (by simp [xIsWithin, bI, c1, c2])
    · refine lv_iconst (v := 1) C.1 hb dX0_isWithin_10 (by decide) ?_
      refine lv_goto (tgt := 15) C.1 hb dX0_isWithin_11 (by decide) ?_
      exact rdZ C hb hret hlk dX0_isWithin_15 (by simp [xIsWithin, bI, c1, c2])

set_option maxRecDepth 100000 in
set_option maxHeartbeats 4000000 in
theorem k_X0_hasTrait (l : Launch) (g : gG) (S : WS) (t : Int32) : Met l yX0_hasTrait (wA yX0_hasTrait cX0_hasTrait 1 (some .boolean)) ({ frames := 0, cells := 0, slots := 0, locals := 0 }) (PW g S [.int t]) (RQ (some (.int (bI (xHasTrait t))))) 0 0 (fun _ => False) := by
  refine metI (by decide +kernel) (Nat.le_of_ble_eq_true rfl) ?_
  intro p e s m below meth c C hb hml hret hlk hP ls hl
  have C : CW g RX0 p s m ([.int t] : List Value).toArray := C
  have hS : va_S (Ab g) s.heap s.heap [] := va_S.rf
  have hl : lv_has ls 1 [(0, .int t)] := hl
  refine lv_iload_n C.1 hb dX0_hasTrait_0 rfl (lv_at hl 0 rfl) ?_
  refine lv_if_lt (tgt := 13) C.1 hb dX0_hasTrait_1 (by decide) (fun c3 => ?_) (fun c3 => ?_)
  · refine lv_iconst (v := 0) C.1 hb dX0_hasTrait_13 (by decide) ?_
    exact rdZ C hb hret hlk dX0_hasTrait_14 (by simp [xHasTrait, bI, c3])
  · refine lv_iload_n C.1 hb dX0_hasTrait_4 rfl (lv_at hl 0 rfl) ?_
    refine lv_iconst (v := 3) C.1 hb dX0_hasTrait_5 (by decide) ?_
    refine lv_icmp_ge (tgt := 13) C.1 hb dX0_hasTrait_6 (by decide) (fun c4 => ?_) (fun c4 => ?_)
    · refine lv_iconst (v := 0) C.1 hb dX0_hasTrait_13 (by decide) ?_
      exact rdZ C hb hret hlk dX0_hasTrait_14 (by simp [xHasTrait, bI, c4])
    · refine lv_iconst (v := 1) C.1 hb dX0_hasTrait_9 (by decide) ?_
      refine lv_goto (tgt := 14) C.1 hb dX0_hasTrait_10 (by decide) ?_
      exact rdZ C hb hret hlk dX0_hasTrait_14 (by simp [xHasTrait, bI, c3, c4])

set_option maxRecDepth 100000 in
set_option maxHeartbeats 4000000 in
theorem k_X0_hasLevel (l : Launch) (g : gG) (S : WS) (t k : Int32) : Met l yX0_hasLevel (wA yX0_hasLevel cX0_hasLevel 2 (some .boolean)) ({ frames := 1, cells := 0, slots := 0, locals := 30 }) (PW g S [.int t, .int k]) (RQ (some (.int (bI (xHasLevel t k))))) 0 0 (fun _ => False) := by
  refine metI (by decide +kernel) (Nat.le_of_ble_eq_true rfl) ?_
  intro p e s m below meth c C hb hml hret hlk hP ls hl
  have C : CW g RX0 p s m ([.int t, .int k] : List Value).toArray := C
  have hS : va_S (Ab g) s.heap s.heap [] := va_S.rf
  have hl : lv_has ls 2 [(0, .int t), (1, .int k)] := hl
  refine lv_iload_n C.1 hb dX0_hasLevel_0 rfl (lv_at hl 0 rfl) ?_
  refine run_rd (cRunS (As := [.int t]) (rest := []) C hb (hml.trans hl.1.symm) hP hS (k_X0_hasTrait l g S t) wm_71 wm_72 wm_73 wm_2 (n := 1) (by decide +kernel) rfl ⟨rfl, rfl, Nat.le_of_ble_eq_true rfl, Nat.le_of_ble_eq_true rfl⟩ (Nat.le_of_ble_eq_true rfl) rfl ⟨Nat.zero_le _, Nat.zero_le _⟩ dX0_hasLevel_1) ?_
  refine bz_eq (tgt := 24) C hb dX0_hasLevel_4 (by decide) (fun c5 => ?_) (fun c5 => ?_)
  · refine lv_iconst (v := 0) C.1 hb dX0_hasLevel_24 (by decide) ?_
    exact rdZ C hb hret hlk dX0_hasLevel_25 (by simp [xHasLevel, bI, c5])
  · refine lv_iload_n C.1 hb dX0_hasLevel_7 rfl (lv_at hl 1 rfl) ?_
    refine lv_if_lt (tgt := 24) C.1 hb dX0_hasLevel_8 (by decide) (fun c6 => ?_) (fun c6 => ?_)
    · refine lv_iconst (v := 0) C.1 hb dX0_hasLevel_24 (by decide) ?_
      exact rdZ C hb hret hlk dX0_hasLevel_25 (by simp [xHasLevel, bI, c6])
    · have ht := xHasTrait_ix c5
      refine lv_iload_n C.1 hb dX0_hasLevel_11 rfl (lv_at hl 1 rfl) ?_
      refine gX_LEVELS C hb hS dX0_hasLevel_12 ?_
      refine lv_iload_n C.1 hb dX0_hasLevel_15 rfl (lv_at hl 0 rfl) ?_
      refine ldX_LEVELS (j := (tN t)) C hb hS ht.1 ht.2 dX0_hasLevel_16 ?_
      refine lv_icmp_ge (tgt := 24) C.1 hb dX0_hasLevel_17 (by decide) (fun c7 => ?_) (fun c7 => ?_)
      · refine lv_iconst (v := 0) C.1 hb dX0_hasLevel_24 (by decide) ?_
        exact rdZ C hb hret hlk dX0_hasLevel_25 (by simp [xHasLevel, bI, c7])
      · refine lv_iconst (v := 1) C.1 hb dX0_hasLevel_20 (by decide) ?_
        refine lv_goto (tgt := 25) C.1 hb dX0_hasLevel_21 (by decide) ?_
        exact rdZ C hb hret hlk dX0_hasLevel_25 (by simp [xHasLevel, bI, c5, c6, c7])

set_option maxRecDepth 100000 in
set_option maxHeartbeats 4000000 in
theorem k_X0_hasRow (l : Launch) (g : gG) (S : WS) (n : Nat) (hI : XI n S) (r : Int32) : Met l yX0_hasRow (wA yX0_hasRow cX0_hasRow 2 (some .boolean)) ({ frames := 0, cells := 0, slots := 0, locals := 0 }) (PW g S [.ref (gA g 0), .int r]) (RQ (some (.int (bI (xHasRow S r))))) 0 0 (fun _ => False) := by
  refine metI (by decide +kernel) (Nat.le_of_ble_eq_true rfl) ?_
  intro p e s m below meth c C hb hml hret hlk hP ls hl
  have C : CW g RX0 p s m ([.ref (gA g 0), .int r] : List Value).toArray := C
  have hS : va_S (Ab g) s.heap s.heap [] := va_S.rf
  have hl : lv_has ls 2 [(0, .ref (gA g 0)), (1, .int r)] := hl
  refine lv_iload_n C.1 hb dX0_hasRow_0 rfl (lv_at hl 1 rfl) ?_
  refine lv_if_lt (tgt := 25) C.1 hb dX0_hasRow_1 (by decide) (fun c8 => ?_) (fun c8 => ?_)
  · refine lv_iconst (v := 0) C.1 hb dX0_hasRow_25 (by decide) ?_
    exact rdZ C hb hret hlk dX0_hasRow_26 (by simp [xHasRow, bI, c8])
  · refine lv_iload_n C.1 hb dX0_hasRow_4 rfl (lv_at hl 1 rfl) ?_
    refine lv_aload_n C.1 hb dX0_hasRow_5 rfl (lv_at hl 0 rfl) ?_
    refine gX_addedRows C hb hP dX0_hasRow_6 ?_
    refine lv_icmp_ge (tgt := 25) C.1 hb dX0_hasRow_9 (by decide) (fun c9 => ?_) (fun c9 => ?_)
    · refine lv_iconst (v := 0) C.1 hb dX0_hasRow_25 (by decide) ?_
      exact rdZ C hb hret hlk dX0_hasRow_26 (by simp [xHasRow, bI, c9])
    · have hr2 := ixN (n := n) (by have := hI.1; omega) c8 (by rw [← hI.2.1]; exact c9)
      refine lv_aload_n C.1 hb dX0_hasRow_12 rfl (lv_at hl 0 rfl) ?_
      refine gX_live C hb hP dX0_hasRow_13 ?_
      refine lv_iload_n C.1 hb dX0_hasRow_16 rfl (lv_at hl 1 rfl) ?_
      refine ldX_live (j := (tN r)) C hb hP hr2.1 (by have := hr2.2; have := hI.1; omega) dX0_hasRow_17 ?_
      refine lv_if_eq (tgt := 25) C.1 hb dX0_hasRow_18 (by decide) (fun c10 => ?_) (fun c10 => ?_)
      · refine lv_iconst (v := 0) C.1 hb dX0_hasRow_25 (by decide) ?_
        exact rdZ C hb hret hlk dX0_hasRow_26 (by simp [xHasRow, bI, c10])
      · refine lv_iconst (v := 1) C.1 hb dX0_hasRow_21 (by decide) ?_
        refine lv_goto (tgt := 26) C.1 hb dX0_hasRow_22 (by decide) ?_
        exact rdZ C hb hret hlk dX0_hasRow_26 (by simp [xHasRow, bI, c8, c9, c10])

set_option maxRecDepth 100000 in
set_option maxHeartbeats 4000000 in
theorem k_X0_total (l : Launch) (g : gG) (S : WS) (n : Nat) (hI : XI n S) (q : Nat) (hq : q < 4) : Met l yX0_total (wA yX0_total cX0_total 5 (some .long)) ({ frames := 0, cells := 0, slots := 0, locals := 0 }) (PW g S [.ref (gA g 0), .ref (gA g (lngP q))]) (RQ (some (.long (xTot (xIa S 1) (xLng S q) n)))) 0 0 (fun _ => False) := by
  refine metI (by decide +kernel) (Nat.le_of_ble_eq_true rfl) ?_
  intro p e s m below meth c C hb hml hret hlk hP ls hl
  have C : CW g RX0 p s m ([.ref (gA g 0), .ref (gA g (lngP q))] : List Value).toArray := C
  have hS : va_S (Ab g) s.heap s.heap [] := va_S.rf
  have hl : lv_has ls 5 [(0, .ref (gA g 0)), (1, .ref (gA g (lngP q)))] := hl
  refine lv_lconst (v := 0) C.1 hb dX0_total_0 (by decide) ?_
  refine lv_lstore_n (lv' := [(2, .long 0), (0, .ref (gA g 0)), (1, .ref (gA g (lngP q)))]) C.1 hb dX0_total_1 rfl hl (by decide) rfl (fun ls hl => ?_)
  refine lv_iconst (v := 0) C.1 hb dX0_total_2 (by decide) ?_
  refine lv_istore (lv' := [(4, .int 0), (2, .long 0), (0, .ref (gA g 0)), (1, .ref (gA g (lngP q)))]) C.1 hb dX0_total_3 hl (by decide) rfl (fun ls hl => ?_)
  have key : ∀ f i : Nat, n - i < f → i ≤ n → ∀ ls : Array Slot, lv_has ls 5 [(0, .ref (gA g 0)), (1, .ref (gA g (lngP q))), (2, .long (xTot (xIa S 1) (xLng S q) i)), (4, .int (nI i))] → W p l e ({ frames := 0, cells := 0, slots := 0, locals := 0 }) s m ([.ref (gA g 0), .ref (gA g (lngP q))] : List Value).toArray below meth c s.heap [] 0 0 (MQ below (RQ (some (.long (xTot (xIa S 1) (xLng S q) n)))) ([.ref (gA g 0), .ref (gA g (lngP q))] : List Value).toArray s 0 0 (fun _ => False)) (F0 m 5 ls []) := by
    intro f
    induction f with
    | zero => intro i h; exact absurd h (Nat.not_lt_zero _)
    | succ f ih =>
      intro i hfi hi  ls hl
      refine lv_iload C.1 hb dX0_total_5 (lv_at hl 3 rfl) ?_
      refine lv_aload_n C.1 hb dX0_total_7 rfl (lv_at hl 0 rfl) ?_
      refine gX_addedRows C hb hP dX0_total_8 ?_
      refine lv_icmp_ge (tgt := 37) C.1 hb dX0_total_11 (by decide) (fun c11 => ?_) (fun c11 => ?_)
      · have hin : i = n := by have := le_nI (a := n) (b := i) (by have := hI.1; omega) (by have := hI.1; omega) (by rw [← hI.2.1]; exact c11); omega
        rw [hin] at hl
        refine lv_lload_n C.1 hb dX0_total_37 rfl (lv_at hl 2 rfl) ?_
        exact rdL C hb hret hlk dX0_total_38 rfl
      · have hlt : i < n := nle_nI (a := n) (b := i) (by have := hI.1; omega) (by have := hI.1; omega) (by rw [← hI.2.1]; exact c11)
        have hn40 := hI.1
        refine lv_aload_n C.1 hb dX0_total_14 rfl (lv_at hl 0 rfl) ?_
        refine gX_live C hb hP dX0_total_15 ?_
        refine lv_iload C.1 hb dX0_total_18 (lv_at hl 3 rfl) ?_
        refine ldX_live (j := i) C hb hP rfl (by omega) dX0_total_20 ?_
        refine lv_if_eq (tgt := 31) C.1 hb dX0_total_21 (by decide) (fun c12 => ?_) (fun c12 => ?_)
        · refine lv_iinc (v := nI (i + 1)) (lv' := [(4, .int (nI (i + 1))), (0, .ref (gA g 0)), (1, .ref (gA g (lngP q))), (2, .long (xTot (xIa S 1) (xLng S q) i))]) C.1 hb dX0_total_31 hl (k := 3) rfl (nI_1 i) (by decide) rfl (fun ls hl => ?_)
          refine lv_goto (tgt := 5) C.1 hb dX0_total_34 (by decide) ?_
          exact ih (i + 1) (by omega) (by omega)  ls (by rw [xTot_z c12]; exact lv_sub hl [1, 2, 3, 0] rfl)
        · refine lv_lload_n C.1 hb dX0_total_24 rfl (lv_at hl 2 rfl) ?_
          refine lv_aload_n C.1 hb dX0_total_25 rfl (lv_at hl 1 rfl) ?_
          refine lv_iload C.1 hb dX0_total_26 (lv_at hl 3 rfl) ?_
          refine ldX_lng (q := q) (j := i) C hb hP hq rfl (by omega) dX0_total_28 ?_
          refine lv_ladd C.1 hb dX0_total_29 ?_
          refine lv_lstore_n (lv' := [(2, .long ((xTot (xIa S 1) (xLng S q) i) + (xLng S q i))), (0, .ref (gA g 0)), (1, .ref (gA g (lngP q))), (4, .int (nI i))]) C.1 hb dX0_total_30 rfl hl (by decide) rfl (fun ls hl => ?_)
          refine lv_iinc (v := nI (i + 1)) (lv' := [(4, .int (nI (i + 1))), (2, .long ((xTot (xIa S 1) (xLng S q) i) + (xLng S q i))), (0, .ref (gA g 0)), (1, .ref (gA g (lngP q)))]) C.1 hb dX0_total_31 hl (k := 3) rfl (nI_1 i) (by decide) rfl (fun ls hl => ?_)
          refine lv_goto (tgt := 5) C.1 hb dX0_total_34 (by decide) ?_
          exact ih (i + 1) (by omega) (by omega)  ls (by rw [xTot_n c12]; exact lv_sub hl [2, 3, 1, 0] rfl)
  exact key (n - 0 + 1) 0 (by omega) (by omega)  ls (lv_sub hl [2, 3, 1, 0] rfl)

set_option maxRecDepth 100000 in
set_option maxHeartbeats 4000000 in
theorem k_X0_levelTotal (l : Launch) (g : gG) (S : WS) (n : Nat) (hI : XI n S) (q : Nat) (hq : q < 4) (t : Nat) (ht : t < 3) (k : Int32) : Met l yX0_levelTotal (wA yX0_levelTotal cX0_levelTotal 7 (some .long)) ({ frames := 0, cells := 0, slots := 0, locals := 0 }) (PW g S [.ref (gA g 0), .ref (gA g (lngP q)), .int (nI t), .int k]) (RQ (some (.long (xLTot (xIa S 1) (xLev S t) k (xLng S q) n)))) 0 0 (fun _ => False) := by
  refine metI (by decide +kernel) (Nat.le_of_ble_eq_true rfl) ?_
  intro p e s m below meth c C hb hml hret hlk hP ls hl
  have C : CW g RX0 p s m ([.ref (gA g 0), .ref (gA g (lngP q)), .int (nI t), .int k] : List Value).toArray := C
  have hS : va_S (Ab g) s.heap s.heap [] := va_S.rf
  have hl : lv_has ls 7 [(0, .ref (gA g 0)), (1, .ref (gA g (lngP q))), (2, .int (nI t)), (3, .int k)] := hl
  refine lv_lconst (v := 0) C.1 hb dX0_levelTotal_0 (by decide) ?_
  refine lv_lstore (lv' := [(4, .long 0), (0, .ref (gA g 0)), (1, .ref (gA g (lngP q))), (2, .int (nI t)), (3, .int k)]) C.1 hb dX0_levelTotal_1 hl (by decide) rfl (fun ls hl => ?_)
  refine lv_iconst (v := 0) C.1 hb dX0_levelTotal_3 (by decide) ?_
  refine lv_istore (lv' := [(6, .int 0), (4, .long 0), (0, .ref (gA g 0)), (1, .ref (gA g (lngP q))), (2, .int (nI t)), (3, .int k)]) C.1 hb dX0_levelTotal_4 hl (by decide) rfl (fun ls hl => ?_)
  have key : ∀ f i : Nat, n - i < f → i ≤ n → ∀ ls : Array Slot, lv_has ls 7 [(0, .ref (gA g 0)), (1, .ref (gA g (lngP q))), (2, .int (nI t)), (3, .int k), (4, .long (xLTot (xIa S 1) (xLev S t) k (xLng S q) i)), (6, .int (nI i))] → W p l e ({ frames := 0, cells := 0, slots := 0, locals := 0 }) s m ([.ref (gA g 0), .ref (gA g (lngP q)), .int (nI t), .int k] : List Value).toArray below meth c s.heap [] 0 0 (MQ below (RQ (some (.long (xLTot (xIa S 1) (xLev S t) k (xLng S q) n)))) ([.ref (gA g 0), .ref (gA g (lngP q)), .int (nI t), .int k] : List Value).toArray s 0 0 (fun _ => False)) (F0 m 6 ls []) := by
    intro f
    induction f with
    | zero => intro i h; exact absurd h (Nat.not_lt_zero _)
    | succ f ih =>
      intro i hfi hi  ls hl
      refine lv_iload C.1 hb dX0_levelTotal_6 (lv_at hl 5 rfl) ?_
      refine lv_aload_n C.1 hb dX0_levelTotal_8 rfl (lv_at hl 0 rfl) ?_
      refine gX_addedRows C hb hP dX0_levelTotal_9 ?_
      refine lv_icmp_ge (tgt := 53) C.1 hb dX0_levelTotal_12 (by decide) (fun c13 => ?_) (fun c13 => ?_)
      · have hin : i = n := by have := le_nI (a := n) (b := i) (by have := hI.1; omega) (by have := hI.1; omega) (by rw [← hI.2.1]; exact c13); omega
        rw [hin] at hl
        refine lv_lload C.1 hb dX0_levelTotal_53 (lv_at hl 4 rfl) ?_
        exact rdL C hb hret hlk dX0_levelTotal_55 rfl
      · have hlt : i < n := nle_nI (a := n) (b := i) (by have := hI.1; omega) (by have := hI.1; omega) (by rw [← hI.2.1]; exact c13)
        have hn40 := hI.1
        refine lv_aload_n C.1 hb dX0_levelTotal_15 rfl (lv_at hl 0 rfl) ?_
        refine gX_live C hb hP dX0_levelTotal_16 ?_
        refine lv_iload C.1 hb dX0_levelTotal_19 (lv_at hl 5 rfl) ?_
        refine ldX_live (j := i) C hb hP rfl (by omega) dX0_levelTotal_21 ?_
        refine lv_if_eq (tgt := 47) C.1 hb dX0_levelTotal_22 (by decide) (fun c14 => ?_) (fun c14 => ?_)
        · refine lv_iinc (v := nI (i + 1)) (lv' := [(6, .int (nI (i + 1))), (0, .ref (gA g 0)), (1, .ref (gA g (lngP q))), (2, .int (nI t)), (3, .int k), (4, .long (xLTot (xIa S 1) (xLev S t) k (xLng S q) i))]) C.1 hb dX0_levelTotal_47 hl (k := 5) rfl (nI_1 i) (by decide) rfl (fun ls hl => ?_)
          refine lv_goto (tgt := 6) C.1 hb dX0_levelTotal_50 (by decide) ?_
          exact ih (i + 1) (by omega) (by omega)  ls (by rw [xLTot_z c14]; exact lv_sub hl [1, 2, 3, 4, 5, 0] rfl)
        · refine lv_aload_n C.1 hb dX0_levelTotal_25 rfl (lv_at hl 0 rfl) ?_
          refine gX_rowLevels C hb hP dX0_levelTotal_26 ?_
          refine lv_iload_n C.1 hb dX0_levelTotal_29 rfl (lv_at hl 2 rfl) ?_
          refine al_lev (t := t) C hb hP rfl ht dX0_levelTotal_30 ?_
          refine lv_iload C.1 hb dX0_levelTotal_31 (lv_at hl 5 rfl) ?_
          refine ldX_lev (t := t) (j := i) C hb hP ht rfl (by omega) dX0_levelTotal_33 ?_
          refine lv_iload_n C.1 hb dX0_levelTotal_34 rfl (lv_at hl 3 rfl) ?_
          refine lv_icmp_ne (tgt := 47) C.1 hb dX0_levelTotal_35 (by decide) (fun c15 => ?_) (fun c15 => ?_)
          · refine lv_iinc (v := nI (i + 1)) (lv' := [(6, .int (nI (i + 1))), (0, .ref (gA g 0)), (1, .ref (gA g (lngP q))), (2, .int (nI t)), (3, .int k), (4, .long (xLTot (xIa S 1) (xLev S t) k (xLng S q) i))]) C.1 hb dX0_levelTotal_47 hl (k := 5) rfl (nI_1 i) (by decide) rfl (fun ls hl => ?_)
            refine lv_goto (tgt := 6) C.1 hb dX0_levelTotal_50 (by decide) ?_
            exact ih (i + 1) (by omega) (by omega)  ls (by rw [xLTot_o c14 c15]; exact lv_sub hl [1, 2, 3, 4, 5, 0] rfl)
          · refine lv_lload C.1 hb dX0_levelTotal_38 (lv_at hl 4 rfl) ?_
            refine lv_aload_n C.1 hb dX0_levelTotal_40 rfl (lv_at hl 1 rfl) ?_
            refine lv_iload C.1 hb dX0_levelTotal_41 (lv_at hl 5 rfl) ?_
            refine ldX_lng (q := q) (j := i) C hb hP hq rfl (by omega) dX0_levelTotal_43 ?_
            refine lv_ladd C.1 hb dX0_levelTotal_44 ?_
            refine lv_lstore (lv' := [(4, .long ((xLTot (xIa S 1) (xLev S t) k (xLng S q) i) + (xLng S q i))), (0, .ref (gA g 0)), (1, .ref (gA g (lngP q))), (2, .int (nI t)), (3, .int k), (6, .int (nI i))]) C.1 hb dX0_levelTotal_45 hl (by decide) rfl (fun ls hl => ?_)
            refine lv_iinc (v := nI (i + 1)) (lv' := [(6, .int (nI (i + 1))), (4, .long ((xLTot (xIa S 1) (xLev S t) k (xLng S q) i) + (xLng S q i))), (0, .ref (gA g 0)), (1, .ref (gA g (lngP q))), (2, .int (nI t)), (3, .int k)]) C.1 hb dX0_levelTotal_47 hl (k := 5) rfl (nI_1 i) (by decide) rfl (fun ls hl => ?_)
            refine lv_goto (tgt := 6) C.1 hb dX0_levelTotal_50 (by decide) ?_
            exact ih (i + 1) (by omega) (by omega)  ls (by rw [xLTot_q c14 c15]; exact lv_sub hl [2, 3, 4, 5, 1, 0] rfl)
  exact key (n - 0 + 1) 0 (by omega) (by omega)  ls (lv_sub hl [2, 3, 4, 5, 1, 0] rfl)
end
section
set_option maxRecDepth 100000 in
set_option maxHeartbeats 4000000 in
theorem k_X0_bounded (l : Launch) (g : gG) (S : WS) (v lo hi : Int64) : Met l yX0_bounded (wA yX0_bounded cX0_bounded 6 (some .long)) ({ frames := 1, cells := 0, slots := 0, locals := 40 }) (PW g S [.long v, .long lo, .long hi]) (RQ (some (.long (xBnd v lo hi)))) 0 0 (fun _ => False) := by
  refine metI (by decide +kernel) (Nat.le_of_ble_eq_true rfl) ?_
  intro p e s m below meth c C hb hml hret hlk hP ls hl
  have C : CW g RX0 p s m ([.long v, .long lo, .long hi] : List Value).toArray := C
  have hS : va_S (Ab g) s.heap s.heap [] := va_S.rf
  have hl : lv_has ls 6 [(0, .long v), (2, .long lo), (4, .long hi)] := hl
  refine lv_lload_n C.1 hb dX0_bounded_0 rfl (lv_at hl 0 rfl) ?_
  refine lv_lload_n C.1 hb dX0_bounded_1 rfl (lv_at hl 1 rfl) ?_
  refine va_mmax_long C.1 hb (hml.trans hl.1.symm) C.2.1 (C.2.2.1 _ wm_205) (C.2.2.1 _ wm_206) (C.2.2.1 _ wm_207) (C.2.2.1 _ wm_208) (Nat.le_of_ble_eq_true rfl) (Nat.le_of_ble_eq_true rfl) (Nat.zero_le _) (Nat.zero_le _) dX0_bounded_2 ?_
  refine lv_lload C.1 hb dX0_bounded_5 (lv_at hl 2 rfl) ?_
  refine va_mmin_long C.1 hb (hml.trans hl.1.symm) C.2.1 (C.2.2.1 _ wm_209) (C.2.2.1 _ wm_210) (C.2.2.1 _ wm_207) (C.2.2.1 _ wm_211) (Nat.le_of_ble_eq_true rfl) (Nat.le_of_ble_eq_true rfl) (Nat.zero_le _) (Nat.zero_le _) dX0_bounded_7 ?_
  exact rdL C hb hret hlk dX0_bounded_10 rfl

set_option maxRecDepth 100000 in
set_option maxHeartbeats 4000000 in
theorem k_X0_isAhead (l : Launch) (g : gG) (S : WS) (r q : Nat) (hr : r < 40) (hq : q < 40) : Met l yX0_isAhead (wA yX0_isAhead cX0_isAhead 7 (some .boolean)) ({ frames := 0, cells := 0, slots := 0, locals := 0 }) (PW g S [.ref (gA g 0), .int (nI r), .int (nI q)]) (RQ (some (.int (bI (xAhead S r q))))) 0 0 (fun _ => False) := by
  refine metI (by decide +kernel) (Nat.le_of_ble_eq_true rfl) ?_
  intro p e s m below meth c C hb hml hret hlk hP ls hl
  have C : CW g RX0 p s m ([.ref (gA g 0), .int (nI r), .int (nI q)] : List Value).toArray := C
  have hS : va_S (Ab g) s.heap s.heap [] := va_S.rf
  have hl : lv_has ls 7 [(0, .ref (gA g 0)), (1, .int (nI r)), (2, .int (nI q))] := hl
  refine lv_aload_n C.1 hb dX0_isAhead_0 rfl (lv_at hl 0 rfl) ?_
  refine gX_losses C hb hP dX0_isAhead_1 ?_
  refine lv_iload_n C.1 hb dX0_isAhead_4 rfl (lv_at hl 1 rfl) ?_
  refine ldX_losses (j := r) C hb hP rfl (by omega) dX0_isAhead_5 ?_
  refine lv_lconst (v := 1) C.1 hb dX0_isAhead_6 (by decide) ?_
  refine lv_aload_n C.1 hb dX0_isAhead_7 rfl (lv_at hl 0 rfl) ?_
  refine gX_fittedLosses C hb hP dX0_isAhead_8 ?_
  refine lv_iload_n C.1 hb dX0_isAhead_11 rfl (lv_at hl 2 rfl) ?_
  refine ldX_fittedLosses (j := q) C hb hP rfl (by omega) dX0_isAhead_12 ?_
  refine lv_ladd C.1 hb dX0_isAhead_13 ?_
  refine lv_lmul C.1 hb dX0_isAhead_14 ?_
  refine lv_lstore_n (lv' := [(3, .long ((xLng S 2 r) * (1 + (xLng S 3 q)))), (0, .ref (gA g 0)), (1, .int (nI r)), (2, .int (nI q))]) C.1 hb dX0_isAhead_15 rfl hl (by decide) rfl (fun ls hl => ?_)
  refine lv_aload_n C.1 hb dX0_isAhead_16 rfl (lv_at hl 1 rfl) ?_
  refine gX_losses C hb hP dX0_isAhead_17 ?_
  refine lv_iload_n C.1 hb dX0_isAhead_20 rfl (lv_at hl 3 rfl) ?_
  refine ldX_losses (j := q) C hb hP rfl (by omega) dX0_isAhead_21 ?_
  refine lv_lconst (v := 1) C.1 hb dX0_isAhead_22 (by decide) ?_
  refine lv_aload_n C.1 hb dX0_isAhead_23 rfl (lv_at hl 1 rfl) ?_
  refine gX_fittedLosses C hb hP dX0_isAhead_24 ?_
  refine lv_iload_n C.1 hb dX0_isAhead_27 rfl (lv_at hl 2 rfl) ?_
  refine ldX_fittedLosses (j := r) C hb hP rfl (by omega) dX0_isAhead_28 ?_
  refine lv_ladd C.1 hb dX0_isAhead_29 ?_
  refine lv_lmul C.1 hb dX0_isAhead_30 ?_
  refine lv_lstore (lv' := [(5, .long ((xLng S 2 q) * (1 + (xLng S 3 r)))), (3, .long ((xLng S 2 r) * (1 + (xLng S 3 q)))), (0, .ref (gA g 0)), (1, .int (nI r)), (2, .int (nI q))]) C.1 hb dX0_isAhead_31 hl (by decide) rfl (fun ls hl => ?_)
  refine lv_lload_n C.1 hb dX0_isAhead_33 rfl (lv_at hl 1 rfl) ?_
  refine lv_lload C.1 hb dX0_isAhead_34 (lv_at hl 0 rfl) ?_
  refine lc_gt (tgt := 52) C hb dX0_isAhead_36 dX0_isAhead_37 (by decide) (fun c16 => ?_) (fun c16 => ?_)
  · refine lv_iconst (v := 1) C.1 hb dX0_isAhead_52 (by decide) ?_
    refine lv_goto (tgt := 57) C.1 hb dX0_isAhead_53 (by decide) ?_
    exact rdZ C hb hret hlk dX0_isAhead_57 (by simp [xAhead, bI, c16])
  · refine lv_lload_n C.1 hb dX0_isAhead_40 rfl (lv_at hl 1 rfl) ?_
    refine lv_lload C.1 hb dX0_isAhead_41 (lv_at hl 0 rfl) ?_
    refine lc_ne (tgt := 56) C hb dX0_isAhead_43 dX0_isAhead_44 (by decide) (fun c17 => ?_) (fun c17 => ?_)
    · refine lv_iconst (v := 0) C.1 hb dX0_isAhead_56 (by decide) ?_
      exact rdZ C hb hret hlk dX0_isAhead_57 (by simp [xAhead, bI, c16, c17])
    · refine lv_iload_n C.1 hb dX0_isAhead_47 rfl (lv_at hl 3 rfl) ?_
      refine lv_iload_n C.1 hb dX0_isAhead_48 rfl (lv_at hl 4 rfl) ?_
      refine lv_icmp_ge (tgt := 56) C.1 hb dX0_isAhead_49 (by decide) (fun c18 => ?_) (fun c18 => ?_)
      · refine lv_iconst (v := 0) C.1 hb dX0_isAhead_56 (by decide) ?_
        exact rdZ C hb hret hlk dX0_isAhead_57 (by simp [xAhead, bI, c16, c17, c18])
      · refine lv_iconst (v := 1) C.1 hb dX0_isAhead_52 (by decide) ?_
        refine lv_goto (tgt := 57) C.1 hb dX0_isAhead_53 (by decide) ?_
        exact rdZ C hb hret hlk dX0_isAhead_57 (by simp [xAhead, bI, c16, c17, c18])

set_option maxRecDepth 100000 in
set_option maxHeartbeats 4000000 in
theorem k_X0_placeOf (l : Launch) (g : gG) (S : WS) (n : Nat) (hI : XI n S) (r : Nat) (hr : r < 40) : Met l yX0_placeOf (wA yX0_placeOf cX0_placeOf 4 (some .int)) ({ frames := 1, cells := 0, slots := 0, locals := 40 }) (PW g S [.ref (gA g 0), .int (nI r)]) (RQ (some (.int (nI (xPlace S r n))))) 0 0 (fun _ => False) := by
  refine metI (by decide +kernel) (Nat.le_of_ble_eq_true rfl) ?_
  intro p e s m below meth c C hb hml hret hlk hP ls hl
  have C : CW g RX0 p s m ([.ref (gA g 0), .int (nI r)] : List Value).toArray := C
  have hS : va_S (Ab g) s.heap s.heap [] := va_S.rf
  have hl : lv_has ls 4 [(0, .ref (gA g 0)), (1, .int (nI r))] := hl
  refine lv_iconst (v := 0) C.1 hb dX0_placeOf_0 (by decide) ?_
  refine lv_istore_n (lv' := [(2, .int 0), (0, .ref (gA g 0)), (1, .int (nI r))]) C.1 hb dX0_placeOf_1 rfl hl (by decide) rfl (fun ls hl => ?_)
  refine lv_iconst (v := 0) C.1 hb dX0_placeOf_2 (by decide) ?_
  refine lv_istore_n (lv' := [(3, .int 0), (2, .int 0), (0, .ref (gA g 0)), (1, .int (nI r))]) C.1 hb dX0_placeOf_3 rfl hl (by decide) rfl (fun ls hl => ?_)
  have key : ∀ f i : Nat, n - i < f → i ≤ n → ∀ ls : Array Slot, lv_has ls 4 [(0, .ref (gA g 0)), (1, .int (nI r)), (2, .int (nI (xCnt (xPlP S r) i))), (3, .int (nI i))] → W p l e ({ frames := 1, cells := 0, slots := 0, locals := 40 }) s m ([.ref (gA g 0), .int (nI r)] : List Value).toArray below meth c s.heap [] 0 0 (MQ below (RQ (some (.int (nI (xPlace S r n))))) ([.ref (gA g 0), .int (nI r)] : List Value).toArray s 0 0 (fun _ => False)) (F0 m 4 ls []) := by
    intro f
    induction f with
    | zero => intro i h; exact absurd h (Nat.not_lt_zero _)
    | succ f ih =>
      intro i hfi hi  ls hl
      refine lv_iload_n C.1 hb dX0_placeOf_4 rfl (lv_at hl 3 rfl) ?_
      refine lv_aload_n C.1 hb dX0_placeOf_5 rfl (lv_at hl 0 rfl) ?_
      refine gX_addedRows C hb hP dX0_placeOf_6 ?_
      refine lv_icmp_ge (tgt := 39) C.1 hb dX0_placeOf_9 (by decide) (fun c19 => ?_) (fun c19 => ?_)
      · have hin : i = n := by have := le_nI (a := n) (b := i) (by have := hI.1; omega) (by have := hI.1; omega) (by rw [← hI.2.1]; exact c19); omega
        rw [hin] at hl
        refine lv_iload_n C.1 hb dX0_placeOf_39 rfl (lv_at hl 2 rfl) ?_
        exact rdI C hb hret hlk dX0_placeOf_40 rfl
      · have hlt : i < n := nle_nI (a := n) (b := i) (by have := hI.1; omega) (by have := hI.1; omega) (by rw [← hI.2.1]; exact c19)
        have hn40 := hI.1
        refine lv_aload_n C.1 hb dX0_placeOf_12 rfl (lv_at hl 0 rfl) ?_
        refine gX_live C hb hP dX0_placeOf_13 ?_
        refine lv_iload_n C.1 hb dX0_placeOf_16 rfl (lv_at hl 3 rfl) ?_
        refine ldX_live (j := i) C hb hP rfl (by omega) dX0_placeOf_17 ?_
        refine lv_if_eq (tgt := 33) C.1 hb dX0_placeOf_18 (by decide) (fun c20 => ?_) (fun c20 => ?_)
        · refine lv_iinc (v := nI (i + 1)) (lv' := [(3, .int (nI (i + 1))), (0, .ref (gA g 0)), (1, .int (nI r)), (2, .int (nI (xCnt (xPlP S r) i)))]) C.1 hb dX0_placeOf_33 hl (k := 3) rfl (nI_1 i) (by decide) rfl (fun ls hl => ?_)
          refine lv_goto (tgt := 4) C.1 hb dX0_placeOf_36 (by decide) ?_
          exact ih (i + 1) (by omega) (by omega)  ls (by rw [xCnt_f (by simp [xPlP, c20])]; exact lv_sub hl [1, 2, 3, 0] rfl)
        · refine lv_aload_n C.1 hb dX0_placeOf_21 rfl (lv_at hl 0 rfl) ?_
          refine lv_iload_n C.1 hb dX0_placeOf_22 rfl (lv_at hl 3 rfl) ?_
          refine lv_iload_n C.1 hb dX0_placeOf_23 rfl (lv_at hl 1 rfl) ?_
          refine run_rd (cRunX (As := [.int (nI i), .int (nI r)]) (rest := []) C hb (hml.trans hl.1.symm) hP hS rfl (k_X0_isAhead l g S i r (by omega) hr) wm_457 wm_458 wm_459 wm_460 wm_2 (n := 2) (by decide +kernel) rfl ⟨rfl, rfl, Nat.le_of_ble_eq_true rfl, Nat.le_of_ble_eq_true rfl⟩ (Nat.le_of_ble_eq_true rfl) rfl ⟨Nat.zero_le _, Nat.zero_le _⟩ dX0_placeOf_24) ?_
          refine bz_eq (tgt := 33) C hb dX0_placeOf_27 (by decide) (fun c21 => ?_) (fun c21 => ?_)
          · refine lv_iinc (v := nI (i + 1)) (lv' := [(3, .int (nI (i + 1))), (0, .ref (gA g 0)), (1, .int (nI r)), (2, .int (nI (xCnt (xPlP S r) i)))]) C.1 hb dX0_placeOf_33 hl (k := 3) rfl (nI_1 i) (by decide) rfl (fun ls hl => ?_)
            refine lv_goto (tgt := 4) C.1 hb dX0_placeOf_36 (by decide) ?_
            exact ih (i + 1) (by omega) (by omega)  ls (by rw [xCnt_f (by simp [xPlP, c20, c21])]; exact lv_sub hl [1, 2, 3, 0] rfl)
          · refine lv_iinc (v := nI ((xCnt (xPlP S r) i) + 1)) (lv' := [(2, .int (nI ((xCnt (xPlP S r) i) + 1))), (0, .ref (gA g 0)), (1, .int (nI r)), (3, .int (nI i))]) C.1 hb dX0_placeOf_30 hl (k := 2) rfl (nI_1 (xCnt (xPlP S r) i)) (by decide) rfl (fun ls hl => ?_)
            refine lv_iinc (v := nI (i + 1)) (lv' := [(3, .int (nI (i + 1))), (2, .int (nI ((xCnt (xPlP S r) i) + 1))), (0, .ref (gA g 0)), (1, .int (nI r))]) C.1 hb dX0_placeOf_33 hl (k := 3) rfl (nI_1 i) (by decide) rfl (fun ls hl => ?_)
            refine lv_goto (tgt := 4) C.1 hb dX0_placeOf_36 (by decide) ?_
            exact ih (i + 1) (by omega) (by omega)  ls (by rw [xCnt_t (by simp [xPlP, c20, c21])]; exact lv_sub hl [2, 3, 1, 0] rfl)
  exact key (n - 0 + 1) 0 (by omega) (by omega)  ls (lv_sub hl [2, 3, 1, 0] rfl)

set_option maxRecDepth 100000 in
set_option maxHeartbeats 4000000 in
theorem k_X0_newPremium (l : Launch) (g : gG) (S : WS) (r : Nat) (hr : r < 40) : Met l yX0_newPremium (wA yX0_newPremium cX0_newPremium 2 (some .long)) ({ frames := 0, cells := 0, slots := 0, locals := 0 }) (PW g S [.ref (gA g 0), .int (nI r)]) (RQ (some (.long (xNewP S r)))) 0 0 (fun _ => False) := by
  refine metI (by decide +kernel) (Nat.le_of_ble_eq_true rfl) ?_
  intro p e s m below meth c C hb hml hret hlk hP ls hl
  have C : CW g RX0 p s m ([.ref (gA g 0), .int (nI r)] : List Value).toArray := C
  have hS : va_S (Ab g) s.heap s.heap [] := va_S.rf
  have hl : lv_has ls 2 [(0, .ref (gA g 0)), (1, .int (nI r))] := hl
  refine lv_aload_n C.1 hb dX0_newPremium_0 rfl (lv_at hl 0 rfl) ?_
  refine gX_fittedLosses C hb hP dX0_newPremium_1 ?_
  refine lv_iload_n C.1 hb dX0_newPremium_4 rfl (lv_at hl 1 rfl) ?_
  refine ldX_fittedLosses (j := r) C hb hP rfl (by omega) dX0_newPremium_5 ?_
  refine lv_aload_n C.1 hb dX0_newPremium_6 rfl (lv_at hl 0 rfl) ?_
  refine gX_spreadNow C hb hP dX0_newPremium_7 ?_
  refine lv_i2l C.1 hb dX0_newPremium_10 rfl ?_
  refine lv_lmul C.1 hb dX0_newPremium_11 ?_
  refine lv_ldc2 (v := 10000) C.1 hb C.2.1 (C.2.2.1 _ wm_81) dX0_newPremium_12 ?_
  refine lv_ldiv C.1 hb dX0_newPremium_15 (by decide) ?_
  exact rdL C hb hret hlk dX0_newPremium_16 rfl

set_option maxRecDepth 100000 in
set_option maxHeartbeats 4000000 in
theorem k_X0_cappedPremium (l : Launch) (g : gG) (S : WS) (r : Nat) (hr : r < 40) : Met l yX0_cappedPremium (wA yX0_cappedPremium cX0_cappedPremium 8 (some .long)) ({ frames := 2, cells := 0, slots := 0, locals := 80 }) (PW g S [.ref (gA g 0), .int (nI r)]) (RQ (some (.long (xCapP S r)))) 0 0 (fun _ => False) := by
  refine metI (by decide +kernel) (Nat.le_of_ble_eq_true rfl) ?_
  intro p e s m below meth c C hb hml hret hlk hP ls hl
  have C : CW g RX0 p s m ([.ref (gA g 0), .int (nI r)] : List Value).toArray := C
  have hS : va_S (Ab g) s.heap s.heap [] := va_S.rf
  have hl : lv_has ls 8 [(0, .ref (gA g 0)), (1, .int (nI r))] := hl
  refine lv_aload_n C.1 hb dX0_cappedPremium_0 rfl (lv_at hl 0 rfl) ?_
  refine gX_cap C hb hP dX0_cappedPremium_1 ?_
  refine lv_iconst (v := (-1)) C.1 hb dX0_cappedPremium_4 (by decide) ?_
  refine lv_icmp_eq (tgt := 18) C.1 hb dX0_cappedPremium_5 (by decide) (fun c22 => ?_) (fun c22 => ?_)
  · refine lv_aload_n C.1 hb dX0_cappedPremium_18 rfl (lv_at hl 0 rfl) ?_
    refine lv_iload_n C.1 hb dX0_cappedPremium_19 rfl (lv_at hl 1 rfl) ?_
    refine run_rd (cRunX (As := [.int (nI r)]) (rest := []) C hb (hml.trans hl.1.symm) hP hS rfl (k_X0_newPremium l g S r hr) wm_317 wm_318 wm_319 wm_320 wm_2 (n := 1) (by decide +kernel) rfl ⟨rfl, rfl, Nat.le_of_ble_eq_true rfl, Nat.le_of_ble_eq_true rfl⟩ (Nat.le_of_ble_eq_true rfl) rfl ⟨Nat.zero_le _, Nat.zero_le _⟩ dX0_cappedPremium_20) ?_
    exact rdL C hb hret hlk dX0_cappedPremium_23 (by simp [xCapP, c22])
  · refine lv_aload_n C.1 hb dX0_cappedPremium_8 rfl (lv_at hl 0 rfl) ?_
    refine gX_oldPremiums C hb hP dX0_cappedPremium_9 ?_
    refine lv_iload_n C.1 hb dX0_cappedPremium_12 rfl (lv_at hl 1 rfl) ?_
    refine ldX_oldPremiums (j := r) C hb hP rfl (by omega) dX0_cappedPremium_13 ?_
    refine lv_iconst (v := (-1)) C.1 hb dX0_cappedPremium_14 (by decide) ?_
    refine lv_icmp_ne (tgt := 24) C.1 hb dX0_cappedPremium_15 (by decide) (fun c23 => ?_) (fun c23 => ?_)
    · refine lv_aload_n C.1 hb dX0_cappedPremium_24 rfl (lv_at hl 0 rfl) ?_
      refine gX_oldPremiums C hb hP dX0_cappedPremium_25 ?_
      refine lv_iload_n C.1 hb dX0_cappedPremium_28 rfl (lv_at hl 1 rfl) ?_
      refine ldX_oldPremiums (j := r) C hb hP rfl (by omega) dX0_cappedPremium_29 ?_
      refine lv_i2l C.1 hb dX0_cappedPremium_30 rfl ?_
      refine lv_lstore_n (lv' := [(2, .long (xIa S 0 r).toInt64), (0, .ref (gA g 0)), (1, .int (nI r))]) C.1 hb dX0_cappedPremium_31 rfl hl (by decide) rfl (fun ls hl => ?_)
      refine lv_lload_n C.1 hb dX0_cappedPremium_32 rfl (lv_at hl 0 rfl) ?_
      refine lv_bipush (v := 100) C.1 hb dX0_cappedPremium_33 (by decide) ?_
      refine lv_aload_n C.1 hb dX0_cappedPremium_35 rfl (lv_at hl 1 rfl) ?_
      refine gX_cap C hb hP dX0_cappedPremium_36 ?_
      refine lv_isub C.1 hb dX0_cappedPremium_39 ?_
      refine lv_iconst (v := 0) C.1 hb dX0_cappedPremium_40 (by decide) ?_
      refine va_mmax C.1 hb (hml.trans hl.1.symm) C.2.1 (C.2.2.1 _ wm_281) (C.2.2.1 _ wm_282) (C.2.2.1 _ wm_207) (C.2.2.1 _ wm_283) (Nat.le_of_ble_eq_true rfl) (Nat.le_of_ble_eq_true rfl) (Nat.zero_le _) (Nat.zero_le _) dX0_cappedPremium_41 ?_
      refine lv_i2l C.1 hb dX0_cappedPremium_44 rfl ?_
      refine lv_lmul C.1 hb dX0_cappedPremium_45 ?_
      refine lv_ldc2 (v := 100) C.1 hb C.2.1 (C.2.2.1 _ wm_196) dX0_cappedPremium_46 ?_
      refine lv_ldiv C.1 hb dX0_cappedPremium_49 (by decide) ?_
      refine lv_lstore (lv' := [(4, .long (((xIa S 0 r).toInt64 * (mxI (100 - (xSc S 3)) 0).toInt64) / 100)), (2, .long (xIa S 0 r).toInt64), (0, .ref (gA g 0)), (1, .int (nI r))]) C.1 hb dX0_cappedPremium_50 hl (by decide) rfl (fun ls hl => ?_)
      refine lv_lload_n C.1 hb dX0_cappedPremium_52 rfl (lv_at hl 1 rfl) ?_
      refine lv_bipush (v := 100) C.1 hb dX0_cappedPremium_53 (by decide) ?_
      refine lv_aload_n C.1 hb dX0_cappedPremium_55 rfl (lv_at hl 2 rfl) ?_
      refine gX_cap C hb hP dX0_cappedPremium_56 ?_
      refine lv_iadd C.1 hb dX0_cappedPremium_59 ?_
      refine lv_i2l C.1 hb dX0_cappedPremium_60 rfl ?_
      refine lv_lmul C.1 hb dX0_cappedPremium_61 ?_
      refine lv_ldc2 (v := 100) C.1 hb C.2.1 (C.2.2.1 _ wm_196) dX0_cappedPremium_62 ?_
      refine lv_ldiv C.1 hb dX0_cappedPremium_65 (by decide) ?_
      refine lv_lstore (lv' := [(6, .long (((xIa S 0 r).toInt64 * (100 + (xSc S 3)).toInt64) / 100)), (4, .long (((xIa S 0 r).toInt64 * (mxI (100 - (xSc S 3)) 0).toInt64) / 100)), (2, .long (xIa S 0 r).toInt64), (0, .ref (gA g 0)), (1, .int (nI r))]) C.1 hb dX0_cappedPremium_66 hl (by decide) rfl (fun ls hl => ?_)
      refine lv_aload_n C.1 hb dX0_cappedPremium_68 rfl (lv_at hl 3 rfl) ?_
      refine lv_iload_n C.1 hb dX0_cappedPremium_69 rfl (lv_at hl 4 rfl) ?_
      refine run_rd (cRunX (As := [.int (nI r)]) (rest := []) C hb (hml.trans hl.1.symm) hP hS rfl (k_X0_newPremium l g S r hr) wm_317 wm_318 wm_319 wm_320 wm_2 (n := 1) (by decide +kernel) rfl ⟨rfl, rfl, Nat.le_of_ble_eq_true rfl, Nat.le_of_ble_eq_true rfl⟩ (Nat.le_of_ble_eq_true rfl) rfl ⟨Nat.zero_le _, Nat.zero_le _⟩ dX0_cappedPremium_70) ?_
      refine lv_lload C.1 hb dX0_cappedPremium_73 (lv_at hl 1 rfl) ?_
      refine lv_lload C.1 hb dX0_cappedPremium_75 (lv_at hl 0 rfl) ?_
      refine run_rd (cRunS (As := [.long (xNewP S r), .long (((xIa S 0 r).toInt64 * (mxI (100 - (xSc S 3)) 0).toInt64) / 100), .long (((xIa S 0 r).toInt64 * (100 + (xSc S 3)).toInt64) / 100)]) (rest := []) C hb (hml.trans hl.1.symm) hP hS (k_X0_bounded l g S (xNewP S r) (((xIa S 0 r).toInt64 * (mxI (100 - (xSc S 3)) 0).toInt64) / 100) (((xIa S 0 r).toInt64 * (100 + (xSc S 3)).toInt64) / 100)) wm_202 wm_203 wm_204 wm_2 (n := 3) (by decide +kernel) rfl ⟨rfl, rfl, Nat.le_of_ble_eq_true rfl, Nat.le_of_ble_eq_true rfl⟩ (Nat.le_of_ble_eq_true rfl) rfl ⟨Nat.zero_le _, Nat.zero_le _⟩ dX0_cappedPremium_77) ?_
      exact rdL C hb hret hlk dX0_cappedPremium_80 (by unfold xCapP; rw [if_neg c22, if_neg c23])
    · refine lv_aload_n C.1 hb dX0_cappedPremium_18 rfl (lv_at hl 0 rfl) ?_
      refine lv_iload_n C.1 hb dX0_cappedPremium_19 rfl (lv_at hl 1 rfl) ?_
      refine run_rd (cRunX (As := [.int (nI r)]) (rest := []) C hb (hml.trans hl.1.symm) hP hS rfl (k_X0_newPremium l g S r hr) wm_317 wm_318 wm_319 wm_320 wm_2 (n := 1) (by decide +kernel) rfl ⟨rfl, rfl, Nat.le_of_ble_eq_true rfl, Nat.le_of_ble_eq_true rfl⟩ (Nat.le_of_ble_eq_true rfl) rfl ⟨Nat.zero_le _, Nat.zero_le _⟩ dX0_cappedPremium_20) ?_
      exact rdL C hb hret hlk dX0_cappedPremium_23 (by simp [xCapP, c23])

set_option maxRecDepth 100000 in
set_option maxHeartbeats 4000000 in
theorem k_X0_cappedTotal (l : Launch) (g : gG) (S : WS) (n : Nat) (hI : XI n S) : Met l yX0_cappedTotal (wA yX0_cappedTotal cX0_cappedTotal 4 (some .long)) ({ frames := 3, cells := 0, slots := 0, locals := 120 }) (PW g S [.ref (gA g 0)]) (RQ (some (.long (xTot (xIa S 1) (xCapP S) n)))) 0 0 (fun _ => False) := by
  refine metI (by decide +kernel) (Nat.le_of_ble_eq_true rfl) ?_
  intro p e s m below meth c C hb hml hret hlk hP ls hl
  have C : CW g RX0 p s m ([.ref (gA g 0)] : List Value).toArray := C
  have hS : va_S (Ab g) s.heap s.heap [] := va_S.rf
  have hl : lv_has ls 4 [(0, .ref (gA g 0))] := hl
  refine lv_lconst (v := 0) C.1 hb dX0_cappedTotal_0 (by decide) ?_
  refine lv_lstore_n (lv' := [(1, .long 0), (0, .ref (gA g 0))]) C.1 hb dX0_cappedTotal_1 rfl hl (by decide) rfl (fun ls hl => ?_)
  refine lv_iconst (v := 0) C.1 hb dX0_cappedTotal_2 (by decide) ?_
  refine lv_istore_n (lv' := [(3, .int 0), (1, .long 0), (0, .ref (gA g 0))]) C.1 hb dX0_cappedTotal_3 rfl hl (by decide) rfl (fun ls hl => ?_)
  have key : ∀ f i : Nat, n - i < f → i ≤ n → ∀ ls : Array Slot, lv_has ls 4 [(0, .ref (gA g 0)), (1, .long (xTot (xIa S 1) (xCapP S) i)), (3, .int (nI i))] → W p l e ({ frames := 3, cells := 0, slots := 0, locals := 120 }) s m ([.ref (gA g 0)] : List Value).toArray below meth c s.heap [] 0 0 (MQ below (RQ (some (.long (xTot (xIa S 1) (xCapP S) n)))) ([.ref (gA g 0)] : List Value).toArray s 0 0 (fun _ => False)) (F0 m 4 ls []) := by
    intro f
    induction f with
    | zero => intro i h; exact absurd h (Nat.not_lt_zero _)
    | succ f ih =>
      intro i hfi hi  ls hl
      refine lv_iload_n C.1 hb dX0_cappedTotal_4 rfl (lv_at hl 2 rfl) ?_
      refine lv_aload_n C.1 hb dX0_cappedTotal_5 rfl (lv_at hl 0 rfl) ?_
      refine gX_addedRows C hb hP dX0_cappedTotal_6 ?_
      refine lv_icmp_ge (tgt := 35) C.1 hb dX0_cappedTotal_9 (by decide) (fun c24 => ?_) (fun c24 => ?_)
      · have hin : i = n := by have := le_nI (a := n) (b := i) (by have := hI.1; omega) (by have := hI.1; omega) (by rw [← hI.2.1]; exact c24); omega
        rw [hin] at hl
        refine lv_lload_n C.1 hb dX0_cappedTotal_35 rfl (lv_at hl 1 rfl) ?_
        exact rdL C hb hret hlk dX0_cappedTotal_36 rfl
      · have hlt : i < n := nle_nI (a := n) (b := i) (by have := hI.1; omega) (by have := hI.1; omega) (by rw [← hI.2.1]; exact c24)
        have hn40 := hI.1
        refine lv_aload_n C.1 hb dX0_cappedTotal_12 rfl (lv_at hl 0 rfl) ?_
        refine gX_live C hb hP dX0_cappedTotal_13 ?_
        refine lv_iload_n C.1 hb dX0_cappedTotal_16 rfl (lv_at hl 2 rfl) ?_
        refine ldX_live (j := i) C hb hP rfl (by omega) dX0_cappedTotal_17 ?_
        refine lv_if_eq (tgt := 29) C.1 hb dX0_cappedTotal_18 (by decide) (fun c25 => ?_) (fun c25 => ?_)
        · refine lv_iinc (v := nI (i + 1)) (lv' := [(3, .int (nI (i + 1))), (0, .ref (gA g 0)), (1, .long (xTot (xIa S 1) (xCapP S) i))]) C.1 hb dX0_cappedTotal_29 hl (k := 2) rfl (nI_1 i) (by decide) rfl (fun ls hl => ?_)
          refine lv_goto (tgt := 4) C.1 hb dX0_cappedTotal_32 (by decide) ?_
          exact ih (i + 1) (by omega) (by omega)  ls (by rw [xTot_z c25]; exact lv_sub hl [1, 2, 0] rfl)
        · refine lv_lload_n C.1 hb dX0_cappedTotal_21 rfl (lv_at hl 1 rfl) ?_
          refine lv_aload_n C.1 hb dX0_cappedTotal_22 rfl (lv_at hl 0 rfl) ?_
          refine lv_iload_n C.1 hb dX0_cappedTotal_23 rfl (lv_at hl 2 rfl) ?_
          refine run_rd (cRunX (As := [.int (nI i)]) (rest := [.long (xTot (xIa S 1) (xCapP S) i)]) C hb (hml.trans hl.1.symm) hP hS rfl (k_X0_cappedPremium l g S i (by omega)) wm_313 wm_314 wm_315 wm_316 wm_2 (n := 1) (by decide +kernel) rfl ⟨rfl, rfl, Nat.le_of_ble_eq_true rfl, Nat.le_of_ble_eq_true rfl⟩ (Nat.le_of_ble_eq_true rfl) rfl ⟨Nat.zero_le _, Nat.zero_le _⟩ dX0_cappedTotal_24) ?_
          refine lv_ladd C.1 hb dX0_cappedTotal_27 ?_
          refine lv_lstore_n (lv' := [(1, .long ((xTot (xIa S 1) (xCapP S) i) + (xCapP S i))), (0, .ref (gA g 0)), (3, .int (nI i))]) C.1 hb dX0_cappedTotal_28 rfl hl (by decide) rfl (fun ls hl => ?_)
          refine lv_iinc (v := nI (i + 1)) (lv' := [(3, .int (nI (i + 1))), (1, .long ((xTot (xIa S 1) (xCapP S) i) + (xCapP S i))), (0, .ref (gA g 0))]) C.1 hb dX0_cappedTotal_29 hl (k := 2) rfl (nI_1 i) (by decide) rfl (fun ls hl => ?_)
          refine lv_goto (tgt := 4) C.1 hb dX0_cappedTotal_32 (by decide) ?_
          exact ih (i + 1) (by omega) (by omega)  ls (by rw [xTot_n c25]; exact lv_sub hl [2, 1, 0] rfl)
  exact key (n - 0 + 1) 0 (by omega) (by omega)  ls (lv_sub hl [2, 1, 0] rfl)

set_option maxRecDepth 100000 in
set_option maxHeartbeats 4000000 in
theorem k_X0_fittedLoss (l : Launch) (g : gG) (S : WS) (n : Nat) (hI : XI n S) (r : Nat) (hr : r < n) : Met l yX0_fittedLoss (wA yX0_fittedLoss cX0_fittedLoss 5 (some .long)) ({ frames := 0, cells := 0, slots := 0, locals := 0 }) (PW g S [.ref (gA g 0), .int (nI r)]) (RQ (some (.long (xFit S r)))) 0 0 (fun _ => False) := by
  refine metI (by decide +kernel) (Nat.le_of_ble_eq_true rfl) ?_
  intro p e s m below meth c C hb hml hret hlk hP ls hl
  have C : CW g RX0 p s m ([.ref (gA g 0), .int (nI r)] : List Value).toArray := C
  have hS : va_S (Ab g) s.heap s.heap [] := va_S.rf
  have hl : lv_has ls 5 [(0, .ref (gA g 0)), (1, .int (nI r))] := hl
  have hn40 := hI.1
  refine lv_aload_n C.1 hb dX0_fittedLoss_0 rfl (lv_at hl 0 rfl) ?_
  refine gX_exposures C hb hP dX0_fittedLoss_1 ?_
  refine lv_iload_n C.1 hb dX0_fittedLoss_4 rfl (lv_at hl 1 rfl) ?_
  refine ldX_exposures (j := r) C hb hP rfl (by omega) dX0_fittedLoss_5 ?_
  refine lv_aload_n C.1 hb dX0_fittedLoss_6 rfl (lv_at hl 0 rfl) ?_
  refine gX_baseNow C hb hP dX0_fittedLoss_7 ?_
  refine lv_lmul C.1 hb dX0_fittedLoss_10 ?_
  refine lv_ldc2 (v := 10000) C.1 hb C.2.1 (C.2.2.1 _ wm_81) dX0_fittedLoss_11 ?_
  refine lv_ldiv C.1 hb dX0_fittedLoss_14 (by decide) ?_
  refine lv_lstore_n (lv' := [(2, .long (((xLng S 0 r) * (xBase S)) / 10000)), (0, .ref (gA g 0)), (1, .int (nI r))]) C.1 hb dX0_fittedLoss_15 rfl hl (by decide) rfl (fun ls hl => ?_)
  refine lv_iconst (v := 0) C.1 hb dX0_fittedLoss_16 (by decide) ?_
  refine lv_istore (lv' := [(4, .int 0), (2, .long (((xLng S 0 r) * (xBase S)) / 10000)), (0, .ref (gA g 0)), (1, .int (nI r))]) C.1 hb dX0_fittedLoss_17 hl (by decide) rfl (fun ls hl => ?_)
  have key : ∀ f i : Nat, 3 - i < f → i ≤ 3 → ∀ ls : Array Slot, lv_has ls 5 [(0, .ref (gA g 0)), (1, .int (nI r)), (2, .long (xFitN S r i)), (4, .int (nI i))] → W p l e ({ frames := 0, cells := 0, slots := 0, locals := 0 }) s m ([.ref (gA g 0), .int (nI r)] : List Value).toArray below meth c s.heap [] 0 0 (MQ below (RQ (some (.long (xFit S r)))) ([.ref (gA g 0), .int (nI r)] : List Value).toArray s 0 0 (fun _ => False)) (F0 m 19 ls []) := by
    intro f
    induction f with
    | zero => intro i h; exact absurd h (Nat.not_lt_zero _)
    | succ f ih =>
      intro i hfi hi  ls hl
      refine lv_iload C.1 hb dX0_fittedLoss_19 (lv_at hl 3 rfl) ?_
      refine lv_iconst (v := 3) C.1 hb dX0_fittedLoss_21 (by decide) ?_
      refine lv_icmp_ge (tgt := 56) C.1 hb dX0_fittedLoss_22 (by decide) (fun c26 => ?_) (fun c26 => ?_)
      · have hin : i = 3 := by have := le_nI (a := 3) (b := i) (by decide) (by omega) c26; omega
        rw [hin] at hl
        refine lv_lload_n C.1 hb dX0_fittedLoss_56 rfl (lv_at hl 2 rfl) ?_
        exact rdL C hb hret hlk dX0_fittedLoss_57 rfl
      · have hlt : i < 3 := nle_nI (a := 3) (b := i) (by decide) (by omega) c26
        have hn40 := hI.1
        have hlv := XI_lev hI hlt hr
        refine lv_lload_n C.1 hb dX0_fittedLoss_25 rfl (lv_at hl 2 rfl) ?_
        refine lv_aload_n C.1 hb dX0_fittedLoss_26 rfl (lv_at hl 0 rfl) ?_
        refine gX_factors C hb hP dX0_fittedLoss_27 ?_
        refine lv_iload C.1 hb dX0_fittedLoss_30 (lv_at hl 3 rfl) ?_
        refine al_fac (t := i) C hb hP rfl (by omega) dX0_fittedLoss_32 ?_
        refine lv_aload_n C.1 hb dX0_fittedLoss_33 rfl (lv_at hl 0 rfl) ?_
        refine gX_rowLevels C hb hP dX0_fittedLoss_34 ?_
        refine lv_iload C.1 hb dX0_fittedLoss_37 (lv_at hl 3 rfl) ?_
        refine al_lev (t := i) C hb hP rfl (by omega) dX0_fittedLoss_39 ?_
        refine lv_iload_n C.1 hb dX0_fittedLoss_40 rfl (lv_at hl 1 rfl) ?_
        refine ldX_lev (t := i) (j := r) C hb hP (by omega) rfl (by omega) dX0_fittedLoss_41 ?_
        refine ldX_fac (t := i) (j := (tN (xLev S i r))) C hb hP (by omega) hlv.1 hlv.2 dX0_fittedLoss_42 ?_
        refine lv_i2l C.1 hb dX0_fittedLoss_43 rfl ?_
        refine lv_lmul C.1 hb dX0_fittedLoss_44 ?_
        refine lv_ldc2 (v := 10000) C.1 hb C.2.1 (C.2.2.1 _ wm_81) dX0_fittedLoss_45 ?_
        refine lv_ldiv C.1 hb dX0_fittedLoss_48 (by decide) ?_
        refine lv_lstore_n (lv' := [(2, .long (((xFitN S r i) * (xFac S i (tN (xLev S i r))).toInt64) / 10000)), (0, .ref (gA g 0)), (1, .int (nI r)), (4, .int (nI i))]) C.1 hb dX0_fittedLoss_49 rfl hl (by decide) rfl (fun ls hl => ?_)
        refine lv_iinc (v := nI (i + 1)) (lv' := [(4, .int (nI (i + 1))), (2, .long (((xFitN S r i) * (xFac S i (tN (xLev S i r))).toInt64) / 10000)), (0, .ref (gA g 0)), (1, .int (nI r))]) C.1 hb dX0_fittedLoss_50 hl (k := 3) rfl (nI_1 i) (by decide) rfl (fun ls hl => ?_)
        refine lv_goto (tgt := 19) C.1 hb dX0_fittedLoss_53 (by decide) ?_
        exact ih (i + 1) (by omega) (by omega)  ls (by rw [show xFitN S r (i + 1) = xFitN S r i * (xFac S i (tN (xLev S i r))).toInt64 / 10000 from rfl]; exact lv_sub hl [2, 3, 1, 0] rfl)
  exact key (3 - 0 + 1) 0 (by omega) (by omega)  ls (lv_sub hl [2, 3, 1, 0] rfl)

set_option maxRecDepth 100000 in
set_option maxHeartbeats 4000000 in
theorem k_X0_refit (l : Launch) (g : gG) (S : WS) (n : Nat) (hI : XI n S) : Met l yX0_refit (wA yX0_refit cX0_refit 4 none) ({ frames := 1, cells := 0, slots := 0, locals := 40 }) (PW g S [.ref (gA g 0)]) (WQ g (xRefit S n) (none)) 0 0 (Ab g) := by
  refine metI (by decide +kernel) (Nat.le_of_ble_eq_true rfl) ?_
  intro p e s m below meth c C hb hml hret hlk hP ls hl
  have C : CW g RX0 p s m ([.ref (gA g 0)] : List Value).toArray := C
  have hS : va_S (Ab g) s.heap s.heap [] := va_S.rf
  have hl : lv_has ls 4 [(0, .ref (gA g 0))] := hl
  refine lv_aload_n C.1 hb dX0_refit_0 rfl (lv_at hl 0 rfl) ?_
  refine lv_aload_n C.1 hb dX0_refit_1 rfl (lv_at hl 0 rfl) ?_
  refine gX_exposures C hb hP dX0_refit_2 ?_
  refine run_rd (cRunX (As := [.ref (gA g 9)]) (rest := []) C hb (hml.trans hl.1.symm) hP hS rfl (k_X0_total l g S n hI 0 (by decide)) wm_82 wm_83 wm_84 wm_85 wm_2 (n := 1) (by decide +kernel) rfl ⟨rfl, rfl, Nat.le_of_ble_eq_true rfl, Nat.le_of_ble_eq_true rfl⟩ (Nat.le_of_ble_eq_true rfl) rfl ⟨Nat.zero_le _, Nat.zero_le _⟩ dX0_refit_5) ?_
  refine lv_lstore_n (lv' := [(1, .long (xTot (xIa S 1) (xLng S 0) n)), (0, .ref (gA g 0))]) C.1 hb dX0_refit_8 rfl hl (by decide) rfl (fun ls hl => ?_)
  refine lv_aload_n C.1 hb dX0_refit_9 rfl (lv_at hl 1 rfl) ?_
  refine lv_lload_n C.1 hb dX0_refit_10 rfl (lv_at hl 0 rfl) ?_
  refine lv_lconst (v := 0) C.1 hb dX0_refit_11 (by decide) ?_
  refine lc_le (tgt := 33) C hb dX0_refit_12 dX0_refit_13 (by decide) (fun c27 => ?_) (fun c27 => ?_)
  · refine lv_lconst (v := 0) C.1 hb dX0_refit_33 (by decide) ?_
    refine toL (show (0 : Int64) = xBase1 S n by unfold xBase1; rw [if_pos c27]) ?_
    refine pX_baseNow C hb hP hS dX0_refit_34 (fun H locs hP hS => ?_)
    refine lv_iconst (v := 0) C.1 hb dX0_refit_37 (by decide) ?_
    refine lv_istore_n (lv' := [(3, .int 0), (1, .long (xTot (xIa S 1) (xLng S 0) n)), (0, .ref (gA g 0))]) C.1 hb dX0_refit_38 rfl hl (by decide) rfl (fun ls hl => ?_)
    have key : ∀ f i : Nat, n - i < f → i ≤ n → ∀ (H : Heap) (locs : List Loc), HW g (xsLng (xsBase S (xBase1 S n)) 3 (fil (xFit (xsBase S (xBase1 S n))) (xLng S 3) i)) H → va_S (Ab g) s.heap H locs → ∀ ls : Array Slot, lv_has ls 4 [(0, .ref (gA g 0)), (3, .int (nI i))] → W p l e ({ frames := 1, cells := 0, slots := 0, locals := 40 }) s m ([.ref (gA g 0)] : List Value).toArray below meth c H locs 0 0 (MQ below (WQ g (xRefit S n) (none)) ([.ref (gA g 0)] : List Value).toArray s 0 0 (Ab g)) (F0 m 39 ls []) := by
      intro f
      induction f with
      | zero => intro i h; exact absurd h (Nat.not_lt_zero _)
      | succ f ih =>
        intro i hfi hi  H locs hP hS ls hl
        refine lv_iload_n C.1 hb dX0_refit_39 rfl (lv_at hl 1 rfl) ?_
        refine lv_aload_n C.1 hb dX0_refit_40 rfl (lv_at hl 0 rfl) ?_
        refine gX_addedRows C hb hP dX0_refit_41 ?_
        refine lv_icmp_ge (tgt := 64) C.1 hb dX0_refit_44 (by decide) (fun c28 => ?_) (fun c28 => ?_)
        · have hin : i = n := by have := le_nI (a := n) (b := i) (by have := hI.1; omega) (by have := hI.1; omega) (by rw [← hI.2.1]; exact c28); omega
          rw [hin] at hl hP
          exact wrV C hb hret hlk hP hS dX0_refit_64 rfl
        · have hlt : i < n := nle_nI (a := n) (b := i) (by have := hI.1; omega) (by have := hI.1; omega) (by rw [← hI.2.1]; exact c28)
          have hn40 := hI.1
          refine lv_aload_n C.1 hb dX0_refit_47 rfl (lv_at hl 0 rfl) ?_
          refine gX_fittedLosses C hb hP dX0_refit_48 ?_
          refine lv_iload_n C.1 hb dX0_refit_51 rfl (lv_at hl 1 rfl) ?_
          refine lv_aload_n C.1 hb dX0_refit_52 rfl (lv_at hl 0 rfl) ?_
          refine lv_iload_n C.1 hb dX0_refit_53 rfl (lv_at hl 1 rfl) ?_
          refine run_rd (cRunX (As := [.int (nI i)]) (rest := [.int (nI i), .ref (gA g 14)]) C hb (hml.trans hl.1.symm) hP hS rfl (k_X0_fittedLoss l g (xsLng (xsBase S (xBase1 S n)) 3 (fil (xFit (xsBase S (xBase1 S n))) (xLng S 3) i)) n (XI_lng3 _ (XI_base _ hI)) i hlt) wm_86 wm_87 wm_88 wm_89 wm_2 (n := 1) (by decide +kernel) rfl ⟨rfl, rfl, Nat.le_of_ble_eq_true rfl, Nat.le_of_ble_eq_true rfl⟩ (Nat.le_of_ble_eq_true rfl) rfl ⟨Nat.zero_le _, Nat.zero_le _⟩ dX0_refit_54) ?_
          refine toL (xFit_lng3 (xsBase S (xBase1 S n)) _ i) ?_
          refine stX_fittedLosses (j := i) C hb hP hS rfl (by omega) dX0_refit_57 (fun H locs hP hS => ?_)
          refine lv_iinc (v := nI (i + 1)) (lv' := [(3, .int (nI (i + 1))), (0, .ref (gA g 0))]) C.1 hb dX0_refit_58 hl (k := 1) rfl (nI_1 i) (by decide) rfl (fun ls hl => ?_)
          refine lv_goto (tgt := 39) C.1 hb dX0_refit_61 (by decide) ?_
          exact ih (i + 1) (by omega) (by omega)  _ _ (by rw [← refit_step (xsBase S (xBase1 S n))]; exact hP) hS ls (lv_sub hl [1, 0] rfl)
    exact key (n - 0 + 1) 0 (by omega) (by omega)  _ _ (by rw [refit_0]; exact hP) hS ls (lv_sub hl [2, 0] rfl)
  · refine lv_ldc2 (v := 10000) C.1 hb C.2.1 (C.2.2.1 _ wm_81) dX0_refit_16 ?_
    refine lv_aload_n C.1 hb dX0_refit_19 rfl (lv_at hl 1 rfl) ?_
    refine lv_aload_n C.1 hb dX0_refit_20 rfl (lv_at hl 1 rfl) ?_
    refine gX_losses C hb hP dX0_refit_21 ?_
    refine run_rd (cRunX (As := [.ref (gA g 11)]) (rest := [.long 10000, .ref (gA g 0)]) C hb (hml.trans hl.1.symm) hP hS rfl (k_X0_total l g S n hI 2 (by decide)) wm_82 wm_83 wm_84 wm_85 wm_2 (n := 1) (by decide +kernel) rfl ⟨rfl, rfl, Nat.le_of_ble_eq_true rfl, Nat.le_of_ble_eq_true rfl⟩ (Nat.le_of_ble_eq_true rfl) rfl ⟨Nat.zero_le _, Nat.zero_le _⟩ dX0_refit_24) ?_
    refine lv_lmul C.1 hb dX0_refit_27 ?_
    refine lv_lload_n C.1 hb dX0_refit_28 rfl (lv_at hl 0 rfl) ?_
    refine lv_ldiv C.1 hb dX0_refit_29 (ne0_nle c27) ?_
    refine lv_goto (tgt := 34) C.1 hb dX0_refit_30 (by decide) ?_
    refine toL (show _ = xBase1 S n by unfold xBase1; rw [if_neg c27]) ?_
    refine pX_baseNow C hb hP hS dX0_refit_34 (fun H locs hP hS => ?_)
    refine lv_iconst (v := 0) C.1 hb dX0_refit_37 (by decide) ?_
    refine lv_istore_n (lv' := [(3, .int 0), (1, .long (xTot (xIa S 1) (xLng S 0) n)), (0, .ref (gA g 0))]) C.1 hb dX0_refit_38 rfl hl (by decide) rfl (fun ls hl => ?_)
    have key : ∀ f i : Nat, n - i < f → i ≤ n → ∀ (H : Heap) (locs : List Loc), HW g (xsLng (xsBase S (xBase1 S n)) 3 (fil (xFit (xsBase S (xBase1 S n))) (xLng S 3) i)) H → va_S (Ab g) s.heap H locs → ∀ ls : Array Slot, lv_has ls 4 [(0, .ref (gA g 0)), (3, .int (nI i))] → W p l e ({ frames := 1, cells := 0, slots := 0, locals := 40 }) s m ([.ref (gA g 0)] : List Value).toArray below meth c H locs 0 0 (MQ below (WQ g (xRefit S n) (none)) ([.ref (gA g 0)] : List Value).toArray s 0 0 (Ab g)) (F0 m 39 ls []) := by
      intro f
      induction f with
      | zero => intro i h; exact absurd h (Nat.not_lt_zero _)
      | succ f ih =>
        intro i hfi hi  H locs hP hS ls hl
        refine lv_iload_n C.1 hb dX0_refit_39 rfl (lv_at hl 1 rfl) ?_
        refine lv_aload_n C.1 hb dX0_refit_40 rfl (lv_at hl 0 rfl) ?_
        refine gX_addedRows C hb hP dX0_refit_41 ?_
        refine lv_icmp_ge (tgt := 64) C.1 hb dX0_refit_44 (by decide) (fun c29 => ?_) (fun c29 => ?_)
        · have hin : i = n := by have := le_nI (a := n) (b := i) (by have := hI.1; omega) (by have := hI.1; omega) (by rw [← hI.2.1]; exact c29); omega
          rw [hin] at hl hP
          exact wrV C hb hret hlk hP hS dX0_refit_64 rfl
        · have hlt : i < n := nle_nI (a := n) (b := i) (by have := hI.1; omega) (by have := hI.1; omega) (by rw [← hI.2.1]; exact c29)
          have hn40 := hI.1
          refine lv_aload_n C.1 hb dX0_refit_47 rfl (lv_at hl 0 rfl) ?_
          refine gX_fittedLosses C hb hP dX0_refit_48 ?_
          refine lv_iload_n C.1 hb dX0_refit_51 rfl (lv_at hl 1 rfl) ?_
          refine lv_aload_n C.1 hb dX0_refit_52 rfl (lv_at hl 0 rfl) ?_
          refine lv_iload_n C.1 hb dX0_refit_53 rfl (lv_at hl 1 rfl) ?_
          refine run_rd (cRunX (As := [.int (nI i)]) (rest := [.int (nI i), .ref (gA g 14)]) C hb (hml.trans hl.1.symm) hP hS rfl (k_X0_fittedLoss l g (xsLng (xsBase S (xBase1 S n)) 3 (fil (xFit (xsBase S (xBase1 S n))) (xLng S 3) i)) n (XI_lng3 _ (XI_base _ hI)) i hlt) wm_86 wm_87 wm_88 wm_89 wm_2 (n := 1) (by decide +kernel) rfl ⟨rfl, rfl, Nat.le_of_ble_eq_true rfl, Nat.le_of_ble_eq_true rfl⟩ (Nat.le_of_ble_eq_true rfl) rfl ⟨Nat.zero_le _, Nat.zero_le _⟩ dX0_refit_54) ?_
          refine toL (xFit_lng3 (xsBase S (xBase1 S n)) _ i) ?_
          refine stX_fittedLosses (j := i) C hb hP hS rfl (by omega) dX0_refit_57 (fun H locs hP hS => ?_)
          refine lv_iinc (v := nI (i + 1)) (lv' := [(3, .int (nI (i + 1))), (0, .ref (gA g 0))]) C.1 hb dX0_refit_58 hl (k := 1) rfl (nI_1 i) (by decide) rfl (fun ls hl => ?_)
          refine lv_goto (tgt := 39) C.1 hb dX0_refit_61 (by decide) ?_
          exact ih (i + 1) (by omega) (by omega)  _ _ (by rw [← refit_step (xsBase S (xBase1 S n))]; exact hP) hS ls (lv_sub hl [1, 0] rfl)
    exact key (n - 0 + 1) 0 (by omega) (by omega)  _ _ (by rw [refit_0]; exact hP) hS ls (lv_sub hl [2, 0] rfl)

set_option maxRecDepth 100000 in
set_option maxHeartbeats 4000000 in
theorem k_X0_foundFactor (l : Launch) (g : gG) (S : WS) (n : Nat) (hI : XI n S) (t k : Nat) (ht : t < 3) (hk : k < 4) : Met l yX0_foundFactor (wA yX0_foundFactor cX0_foundFactor 12 (some .int)) ({ frames := 2, cells := 0, slots := 0, locals := 80 }) (PW g S [.ref (gA g 0), .int (nI t), .int (nI k)]) (RQ (some (.int (xFound S n t k)))) 0 0 (fun _ => False) := by
  refine metI (by decide +kernel) (Nat.le_of_ble_eq_true rfl) ?_
  intro p e s m below meth c C hb hml hret hlk hP ls hl
  have C : CW g RX0 p s m ([.ref (gA g 0), .int (nI t), .int (nI k)] : List Value).toArray := C
  have hS : va_S (Ab g) s.heap s.heap [] := va_S.rf
  have hl : lv_has ls 12 [(0, .ref (gA g 0)), (1, .int (nI t)), (2, .int (nI k))] := hl
  have hn40 := hI.1
  refine lv_aload_n C.1 hb dX0_foundFactor_0 rfl (lv_at hl 0 rfl) ?_
  refine gX_factors C hb hP dX0_foundFactor_1 ?_
  refine lv_iload_n C.1 hb dX0_foundFactor_4 rfl (lv_at hl 1 rfl) ?_
  refine al_fac (t := t) C hb hP rfl ht dX0_foundFactor_5 ?_
  refine lv_iload_n C.1 hb dX0_foundFactor_6 rfl (lv_at hl 2 rfl) ?_
  refine ldX_fac (t := t) (j := k) C hb hP ht rfl (by omega) dX0_foundFactor_7 ?_
  refine lv_istore_n (lv' := [(3, .int (xFac S t k)), (0, .ref (gA g 0)), (1, .int (nI t)), (2, .int (nI k))]) C.1 hb dX0_foundFactor_8 rfl hl (by decide) rfl (fun ls hl => ?_)
  refine lv_aload_n C.1 hb dX0_foundFactor_9 rfl (lv_at hl 1 rfl) ?_
  refine lv_aload_n C.1 hb dX0_foundFactor_10 rfl (lv_at hl 1 rfl) ?_
  refine gX_fittedLosses C hb hP dX0_foundFactor_11 ?_
  refine lv_iload_n C.1 hb dX0_foundFactor_14 rfl (lv_at hl 2 rfl) ?_
  refine lv_iload_n C.1 hb dX0_foundFactor_15 rfl (lv_at hl 3 rfl) ?_
  refine run_rd (cRunX (As := [.ref (gA g 14), .int (nI t), .int (nI k)]) (rest := []) C hb (hml.trans hl.1.symm) hP hS rfl (k_X0_levelTotal l g S n hI 3 (by decide) t ht (nI k)) wm_198 wm_199 wm_200 wm_201 wm_2 (n := 3) (by decide +kernel) rfl ⟨rfl, rfl, Nat.le_of_ble_eq_true rfl, Nat.le_of_ble_eq_true rfl⟩ (Nat.le_of_ble_eq_true rfl) rfl ⟨Nat.zero_le _, Nat.zero_le _⟩ dX0_foundFactor_16) ?_
  refine lv_lstore (lv' := [(4, .long (xLTot (xIa S 1) (xLev S t) (nI k) (xLng S 3) n)), (3, .int (xFac S t k)), (0, .ref (gA g 0)), (1, .int (nI t)), (2, .int (nI k))]) C.1 hb dX0_foundFactor_19 hl (by decide) rfl (fun ls hl => ?_)
  refine lv_aload_n C.1 hb dX0_foundFactor_21 rfl (lv_at hl 2 rfl) ?_
  refine lv_aload_n C.1 hb dX0_foundFactor_22 rfl (lv_at hl 2 rfl) ?_
  refine gX_claims C hb hP dX0_foundFactor_23 ?_
  refine lv_iload_n C.1 hb dX0_foundFactor_26 rfl (lv_at hl 3 rfl) ?_
  refine lv_iload_n C.1 hb dX0_foundFactor_27 rfl (lv_at hl 4 rfl) ?_
  refine run_rd (cRunX (As := [.ref (gA g 10), .int (nI t), .int (nI k)]) (rest := []) C hb (hml.trans hl.1.symm) hP hS rfl (k_X0_levelTotal l g S n hI 1 (by decide) t ht (nI k)) wm_198 wm_199 wm_200 wm_201 wm_2 (n := 3) (by decide +kernel) rfl ⟨rfl, rfl, Nat.le_of_ble_eq_true rfl, Nat.le_of_ble_eq_true rfl⟩ (Nat.le_of_ble_eq_true rfl) rfl ⟨Nat.zero_le _, Nat.zero_le _⟩ dX0_foundFactor_28) ?_
  refine lv_lstore (lv' := [(6, .long (xLTot (xIa S 1) (xLev S t) (nI k) (xLng S 1) n)), (4, .long (xLTot (xIa S 1) (xLev S t) (nI k) (xLng S 3) n)), (3, .int (xFac S t k)), (0, .ref (gA g 0)), (1, .int (nI t)), (2, .int (nI k))]) C.1 hb dX0_foundFactor_31 hl (by decide) rfl (fun ls hl => ?_)
  refine lv_lload C.1 hb dX0_foundFactor_33 (lv_at hl 1 rfl) ?_
  refine lv_lconst (v := 0) C.1 hb dX0_foundFactor_35 (by decide) ?_
  refine lc_le (tgt := 47) C hb dX0_foundFactor_36 dX0_foundFactor_37 (by decide) (fun c30 => ?_) (fun c30 => ?_)
  · refine lv_iload_n C.1 hb dX0_foundFactor_47 rfl (lv_at hl 2 rfl) ?_
    exact rdI C hb hret hlk dX0_foundFactor_48 (by unfold xFound; rw [if_pos c30])
  · refine lv_lload C.1 hb dX0_foundFactor_40 (lv_at hl 0 rfl) ?_
    refine lv_lconst (v := 0) C.1 hb dX0_foundFactor_42 (by decide) ?_
    refine lc_gt (tgt := 49) C hb dX0_foundFactor_43 dX0_foundFactor_44 (by decide) (fun c31 => ?_) (fun c31 => ?_)
    · refine lv_iload_n C.1 hb dX0_foundFactor_49 rfl (lv_at hl 2 rfl) ?_
      refine lv_i2l C.1 hb dX0_foundFactor_50 rfl ?_
      refine lv_aload_n C.1 hb dX0_foundFactor_51 rfl (lv_at hl 3 rfl) ?_
      refine lv_aload_n C.1 hb dX0_foundFactor_52 rfl (lv_at hl 3 rfl) ?_
      refine gX_losses C hb hP dX0_foundFactor_53 ?_
      refine lv_iload_n C.1 hb dX0_foundFactor_56 rfl (lv_at hl 4 rfl) ?_
      refine lv_iload_n C.1 hb dX0_foundFactor_57 rfl (lv_at hl 5 rfl) ?_
      refine run_rd (cRunX (As := [.ref (gA g 11), .int (nI t), .int (nI k)]) (rest := [.long (xFac S t k).toInt64]) C hb (hml.trans hl.1.symm) hP hS rfl (k_X0_levelTotal l g S n hI 2 (by decide) t ht (nI k)) wm_198 wm_199 wm_200 wm_201 wm_2 (n := 3) (by decide +kernel) rfl ⟨rfl, rfl, Nat.le_of_ble_eq_true rfl, Nat.le_of_ble_eq_true rfl⟩ (Nat.le_of_ble_eq_true rfl) rfl ⟨Nat.zero_le _, Nat.zero_le _⟩ dX0_foundFactor_58) ?_
      refine lv_lmul C.1 hb dX0_foundFactor_61 ?_
      refine lv_lload C.1 hb dX0_foundFactor_62 (lv_at hl 1 rfl) ?_
      refine lv_ldiv C.1 hb dX0_foundFactor_64 (ne0_nle c30) ?_
      refine lv_lstore (lv' := [(8, .long (((xFac S t k).toInt64 * (xLTot (xIa S 1) (xLev S t) (nI k) (xLng S 2) n)) / (xLTot (xIa S 1) (xLev S t) (nI k) (xLng S 3) n))), (6, .long (xLTot (xIa S 1) (xLev S t) (nI k) (xLng S 1) n)), (4, .long (xLTot (xIa S 1) (xLev S t) (nI k) (xLng S 3) n)), (3, .int (xFac S t k)), (0, .ref (gA g 0)), (1, .int (nI t)), (2, .int (nI k))]) C.1 hb dX0_foundFactor_65 hl (by decide) rfl (fun ls hl => ?_)
      refine lv_lload C.1 hb dX0_foundFactor_67 (lv_at hl 0 rfl) ?_
      refine lv_iload_n C.1 hb dX0_foundFactor_69 rfl (lv_at hl 3 rfl) ?_
      refine lv_i2l C.1 hb dX0_foundFactor_70 rfl ?_
      refine lv_lsub C.1 hb dX0_foundFactor_71 ?_
      refine lv_lload C.1 hb dX0_foundFactor_72 (lv_at hl 1 rfl) ?_
      refine lv_lmul C.1 hb dX0_foundFactor_74 ?_
      refine lv_lload C.1 hb dX0_foundFactor_75 (lv_at hl 1 rfl) ?_
      refine lv_aload_n C.1 hb dX0_foundFactor_77 rfl (lv_at hl 4 rfl) ?_
      refine gX_credibility C hb hP dX0_foundFactor_78 ?_
      refine lv_i2l C.1 hb dX0_foundFactor_81 rfl ?_
      refine lv_ladd C.1 hb dX0_foundFactor_82 ?_
      refine lv_ldiv C.1 hb dX0_foundFactor_83 (xFound_div hI c31) ?_
      refine lv_lstore (lv' := [(10, .long ((((((xFac S t k).toInt64 * (xLTot (xIa S 1) (xLev S t) (nI k) (xLng S 2) n)) / (xLTot (xIa S 1) (xLev S t) (nI k) (xLng S 3) n)) - (xFac S t k).toInt64) * (xLTot (xIa S 1) (xLev S t) (nI k) (xLng S 1) n)) / ((xLTot (xIa S 1) (xLev S t) (nI k) (xLng S 1) n) + (xSc S 2).toInt64))), (8, .long (((xFac S t k).toInt64 * (xLTot (xIa S 1) (xLev S t) (nI k) (xLng S 2) n)) / (xLTot (xIa S 1) (xLev S t) (nI k) (xLng S 3) n))), (6, .long (xLTot (xIa S 1) (xLev S t) (nI k) (xLng S 1) n)), (4, .long (xLTot (xIa S 1) (xLev S t) (nI k) (xLng S 3) n)), (3, .int (xFac S t k)), (0, .ref (gA g 0)), (1, .int (nI t)), (2, .int (nI k))]) C.1 hb dX0_foundFactor_84 hl (by decide) rfl (fun ls hl => ?_)
      refine lv_iload_n C.1 hb dX0_foundFactor_86 rfl (lv_at hl 4 rfl) ?_
      refine lv_i2l C.1 hb dX0_foundFactor_87 rfl ?_
      refine lv_lload C.1 hb dX0_foundFactor_88 (lv_at hl 0 rfl) ?_
      refine lv_ladd C.1 hb dX0_foundFactor_90 ?_
      refine lv_ldc2 (v := 100) C.1 hb C.2.1 (C.2.2.1 _ wm_196) dX0_foundFactor_91 ?_
      refine lv_ldc2 (v := 100000) C.1 hb C.2.1 (C.2.2.1 _ wm_197) dX0_foundFactor_94 ?_
      refine run_rd (cRunS (As := [.long ((xFac S t k).toInt64 + ((((((xFac S t k).toInt64 * (xLTot (xIa S 1) (xLev S t) (nI k) (xLng S 2) n)) / (xLTot (xIa S 1) (xLev S t) (nI k) (xLng S 3) n)) - (xFac S t k).toInt64) * (xLTot (xIa S 1) (xLev S t) (nI k) (xLng S 1) n)) / ((xLTot (xIa S 1) (xLev S t) (nI k) (xLng S 1) n) + (xSc S 2).toInt64))), .long 100, .long 100000]) (rest := []) C hb (hml.trans hl.1.symm) hP hS (k_X0_bounded l g S ((xFac S t k).toInt64 + ((((((xFac S t k).toInt64 * (xLTot (xIa S 1) (xLev S t) (nI k) (xLng S 2) n)) / (xLTot (xIa S 1) (xLev S t) (nI k) (xLng S 3) n)) - (xFac S t k).toInt64) * (xLTot (xIa S 1) (xLev S t) (nI k) (xLng S 1) n)) / ((xLTot (xIa S 1) (xLev S t) (nI k) (xLng S 1) n) + (xSc S 2).toInt64))) 100 100000) wm_202 wm_203 wm_204 wm_2 (n := 3) (by decide +kernel) rfl ⟨rfl, rfl, Nat.le_of_ble_eq_true rfl, Nat.le_of_ble_eq_true rfl⟩ (Nat.le_of_ble_eq_true rfl) rfl ⟨Nat.zero_le _, Nat.zero_le _⟩ dX0_foundFactor_97) ?_
      refine lv_l2i C.1 hb dX0_foundFactor_100 rfl ?_
      exact rdI C hb hret hlk dX0_foundFactor_101 (by unfold xFound; rw [if_neg c30, if_pos c31])
    · refine lv_iload_n C.1 hb dX0_foundFactor_47 rfl (lv_at hl 2 rfl) ?_
      exact rdI C hb hret hlk dX0_foundFactor_48 (by unfold xFound; rw [if_neg c30, if_neg c31])

set_option maxRecDepth 100000 in
set_option maxHeartbeats 4000000 in
theorem k_X0_passOver (l : Launch) (g : gG) (S : WS) (n : Nat) (hI : XI n S) (t : Nat) (ht : t < 3) : Met l yX0_passOver (wA yX0_passOver cX0_passOver 5 (some .int)) ({ frames := 3, cells := 0, slots := 0, locals := 120 }) (PW g S [.ref (gA g 0), .int (nI t)]) (WQ g (xPass S n t) (some (.int (nI (xPassC S n t))))) 0 0 (Ab g) := by
  refine metI (by decide +kernel) (Nat.le_of_ble_eq_true rfl) ?_
  intro p e s m below meth c C hb hml hret hlk hP ls hl
  have C : CW g RX0 p s m ([.ref (gA g 0), .int (nI t)] : List Value).toArray := C
  have hS : va_S (Ab g) s.heap s.heap [] := va_S.rf
  have hl : lv_has ls 5 [(0, .ref (gA g 0)), (1, .int (nI t))] := hl
  have hn40 := hI.1
  have h4 := levN_4 t
  refine lv_iconst (v := 0) C.1 hb dX0_passOver_0 (by decide) ?_
  refine lv_istore_n (lv' := [(2, .int 0), (0, .ref (gA g 0)), (1, .int (nI t))]) C.1 hb dX0_passOver_1 rfl hl (by decide) rfl (fun ls hl => ?_)
  refine lv_iconst (v := 0) C.1 hb dX0_passOver_2 (by decide) ?_
  refine lv_istore_n (lv' := [(3, .int 0), (2, .int 0), (0, .ref (gA g 0)), (1, .int (nI t))]) C.1 hb dX0_passOver_3 rfl hl (by decide) rfl (fun ls hl => ?_)
  have key : ∀ f i : Nat, levN t - i < f → i ≤ levN t → ∀ (H : Heap) (locs : List Loc), HW g (xsFac S t (fil (xFound S n t) (xFac S t) i)) H → va_S (Ab g) s.heap H locs → ∀ ls : Array Slot, lv_has ls 5 [(0, .ref (gA g 0)), (1, .int (nI t)), (2, .int (nI (xCnt (xPasP S n t) i))), (3, .int (nI i))] → W p l e ({ frames := 3, cells := 0, slots := 0, locals := 120 }) s m ([.ref (gA g 0), .int (nI t)] : List Value).toArray below meth c H locs 0 0 (MQ below (WQ g (xPass S n t) (some (.int (nI (xPassC S n t))))) ([.ref (gA g 0), .int (nI t)] : List Value).toArray s 0 0 (Ab g)) (F0 m 4 ls []) := by
    intro f
    induction f with
    | zero => intro i h; exact absurd h (Nat.not_lt_zero _)
    | succ f ih =>
      intro i hfi hi  H locs hP hS ls hl
      refine lv_iload_n C.1 hb dX0_passOver_4 rfl (lv_at hl 3 rfl) ?_
      refine gX_LEVELS C hb hS dX0_passOver_5 ?_
      refine lv_iload_n C.1 hb dX0_passOver_8 rfl (lv_at hl 1 rfl) ?_
      refine ldX_LEVELS (j := t) C hb hS rfl ht dX0_passOver_9 ?_
      refine lv_icmp_ge (tgt := 53) C.1 hb dX0_passOver_10 (by decide) (fun c32 => ?_) (fun c32 => ?_)
      · have hin : i = levN t := by have := le_nI (a := levN t) (b := i) (by omega) (by omega) c32; omega
        rw [hin] at hl hP
        refine lv_aload_n C.1 hb dX0_passOver_53 rfl (lv_at hl 0 rfl) ?_
        refine run_wr (cRunX (As := []) (rest := []) C hb (hml.trans hl.1.symm) hP hS rfl (k_X0_refit l g (xsFac S t (fil (xFound S n t) (xFac S t) (levN t))) n (XI_fac t _ hI)) wm_77 wm_78 wm_79 wm_80 wm_2 (n := 0) (by decide +kernel) rfl ⟨rfl, rfl, Nat.le_of_ble_eq_true rfl, Nat.le_of_ble_eq_true rfl⟩ (Nat.le_of_ble_eq_true rfl) rfl ⟨Nat.zero_le _, Nat.zero_le _⟩ dX0_passOver_54) hS (fun H locs hP hS => ?_)
        refine lv_iload_n C.1 hb dX0_passOver_57 rfl (lv_at hl 2 rfl) ?_
        exact wrI C hb hret hlk hP hS dX0_passOver_58 rfl rfl
      · have hlt : i < levN t := nle_nI (a := levN t) (b := i) (by omega) (by omega) c32
        refine lv_aload_n C.1 hb dX0_passOver_13 rfl (lv_at hl 0 rfl) ?_
        refine lv_iload_n C.1 hb dX0_passOver_14 rfl (lv_at hl 1 rfl) ?_
        refine lv_iload_n C.1 hb dX0_passOver_15 rfl (lv_at hl 3 rfl) ?_
        refine run_rd (cRunX (As := [.int (nI t), .int (nI i)]) (rest := []) C hb (hml.trans hl.1.symm) hP hS rfl (k_X0_foundFactor l g (xsFac S t (fil (xFound S n t) (xFac S t) i)) n (XI_fac t _ hI) t i ht (by omega)) wm_192 wm_193 wm_194 wm_195 wm_2 (n := 2) (by decide +kernel) rfl ⟨rfl, rfl, Nat.le_of_ble_eq_true rfl, Nat.le_of_ble_eq_true rfl⟩ (Nat.le_of_ble_eq_true rfl) rfl ⟨Nat.zero_le _, Nat.zero_le _⟩ dX0_passOver_16) ?_
        refine toI (xFound_fil S n t i _) ?_
        refine lv_istore (lv' := [(4, .int (xFound S n t i)), (0, .ref (gA g 0)), (1, .int (nI t)), (2, .int (nI (xCnt (xPasP S n t) i))), (3, .int (nI i))]) C.1 hb dX0_passOver_19 hl (by decide) rfl (fun ls hl => ?_)
        refine lv_iload C.1 hb dX0_passOver_21 (lv_at hl 0 rfl) ?_
        refine lv_aload_n C.1 hb dX0_passOver_23 rfl (lv_at hl 1 rfl) ?_
        refine gX_factors C hb hP dX0_passOver_24 ?_
        refine lv_iload_n C.1 hb dX0_passOver_27 rfl (lv_at hl 2 rfl) ?_
        refine al_fac (t := t) C hb hP rfl ht dX0_passOver_28 ?_
        refine lv_iload_n C.1 hb dX0_passOver_29 rfl (lv_at hl 4 rfl) ?_
        refine ldX_fac (t := t) (j := i) C hb hP ht rfl (by omega) dX0_passOver_30 ?_
        refine toI (show xFac (xsFac S t (fil (xFound S n t) (xFac S t) i)) t i = xFac S t i by rw [fac_at, fil_at]) ?_
        refine lv_icmp_eq (tgt := 47) C.1 hb dX0_passOver_31 (by decide) (fun c33 => ?_) (fun c33 => ?_)
        · refine lv_iinc (v := nI (i + 1)) (lv' := [(3, .int (nI (i + 1))), (4, .int (xFound S n t i)), (0, .ref (gA g 0)), (1, .int (nI t)), (2, .int (nI (xCnt (xPasP S n t) i)))]) C.1 hb dX0_passOver_47 hl (k := 4) rfl (nI_1 i) (by decide) rfl (fun ls hl => ?_)
          refine lv_goto (tgt := 4) C.1 hb dX0_passOver_50 (by decide) ?_
          exact ih (i + 1) (by omega) (by omega)  _ _ (by rw [passf_keep S t i _ c33]; exact hP) hS ls (by rw [xCnt_f (show xPasP S n t i = false by simp [xPasP, c33])]; exact lv_sub hl [2, 3, 4, 0] rfl)
        · refine lv_aload_n C.1 hb dX0_passOver_34 rfl (lv_at hl 1 rfl) ?_
          refine gX_factors C hb hP dX0_passOver_35 ?_
          refine lv_iload_n C.1 hb dX0_passOver_38 rfl (lv_at hl 2 rfl) ?_
          refine al_fac (t := t) C hb hP rfl ht dX0_passOver_39 ?_
          refine lv_iload_n C.1 hb dX0_passOver_40 rfl (lv_at hl 4 rfl) ?_
          refine lv_iload C.1 hb dX0_passOver_41 (lv_at hl 0 rfl) ?_
          refine stX_fac (t := t) (j := i) C hb hP hS ht rfl (by omega) dX0_passOver_43 (fun H locs hP hS => ?_)
          refine lv_iinc (v := nI ((xCnt (xPasP S n t) i) + 1)) (lv' := [(2, .int (nI ((xCnt (xPasP S n t) i) + 1))), (4, .int (xFound S n t i)), (0, .ref (gA g 0)), (1, .int (nI t)), (3, .int (nI i))]) C.1 hb dX0_passOver_44 hl (k := 3) rfl (nI_1 (xCnt (xPasP S n t) i)) (by decide) rfl (fun ls hl => ?_)
          refine lv_iinc (v := nI (i + 1)) (lv' := [(3, .int (nI (i + 1))), (2, .int (nI ((xCnt (xPasP S n t) i) + 1))), (4, .int (xFound S n t i)), (0, .ref (gA g 0)), (1, .int (nI t))]) C.1 hb dX0_passOver_47 hl (k := 4) rfl (nI_1 i) (by decide) rfl (fun ls hl => ?_)
          refine lv_goto (tgt := 4) C.1 hb dX0_passOver_50 (by decide) ?_
          exact ih (i + 1) (by omega) (by omega)  _ _ (by rw [← passf_step S t i]; exact hP) hS ls (by rw [xCnt_t (show xPasP S n t i = true by simp [xPasP, c33])]; exact lv_sub hl [3, 4, 1, 0] rfl)
  exact key (levN t - 0 + 1) 0 (by omega) (by omega)  _ _ (by rw [passf_0]; exact hP) hS ls (lv_sub hl [2, 3, 1, 0] rfl)

set_option maxRecDepth 100000 in
set_option maxHeartbeats 4000000 in
theorem k_X0_changedByRound (l : Launch) (g : gG) (S : WS) (n : Nat) (hI : XI n S) : Met l yX0_changedByRound (wA yX0_changedByRound cX0_changedByRound 3 (some .int)) ({ frames := 4, cells := 0, slots := 0, locals := 160 }) (PW g S [.ref (gA g 0)]) (WQ g (xRound S n 3) (some (.int (nI (xRoundC S n 3))))) 0 0 (Ab g) := by
  refine metI (by decide +kernel) (Nat.le_of_ble_eq_true rfl) ?_
  intro p e s m below meth c C hb hml hret hlk hP ls hl
  have C : CW g RX0 p s m ([.ref (gA g 0)] : List Value).toArray := C
  have hS : va_S (Ab g) s.heap s.heap [] := va_S.rf
  have hl : lv_has ls 3 [(0, .ref (gA g 0))] := hl
  refine lv_iconst (v := 0) C.1 hb dX0_changedByRound_0 (by decide) ?_
  refine lv_istore_n (lv' := [(1, .int 0), (0, .ref (gA g 0))]) C.1 hb dX0_changedByRound_1 rfl hl (by decide) rfl (fun ls hl => ?_)
  refine lv_iconst (v := 0) C.1 hb dX0_changedByRound_2 (by decide) ?_
  refine lv_istore_n (lv' := [(2, .int 0), (1, .int 0), (0, .ref (gA g 0))]) C.1 hb dX0_changedByRound_3 rfl hl (by decide) rfl (fun ls hl => ?_)
  have key : ∀ f i : Nat, 3 - i < f → i ≤ 3 → ∀ (H : Heap) (locs : List Loc), HW g (xRound S n i) H → va_S (Ab g) s.heap H locs → ∀ ls : Array Slot, lv_has ls 3 [(0, .ref (gA g 0)), (1, .int (nI (xRoundC S n i))), (2, .int (nI i))] → W p l e ({ frames := 4, cells := 0, slots := 0, locals := 160 }) s m ([.ref (gA g 0)] : List Value).toArray below meth c H locs 0 0 (MQ below (WQ g (xRound S n 3) (some (.int (nI (xRoundC S n 3))))) ([.ref (gA g 0)] : List Value).toArray s 0 0 (Ab g)) (F0 m 4 ls []) := by
    intro f
    induction f with
    | zero => intro i h; exact absurd h (Nat.not_lt_zero _)
    | succ f ih =>
      intro i hfi hi  H locs hP hS ls hl
      refine lv_iload_n C.1 hb dX0_changedByRound_4 rfl (lv_at hl 2 rfl) ?_
      refine lv_iconst (v := 3) C.1 hb dX0_changedByRound_5 (by decide) ?_
      refine lv_icmp_ge (tgt := 23) C.1 hb dX0_changedByRound_6 (by decide) (fun c34 => ?_) (fun c34 => ?_)
      · have hin : i = 3 := by have := le_nI (a := 3) (b := i) (by decide) (by omega) c34; omega
        rw [hin] at hl hP
        refine lv_iload_n C.1 hb dX0_changedByRound_23 rfl (lv_at hl 1 rfl) ?_
        exact wrI C hb hret hlk hP hS dX0_changedByRound_24 rfl rfl
      · have hlt : i < 3 := nle_nI (a := 3) (b := i) (by decide) (by omega) c34
        refine lv_iload_n C.1 hb dX0_changedByRound_9 rfl (lv_at hl 1 rfl) ?_
        refine lv_aload_n C.1 hb dX0_changedByRound_10 rfl (lv_at hl 0 rfl) ?_
        refine lv_iload_n C.1 hb dX0_changedByRound_11 rfl (lv_at hl 2 rfl) ?_
        refine run_wr (cRunX (As := [.int (nI i)]) (rest := [.int (nI (xRoundC S n i))]) C hb (hml.trans hl.1.symm) hP hS rfl (k_X0_passOver l g (xRound S n i) n (XI_round hI i) i hlt) wm_188 wm_189 wm_190 wm_191 wm_2 (n := 1) (by decide +kernel) rfl ⟨rfl, rfl, Nat.le_of_ble_eq_true rfl, Nat.le_of_ble_eq_true rfl⟩ (Nat.le_of_ble_eq_true rfl) rfl ⟨Nat.zero_le _, Nat.zero_le _⟩ dX0_changedByRound_12) hS (fun H locs hP hS => ?_)
        refine lv_iadd C.1 hb dX0_changedByRound_15 ?_
        refine toI (nI_add _ _) ?_
        refine lv_istore_n (lv' := [(1, .int (nI (xRoundC S n i + xPassC (xRound S n i) n i))), (0, .ref (gA g 0)), (2, .int (nI i))]) C.1 hb dX0_changedByRound_16 rfl hl (by decide) rfl (fun ls hl => ?_)
        refine lv_iinc (v := nI (i + 1)) (lv' := [(2, .int (nI (i + 1))), (1, .int (nI (xRoundC S n i + xPassC (xRound S n i) n i))), (0, .ref (gA g 0))]) C.1 hb dX0_changedByRound_17 hl (k := 2) rfl (nI_1 i) (by decide) rfl (fun ls hl => ?_)
        refine lv_goto (tgt := 4) C.1 hb dX0_changedByRound_20 (by decide) ?_
        exact ih (i + 1) (by omega) (by omega)  _ _ hP hS ls (lv_sub hl [2, 1, 0] rfl)
  exact key (3 - 0 + 1) 0 (by omega) (by omega)  _ _ hP hS ls (lv_sub hl [2, 1, 0] rfl)
end
section
theorem nI_sub1 {i : Nat} (h : 1 ≤ i) : nI i - 1 = nI (i - 1) := by
  obtain ⟨k, rfl⟩ : ∃ k, i = k + 1 := ⟨i - 1, by omega⟩
  exact nI_pred k
theorem xGP_lo (S : WS) (st : Nat) : ∀ i : Nat, i < st → xGP S st i = false := fun i h => by
  have h2 : ¬ st ≤ i := by omega
  simp [xGP, h2]
theorem xPassC_le (S : WS) (n t : Nat) : xPassC S n t ≤ 4 := Nat.le_trans (xCnt_le _ _) (levN_4 t)
theorem xRoundC_le (S : WS) (n : Nat) : ∀ t : Nat, xRoundC S n t ≤ 4 * t
  | 0 => Nat.le_refl 0
  | t + 1 => by
    have h1 := xRoundC_le S n t
    have h2 := xPassC_le (xRound S n t) n t
    show xRoundC S n t + xPassC (xRound S n t) n t ≤ 4 * (t + 1)
    omega
def xSettle (n : Nat) : Nat → Nat → WS → Nat × WS
  | 0, _, S => (60, S)
  | f + 1, r, S => if xRoundC S n 3 = 0 then (r, xRound S n 3) else xSettle n f (r + 1) (xRound S n 3)
def xSpr1 (S : WS) (n : Nat) : Int32 := (xBnd ((xSc S 4).toInt64 * mn64 (10000 * xTot (xIa S 1) (xLng S 3) n / xTot (xIa S 1) (xCapP S) n) 1000000 / 10000) 1 1000000).toInt32
def xSpread (S : WS) (n : Nat) : WS := if xTot (xIa S 1) (xCapP S) n ≤ 0 then S else xsSc S 4 (xSpr1 S n)
end
section
set_option maxRecDepth 100000 in
set_option maxHeartbeats 4000000 in
theorem k_X0_lowestFallingLevel (l : Launch) (g : gG) (S : WS) (t : Nat) (ht : t < 3) : Met l yX0_lowestFallingLevel (wA yX0_lowestFallingLevel cX0_lowestFallingLevel 3 (some .int)) ({ frames := 0, cells := 0, slots := 0, locals := 0 }) (PW g S [.ref (gA g 0), .int (nI t)]) (RQ (some (.int (xLow S t)))) 0 0 (fun _ => False) := by
  refine metI (by decide +kernel) (Nat.le_of_ble_eq_true rfl) ?_
  intro p e s m below meth c C hb hml hret hlk hP ls hl
  have C : CW g RX0 p s m ([.ref (gA g 0), .int (nI t)] : List Value).toArray := C
  have hS : va_S (Ab g) s.heap s.heap [] := va_S.rf
  have hl : lv_has ls 3 [(0, .ref (gA g 0)), (1, .int (nI t))] := hl
  have h4 := levN_4 t
  have h3 := levN_3 t
  refine lv_iconst (v := 1) C.1 hb dX0_lowestFallingLevel_0 (by decide) ?_
  refine lv_istore_n (lv' := [(2, .int 1), (0, .ref (gA g 0)), (1, .int (nI t))]) C.1 hb dX0_lowestFallingLevel_1 rfl hl (by decide) rfl (fun ls hl => ?_)
  have key : ∀ f i : Nat, levN t - i < f → i ≤ levN t → (xLowF (xFac S t) (levN t - i) i = xLow S t) → (1 ≤ i) → ∀ ls : Array Slot, lv_has ls 3 [(0, .ref (gA g 0)), (1, .int (nI t)), (2, .int (nI i))] → W p l e ({ frames := 0, cells := 0, slots := 0, locals := 0 }) s m ([.ref (gA g 0), .int (nI t)] : List Value).toArray below meth c s.heap [] 0 0 (MQ below (RQ (some (.int (xLow S t)))) ([.ref (gA g 0), .int (nI t)] : List Value).toArray s 0 0 (fun _ => False)) (F0 m 2 ls []) := by
    intro f
    induction f with
    | zero => intro i h; exact absurd h (Nat.not_lt_zero _)
    | succ f ih =>
      intro i hfi hi heq h1 ls hl
      refine lv_iload_n C.1 hb dX0_lowestFallingLevel_2 rfl (lv_at hl 2 rfl) ?_
      refine gX_LEVELS C hb hS dX0_lowestFallingLevel_3 ?_
      refine lv_iload_n C.1 hb dX0_lowestFallingLevel_6 rfl (lv_at hl 1 rfl) ?_
      refine ldX_LEVELS (j := t) C hb hS rfl ht dX0_lowestFallingLevel_7 ?_
      refine lv_icmp_ge (tgt := 40) C.1 hb dX0_lowestFallingLevel_8 (by decide) (fun c35 => ?_) (fun c35 => ?_)
      · have hin : i = levN t := by have := le_nI (a := levN t) (b := i) (by omega) (by omega) c35; omega
        rw [hin] at hl
        refine lv_iconst (v := (-1)) C.1 hb dX0_lowestFallingLevel_40 (by decide) ?_
        exact rdI C hb hret hlk dX0_lowestFallingLevel_41 (by rw [← heq, hin, Nat.sub_self]; rfl)
      · have hlt : i < levN t := nle_nI (a := levN t) (b := i) (by omega) (by omega) c35
        have hd : levN t - i = (levN t - (i + 1)) + 1 := by omega
        rw [hd] at heq
        refine lv_aload_n C.1 hb dX0_lowestFallingLevel_11 rfl (lv_at hl 0 rfl) ?_
        refine gX_factors C hb hP dX0_lowestFallingLevel_12 ?_
        refine lv_iload_n C.1 hb dX0_lowestFallingLevel_15 rfl (lv_at hl 1 rfl) ?_
        refine al_fac (t := t) C hb hP rfl ht dX0_lowestFallingLevel_16 ?_
        refine lv_iload_n C.1 hb dX0_lowestFallingLevel_17 rfl (lv_at hl 2 rfl) ?_
        refine ldX_fac (t := t) (j := i) C hb hP ht rfl (by omega) dX0_lowestFallingLevel_18 ?_
        refine lv_aload_n C.1 hb dX0_lowestFallingLevel_19 rfl (lv_at hl 0 rfl) ?_
        refine gX_factors C hb hP dX0_lowestFallingLevel_20 ?_
        refine lv_iload_n C.1 hb dX0_lowestFallingLevel_23 rfl (lv_at hl 1 rfl) ?_
        refine al_fac (t := t) C hb hP rfl ht dX0_lowestFallingLevel_24 ?_
        refine lv_iload_n C.1 hb dX0_lowestFallingLevel_25 rfl (lv_at hl 2 rfl) ?_
        refine lv_iconst (v := 1) C.1 hb dX0_lowestFallingLevel_26 (by decide) ?_
        refine lv_isub C.1 hb dX0_lowestFallingLevel_27 ?_
        refine ldX_fac (t := t) (j := (i - 1)) C hb hP ht (nI_sub1 h1) (by omega) dX0_lowestFallingLevel_28 ?_
        refine lv_icmp_ge (tgt := 34) C.1 hb dX0_lowestFallingLevel_29 (by decide) (fun c36 => ?_) (fun c36 => ?_)
        · refine lv_iinc (v := nI (i + 1)) (lv' := [(2, .int (nI (i + 1))), (0, .ref (gA g 0)), (1, .int (nI t))]) C.1 hb dX0_lowestFallingLevel_34 hl (k := 2) rfl (nI_1 i) (by decide) rfl (fun ls hl => ?_)
          refine lv_goto (tgt := 2) C.1 hb dX0_lowestFallingLevel_37 (by decide) ?_
          exact ih (i + 1) (by omega) (by omega) ((if_pos c36).symm.trans heq) (by omega) ls (lv_sub hl [1, 2, 0] rfl)
        · refine lv_iload_n C.1 hb dX0_lowestFallingLevel_32 rfl (lv_at hl 2 rfl) ?_
          exact rdI C hb hret hlk dX0_lowestFallingLevel_33 (by rw [← heq]; exact (if_neg c36).symm)
  exact key (levN t - 1 + 1) 1 (by omega) (by omega) rfl (Nat.le_refl 1) ls (lv_sub hl [1, 2, 0] rfl)

set_option maxRecDepth 100000 in
set_option maxHeartbeats 4000000 in
theorem k_X0_groupMean (l : Launch) (g : gG) (S : WS) (n : Nat) (hI : XI n S) (t st : Nat) (ht : t < 3) (hst : st < 4) : Met l yX0_groupMean (wA yX0_groupMean cX0_groupMean 13 (some .int)) ({ frames := 1, cells := 0, slots := 0, locals := 60 }) (PW g S [.ref (gA g 0), .int (nI t), .int (nI st)]) (RQ (some (.int (xMean S n t st)))) 0 0 (fun _ => False) := by
  refine metI (by decide +kernel) (Nat.le_of_ble_eq_true rfl) ?_
  intro p e s m below meth c C hb hml hret hlk hP ls hl
  have C : CW g RX0 p s m ([.ref (gA g 0), .int (nI t), .int (nI st)] : List Value).toArray := C
  have hS : va_S (Ab g) s.heap s.heap [] := va_S.rf
  have hl : lv_has ls 13 [(0, .ref (gA g 0)), (1, .int (nI t)), (2, .int (nI st))] := hl
  have h4 := levN_4 t
  have h3 := levN_3 t
  have hn40 := hI.1
  have hz := xGP_lo S st
  refine lv_lconst (v := 0) C.1 hb dX0_groupMean_0 (by decide) ?_
  refine lv_lstore_n (lv' := [(3, .long 0), (0, .ref (gA g 0)), (1, .int (nI t)), (2, .int (nI st))]) C.1 hb dX0_groupMean_1 rfl hl (by decide) rfl (fun ls hl => ?_)
  refine lv_iconst (v := 0) C.1 hb dX0_groupMean_2 (by decide) ?_
  refine lv_istore (lv' := [(5, .int 0), (3, .long 0), (0, .ref (gA g 0)), (1, .int (nI t)), (2, .int (nI st))]) C.1 hb dX0_groupMean_3 hl (by decide) rfl (fun ls hl => ?_)
  refine lv_lconst (v := 0) C.1 hb dX0_groupMean_5 (by decide) ?_
  refine lv_lstore (lv' := [(6, .long 0), (5, .int 0), (3, .long 0), (0, .ref (gA g 0)), (1, .int (nI t)), (2, .int (nI st))]) C.1 hb dX0_groupMean_6 hl (by decide) rfl (fun ls hl => ?_)
  refine lv_lconst (v := 0) C.1 hb dX0_groupMean_8 (by decide) ?_
  refine lv_lstore (lv' := [(8, .long 0), (6, .long 0), (5, .int 0), (3, .long 0), (0, .ref (gA g 0)), (1, .int (nI t)), (2, .int (nI st))]) C.1 hb dX0_groupMean_9 hl (by decide) rfl (fun ls hl => ?_)
  refine lv_iload_n C.1 hb dX0_groupMean_11 rfl (lv_at hl 6 rfl) ?_
  refine lv_istore (lv' := [(10, .int (nI st)), (8, .long 0), (6, .long 0), (5, .int 0), (3, .long 0), (0, .ref (gA g 0)), (1, .int (nI t)), (2, .int (nI st))]) C.1 hb dX0_groupMean_12 hl (by decide) rfl (fun ls hl => ?_)
  have key : ∀ f i : Nat, levN t - i < f → i ≤ levN t → (st ≤ i) → ∀ ls : Array Slot, lv_has ls 13 [(0, .ref (gA g 0)), (1, .int (nI t)), (2, .int (nI st)), (3, .long (wsum (xGP S st) (fun k => (xFac S t k).toInt64) i)), (5, .int (nI (xCnt (xGP S st) i))), (6, .long (wsum (xGP S st) (fun k => xWt S n t k * (xFac S t k).toInt64) i)), (8, .long (wsum (xGP S st) (xWt S n t) i)), (10, .int (nI i))] → W p l e ({ frames := 1, cells := 0, slots := 0, locals := 60 }) s m ([.ref (gA g 0), .int (nI t), .int (nI st)] : List Value).toArray below meth c s.heap [] 0 0 (MQ below (RQ (some (.int (xMean S n t st)))) ([.ref (gA g 0), .int (nI t), .int (nI st)] : List Value).toArray s 0 0 (fun _ => False)) (F0 m 14 ls []) := by
    intro f
    induction f with
    | zero => intro i h; exact absurd h (Nat.not_lt_zero _)
    | succ f ih =>
      intro i hfi hi h1 ls hl
      refine lv_iload C.1 hb dX0_groupMean_14 (lv_at hl 7 rfl) ?_
      refine gX_LEVELS C hb hS dX0_groupMean_16 ?_
      refine lv_iload_n C.1 hb dX0_groupMean_19 rfl (lv_at hl 1 rfl) ?_
      refine ldX_LEVELS (j := t) C hb hS rfl ht dX0_groupMean_20 ?_
      refine lv_icmp_ge (tgt := 95) C.1 hb dX0_groupMean_21 (by decide) (fun c37 => ?_) (fun c37 => ?_)
      · have hin : i = levN t := by have := le_nI (a := levN t) (b := i) (by omega) (by omega) c37; omega
        rw [hin] at hl
        refine lv_lload C.1 hb dX0_groupMean_95 (lv_at hl 6 rfl) ?_
        refine lv_lconst (v := 0) C.1 hb dX0_groupMean_97 (by decide) ?_
        refine lc_le (tgt := 110) C hb dX0_groupMean_98 dX0_groupMean_99 (by decide) (fun c38 => ?_) (fun c38 => ?_)
        · refine lv_lload_n C.1 hb dX0_groupMean_110 rfl (lv_at hl 3 rfl) ?_
          refine lv_iload C.1 hb dX0_groupMean_111 (lv_at hl 4 rfl) ?_
          refine lv_iconst (v := 1) C.1 hb dX0_groupMean_113 (by decide) ?_
          refine va_mmax C.1 hb (hml.trans hl.1.symm) C.2.1 (C.2.2.1 _ wm_281) (C.2.2.1 _ wm_282) (C.2.2.1 _ wm_207) (C.2.2.1 _ wm_283) (Nat.le_of_ble_eq_true rfl) (Nat.le_of_ble_eq_true rfl) (Nat.zero_le _) (Nat.zero_le _) dX0_groupMean_114 ?_
          refine lv_i2l C.1 hb dX0_groupMean_117 rfl ?_
          refine lv_ldiv C.1 hb dX0_groupMean_118 (mxI_ne0 (by have := xCnt_le (xGP S st) (levN t); omega)) ?_
          refine lv_l2i C.1 hb dX0_groupMean_119 rfl ?_
          exact rdI C hb hret hlk dX0_groupMean_120 (by unfold xMean; rw [if_pos c38]; rfl)
        · refine lv_lload C.1 hb dX0_groupMean_102 (lv_at hl 5 rfl) ?_
          refine lv_lload C.1 hb dX0_groupMean_104 (lv_at hl 6 rfl) ?_
          refine lv_ldiv C.1 hb dX0_groupMean_106 (ne0_nle c38) ?_
          refine lv_goto (tgt := 119) C.1 hb dX0_groupMean_107 (by decide) ?_
          refine lv_l2i C.1 hb dX0_groupMean_119 rfl ?_
          exact rdI C hb hret hlk dX0_groupMean_120 (by unfold xMean; rw [if_neg c38])
      · have hlt : i < levN t := nle_nI (a := levN t) (b := i) (by omega) (by omega) c37
        refine lv_aload_n C.1 hb dX0_groupMean_24 rfl (lv_at hl 0 rfl) ?_
        refine gX_groupStarts C hb hP dX0_groupMean_25 ?_
        refine lv_iload C.1 hb dX0_groupMean_28 (lv_at hl 7 rfl) ?_
        refine ldX_groupStarts (j := i) C hb hP rfl (by omega) dX0_groupMean_30 ?_
        refine lv_iload_n C.1 hb dX0_groupMean_31 rfl (lv_at hl 2 rfl) ?_
        refine lv_icmp_ne (tgt := 89) C.1 hb dX0_groupMean_32 (by decide) (fun c39 => ?_) (fun c39 => ?_)
        · have hp : xGP S st i = false := by simp [xGP, c39]
          refine lv_iinc (v := nI (i + 1)) (lv' := [(10, .int (nI (i + 1))), (0, .ref (gA g 0)), (1, .int (nI t)), (2, .int (nI st)), (3, .long (wsum (xGP S st) (fun k => (xFac S t k).toInt64) i)), (5, .int (nI (xCnt (xGP S st) i))), (6, .long (wsum (xGP S st) (fun k => xWt S n t k * (xFac S t k).toInt64) i)), (8, .long (wsum (xGP S st) (xWt S n t) i))]) C.1 hb dX0_groupMean_89 hl (k := 7) rfl (nI_1 i) (by decide) rfl (fun ls hl => ?_)
          refine lv_goto (tgt := 14) C.1 hb dX0_groupMean_92 (by decide) ?_
          exact ih (i + 1) (by omega) (by omega) (by omega) ls (by rw [wsum_f hp, wsum_f hp, wsum_f hp, xCnt_f hp]; exact lv_sub hl [1, 2, 3, 4, 5, 6, 7, 0] rfl)
        · have hp : xGP S st i = true := by simp [xGP, c39, h1]
          refine lv_aload_n C.1 hb dX0_groupMean_35 rfl (lv_at hl 0 rfl) ?_
          refine lv_aload_n C.1 hb dX0_groupMean_36 rfl (lv_at hl 0 rfl) ?_
          refine gX_exposures C hb hP dX0_groupMean_37 ?_
          refine lv_iload_n C.1 hb dX0_groupMean_40 rfl (lv_at hl 1 rfl) ?_
          refine lv_iload C.1 hb dX0_groupMean_41 (lv_at hl 7 rfl) ?_
          refine run_rd (cRunX (As := [.ref (gA g 9), .int (nI t), .int (nI i)]) (rest := []) C hb (hml.trans hl.1.symm) hP hS rfl (k_X0_levelTotal l g S n hI 0 (by decide) t ht (nI i)) wm_198 wm_199 wm_200 wm_201 wm_2 (n := 3) (by decide +kernel) rfl ⟨rfl, rfl, Nat.le_of_ble_eq_true rfl, Nat.le_of_ble_eq_true rfl⟩ (Nat.le_of_ble_eq_true rfl) rfl ⟨Nat.zero_le _, Nat.zero_le _⟩ dX0_groupMean_43) ?_
          refine lv_lstore (lv' := [(11, .long (xWt S n t i)), (0, .ref (gA g 0)), (1, .int (nI t)), (2, .int (nI st)), (3, .long (wsum (xGP S st) (fun k => (xFac S t k).toInt64) i)), (5, .int (nI (xCnt (xGP S st) i))), (6, .long (wsum (xGP S st) (fun k => xWt S n t k * (xFac S t k).toInt64) i)), (8, .long (wsum (xGP S st) (xWt S n t) i)), (10, .int (nI i))]) C.1 hb dX0_groupMean_46 hl (by decide) rfl (fun ls hl => ?_)
          refine lv_lload_n C.1 hb dX0_groupMean_48 rfl (lv_at hl 4 rfl) ?_
          refine lv_aload_n C.1 hb dX0_groupMean_49 rfl (lv_at hl 1 rfl) ?_
          refine gX_factors C hb hP dX0_groupMean_50 ?_
          refine lv_iload_n C.1 hb dX0_groupMean_53 rfl (lv_at hl 2 rfl) ?_
          refine al_fac (t := t) C hb hP rfl ht dX0_groupMean_54 ?_
          refine lv_iload C.1 hb dX0_groupMean_55 (lv_at hl 8 rfl) ?_
          refine ldX_fac (t := t) (j := i) C hb hP ht rfl (by omega) dX0_groupMean_57 ?_
          refine lv_i2l C.1 hb dX0_groupMean_58 rfl ?_
          refine lv_ladd C.1 hb dX0_groupMean_59 ?_
          refine lv_lstore_n (lv' := [(3, .long ((wsum (xGP S st) (fun k => (xFac S t k).toInt64) i) + (xFac S t i).toInt64)), (11, .long (xWt S n t i)), (0, .ref (gA g 0)), (1, .int (nI t)), (2, .int (nI st)), (5, .int (nI (xCnt (xGP S st) i))), (6, .long (wsum (xGP S st) (fun k => xWt S n t k * (xFac S t k).toInt64) i)), (8, .long (wsum (xGP S st) (xWt S n t) i)), (10, .int (nI i))]) C.1 hb dX0_groupMean_60 rfl hl (by decide) rfl (fun ls hl => ?_)
          refine lv_iinc (v := nI ((xCnt (xGP S st) i) + 1)) (lv' := [(5, .int (nI ((xCnt (xGP S st) i) + 1))), (3, .long ((wsum (xGP S st) (fun k => (xFac S t k).toInt64) i) + (xFac S t i).toInt64)), (11, .long (xWt S n t i)), (0, .ref (gA g 0)), (1, .int (nI t)), (2, .int (nI st)), (6, .long (wsum (xGP S st) (fun k => xWt S n t k * (xFac S t k).toInt64) i)), (8, .long (wsum (xGP S st) (xWt S n t) i)), (10, .int (nI i))]) C.1 hb dX0_groupMean_61 hl (k := 5) rfl (nI_1 (xCnt (xGP S st) i)) (by decide) rfl (fun ls hl => ?_)
          refine lv_lload C.1 hb dX0_groupMean_64 (lv_at hl 6 rfl) ?_
          refine lv_lload C.1 hb dX0_groupMean_66 (lv_at hl 2 rfl) ?_
          refine lv_aload_n C.1 hb dX0_groupMean_68 rfl (lv_at hl 3 rfl) ?_
          refine gX_factors C hb hP dX0_groupMean_69 ?_
          refine lv_iload_n C.1 hb dX0_groupMean_72 rfl (lv_at hl 4 rfl) ?_
          refine al_fac (t := t) C hb hP rfl ht dX0_groupMean_73 ?_
          refine lv_iload C.1 hb dX0_groupMean_74 (lv_at hl 8 rfl) ?_
          refine ldX_fac (t := t) (j := i) C hb hP ht rfl (by omega) dX0_groupMean_76 ?_
          refine lv_i2l C.1 hb dX0_groupMean_77 rfl ?_
          refine lv_lmul C.1 hb dX0_groupMean_78 ?_
          refine lv_ladd C.1 hb dX0_groupMean_79 ?_
          refine lv_lstore (lv' := [(6, .long ((wsum (xGP S st) (fun k => xWt S n t k * (xFac S t k).toInt64) i) + ((xWt S n t i) * (xFac S t i).toInt64))), (5, .int (nI ((xCnt (xGP S st) i) + 1))), (3, .long ((wsum (xGP S st) (fun k => (xFac S t k).toInt64) i) + (xFac S t i).toInt64)), (11, .long (xWt S n t i)), (0, .ref (gA g 0)), (1, .int (nI t)), (2, .int (nI st)), (8, .long (wsum (xGP S st) (xWt S n t) i)), (10, .int (nI i))]) C.1 hb dX0_groupMean_80 hl (by decide) rfl (fun ls hl => ?_)
          refine lv_lload C.1 hb dX0_groupMean_82 (lv_at hl 7 rfl) ?_
          refine lv_lload C.1 hb dX0_groupMean_84 (lv_at hl 3 rfl) ?_
          refine lv_ladd C.1 hb dX0_groupMean_86 ?_
          refine lv_lstore (lv' := [(8, .long ((wsum (xGP S st) (xWt S n t) i) + (xWt S n t i))), (6, .long ((wsum (xGP S st) (fun k => xWt S n t k * (xFac S t k).toInt64) i) + ((xWt S n t i) * (xFac S t i).toInt64))), (5, .int (nI ((xCnt (xGP S st) i) + 1))), (3, .long ((wsum (xGP S st) (fun k => (xFac S t k).toInt64) i) + (xFac S t i).toInt64)), (11, .long (xWt S n t i)), (0, .ref (gA g 0)), (1, .int (nI t)), (2, .int (nI st)), (10, .int (nI i))]) C.1 hb dX0_groupMean_87 hl (by decide) rfl (fun ls hl => ?_)
          refine lv_iinc (v := nI (i + 1)) (lv' := [(10, .int (nI (i + 1))), (8, .long ((wsum (xGP S st) (xWt S n t) i) + (xWt S n t i))), (6, .long ((wsum (xGP S st) (fun k => xWt S n t k * (xFac S t k).toInt64) i) + ((xWt S n t i) * (xFac S t i).toInt64))), (5, .int (nI ((xCnt (xGP S st) i) + 1))), (3, .long ((wsum (xGP S st) (fun k => (xFac S t k).toInt64) i) + (xFac S t i).toInt64)), (11, .long (xWt S n t i)), (0, .ref (gA g 0)), (1, .int (nI t)), (2, .int (nI st))]) C.1 hb dX0_groupMean_89 hl (k := 8) rfl (nI_1 i) (by decide) rfl (fun ls hl => ?_)
          refine lv_goto (tgt := 14) C.1 hb dX0_groupMean_92 (by decide) ?_
          exact ih (i + 1) (by omega) (by omega) (by omega) ls (by rw [wsum_t hp, wsum_t hp, wsum_t hp, xCnt_t hp]; exact lv_sub hl [6, 7, 8, 4, 3, 2, 1, 0] rfl)
  exact key (levN t - st + 1) st (by omega) (by omega) (Nat.le_refl _) ls (by rw [wsum_z hz, wsum_z hz, wsum_z hz, xCnt_z hz]; exact lv_sub hl [5, 6, 7, 4, 3, 2, 1, 0] rfl)

set_option maxRecDepth 100000 in
set_option maxHeartbeats 4000000 in
theorem k_X0_joinToLevelAhead (l : Launch) (g : gG) (S : WS) (n : Nat) (hI : XI n S) (t fl st : Nat) (ht : t < 3) (hf1 : 1 ≤ fl) (hfl : fl < levN t) (hst : xIa S 2 (fl - 1) = nI st) (hst2 : st < fl) : Met l yX0_joinToLevelAhead (wA yX0_joinToLevelAhead cX0_joinToLevelAhead 6 none) ({ frames := 2, cells := 0, slots := 0, locals := 100 }) (PW g S [.ref (gA g 0), .int (nI t), .int (nI fl)]) (WQ g (xJoin S n t fl st) (none)) 0 0 (Ab g) := by
  refine metI (by decide +kernel) (Nat.le_of_ble_eq_true rfl) ?_
  intro p e s m below meth c C hb hml hret hlk hP ls hl
  have C : CW g RX0 p s m ([.ref (gA g 0), .int (nI t), .int (nI fl)] : List Value).toArray := C
  have hS : va_S (Ab g) s.heap s.heap [] := va_S.rf
  have hl : lv_has ls 6 [(0, .ref (gA g 0)), (1, .int (nI t)), (2, .int (nI fl))] := hl
  have h4 := levN_4 t
  have h3 := levN_3 t
  have hn40 := hI.1
  refine lv_aload_n C.1 hb dX0_joinToLevelAhead_0 rfl (lv_at hl 0 rfl) ?_
  refine gX_groupStarts C hb hP dX0_joinToLevelAhead_1 ?_
  refine lv_iload_n C.1 hb dX0_joinToLevelAhead_4 rfl (lv_at hl 2 rfl) ?_
  refine lv_iconst (v := 1) C.1 hb dX0_joinToLevelAhead_5 (by decide) ?_
  refine lv_isub C.1 hb dX0_joinToLevelAhead_6 ?_
  refine ldX_groupStarts (j := (fl - 1)) C hb hP (nI_sub1 hf1) (by omega) dX0_joinToLevelAhead_7 ?_
  refine toI hst ?_
  refine lv_istore_n (lv' := [(3, .int (nI st)), (0, .ref (gA g 0)), (1, .int (nI t)), (2, .int (nI fl))]) C.1 hb dX0_joinToLevelAhead_8 rfl hl (by decide) rfl (fun ls hl => ?_)
  refine lv_iload_n C.1 hb dX0_joinToLevelAhead_9 rfl (lv_at hl 3 rfl) ?_
  refine lv_istore (lv' := [(4, .int (nI fl)), (3, .int (nI st)), (0, .ref (gA g 0)), (1, .int (nI t)), (2, .int (nI fl))]) C.1 hb dX0_joinToLevelAhead_10 hl (by decide) rfl (fun ls hl => ?_)
  have key : ∀ f i : Nat, levN t - i < f → i ≤ levN t → (fl ≤ i) → ∀ (H : Heap) (locs : List Loc), HW g (xsIa S 2 (xJoinG S t fl st i)) H → va_S (Ab g) s.heap H locs → ∀ ls : Array Slot, lv_has ls 6 [(0, .ref (gA g 0)), (1, .int (nI t)), (2, .int (nI fl)), (3, .int (nI st)), (4, .int (nI i))] → W p l e ({ frames := 2, cells := 0, slots := 0, locals := 100 }) s m ([.ref (gA g 0), .int (nI t), .int (nI fl)] : List Value).toArray below meth c H locs 0 0 (MQ below (WQ g (xJoin S n t fl st) (none)) ([.ref (gA g 0), .int (nI t), .int (nI fl)] : List Value).toArray s 0 0 (Ab g)) (F0 m 12 ls []) := by
    intro f
    induction f with
    | zero => intro i h; exact absurd h (Nat.not_lt_zero _)
    | succ f ih =>
      intro i hfi hi h1 H locs hP hS ls hl
      refine lv_iload C.1 hb dX0_joinToLevelAhead_12 (lv_at hl 4 rfl) ?_
      refine gX_LEVELS C hb hS dX0_joinToLevelAhead_14 ?_
      refine lv_iload_n C.1 hb dX0_joinToLevelAhead_17 rfl (lv_at hl 1 rfl) ?_
      refine ldX_LEVELS (j := t) C hb hS rfl ht dX0_joinToLevelAhead_18 ?_
      refine lv_icmp_ge (tgt := 47) C.1 hb dX0_joinToLevelAhead_19 (by decide) (fun c40 => ?_) (fun c40 => ?_)
      · have hin : i = levN t := by have := le_nI (a := levN t) (b := i) (by omega) (by omega) c40; omega
        rw [hin] at hl hP
        refine lv_aload_n C.1 hb dX0_joinToLevelAhead_47 rfl (lv_at hl 0 rfl) ?_
        refine lv_iload_n C.1 hb dX0_joinToLevelAhead_48 rfl (lv_at hl 1 rfl) ?_
        refine lv_iload_n C.1 hb dX0_joinToLevelAhead_49 rfl (lv_at hl 3 rfl) ?_
        refine run_rd (cRunX (As := [.int (nI t), .int (nI st)]) (rest := []) C hb (hml.trans hl.1.symm) hP hS rfl (k_X0_groupMean l g (xJoin1 S t fl st) n (XI_ia 2 _ hI) t st ht (by omega)) wm_277 wm_278 wm_279 wm_280 wm_2 (n := 2) (by decide +kernel) rfl ⟨rfl, rfl, Nat.le_of_ble_eq_true rfl, Nat.le_of_ble_eq_true rfl⟩ (Nat.le_of_ble_eq_true rfl) rfl ⟨Nat.zero_le _, Nat.zero_le _⟩ dX0_joinToLevelAhead_50) ?_
        refine lv_istore (lv' := [(4, .int (xMean (xJoin1 S t fl st) n t st)), (0, .ref (gA g 0)), (1, .int (nI t)), (2, .int (nI fl)), (3, .int (nI st))]) C.1 hb dX0_joinToLevelAhead_53 hl (by decide) rfl (fun ls hl => ?_)
        refine lv_iload_n C.1 hb dX0_joinToLevelAhead_55 rfl (lv_at hl 4 rfl) ?_
        refine lv_istore (lv' := [(5, .int (nI st)), (4, .int (xMean (xJoin1 S t fl st) n t st)), (0, .ref (gA g 0)), (1, .int (nI t)), (2, .int (nI fl)), (3, .int (nI st))]) C.1 hb dX0_joinToLevelAhead_56 hl (by decide) rfl (fun ls hl => ?_)
        have key2 : ∀ f i : Nat, levN t - i < f → i ≤ levN t → (st ≤ i) → ∀ (H : Heap) (locs : List Loc), HW g (xsFac (xJoin1 S t fl st) t (xJoinF (xJoin1 S t fl st) t st (xMean (xJoin1 S t fl st) n t st) i)) H → va_S (Ab g) s.heap H locs → ∀ ls : Array Slot, lv_has ls 6 [(0, .ref (gA g 0)), (1, .int (nI t)), (3, .int (nI st)), (4, .int (xMean (xJoin1 S t fl st) n t st)), (5, .int (nI i))] → W p l e ({ frames := 2, cells := 0, slots := 0, locals := 100 }) s m ([.ref (gA g 0), .int (nI t), .int (nI fl)] : List Value).toArray below meth c H locs 0 0 (MQ below (WQ g (xJoin S n t fl st) (none)) ([.ref (gA g 0), .int (nI t), .int (nI fl)] : List Value).toArray s 0 0 (Ab g)) (F0 m 58 ls []) := by
          intro f
          induction f with
          | zero => intro i h; exact absurd h (Nat.not_lt_zero _)
          | succ f ih =>
            intro i hfi hi h2 H locs hP hS ls hl
            refine lv_iload C.1 hb dX0_joinToLevelAhead_58 (lv_at hl 4 rfl) ?_
            refine gX_LEVELS C hb hS dX0_joinToLevelAhead_60 ?_
            refine lv_iload_n C.1 hb dX0_joinToLevelAhead_63 rfl (lv_at hl 1 rfl) ?_
            refine ldX_LEVELS (j := t) C hb hS rfl ht dX0_joinToLevelAhead_64 ?_
            refine lv_icmp_ge (tgt := 96) C.1 hb dX0_joinToLevelAhead_65 (by decide) (fun c41 => ?_) (fun c41 => ?_)
            · have hin : i = levN t := by have := le_nI (a := levN t) (b := i) (by omega) (by omega) c41; omega
              rw [hin] at hl hP
              exact wrV C hb hret hlk hP hS dX0_joinToLevelAhead_96 rfl
            · have hlt : i < levN t := nle_nI (a := levN t) (b := i) (by omega) (by omega) c41
              refine lv_aload_n C.1 hb dX0_joinToLevelAhead_68 rfl (lv_at hl 0 rfl) ?_
              refine gX_groupStarts C hb hP dX0_joinToLevelAhead_69 ?_
              refine lv_iload C.1 hb dX0_joinToLevelAhead_72 (lv_at hl 4 rfl) ?_
              refine ldX_groupStarts (j := i) C hb hP rfl (by omega) dX0_joinToLevelAhead_74 ?_
              refine lv_iload_n C.1 hb dX0_joinToLevelAhead_75 rfl (lv_at hl 2 rfl) ?_
              refine lv_icmp_ne (tgt := 90) C.1 hb dX0_joinToLevelAhead_76 (by decide) (fun c42 => ?_) (fun c42 => ?_)
              · refine lv_iinc (v := nI (i + 1)) (lv' := [(5, .int (nI (i + 1))), (0, .ref (gA g 0)), (1, .int (nI t)), (3, .int (nI st)), (4, .int (xMean (xJoin1 S t fl st) n t st))]) C.1 hb dX0_joinToLevelAhead_90 hl (k := 4) rfl (nI_1 i) (by decide) rfl (fun ls hl => ?_)
                refine lv_goto (tgt := 58) C.1 hb dX0_joinToLevelAhead_93 (by decide) ?_
                exact ih (i + 1) (by omega) (by omega) (by omega) _ _ (by rw [jf_keep (xJoin1 S t fl st) t st i _ c42]; exact hP) hS ls (lv_sub hl [1, 2, 3, 4, 0] rfl)
              · refine lv_aload_n C.1 hb dX0_joinToLevelAhead_79 rfl (lv_at hl 0 rfl) ?_
                refine gX_factors C hb hP dX0_joinToLevelAhead_80 ?_
                refine lv_iload_n C.1 hb dX0_joinToLevelAhead_83 rfl (lv_at hl 1 rfl) ?_
                refine al_fac (t := t) C hb hP rfl ht dX0_joinToLevelAhead_84 ?_
                refine lv_iload C.1 hb dX0_joinToLevelAhead_85 (lv_at hl 4 rfl) ?_
                refine lv_iload C.1 hb dX0_joinToLevelAhead_87 (lv_at hl 3 rfl) ?_
                refine stX_fac (t := t) (j := i) C hb hP hS ht rfl (by omega) dX0_joinToLevelAhead_89 (fun H locs hP hS => ?_)
                refine lv_iinc (v := nI (i + 1)) (lv' := [(5, .int (nI (i + 1))), (0, .ref (gA g 0)), (1, .int (nI t)), (3, .int (nI st)), (4, .int (xMean (xJoin1 S t fl st) n t st))]) C.1 hb dX0_joinToLevelAhead_90 hl (k := 4) rfl (nI_1 i) (by decide) rfl (fun ls hl => ?_)
                refine lv_goto (tgt := 58) C.1 hb dX0_joinToLevelAhead_93 (by decide) ?_
                exact ih (i + 1) (by omega) (by omega) (by omega) _ _ (by rw [← jf_step (xJoin1 S t fl st) t st i _ h2 c42]; exact hP) hS ls (lv_sub hl [1, 2, 3, 4, 0] rfl)
        exact key2 (levN t - st + 1) st (by omega) (by omega) (Nat.le_refl _) _ _ (by rw [jf_0]; exact hP) hS ls (lv_sub hl [2, 3, 5, 1, 0] rfl)
      · have hlt : i < levN t := nle_nI (a := levN t) (b := i) (by omega) (by omega) c40
        refine lv_aload_n C.1 hb dX0_joinToLevelAhead_22 rfl (lv_at hl 0 rfl) ?_
        refine gX_groupStarts C hb hP dX0_joinToLevelAhead_23 ?_
        refine lv_iload C.1 hb dX0_joinToLevelAhead_26 (lv_at hl 4 rfl) ?_
        refine ldX_groupStarts (j := i) C hb hP rfl (by omega) dX0_joinToLevelAhead_28 ?_
        refine toI (show xIa (xsIa S 2 (xJoinG S t fl st i)) 2 i = xIa S 2 i by rw [ia_at, jg_at]) ?_
        refine lv_iload_n C.1 hb dX0_joinToLevelAhead_29 rfl (lv_at hl 2 rfl) ?_
        refine lv_icmp_ne (tgt := 41) C.1 hb dX0_joinToLevelAhead_30 (by decide) (fun c43 => ?_) (fun c43 => ?_)
        · refine lv_iinc (v := nI (i + 1)) (lv' := [(4, .int (nI (i + 1))), (0, .ref (gA g 0)), (1, .int (nI t)), (2, .int (nI fl)), (3, .int (nI st))]) C.1 hb dX0_joinToLevelAhead_41 hl (k := 4) rfl (nI_1 i) (by decide) rfl (fun ls hl => ?_)
          refine lv_goto (tgt := 12) C.1 hb dX0_joinToLevelAhead_44 (by decide) ?_
          exact ih (i + 1) (by omega) (by omega) (by omega) _ _ (by rw [jg_keep S t fl st i c43]; exact hP) hS ls (lv_sub hl [1, 2, 3, 4, 0] rfl)
        · refine lv_aload_n C.1 hb dX0_joinToLevelAhead_33 rfl (lv_at hl 0 rfl) ?_
          refine gX_groupStarts C hb hP dX0_joinToLevelAhead_34 ?_
          refine lv_iload C.1 hb dX0_joinToLevelAhead_37 (lv_at hl 4 rfl) ?_
          refine lv_iload_n C.1 hb dX0_joinToLevelAhead_39 rfl (lv_at hl 3 rfl) ?_
          refine stX_groupStarts (j := i) C hb hP hS rfl (by omega) dX0_joinToLevelAhead_40 (fun H locs hP hS => ?_)
          refine lv_iinc (v := nI (i + 1)) (lv' := [(4, .int (nI (i + 1))), (0, .ref (gA g 0)), (1, .int (nI t)), (2, .int (nI fl)), (3, .int (nI st))]) C.1 hb dX0_joinToLevelAhead_41 hl (k := 4) rfl (nI_1 i) (by decide) rfl (fun ls hl => ?_)
          refine lv_goto (tgt := 12) C.1 hb dX0_joinToLevelAhead_44 (by decide) ?_
          exact ih (i + 1) (by omega) (by omega) (by omega) _ _ (by rw [← jg_step S t fl st i h1 c43]; exact hP) hS ls (lv_sub hl [1, 2, 3, 4, 0] rfl)
  exact key (levN t - fl + 1) fl (by omega) (by omega) (Nat.le_refl _) _ _ (by rw [jg_0]; exact hP) hS ls (lv_sub hl [2, 3, 4, 1, 0] rfl)

set_option maxRecDepth 100000 in
set_option maxHeartbeats 4000000 in
theorem k_X0_changedSinceBefore (l : Launch) (g : gG) (S : WS) (t : Nat) (ht : t < 3) : Met l yX0_changedSinceBefore (wA yX0_changedSinceBefore cX0_changedSinceBefore 4 (some .int)) ({ frames := 0, cells := 0, slots := 0, locals := 0 }) (PW g S [.ref (gA g 0), .int (nI t)]) (RQ (some (.int (nI (xCnt (xChP S t) (levN t)))))) 0 0 (fun _ => False) := by
  refine metI (by decide +kernel) (Nat.le_of_ble_eq_true rfl) ?_
  intro p e s m below meth c C hb hml hret hlk hP ls hl
  have C : CW g RX0 p s m ([.ref (gA g 0), .int (nI t)] : List Value).toArray := C
  have hS : va_S (Ab g) s.heap s.heap [] := va_S.rf
  have hl : lv_has ls 4 [(0, .ref (gA g 0)), (1, .int (nI t))] := hl
  have h4 := levN_4 t
  refine lv_iconst (v := 0) C.1 hb dX0_changedSinceBefore_0 (by decide) ?_
  refine lv_istore_n (lv' := [(2, .int 0), (0, .ref (gA g 0)), (1, .int (nI t))]) C.1 hb dX0_changedSinceBefore_1 rfl hl (by decide) rfl (fun ls hl => ?_)
  refine lv_iconst (v := 0) C.1 hb dX0_changedSinceBefore_2 (by decide) ?_
  refine lv_istore_n (lv' := [(3, .int 0), (2, .int 0), (0, .ref (gA g 0)), (1, .int (nI t))]) C.1 hb dX0_changedSinceBefore_3 rfl hl (by decide) rfl (fun ls hl => ?_)
  have key : ∀ f i : Nat, levN t - i < f → i ≤ levN t → ∀ ls : Array Slot, lv_has ls 4 [(0, .ref (gA g 0)), (1, .int (nI t)), (2, .int (nI (xCnt (xChP S t) i))), (3, .int (nI i))] → W p l e ({ frames := 0, cells := 0, slots := 0, locals := 0 }) s m ([.ref (gA g 0), .int (nI t)] : List Value).toArray below meth c s.heap [] 0 0 (MQ below (RQ (some (.int (nI (xCnt (xChP S t) (levN t)))))) ([.ref (gA g 0), .int (nI t)] : List Value).toArray s 0 0 (fun _ => False)) (F0 m 4 ls []) := by
    intro f
    induction f with
    | zero => intro i h; exact absurd h (Nat.not_lt_zero _)
    | succ f ih =>
      intro i hfi hi  ls hl
      refine lv_iload_n C.1 hb dX0_changedSinceBefore_4 rfl (lv_at hl 3 rfl) ?_
      refine gX_LEVELS C hb hS dX0_changedSinceBefore_5 ?_
      refine lv_iload_n C.1 hb dX0_changedSinceBefore_8 rfl (lv_at hl 1 rfl) ?_
      refine ldX_LEVELS (j := t) C hb hS rfl ht dX0_changedSinceBefore_9 ?_
      refine lv_icmp_ge (tgt := 39) C.1 hb dX0_changedSinceBefore_10 (by decide) (fun c44 => ?_) (fun c44 => ?_)
      · have hin : i = levN t := by have := le_nI (a := levN t) (b := i) (by omega) (by omega) c44; omega
        rw [hin] at hl
        refine lv_iload_n C.1 hb dX0_changedSinceBefore_39 rfl (lv_at hl 2 rfl) ?_
        exact rdI C hb hret hlk dX0_changedSinceBefore_40 rfl
      · have hlt : i < levN t := nle_nI (a := levN t) (b := i) (by omega) (by omega) c44
        refine lv_aload_n C.1 hb dX0_changedSinceBefore_13 rfl (lv_at hl 0 rfl) ?_
        refine gX_factors C hb hP dX0_changedSinceBefore_14 ?_
        refine lv_iload_n C.1 hb dX0_changedSinceBefore_17 rfl (lv_at hl 1 rfl) ?_
        refine al_fac (t := t) C hb hP rfl ht dX0_changedSinceBefore_18 ?_
        refine lv_iload_n C.1 hb dX0_changedSinceBefore_19 rfl (lv_at hl 3 rfl) ?_
        refine ldX_fac (t := t) (j := i) C hb hP ht rfl (by omega) dX0_changedSinceBefore_20 ?_
        refine lv_aload_n C.1 hb dX0_changedSinceBefore_21 rfl (lv_at hl 0 rfl) ?_
        refine gX_factorsBefore C hb hP dX0_changedSinceBefore_22 ?_
        refine lv_iload_n C.1 hb dX0_changedSinceBefore_25 rfl (lv_at hl 3 rfl) ?_
        refine ldX_factorsBefore (j := i) C hb hP rfl (by omega) dX0_changedSinceBefore_26 ?_
        refine lv_icmp_eq (tgt := 33) C.1 hb dX0_changedSinceBefore_27 (by decide) (fun c45 => ?_) (fun c45 => ?_)
        · refine lv_iinc (v := nI (i + 1)) (lv' := [(3, .int (nI (i + 1))), (0, .ref (gA g 0)), (1, .int (nI t)), (2, .int (nI (xCnt (xChP S t) i)))]) C.1 hb dX0_changedSinceBefore_33 hl (k := 3) rfl (nI_1 i) (by decide) rfl (fun ls hl => ?_)
          refine lv_goto (tgt := 4) C.1 hb dX0_changedSinceBefore_36 (by decide) ?_
          exact ih (i + 1) (by omega) (by omega)  ls (by rw [xCnt_f (show xChP S t i = false by simp [xChP, c45])]; exact lv_sub hl [1, 2, 3, 0] rfl)
        · refine lv_iinc (v := nI ((xCnt (xChP S t) i) + 1)) (lv' := [(2, .int (nI ((xCnt (xChP S t) i) + 1))), (0, .ref (gA g 0)), (1, .int (nI t)), (3, .int (nI i))]) C.1 hb dX0_changedSinceBefore_30 hl (k := 2) rfl (nI_1 (xCnt (xChP S t) i)) (by decide) rfl (fun ls hl => ?_)
          refine lv_iinc (v := nI (i + 1)) (lv' := [(3, .int (nI (i + 1))), (2, .int (nI ((xCnt (xChP S t) i) + 1))), (0, .ref (gA g 0)), (1, .int (nI t))]) C.1 hb dX0_changedSinceBefore_33 hl (k := 3) rfl (nI_1 i) (by decide) rfl (fun ls hl => ?_)
          refine lv_goto (tgt := 4) C.1 hb dX0_changedSinceBefore_36 (by decide) ?_
          exact ih (i + 1) (by omega) (by omega)  ls (by rw [xCnt_t (show xChP S t i = true by simp [xChP, c45])]; exact lv_sub hl [2, 3, 1, 0] rfl)
  exact key (levN t - 0 + 1) 0 (by omega) (by omega)  ls (lv_sub hl [2, 3, 1, 0] rfl)

set_option maxRecDepth 100000 in
set_option maxHeartbeats 4000000 in
theorem k_X0_settle (l : Launch) (g : gG) (S : WS) (n : Nat) (hI : XI n S) : Met l yX0_settle (wA yX0_settle cX0_settle 2 (some .int)) ({ frames := 5, cells := 0, slots := 0, locals := 200 }) (PW g S [.ref (gA g 0)]) (WQ g ((xSettle n 60 1 S).2) (some (.int (nI (xSettle n 60 1 S).1)))) 0 0 (Ab g) := by
  refine metI (by decide +kernel) (Nat.le_of_ble_eq_true rfl) ?_
  intro p e s m below meth c C hb hml hret hlk hP ls hl
  have C : CW g RX0 p s m ([.ref (gA g 0)] : List Value).toArray := C
  have hS : va_S (Ab g) s.heap s.heap [] := va_S.rf
  have hl : lv_has ls 2 [(0, .ref (gA g 0))] := hl
  refine lv_iconst (v := 1) C.1 hb dX0_settle_0 (by decide) ?_
  refine lv_istore_n (lv' := [(1, .int 1), (0, .ref (gA g 0))]) C.1 hb dX0_settle_1 rfl hl (by decide) rfl (fun ls hl => ?_)
  have key : ∀ (f r : Nat) (S1 : WS), r + f = 61 → XI n S1 → xSettle n f r S1 = xSettle n 60 1 S → ∀ (H : Heap) (locs : List Loc), HW g S1 H → va_S (Ab g) s.heap H locs → ∀ ls : Array Slot, lv_has ls 2 [(0, .ref (gA g 0)), (1, .int (nI r))] → W p l e ({ frames := 5, cells := 0, slots := 0, locals := 200 }) s m ([.ref (gA g 0)] : List Value).toArray below meth c H locs 0 0 (MQ below (WQ g ((xSettle n 60 1 S).2) (some (.int (nI (xSettle n 60 1 S).1)))) ([.ref (gA g 0)] : List Value).toArray s 0 0 (Ab g)) (F0 m 2 ls []) := by
    intro f
    induction f with
    | zero =>
      intro r S1 hr1 hI1 he H locs hP hS ls hl
      refine lv_iload_n C.1 hb dX0_settle_2 rfl (lv_at hl 1 rfl) ?_
      refine lv_bipush (v := 60) C.1 hb dX0_settle_3 (by decide) ?_
      refine lv_icmp_gt (tgt := 23) C.1 hb dX0_settle_5 (by decide) (fun c46 => ?_) (fun c46 => ?_)
      · refine lv_bipush (v := 60) C.1 hb dX0_settle_23 (by decide) ?_
        exact wrI C hb hret hlk hP hS dX0_settle_25 (by rw [← he]; rfl) (by rw [← he]; rfl)
      · exact absurd ((nI_ltI (a := 60) (b := r) (by decide) (by omega)).mpr (by omega)) c46
    | succ f ih =>
      intro r S1 hr1 hI1 he H locs hP hS ls hl
      refine lv_iload_n C.1 hb dX0_settle_2 rfl (lv_at hl 1 rfl) ?_
      refine lv_bipush (v := 60) C.1 hb dX0_settle_3 (by decide) ?_
      refine lv_icmp_gt (tgt := 23) C.1 hb dX0_settle_5 (by decide) (fun c47 => ?_) (fun c47 => ?_)
      · exact absurd ((nI_ltI (a := 60) (b := r) (by decide) (by omega)).mp c47) (by omega)
      · refine lv_aload_n C.1 hb dX0_settle_8 rfl (lv_at hl 0 rfl) ?_
        refine run_wr (cRunX (As := []) (rest := []) C hb (hml.trans hl.1.symm) hP hS rfl (k_X0_changedByRound l g S1 n hI1) wm_254 wm_255 wm_256 wm_257 wm_2 (n := 0) (by decide +kernel) rfl ⟨rfl, rfl, Nat.le_of_ble_eq_true rfl, Nat.le_of_ble_eq_true rfl⟩ (Nat.le_of_ble_eq_true rfl) rfl ⟨Nat.zero_le _, Nat.zero_le _⟩ dX0_settle_9) hS (fun H locs hP hS => ?_)
        have hc := xRoundC_le S1 n 3
        refine lv_if_ne (tgt := 17) C.1 hb dX0_settle_12 (by decide) (fun c48 => ?_) (fun c48 => ?_)
        · have hd : ¬ xRoundC S1 n 3 = 0 := fun q => c48 (by rw [q]; rfl)
          refine lv_iinc (v := nI (r + 1)) (lv' := [(1, .int (nI (r + 1))), (0, .ref (gA g 0))]) C.1 hb dX0_settle_17 hl (k := 1) rfl (nI_1 r) (by decide) rfl (fun ls hl => ?_)
          refine lv_goto (tgt := 2) C.1 hb dX0_settle_20 (by decide) ?_
          exact ih (r + 1) (xRound S1 n 3) (by omega) (XI_round hI1 3) ((if_neg hd).symm.trans he) _ _ hP hS ls (lv_sub hl [1, 0] rfl)
        · have hd : xRoundC S1 n 3 = 0 := (nI_eq (b := 0) (by omega) (by decide)).mp c48
          have he2 : (r, xRound S1 n 3) = xSettle n 60 1 S := (if_pos hd).symm.trans he
          refine lv_iload_n C.1 hb dX0_settle_15 rfl (lv_at hl 1 rfl) ?_
          exact wrI C hb hret hlk hP hS dX0_settle_16 (by rw [← he2]) (by rw [← he2])
  exact key 60 1 S rfl hI rfl _ _ hP hS ls (lv_sub hl [1, 0] rfl)

set_option maxRecDepth 100000 in
set_option maxHeartbeats 4000000 in
theorem k_X0_spread (l : Launch) (g : gG) (S : WS) (n : Nat) (hI : XI n S) : Met l yX0_spread (wA yX0_spread cX0_spread 5 (some .int)) ({ frames := 4, cells := 0, slots := 0, locals := 160 }) (PW g S [.ref (gA g 0)]) (WQ g (xSpread S n) (some (.int (xSc (xSpread S n) 4)))) 0 0 (Ab g) := by
  refine metI (by decide +kernel) (Nat.le_of_ble_eq_true rfl) ?_
  intro p e s m below meth c C hb hml hret hlk hP ls hl
  have C : CW g RX0 p s m ([.ref (gA g 0)] : List Value).toArray := C
  have hS : va_S (Ab g) s.heap s.heap [] := va_S.rf
  have hl : lv_has ls 5 [(0, .ref (gA g 0))] := hl
  refine lv_aload_n C.1 hb dX0_spread_0 rfl (lv_at hl 0 rfl) ?_
  refine run_rd (cRunX (As := []) (rest := []) C hb (hml.trans hl.1.symm) hP hS rfl (k_X0_cappedTotal l g S n hI) wm_309 wm_310 wm_311 wm_312 wm_2 (n := 0) (by decide +kernel) rfl ⟨rfl, rfl, Nat.le_of_ble_eq_true rfl, Nat.le_of_ble_eq_true rfl⟩ (Nat.le_of_ble_eq_true rfl) rfl ⟨Nat.zero_le _, Nat.zero_le _⟩ dX0_spread_1) ?_
  refine lv_lstore_n (lv' := [(1, .long (xTot (xIa S 1) (xCapP S) n)), (0, .ref (gA g 0))]) C.1 hb dX0_spread_4 rfl hl (by decide) rfl (fun ls hl => ?_)
  refine lv_lload_n C.1 hb dX0_spread_5 rfl (lv_at hl 0 rfl) ?_
  refine lv_lconst (v := 0) C.1 hb dX0_spread_6 (by decide) ?_
  refine lc_le (tgt := 55) C hb dX0_spread_7 dX0_spread_8 (by decide) (fun c49 => ?_) (fun c49 => ?_)
  · refine lv_aload_n C.1 hb dX0_spread_55 rfl (lv_at hl 1 rfl) ?_
    refine gX_spreadNow C hb hP dX0_spread_56 ?_
    exact wrI C hb hret hlk hP hS dX0_spread_59 (by unfold xSpread; rw [if_pos c49]) (by unfold xSpread; rw [if_pos c49])
  · refine lv_ldc2 (v := 10000) C.1 hb C.2.1 (C.2.2.1 _ wm_81) dX0_spread_11 ?_
    refine lv_aload_n C.1 hb dX0_spread_14 rfl (lv_at hl 1 rfl) ?_
    refine lv_aload_n C.1 hb dX0_spread_15 rfl (lv_at hl 1 rfl) ?_
    refine gX_fittedLosses C hb hP dX0_spread_16 ?_
    refine run_rd (cRunX (As := [.ref (gA g 14)]) (rest := [.long 10000]) C hb (hml.trans hl.1.symm) hP hS rfl (k_X0_total l g S n hI 3 (by decide)) wm_82 wm_83 wm_84 wm_85 wm_2 (n := 1) (by decide +kernel) rfl ⟨rfl, rfl, Nat.le_of_ble_eq_true rfl, Nat.le_of_ble_eq_true rfl⟩ (Nat.le_of_ble_eq_true rfl) rfl ⟨Nat.zero_le _, Nat.zero_le _⟩ dX0_spread_19) ?_
    refine lv_lmul C.1 hb dX0_spread_22 ?_
    refine lv_lload_n C.1 hb dX0_spread_23 rfl (lv_at hl 0 rfl) ?_
    refine lv_ldiv C.1 hb dX0_spread_24 (ne0_nle c49) ?_
    refine lv_ldc2 (v := 1000000) C.1 hb C.2.1 (C.2.2.1 _ wm_308) dX0_spread_25 ?_
    refine va_mmin_long C.1 hb (hml.trans hl.1.symm) C.2.1 (C.2.2.1 _ wm_209) (C.2.2.1 _ wm_210) (C.2.2.1 _ wm_207) (C.2.2.1 _ wm_211) (Nat.le_of_ble_eq_true rfl) (Nat.le_of_ble_eq_true rfl) (Nat.zero_le _) (Nat.zero_le _) dX0_spread_28 ?_
    refine lv_lstore_n (lv' := [(3, .long (mn64 ((10000 * (xTot (xIa S 1) (xLng S 3) n)) / (xTot (xIa S 1) (xCapP S) n)) 1000000)), (1, .long (xTot (xIa S 1) (xCapP S) n)), (0, .ref (gA g 0))]) C.1 hb dX0_spread_31 rfl hl (by decide) rfl (fun ls hl => ?_)
    refine lv_aload_n C.1 hb dX0_spread_32 rfl (lv_at hl 2 rfl) ?_
    refine lv_aload_n C.1 hb dX0_spread_33 rfl (lv_at hl 2 rfl) ?_
    refine gX_spreadNow C hb hP dX0_spread_34 ?_
    refine lv_i2l C.1 hb dX0_spread_37 rfl ?_
    refine lv_lload_n C.1 hb dX0_spread_38 rfl (lv_at hl 0 rfl) ?_
    refine lv_lmul C.1 hb dX0_spread_39 ?_
    refine lv_ldc2 (v := 10000) C.1 hb C.2.1 (C.2.2.1 _ wm_81) dX0_spread_40 ?_
    refine lv_ldiv C.1 hb dX0_spread_43 (by decide) ?_
    refine lv_lconst (v := 1) C.1 hb dX0_spread_44 (by decide) ?_
    refine lv_ldc2 (v := 1000000) C.1 hb C.2.1 (C.2.2.1 _ wm_308) dX0_spread_45 ?_
    refine run_rd (cRunS (As := [.long (((xSc S 4).toInt64 * (mn64 ((10000 * (xTot (xIa S 1) (xLng S 3) n)) / (xTot (xIa S 1) (xCapP S) n)) 1000000)) / 10000), .long 1, .long 1000000]) (rest := [.ref (gA g 0)]) C hb (hml.trans hl.1.symm) hP hS (k_X0_bounded l g S (((xSc S 4).toInt64 * (mn64 ((10000 * (xTot (xIa S 1) (xLng S 3) n)) / (xTot (xIa S 1) (xCapP S) n)) 1000000)) / 10000) 1 1000000) wm_202 wm_203 wm_204 wm_2 (n := 3) (by decide +kernel) rfl ⟨rfl, rfl, Nat.le_of_ble_eq_true rfl, Nat.le_of_ble_eq_true rfl⟩ (Nat.le_of_ble_eq_true rfl) rfl ⟨Nat.zero_le _, Nat.zero_le _⟩ dX0_spread_48) ?_
    refine lv_l2i C.1 hb dX0_spread_51 rfl ?_
    refine pX_spreadNow C hb hP hS dX0_spread_52 (fun H locs hP hS => ?_)
    refine lv_aload_n C.1 hb dX0_spread_55 rfl (lv_at hl 2 rfl) ?_
    refine gX_spreadNow C hb hP dX0_spread_56 ?_
    exact wrI C hb hret hlk hP hS dX0_spread_59 (by unfold xSpread; rw [if_neg c49]; rfl) (by unfold xSpread; rw [if_neg c49]; rfl)

set_option maxRecDepth 100000 in
set_option maxHeartbeats 4000000 in
theorem k_X0_rows (l : Launch) (g : gG) (S : WS) : Met l yX0_rows (wA yX0_rows cX0_rows 1 (some .int)) ({ frames := 0, cells := 0, slots := 0, locals := 0 }) (PW g S [.ref (gA g 0)]) (RQ (some (.int (xSc S 1)))) 0 0 (fun _ => False) := by
  refine metI (by decide +kernel) (Nat.le_of_ble_eq_true rfl) ?_
  intro p e s m below meth c C hb hml hret hlk hP ls hl
  have C : CW g RX0 p s m ([.ref (gA g 0)] : List Value).toArray := C
  have hS : va_S (Ab g) s.heap s.heap [] := va_S.rf
  have hl : lv_has ls 1 [(0, .ref (gA g 0))] := hl
  refine lv_aload_n C.1 hb dX0_rows_0 rfl (lv_at hl 0 rfl) ?_
  refine gX_liveRows C hb hP dX0_rows_1 ?_
  exact rdI C hb hret hlk dX0_rows_4 rfl

set_option maxRecDepth 100000 in
set_option maxHeartbeats 4000000 in
theorem k_X0_base (l : Launch) (g : gG) (S : WS) : Met l yX0_base (wA yX0_base cX0_base 1 (some .long)) ({ frames := 0, cells := 0, slots := 0, locals := 0 }) (PW g S [.ref (gA g 0)]) (RQ (some (.long (xBase S)))) 0 0 (fun _ => False) := by
  refine metI (by decide +kernel) (Nat.le_of_ble_eq_true rfl) ?_
  intro p e s m below meth c C hb hml hret hlk hP ls hl
  have C : CW g RX0 p s m ([.ref (gA g 0)] : List Value).toArray := C
  have hS : va_S (Ab g) s.heap s.heap [] := va_S.rf
  have hl : lv_has ls 1 [(0, .ref (gA g 0))] := hl
  refine lv_aload_n C.1 hb dX0_base_0 rfl (lv_at hl 0 rfl) ?_
  refine gX_baseNow C hb hP dX0_base_1 ?_
  exact rdL C hb hret hlk dX0_base_4 rfl

set_option maxRecDepth 100000 in
set_option maxHeartbeats 4000000 in
theorem k_X0_lost (l : Launch) (g : gG) (S : WS) (n : Nat) (hI : XI n S) : Met l yX0_lost (wA yX0_lost cX0_lost 1 (some .long)) ({ frames := 4, cells := 0, slots := 0, locals := 160 }) (PW g S [.ref (gA g 0)]) (RQ (some (.long (xTot (xIa S 1) (xLng S 3) n - xTot (xIa S 1) (xCapP S) n)))) 0 0 (fun _ => False) := by
  refine metI (by decide +kernel) (Nat.le_of_ble_eq_true rfl) ?_
  intro p e s m below meth c C hb hml hret hlk hP ls hl
  have C : CW g RX0 p s m ([.ref (gA g 0)] : List Value).toArray := C
  have hS : va_S (Ab g) s.heap s.heap [] := va_S.rf
  have hl : lv_has ls 1 [(0, .ref (gA g 0))] := hl
  refine lv_aload_n C.1 hb dX0_lost_0 rfl (lv_at hl 0 rfl) ?_
  refine lv_aload_n C.1 hb dX0_lost_1 rfl (lv_at hl 0 rfl) ?_
  refine gX_fittedLosses C hb hP dX0_lost_2 ?_
  refine run_rd (cRunX (As := [.ref (gA g 14)]) (rest := []) C hb (hml.trans hl.1.symm) hP hS rfl (k_X0_total l g S n hI 3 (by decide)) wm_82 wm_83 wm_84 wm_85 wm_2 (n := 1) (by decide +kernel) rfl ⟨rfl, rfl, Nat.le_of_ble_eq_true rfl, Nat.le_of_ble_eq_true rfl⟩ (Nat.le_of_ble_eq_true rfl) rfl ⟨Nat.zero_le _, Nat.zero_le _⟩ dX0_lost_5) ?_
  refine lv_aload_n C.1 hb dX0_lost_8 rfl (lv_at hl 0 rfl) ?_
  refine run_rd (cRunX (As := []) (rest := [.long (xTot (xIa S 1) (xLng S 3) n)]) C hb (hml.trans hl.1.symm) hP hS rfl (k_X0_cappedTotal l g S n hI) wm_309 wm_310 wm_311 wm_312 wm_2 (n := 0) (by decide +kernel) rfl ⟨rfl, rfl, Nat.le_of_ble_eq_true rfl, Nat.le_of_ble_eq_true rfl⟩ (Nat.le_of_ble_eq_true rfl) rfl ⟨Nat.zero_le _, Nat.zero_le _⟩ dX0_lost_9) ?_
  refine lv_lsub C.1 hb dX0_lost_12 ?_
  exact rdL C hb hret hlk dX0_lost_13 rfl
end
section
/-! methods that throw: the contract tells which, by the numbers -/
def xNames : List String := ["java/lang/RuntimeException", "java/lang/Exception"]
def eIAE : String := "java/lang/IllegalArgumentException"
def eISE : String := "java/lang/IllegalStateException"
def eIOB : String := "java/lang/IndexOutOfBoundsException"
def nwX (E : String) : List Cond := [.castable E E, .declares (Bundle.initS "java/lang/RuntimeException"), .declares (Bundle.initS "java/lang/Exception"), .declares (Bundle.initS Bundle.tN)]
def TQ (g : gG) (S' : WS) (ex : Option String) (v : Option Value) : Array Value → State → Outcome → State → Prop := fun _ st o t => ex = none ∧ o = .returned v ∧ HW g S' t.heap ∧ va_F (Ab g) st t
def TX (g : gG) (S' : WS) (ex : Option String) : String → State → State → Prop := fun E st t => ex = some E ∧ HW g S' t.heap ∧ va_F (Ab g) st t
theorem atI : ∀ w ∈ (vx_atS RX0 78 eIAE xNames).filter goodWord, w ∈ WA := fun w hw => List.mem_append_left _ (List.mem_append_left _ (List.mem_append_right _ hw))
theorem anI : ∀ w ∈ (vx_atS RX0 78 eIAE xNames).filter (fun w => !goodWord w), w ∈ nwX eIAE := by decide +kernel
theorem atS : ∀ w ∈ (vx_atS RX0 92 eISE xNames).filter goodWord, w ∈ WA := fun w hw => List.mem_append_left _ (List.mem_append_right _ hw)
theorem anS : ∀ w ∈ (vx_atS RX0 92 eISE xNames).filter (fun w => !goodWord w), w ∈ nwX eISE := by decide +kernel
theorem atB : ∀ w ∈ (vx_atS RX0 104 eIOB xNames).filter goodWord, w ∈ WA := fun w hw => List.mem_append_right _ hw
theorem anB : ∀ w ∈ (vx_atS RX0 104 eIOB xNames).filter (fun w => !goodWord w), w ∈ nwX eIOB := by decide +kernel
theorem goI : ∀ w ∈ Cond.classLink RX0 74 eIAE :: Cond.initialized eIAE :: vx_atS RX0 78 eIAE xNames, vx_ot w = true := List.all_eq_true.mp (by decide +kernel)
theorem goS : ∀ w ∈ Cond.classLink RX0 88 eISE :: Cond.initialized eISE :: vx_atS RX0 92 eISE xNames, vx_ot w = true := List.all_eq_true.mp (by decide +kernel)
theorem goB : ∀ w ∈ Cond.classLink RX0 100 eIOB :: Cond.initialized eIOB :: vx_atS RX0 104 eIOB xNames, vx_ot w = true := List.all_eq_true.mp (by decide +kernel)
section WTHROW
variable {p : Program} {l : Launch} {e : Env} {R : Room} {s : State} {m : MethodId} {args : Array Value} {below : List Frame} {meth : Method} {c : Code} {H : Heap} {locs : List Loc} {cells slots : Nat} {Q : State → Prop}
variable {cc : ByteArray} {pc : Nat} {ls : Array Slot} {rest st0 : List Value} {g : gG} {S S' : WS} {own : String} {ex : Option String}
theorem metX {y : MethodName} {maxL mc ms : Nat} {ret : Option FieldType} {rm : Room} {As : List Value} {Qc : Array Value → State → Outcome → State → Prop} {XC : String → State → State → Prop} {free : Addr → Prop} (hy : plainName y.cls = true) (hlen : (lg_sl As).length ≤ maxL)
    (body : ∀ p e s m below meth c, CW g y.cls p s m As.toArray → c.code = cc → c.maxLocals = maxL → meth.sig.returnType = ret → meth.locks = false → HW g S s.heap → (∀ x ∈ c.exceptionTable.toList, False) → ∀ ls, lv_has ls maxL (lv_args 0 As) → W p l e rm s m As.toArray below meth c s.heap [] 0 0 (vx_MQ below Qc XC As.toArray s mc ms free) (F0 m 0 ls [])) : vx_Met l y (wA y cc maxL ret) rm (PW g S As) Qc XC mc ms free := by
  refine vx_ofW (cc := cc) (maxL := maxL) (ret := ret) hy rfl ?_
  intro p e s m args below meth c s₁ B hml het hv
  obtain ⟨rfl, hK, hP⟩ := hv
  have hts := atoms_spec (ws := wA y cc maxL ret) B.pre
  rw [lg_entry_eq]
  exact body p e s m below meth c ⟨B.exec, findClass_of_methodNamed B.named, fun w h => hts w (List.mem_cons_of_mem _ h), hK⟩ B.bytes hml B.returns B.notSynchronized hP het _ (lv_entry As hlen)
theorem txI (C : CW g own p s m args) (hb : c.code = cc) (hr : meth.sig.returnType = some .int) (hlk : meth.locks = false) (hP : HW g S H) (hS : va_S (Ab g) s.heap H locs) {v v' : Int32} (hdg : decode cc pc = .ok (.ireturn, 1)) (hv : v' = v) (hE : S = S') (hx : ex = none) : W p l e R s m args below meth c H locs 0 0 (vx_MQ below (TQ g S' ex (some (.int v))) (TX g S' ex) args s 1 6 (Ab g)) (F0 m pc ls [.int v']) := by
  subst hv
  subst hE
  exact W.widen (k := 1) (n := 6) (by omega) (by omega) (vx_ret (W.iret C.1 hb hr (fun t ht _ => ⟨hx, rfl, by rw [ht]; exact hP, hS.F ht⟩) hS.2.2 hdg hlk))
theorem txL (C : CW g own p s m args) (hb : c.code = cc) (hr : meth.sig.returnType = some .long) (hlk : meth.locks = false) (hP : HW g S H) (hS : va_S (Ab g) s.heap H locs) {v v' : Int64} (hdg : decode cc pc = .ok (.lreturn, 1)) (hv : v' = v) (hE : S = S') (hx : ex = none) : W p l e R s m args below meth c H locs 0 0 (vx_MQ below (TQ g S' ex (some (.long v))) (TX g S' ex) args s 1 6 (Ab g)) (F0 m pc ls [.long v']) := by
  subst hv
  subst hE
  exact W.widen (k := 1) (n := 6) (by omega) (by omega) (vx_ret (W.lret C.1 hb hr (fun t ht _ => ⟨hx, rfl, by rw [ht]; exact hP, hS.F ht⟩) hS.2.2 hdg hlk))
theorem HW.grown {H1 : Heap} (hP : HW g S H) (hq : ∀ q : Nat, q < H.size → H1[q]? = H[q]?) : HW g S H1 := va_P.kept hP (fun k x hx => hq x.1 ((hP k x hx).lt))
theorem va_S.grown {A : Nat → Prop} {H1 : Heap} (hS : va_S A s.heap H locs) (hz : H.size ≤ H1.size) (hq : ∀ q : Nat, q < H.size → H1[q]? = H[q]?) : s.heap.size ≤ H1.size ∧ ∀ q : Nat, q < s.heap.size → ¬ A q → H1[q]? = s.heap[q]? :=
  ⟨Nat.le_trans hS.1 hz, fun q h1 h2 => (hq q (Nat.lt_of_lt_of_le h1 hS.1)).trans (hS.2.1 q h1 h2)⟩
theorem xthrow (C : CW g RX0 p s m args) (hb : c.code = cc) (hl0 : l.stackTraces = false) (hlk : meth.locks = false) (hP : HW g S H) (hS : va_S (Ab g) s.heap H locs) (hml : ls.size = c.maxLocals) (het : ∀ x ∈ c.exceptionTable.toList, False) {cls text : String} {ik is ic : Nat} {Qc : Array Value → State → Outcome → State → Prop}
    (hfit : Bundle.fit cls = true) (hk : Cond.classLink RX0 ik cls ∈ WA) (hini : Cond.initialized cls ∈ WA) (hat : ∀ w ∈ (vx_atS RX0 ic cls xNames).filter goodWord, w ∈ WA) (han : ∀ w ∈ (vx_atS RX0 ic cls xNames).filter (fun w => !goodWord w), w ∈ nwX cls) (hex : cls ∈ exsX) (hgood : ∀ w ∈ Cond.classLink RX0 ik cls :: Cond.initialized cls :: vx_atS RX0 ic cls xNames, vx_ot w = true) (hstr : (is, text) ∈ strsX)
    (d0 : decode cc pc = .ok (.new ik, 3)) (d3 : decode cc (pc + 3) = .ok (.dup, 1)) (d4 : decode cc (pc + 4) = .ok (.ldc is, 2)) (d6 : decode cc (pc + 6) = .ok (.invokespecial ic, 3)) (d9 : decode cc (pc + 9) = .ok (.athrow, 1))
    (hR : 5 < R.frames ∧ 82 ≤ R.locals ∧ 1 ≤ R.cells ∧ 6 ≤ R.slots) (hx : ex = some cls) (hE : S = S') : W p l e R s m args below meth c H locs 0 0 (vx_MQ below Qc (TX g S' ex) args s 1 6 (Ab g)) (F0 m pc ls []) := by
  subst hE
  obtain ⟨sa, hsa⟩ := C.2.2.2.2.2.2.2.2.1.1 _ hstr
  exact vx_throwS (names := xNames) (text := text) (sa := sa) C.1 hb hl0 C.2.1 hfit (by decide +kernel) (C.2.2.1 _ hk) (C.2.2.1 _ hini) hsa (vx_hat (B := nwX cls) (fun w hw => C.2.2.1 _ (hat w hw)) han (vx_c (va_Nw.use rfl (C.2.2.2.2.2.2.2.2.1.2.1 _ hex)) (vx_c (va_Nw.use rfl (C.2.2.2.2.2.2.2.2.1.2.2 _ (by decide))) (vx_c (va_Nw.use rfl (C.2.2.2.2.2.2.2.2.1.2.2 _ (by decide))) (vx_c (va_Nw.use rfl (C.2.2.2.2.2.2.2.2.1.2.2 _ (by decide))) vx_n))))) hgood C.2.2.2.2.2.2.1 C.2.2.2.2.2.2.2.1 hS hml d0 d3 d4 d6 d9 (fun x hx => (het x hx).elim) hR.1 (by show 0 + 82 ≤ R.locals; omega) (by omega) (by omega) hlk
    (fun t _ hz hq => ⟨hx, HW.grown hP hq, va_S.grown hS hz hq⟩) hS.2.2 (by omega) (by omega)
theorem xthrowI (C : CW g RX0 p s m args) (hb : c.code = cc) (hl0 : l.stackTraces = false) (hlk : meth.locks = false) (hP : HW g S H) (hS : va_S (Ab g) s.heap H locs) (hml : ls.size = c.maxLocals) (het : ∀ x ∈ c.exceptionTable.toList, False) {text : String} {is : Nat} {Qc : Array Value → State → Outcome → State → Prop} (hstr : (is, text) ∈ strsX)
    (d0 : decode cc pc = .ok (.new 74, 3)) (d3 : decode cc (pc + 3) = .ok (.dup, 1)) (d4 : decode cc (pc + 4) = .ok (.ldc is, 2)) (d6 : decode cc (pc + 6) = .ok (.invokespecial 78, 3)) (d9 : decode cc (pc + 9) = .ok (.athrow, 1))
    (hR : 5 < R.frames ∧ 82 ≤ R.locals ∧ 1 ≤ R.cells ∧ 6 ≤ R.slots) (hx : ex = some eIAE) (hE : S = S') : W p l e R s m args below meth c H locs 0 0 (vx_MQ below Qc (TX g S' ex) args s 1 6 (Ab g)) (F0 m pc ls []) :=
  xthrow C hb hl0 hlk hP hS hml het (by decide +kernel) wm_62 wm_63 atI anI (by decide) goI hstr d0 d3 d4 d6 d9 hR hx hE
theorem xthrowS (C : CW g RX0 p s m args) (hb : c.code = cc) (hl0 : l.stackTraces = false) (hlk : meth.locks = false) (hP : HW g S H) (hS : va_S (Ab g) s.heap H locs) (hml : ls.size = c.maxLocals) (het : ∀ x ∈ c.exceptionTable.toList, False) {text : String} {is : Nat} {Qc : Array Value → State → Outcome → State → Prop} (hstr : (is, text) ∈ strsX)
    (d0 : decode cc pc = .ok (.new 88, 3)) (d3 : decode cc (pc + 3) = .ok (.dup, 1)) (d4 : decode cc (pc + 4) = .ok (.ldc is, 2)) (d6 : decode cc (pc + 6) = .ok (.invokespecial 92, 3)) (d9 : decode cc (pc + 9) = .ok (.athrow, 1))
    (hR : 5 < R.frames ∧ 82 ≤ R.locals ∧ 1 ≤ R.cells ∧ 6 ≤ R.slots) (hx : ex = some eISE) (hE : S = S') : W p l e R s m args below meth c H locs 0 0 (vx_MQ below Qc (TX g S' ex) args s 1 6 (Ab g)) (F0 m pc ls []) :=
  xthrow C hb hl0 hlk hP hS hml het (by decide +kernel) wm_64 wm_65 atS anS (by decide) goS hstr d0 d3 d4 d6 d9 hR hx hE
theorem xthrowB (C : CW g RX0 p s m args) (hb : c.code = cc) (hl0 : l.stackTraces = false) (hlk : meth.locks = false) (hP : HW g S H) (hS : va_S (Ab g) s.heap H locs) (hml : ls.size = c.maxLocals) (het : ∀ x ∈ c.exceptionTable.toList, False) {text : String} {is : Nat} {Qc : Array Value → State → Outcome → State → Prop} (hstr : (is, text) ∈ strsX)
    (d0 : decode cc pc = .ok (.new 100, 3)) (d3 : decode cc (pc + 3) = .ok (.dup, 1)) (d4 : decode cc (pc + 4) = .ok (.ldc is, 2)) (d6 : decode cc (pc + 6) = .ok (.invokespecial 104, 3)) (d9 : decode cc (pc + 9) = .ok (.athrow, 1))
    (hR : 5 < R.frames ∧ 82 ≤ R.locals ∧ 1 ≤ R.cells ∧ 6 ≤ R.slots) (hx : ex = some eIOB) (hE : S = S') : W p l e R s m args below meth c H locs 0 0 (vx_MQ below Qc (TX g S' ex) args s 1 6 (Ab g)) (F0 m pc ls []) :=
  xthrow C hb hl0 hlk hP hS hml het (by decide +kernel) wm_125 wm_126 atB anB (by decide) goB hstr d0 d3 d4 d6 d9 hR hx hE
end WTHROW
end
section
def xWd (S : WS) (r : Nat) : WS := xsSc (xsIa S 1 (upd (xIa S 1) r 0)) 1 (xSc S 1 - 1)
theorem XI_wd {n : Nat} {S : WS} (r : Nat) (h : XI n S) : XI n (xWd S r) := h
def xOldOk (v : Int32) : Bool := decide (v = -1) || xIsWithin v 0 10000000
def xCapOk (v : Int32) : Bool := decide (v = -1) || xIsWithin v 0 1000
def xE_row (S : WS) (r : Int32) : Option String := if xHasRow S r then none else some eIOB
def xE_old (S : WS) (r v : Int32) : Option String := if xHasRow S r then (if xOldOk v then none else some eIAE) else some eIOB
def xR_old (S : WS) (r v : Int32) : WS := if xHasRow S r then (if xOldOk v then xsIa S 0 (upd (xIa S 0) (tN r) v) else S) else S
def xR_wd (S : WS) (n : Nat) (r : Int32) : WS := if xHasRow S r then xRefit (xWd S (tN r)) n else S
def xE_rules (c k : Int32) : Option String := if xIsWithin c 0 1000 then (if xCapOk k then none else some eIAE) else some eIAE
def xR_rules (S : WS) (c k : Int32) : WS := if xIsWithin c 0 1000 then (if xCapOk k then xsSc (xsSc S 2 c) 3 k else S) else S
def xE_fac (t k v : Int32) : Option String := if xHasLevel t k then (if xIsWithin v 100 100000 then none else some eIAE) else some eIOB
def xSetF (S : WS) (t k : Nat) (v : Int32) : WS := xsFac S t (upd (xFac S t) k v)
theorem XI_setF {n : Nat} {S : WS} (t k : Nat) (v : Int32) (h : XI n S) : XI n (xSetF S t k v) := h
def xR_fac (S : WS) (n : Nat) (t k v : Int32) : WS := if xHasLevel t k then (if xIsWithin v 100 100000 then xRefit (xSetF S (tN t) (tN k) v) n else S) else S
def xE_trait (t : Int32) : Option String := if xHasTrait t then none else some eIOB
def xE_level (t k : Int32) : Option String := if xHasLevel t k then none else some eIOB
def xR_pass (S : WS) (n : Nat) (t : Int32) : WS := if xHasTrait t then xPass S n (tN t) else S
def xWorst (S : WS) (n t : Nat) : Nat → Int64
  | 0 => 0
  | k + 1 => mx64 (xWorst S n t k) (ab64 (xLTot (xIa S 1) (xLev S t) (nI k) (xLng S 2) n - xLTot (xIa S 1) (xLev S t) (nI k) (xLng S 3) n))
def xRankF (S : WS) (n : Nat) (q : Int32) : Nat → Nat → Option Nat
  | 0, _ => none
  | d + 1, i => if xIa S 1 i = 0 then xRankF S n q d (i + 1) else if nI (xPlace S i n) = q then some i else xRankF S n q d (i + 1)
def xRank (S : WS) (n : Nat) (q : Int32) : Option Nat := xRankF S n q n 0
def xE_rank (S : WS) (n : Nat) (q : Int32) : Option String := match xRank S n q with
  | none => some eIOB
  | some _ => none
def xAd1 (S : WS) (n : Nat) (a : Int32) : WS := xsLev S 0 (upd (xLev S 0) n a)
def xAd2 (S : WS) (n : Nat) (a b : Int32) : WS := xsLev (xAd1 S n a) 1 (upd (xLev (xAd1 S n a) 1) n b)
def xAd3 (S : WS) (n : Nat) (a b c : Int32) : WS := xsLev (xAd2 S n a b) 2 (upd (xLev (xAd2 S n a b) 2) n c)
def xAd4 (S : WS) (n : Nat) (a b c ex : Int32) : WS := xsLng (xAd3 S n a b c) 0 (vp_updL (xLng (xAd3 S n a b c) 0) n ex.toInt64)
def xAd5 (S : WS) (n : Nat) (a b c ex cl : Int32) : WS := xsLng (xAd4 S n a b c ex) 1 (vp_updL (xLng (xAd4 S n a b c ex) 1) n cl.toInt64)
def xAd6 (S : WS) (n : Nat) (a b c ex cl lo : Int32) : WS := xsLng (xAd5 S n a b c ex cl) 2 (vp_updL (xLng (xAd5 S n a b c ex cl) 2) n lo.toInt64)
def xAd7 (S : WS) (n : Nat) (a b c ex cl lo : Int32) : WS := xsIa (xAd6 S n a b c ex cl lo) 0 (upd (xIa (xAd6 S n a b c ex cl lo) 0) n (-1))
def xAd8 (S : WS) (n : Nat) (a b c ex cl lo : Int32) : WS := xsIa (xAd7 S n a b c ex cl lo) 1 (upd (xIa (xAd7 S n a b c ex cl lo) 1) n 1)
def xAd9 (S : WS) (n : Nat) (a b c ex cl lo : Int32) : WS := xsSc (xAd8 S n a b c ex cl lo) 0 (nI (n + 1))
def xAd (S : WS) (n : Nat) (a b c ex cl lo : Int32) : WS := xsSc (xAd9 S n a b c ex cl lo) 1 (xSc S 1 + 1)
def xAddOk (a b c ex cl lo : Int32) : Bool := xHasLevel 0 a && (xHasLevel 1 b && (xHasLevel 2 c && (xIsWithin ex 1 1000 && (xIsWithin cl 0 1000 && xIsWithin lo 0 1000000))))
def xE_add (S : WS) (a b c ex cl lo : Int32) : Option String := if xAddOk a b c ex cl lo then (if xSc S 0 < 40 then none else some eISE) else some eIAE
def xR_add (S : WS) (n : Nat) (a b c ex cl lo : Int32) : WS := if xAddOk a b c ex cl lo then (if xSc S 0 < 40 then xRefit (xAd S n a b c ex cl lo) (n + 1) else S) else S
theorem xWithin_nI {v : Int32} {hi : Nat} (hh : hi < 2 ^ 31) (h : xIsWithin v 0 (nI hi) = true) : ∃ c : Nat, c ≤ hi ∧ v = nI c := by
  simp only [xIsWithin, Bool.and_eq_true, Bool.not_eq_true', decide_eq_false_iff_not] at h
  obtain ⟨j, hj, e⟩ := nI_of2 (M := nI hi) (nI_toInt hh) h.1 (Int32.not_lt.mp h.2)
  exact ⟨j, hj, e⟩
theorem xAd_XI {n : Nat} {S : WS} (h : XI n S) {a b c ex cl lo : Int32} (hn : n < 40) (hok : xAddOk a b c ex cl lo = true) : XI (n + 1) (xAd S n a b c ex cl lo) := by
  simp only [xAddOk, Bool.and_eq_true] at hok
  obtain ⟨h1, h2, h3, h4, h5, h6⟩ := hok
  have l1 := xHasLevel_ix h1
  have l2 := xHasLevel_ix h2
  have l3 := xHasLevel_ix h3
  obtain ⟨c5, hc5, e5⟩ := xWithin_nI (hi := 1000) (by decide) h5
  obtain ⟨i1, i2, i3, i4, i5⟩ := h
  refine ⟨by omega, rfl, fun t k ht hk => ?_, fun k hk => ?_, i5⟩
  · have q1 := levN_4 (tN 0)
    have q2 := levN_4 (tN 1)
    have q3 := levN_4 (tN 2)
    by_cases e : k = n
    · subst e
      rcases (show t = 0 ∨ t = 1 ∨ t = 2 by omega) with rfl | rfl | rfl
      · exact ⟨tN a, by omega, (pk_us (f := xLev S 0)).trans l1.2.1⟩
      · exact ⟨tN b, by omega, (pk_us (f := xLev S 1)).trans l2.2.1⟩
      · exact ⟨tN c, by omega, (pk_us (f := xLev S 2)).trans l3.2.1⟩
    · obtain ⟨j, hj, ej⟩ := i3 t k ht (by omega)
      rcases (show t = 0 ∨ t = 1 ∨ t = 2 by omega) with rfl | rfl | rfl
      · exact ⟨j, hj, (pk_un (f := xLev S 0) e).trans ej⟩
      · exact ⟨j, hj, (pk_un (f := xLev S 1) e).trans ej⟩
      · exact ⟨j, hj, (pk_un (f := xLev S 2) e).trans ej⟩
  · by_cases e : k = n
    · subst e
      exact ⟨c5, hc5, (pk_uLs (f := xLng S 1)).trans (by rw [e5, nI_l (by omega)])⟩
    · obtain ⟨j, hj, ej⟩ := i4 k (by omega)
      exact ⟨j, hj, (pk_uLn (f := xLng S 1) e).trans ej⟩
end
section
set_option maxRecDepth 100000 in
set_option maxHeartbeats 4000000 in
theorem k_X0_withdraw (l : Launch) (hl0 : l.stackTraces = false) (g : gG) (S : WS) (n : Nat) (hI : XI n S) (r : Int32) : vx_Met l yX0_withdraw (wA yX0_withdraw cX0_withdraw 2 (some .int)) ({ frames := 6, cells := 1, slots := 6, locals := 250 }) (PW g S [.ref (gA g 0), .int r]) (TQ g (xR_wd S n r) (xE_row S r) (some (.int (xSc S 1 - 1)))) (TX g (xR_wd S n r) (xE_row S r)) 1 6 (Ab g) := by
  refine metX (by decide +kernel) (Nat.le_of_ble_eq_true rfl) ?_
  intro p e s m below meth c C hb hml hret hlk hP het ls hl
  have C : CW g RX0 p s m ([.ref (gA g 0), .int r] : List Value).toArray := C
  have hS : va_S (Ab g) s.heap s.heap [] := va_S.rf
  have hl : lv_has ls 2 [(0, .ref (gA g 0)), (1, .int r)] := hl
  refine lv_aload_n C.1 hb dX0_withdraw_0 rfl (lv_at hl 0 rfl) ?_
  refine lv_iload_n C.1 hb dX0_withdraw_1 rfl (lv_at hl 1 rfl) ?_
  refine run_rd (cRunX (As := [.int r]) (rest := []) C hb (hml.trans hl.1.symm) hP hS rfl (k_X0_hasRow l g S n hI r) wm_127 wm_128 wm_129 wm_130 wm_2 (n := 1) (by decide +kernel) rfl ⟨rfl, rfl, Nat.le_of_ble_eq_true rfl, Nat.le_of_ble_eq_true rfl⟩ (Nat.le_of_ble_eq_true rfl) rfl ⟨Nat.zero_le _, Nat.zero_le _⟩ dX0_withdraw_2) ?_
  refine bz_ne (tgt := 18) C hb dX0_withdraw_5 (by decide) (fun c50 => ?_) (fun c50 => ?_)
  · have hx := xHasRow_ix hI.1 hI.2.1 c50
    have hx1 := hx.1.1
    have hx2 := hx.1.2
    have hn40 := hI.1
    refine lv_aload_n C.1 hb dX0_withdraw_18 rfl (lv_at hl 0 rfl) ?_
    refine gX_live C hb hP dX0_withdraw_19 ?_
    refine lv_iload_n C.1 hb dX0_withdraw_22 rfl (lv_at hl 1 rfl) ?_
    refine lv_iconst (v := 0) C.1 hb dX0_withdraw_23 (by decide) ?_
    refine stX_live (j := (tN r)) C hb hP hS hx1 (by omega) (by decide) dX0_withdraw_24 (fun H locs hP hS => ?_)
    refine lv_aload_n C.1 hb dX0_withdraw_25 rfl (lv_at hl 0 rfl) ?_
    refine lv_dup C.1 hb dX0_withdraw_26 rfl ?_
    refine gX_liveRows C hb hP dX0_withdraw_27 ?_
    refine lv_iconst (v := 1) C.1 hb dX0_withdraw_30 (by decide) ?_
    refine lv_isub C.1 hb dX0_withdraw_31 ?_
    refine pX_liveRows C hb hP hS dX0_withdraw_32 (fun H locs hP hS => ?_)
    have hP : HW g (xWd S (tN r)) H := hP
    refine lv_aload_n C.1 hb dX0_withdraw_35 rfl (lv_at hl 0 rfl) ?_
    refine run_wr (cRunX (As := []) (rest := []) C hb (hml.trans hl.1.symm) hP hS rfl (k_X0_refit l g (xWd S (tN r)) n (XI_wd _ hI)) wm_77 wm_78 wm_79 wm_80 wm_2 (n := 0) (by decide +kernel) rfl ⟨rfl, rfl, Nat.le_of_ble_eq_true rfl, Nat.le_of_ble_eq_true rfl⟩ (Nat.le_of_ble_eq_true rfl) rfl ⟨Nat.zero_le _, Nat.zero_le _⟩ dX0_withdraw_36) hS (fun H locs hP hS => ?_)
    refine lv_aload_n C.1 hb dX0_withdraw_39 rfl (lv_at hl 0 rfl) ?_
    refine gX_liveRows C hb hP dX0_withdraw_40 ?_
    exact txI C hb hret hlk hP hS dX0_withdraw_43 rfl (by unfold xR_wd; rw [c50]; rfl) (by unfold xE_row; rw [c50]; rfl)
  · exact xthrowB C hb hl0 hlk hP hS (hl.1.trans hml.symm) het (text := "no such row") (by decide) dX0_withdraw_8 dX0_withdraw_11 dX0_withdraw_12 dX0_withdraw_14 dX0_withdraw_17 ⟨Nat.le_of_ble_eq_true rfl, Nat.le_of_ble_eq_true rfl, Nat.le_of_ble_eq_true rfl, Nat.le_of_ble_eq_true rfl⟩ (by unfold xE_row; rw [c50]; rfl) (by unfold xR_wd; rw [c50]; rfl)

set_option maxRecDepth 100000 in
set_option maxHeartbeats 4000000 in
theorem k_X0_setOld (l : Launch) (hl0 : l.stackTraces = false) (g : gG) (S : WS) (n : Nat) (hI : XI n S) (r v : Int32) : vx_Met l yX0_setOld (wA yX0_setOld cX0_setOld 4 (some .int)) ({ frames := 6, cells := 1, slots := 6, locals := 250 }) (PW g S [.ref (gA g 0), .int r, .int v]) (TQ g (xR_old S r v) (xE_old S r v) (some (.int (xIa S 0 (tN r))))) (TX g (xR_old S r v) (xE_old S r v)) 1 6 (Ab g) := by
  refine metX (by decide +kernel) (Nat.le_of_ble_eq_true rfl) ?_
  intro p e s m below meth c C hb hml hret hlk hP het ls hl
  have C : CW g RX0 p s m ([.ref (gA g 0), .int r, .int v] : List Value).toArray := C
  have hS : va_S (Ab g) s.heap s.heap [] := va_S.rf
  have hl : lv_has ls 4 [(0, .ref (gA g 0)), (1, .int r), (2, .int v)] := hl
  refine lv_aload_n C.1 hb dX0_setOld_0 rfl (lv_at hl 0 rfl) ?_
  refine lv_iload_n C.1 hb dX0_setOld_1 rfl (lv_at hl 1 rfl) ?_
  refine run_rd (cRunX (As := [.int r]) (rest := []) C hb (hml.trans hl.1.symm) hP hS rfl (k_X0_hasRow l g S n hI r) wm_127 wm_128 wm_129 wm_130 wm_2 (n := 1) (by decide +kernel) rfl ⟨rfl, rfl, Nat.le_of_ble_eq_true rfl, Nat.le_of_ble_eq_true rfl⟩ (Nat.le_of_ble_eq_true rfl) rfl ⟨Nat.zero_le _, Nat.zero_le _⟩ dX0_setOld_2) ?_
  refine bz_ne (tgt := 18) C hb dX0_setOld_5 (by decide) (fun c51 => ?_) (fun c51 => ?_)
  · have hx := xHasRow_ix hI.1 hI.2.1 c51
    have hx1 := hx.1.1
    have hx2 := hx.1.2
    have hn40 := hI.1
    refine lv_iload_n C.1 hb dX0_setOld_18 rfl (lv_at hl 2 rfl) ?_
    refine lv_iconst (v := (-1)) C.1 hb dX0_setOld_19 (by decide) ?_
    refine lv_icmp_eq (tgt := 43) C.1 hb dX0_setOld_20 (by decide) (fun c52 => ?_) (fun c52 => ?_)
    · have ho : xOldOk v = true := by simp [xOldOk, c52]
      refine lv_aload_n C.1 hb dX0_setOld_43 rfl (lv_at hl 0 rfl) ?_
      refine gX_oldPremiums C hb hP dX0_setOld_44 ?_
      refine lv_iload_n C.1 hb dX0_setOld_47 rfl (lv_at hl 1 rfl) ?_
      refine ldX_oldPremiums (j := (tN r)) C hb hP hx1 (by omega) dX0_setOld_48 ?_
      refine lv_istore_n (lv' := [(3, .int (xIa S 0 (tN r))), (0, .ref (gA g 0)), (1, .int r), (2, .int v)]) C.1 hb dX0_setOld_49 rfl hl (by decide) rfl (fun ls hl => ?_)
      refine lv_aload_n C.1 hb dX0_setOld_50 rfl (lv_at hl 1 rfl) ?_
      refine gX_oldPremiums C hb hP dX0_setOld_51 ?_
      refine lv_iload_n C.1 hb dX0_setOld_54 rfl (lv_at hl 2 rfl) ?_
      refine lv_iload_n C.1 hb dX0_setOld_55 rfl (lv_at hl 3 rfl) ?_
      refine stX_oldPremiums (j := (tN r)) C hb hP hS hx1 (by omega) dX0_setOld_56 (fun H locs hP hS => ?_)
      refine lv_iload_n C.1 hb dX0_setOld_57 rfl (lv_at hl 0 rfl) ?_
      exact txI C hb hret hlk hP hS dX0_setOld_58 rfl (by unfold xR_old; rw [c51, ho]; rfl) (by unfold xE_old; rw [c51, ho]; rfl)
    · refine lv_iload_n C.1 hb dX0_setOld_23 rfl (lv_at hl 2 rfl) ?_
      refine lv_iconst (v := 0) C.1 hb dX0_setOld_24 (by decide) ?_
      refine lv_ldc (v := 10000000) C.1 hb C.2.1 (C.2.2.1 _ wm_150) dX0_setOld_25 ?_
      refine run_rd (cRunS (As := [.int v, .int 0, .int 10000000]) (rest := []) C hb (hml.trans hl.1.symm) hP hS (k_X0_isWithin l g S v 0 10000000) wm_74 wm_75 wm_76 wm_2 (n := 3) (by decide +kernel) rfl ⟨rfl, rfl, Nat.le_of_ble_eq_true rfl, Nat.le_of_ble_eq_true rfl⟩ (Nat.le_of_ble_eq_true rfl) rfl ⟨Nat.zero_le _, Nat.zero_le _⟩ dX0_setOld_27) ?_
      refine bz_ne (tgt := 43) C hb dX0_setOld_30 (by decide) (fun c53 => ?_) (fun c53 => ?_)
      · have ho : xOldOk v = true := by simp [xOldOk, c53]
        refine lv_aload_n C.1 hb dX0_setOld_43 rfl (lv_at hl 0 rfl) ?_
        refine gX_oldPremiums C hb hP dX0_setOld_44 ?_
        refine lv_iload_n C.1 hb dX0_setOld_47 rfl (lv_at hl 1 rfl) ?_
        refine ldX_oldPremiums (j := (tN r)) C hb hP hx1 (by omega) dX0_setOld_48 ?_
        refine lv_istore_n (lv' := [(3, .int (xIa S 0 (tN r))), (0, .ref (gA g 0)), (1, .int r), (2, .int v)]) C.1 hb dX0_setOld_49 rfl hl (by decide) rfl (fun ls hl => ?_)
        refine lv_aload_n C.1 hb dX0_setOld_50 rfl (lv_at hl 1 rfl) ?_
        refine gX_oldPremiums C hb hP dX0_setOld_51 ?_
        refine lv_iload_n C.1 hb dX0_setOld_54 rfl (lv_at hl 2 rfl) ?_
        refine lv_iload_n C.1 hb dX0_setOld_55 rfl (lv_at hl 3 rfl) ?_
        refine stX_oldPremiums (j := (tN r)) C hb hP hS hx1 (by omega) dX0_setOld_56 (fun H locs hP hS => ?_)
        refine lv_iload_n C.1 hb dX0_setOld_57 rfl (lv_at hl 0 rfl) ?_
        exact txI C hb hret hlk hP hS dX0_setOld_58 rfl (by unfold xR_old; rw [c51, ho]; rfl) (by unfold xE_old; rw [c51, ho]; rfl)
      · have ho : xOldOk v = false := by simp [xOldOk, c52, c53]
        exact xthrowI C hb hl0 hlk hP hS (hl.1.trans hml.symm) het (text := "premium out of range") (by decide) dX0_setOld_33 dX0_setOld_36 dX0_setOld_37 dX0_setOld_39 dX0_setOld_42 ⟨Nat.le_of_ble_eq_true rfl, Nat.le_of_ble_eq_true rfl, Nat.le_of_ble_eq_true rfl, Nat.le_of_ble_eq_true rfl⟩ (by unfold xE_old; rw [c51, ho]; rfl) (by unfold xR_old; rw [c51, ho]; rfl)
  · exact xthrowB C hb hl0 hlk hP hS (hl.1.trans hml.symm) het (text := "no such row") (by decide) dX0_setOld_8 dX0_setOld_11 dX0_setOld_12 dX0_setOld_14 dX0_setOld_17 ⟨Nat.le_of_ble_eq_true rfl, Nat.le_of_ble_eq_true rfl, Nat.le_of_ble_eq_true rfl, Nat.le_of_ble_eq_true rfl⟩ (by unfold xE_old; rw [c51]; rfl) (by unfold xR_old; rw [c51]; rfl)

set_option maxRecDepth 100000 in
set_option maxHeartbeats 4000000 in
theorem k_X0_setRules (l : Launch) (hl0 : l.stackTraces = false) (g : gG) (S : WS) (q k : Int32) : vx_Met l yX0_setRules (wA yX0_setRules cX0_setRules 4 (some .int)) ({ frames := 6, cells := 1, slots := 6, locals := 250 }) (PW g S [.ref (gA g 0), .int q, .int k]) (TQ g (xR_rules S q k) (xE_rules q k) (some (.int (xSc S 2)))) (TX g (xR_rules S q k) (xE_rules q k)) 1 6 (Ab g) := by
  refine metX (by decide +kernel) (Nat.le_of_ble_eq_true rfl) ?_
  intro p e s m below meth c C hb hml hret hlk hP het ls hl
  have C : CW g RX0 p s m ([.ref (gA g 0), .int q, .int k] : List Value).toArray := C
  have hS : va_S (Ab g) s.heap s.heap [] := va_S.rf
  have hl : lv_has ls 4 [(0, .ref (gA g 0)), (1, .int q), (2, .int k)] := hl
  refine lv_iload_n C.1 hb dX0_setRules_0 rfl (lv_at hl 1 rfl) ?_
  refine lv_iconst (v := 0) C.1 hb dX0_setRules_1 (by decide) ?_
  refine lv_sipush (v := 1000) C.1 hb dX0_setRules_2 (by decide) ?_
  refine run_rd (cRunS (As := [.int q, .int 0, .int 1000]) (rest := []) C hb (hml.trans hl.1.symm) hP hS (k_X0_isWithin l g S q 0 1000) wm_74 wm_75 wm_76 wm_2 (n := 3) (by decide +kernel) rfl ⟨rfl, rfl, Nat.le_of_ble_eq_true rfl, Nat.le_of_ble_eq_true rfl⟩ (Nat.le_of_ble_eq_true rfl) rfl ⟨Nat.zero_le _, Nat.zero_le _⟩ dX0_setRules_5) ?_
  refine bz_ne (tgt := 21) C hb dX0_setRules_8 (by decide) (fun c54 => ?_) (fun c54 => ?_)
  · refine lv_iload_n C.1 hb dX0_setRules_21 rfl (lv_at hl 2 rfl) ?_
    refine lv_iconst (v := (-1)) C.1 hb dX0_setRules_22 (by decide) ?_
    refine lv_icmp_eq (tgt := 47) C.1 hb dX0_setRules_23 (by decide) (fun c55 => ?_) (fun c55 => ?_)
    · have ho : xCapOk k = true := by simp [xCapOk, c55]
      refine lv_aload_n C.1 hb dX0_setRules_47 rfl (lv_at hl 0 rfl) ?_
      refine gX_credibility C hb hP dX0_setRules_48 ?_
      refine lv_istore_n (lv' := [(3, .int (xSc S 2)), (0, .ref (gA g 0)), (1, .int q), (2, .int k)]) C.1 hb dX0_setRules_51 rfl hl (by decide) rfl (fun ls hl => ?_)
      refine lv_aload_n C.1 hb dX0_setRules_52 rfl (lv_at hl 1 rfl) ?_
      refine lv_iload_n C.1 hb dX0_setRules_53 rfl (lv_at hl 2 rfl) ?_
      refine pX_credibility C hb hP hS dX0_setRules_54 (fun H locs hP hS => ?_)
      refine lv_aload_n C.1 hb dX0_setRules_57 rfl (lv_at hl 1 rfl) ?_
      refine lv_iload_n C.1 hb dX0_setRules_58 rfl (lv_at hl 3 rfl) ?_
      refine pX_cap C hb hP hS dX0_setRules_59 (fun H locs hP hS => ?_)
      refine lv_iload_n C.1 hb dX0_setRules_62 rfl (lv_at hl 0 rfl) ?_
      exact txI C hb hret hlk hP hS dX0_setRules_63 rfl (by unfold xR_rules; rw [c54, ho]; rfl) (by unfold xE_rules; rw [c54, ho]; rfl)
    · refine lv_iload_n C.1 hb dX0_setRules_26 rfl (lv_at hl 2 rfl) ?_
      refine lv_iconst (v := 0) C.1 hb dX0_setRules_27 (by decide) ?_
      refine lv_sipush (v := 1000) C.1 hb dX0_setRules_28 (by decide) ?_
      refine run_rd (cRunS (As := [.int k, .int 0, .int 1000]) (rest := []) C hb (hml.trans hl.1.symm) hP hS (k_X0_isWithin l g S k 0 1000) wm_74 wm_75 wm_76 wm_2 (n := 3) (by decide +kernel) rfl ⟨rfl, rfl, Nat.le_of_ble_eq_true rfl, Nat.le_of_ble_eq_true rfl⟩ (Nat.le_of_ble_eq_true rfl) rfl ⟨Nat.zero_le _, Nat.zero_le _⟩ dX0_setRules_31) ?_
      refine bz_ne (tgt := 47) C hb dX0_setRules_34 (by decide) (fun c56 => ?_) (fun c56 => ?_)
      · have ho : xCapOk k = true := by simp [xCapOk, c56]
        refine lv_aload_n C.1 hb dX0_setRules_47 rfl (lv_at hl 0 rfl) ?_
        refine gX_credibility C hb hP dX0_setRules_48 ?_
        refine lv_istore_n (lv' := [(3, .int (xSc S 2)), (0, .ref (gA g 0)), (1, .int q), (2, .int k)]) C.1 hb dX0_setRules_51 rfl hl (by decide) rfl (fun ls hl => ?_)
        refine lv_aload_n C.1 hb dX0_setRules_52 rfl (lv_at hl 1 rfl) ?_
        refine lv_iload_n C.1 hb dX0_setRules_53 rfl (lv_at hl 2 rfl) ?_
        refine pX_credibility C hb hP hS dX0_setRules_54 (fun H locs hP hS => ?_)
        refine lv_aload_n C.1 hb dX0_setRules_57 rfl (lv_at hl 1 rfl) ?_
        refine lv_iload_n C.1 hb dX0_setRules_58 rfl (lv_at hl 3 rfl) ?_
        refine pX_cap C hb hP hS dX0_setRules_59 (fun H locs hP hS => ?_)
        refine lv_iload_n C.1 hb dX0_setRules_62 rfl (lv_at hl 0 rfl) ?_
        exact txI C hb hret hlk hP hS dX0_setRules_63 rfl (by unfold xR_rules; rw [c54, ho]; rfl) (by unfold xE_rules; rw [c54, ho]; rfl)
      · have ho : xCapOk k = false := by simp [xCapOk, c55, c56]
        exact xthrowI C hb hl0 hlk hP hS (hl.1.trans hml.symm) het (text := "cap out of range") (by decide) dX0_setRules_37 dX0_setRules_40 dX0_setRules_41 dX0_setRules_43 dX0_setRules_46 ⟨Nat.le_of_ble_eq_true rfl, Nat.le_of_ble_eq_true rfl, Nat.le_of_ble_eq_true rfl, Nat.le_of_ble_eq_true rfl⟩ (by unfold xE_rules; rw [c54, ho]; rfl) (by unfold xR_rules; rw [c54, ho]; rfl)
  · exact xthrowI C hb hl0 hlk hP hS (hl.1.trans hml.symm) het (text := "credibility out of range") (by decide) dX0_setRules_11 dX0_setRules_14 dX0_setRules_15 dX0_setRules_17 dX0_setRules_20 ⟨Nat.le_of_ble_eq_true rfl, Nat.le_of_ble_eq_true rfl, Nat.le_of_ble_eq_true rfl, Nat.le_of_ble_eq_true rfl⟩ (by unfold xE_rules; rw [c54]; rfl) (by unfold xR_rules; rw [c54]; rfl)

set_option maxRecDepth 100000 in
set_option maxHeartbeats 4000000 in
theorem k_X0_setFactor (l : Launch) (hl0 : l.stackTraces = false) (g : gG) (S : WS) (n : Nat) (hI : XI n S) (t k v : Int32) : vx_Met l yX0_setFactor (wA yX0_setFactor cX0_setFactor 5 (some .int)) ({ frames := 6, cells := 1, slots := 6, locals := 250 }) (PW g S [.ref (gA g 0), .int t, .int k, .int v]) (TQ g (xR_fac S n t k v) (xE_fac t k v) (some (.int (xFac S (tN t) (tN k))))) (TX g (xR_fac S n t k v) (xE_fac t k v)) 1 6 (Ab g) := by
  refine metX (by decide +kernel) (Nat.le_of_ble_eq_true rfl) ?_
  intro p e s m below meth c C hb hml hret hlk hP het ls hl
  have C : CW g RX0 p s m ([.ref (gA g 0), .int t, .int k, .int v] : List Value).toArray := C
  have hS : va_S (Ab g) s.heap s.heap [] := va_S.rf
  have hl : lv_has ls 5 [(0, .ref (gA g 0)), (1, .int t), (2, .int k), (3, .int v)] := hl
  refine lv_iload_n C.1 hb dX0_setFactor_0 rfl (lv_at hl 1 rfl) ?_
  refine lv_iload_n C.1 hb dX0_setFactor_1 rfl (lv_at hl 2 rfl) ?_
  refine run_rd (cRunS (As := [.int t, .int k]) (rest := []) C hb (hml.trans hl.1.symm) hP hS (k_X0_hasLevel l g S t k) wm_67 wm_68 wm_69 wm_2 (n := 2) (by decide +kernel) rfl ⟨rfl, rfl, Nat.le_of_ble_eq_true rfl, Nat.le_of_ble_eq_true rfl⟩ (Nat.le_of_ble_eq_true rfl) rfl ⟨Nat.zero_le _, Nat.zero_le _⟩ dX0_setFactor_2) ?_
  refine bz_ne (tgt := 18) C hb dX0_setFactor_5 (by decide) (fun c57 => ?_) (fun c57 => ?_)
  · have hx := xHasLevel_ix c57
    have ht1 := hx.1.1
    have ht2 := hx.1.2
    have hk1 := hx.2.1
    have hk2 := hx.2.2
    have h4 := levN_4 (tN t)
    refine lv_iload_n C.1 hb dX0_setFactor_18 rfl (lv_at hl 3 rfl) ?_
    refine lv_bipush (v := 100) C.1 hb dX0_setFactor_19 (by decide) ?_
    refine lv_ldc (v := 100000) C.1 hb C.2.1 (C.2.2.1 _ wm_175) dX0_setFactor_21 ?_
    refine run_rd (cRunS (As := [.int v, .int 100, .int 100000]) (rest := []) C hb (hml.trans hl.1.symm) hP hS (k_X0_isWithin l g S v 100 100000) wm_74 wm_75 wm_76 wm_2 (n := 3) (by decide +kernel) rfl ⟨rfl, rfl, Nat.le_of_ble_eq_true rfl, Nat.le_of_ble_eq_true rfl⟩ (Nat.le_of_ble_eq_true rfl) rfl ⟨Nat.zero_le _, Nat.zero_le _⟩ dX0_setFactor_23) ?_
    refine bz_ne (tgt := 39) C hb dX0_setFactor_26 (by decide) (fun c58 => ?_) (fun c58 => ?_)
    · refine lv_aload_n C.1 hb dX0_setFactor_39 rfl (lv_at hl 0 rfl) ?_
      refine gX_factors C hb hP dX0_setFactor_40 ?_
      refine lv_iload_n C.1 hb dX0_setFactor_43 rfl (lv_at hl 1 rfl) ?_
      refine al_fac (t := (tN t)) C hb hP ht1 ht2 dX0_setFactor_44 ?_
      refine lv_iload_n C.1 hb dX0_setFactor_45 rfl (lv_at hl 2 rfl) ?_
      refine ldX_fac (t := (tN t)) (j := (tN k)) C hb hP ht2 hk1 (by omega) dX0_setFactor_46 ?_
      refine lv_istore (lv' := [(4, .int (xFac S (tN t) (tN k))), (0, .ref (gA g 0)), (1, .int t), (2, .int k), (3, .int v)]) C.1 hb dX0_setFactor_47 hl (by decide) rfl (fun ls hl => ?_)
      refine lv_aload_n C.1 hb dX0_setFactor_49 rfl (lv_at hl 1 rfl) ?_
      refine gX_factors C hb hP dX0_setFactor_50 ?_
      refine lv_iload_n C.1 hb dX0_setFactor_53 rfl (lv_at hl 2 rfl) ?_
      refine al_fac (t := (tN t)) C hb hP ht1 ht2 dX0_setFactor_54 ?_
      refine lv_iload_n C.1 hb dX0_setFactor_55 rfl (lv_at hl 3 rfl) ?_
      refine lv_iload_n C.1 hb dX0_setFactor_56 rfl (lv_at hl 4 rfl) ?_
      refine stX_fac (t := (tN t)) (j := (tN k)) C hb hP hS ht2 hk1 (by omega) dX0_setFactor_57 (fun H locs hP hS => ?_)
      have hP : HW g (xSetF S (tN t) (tN k) v) H := hP
      refine lv_aload_n C.1 hb dX0_setFactor_58 rfl (lv_at hl 1 rfl) ?_
      refine run_wr (cRunX (As := []) (rest := []) C hb (hml.trans hl.1.symm) hP hS rfl (k_X0_refit l g (xSetF S (tN t) (tN k) v) n (XI_setF _ _ _ hI)) wm_77 wm_78 wm_79 wm_80 wm_2 (n := 0) (by decide +kernel) rfl ⟨rfl, rfl, Nat.le_of_ble_eq_true rfl, Nat.le_of_ble_eq_true rfl⟩ (Nat.le_of_ble_eq_true rfl) rfl ⟨Nat.zero_le _, Nat.zero_le _⟩ dX0_setFactor_59) hS (fun H locs hP hS => ?_)
      refine lv_iload C.1 hb dX0_setFactor_62 (lv_at hl 0 rfl) ?_
      exact txI C hb hret hlk hP hS dX0_setFactor_64 rfl (by unfold xR_fac; rw [c57, c58]; rfl) (by unfold xE_fac; rw [c57, c58]; rfl)
    · exact xthrowI C hb hl0 hlk hP hS (hl.1.trans hml.symm) het (text := "factor out of range") (by decide) dX0_setFactor_29 dX0_setFactor_32 dX0_setFactor_33 dX0_setFactor_35 dX0_setFactor_38 ⟨Nat.le_of_ble_eq_true rfl, Nat.le_of_ble_eq_true rfl, Nat.le_of_ble_eq_true rfl, Nat.le_of_ble_eq_true rfl⟩ (by unfold xE_fac; rw [c57, c58]; rfl) (by unfold xR_fac; rw [c57, c58]; rfl)
  · exact xthrowB C hb hl0 hlk hP hS (hl.1.trans hml.symm) het (text := "no such trait or level") (by decide) dX0_setFactor_8 dX0_setFactor_11 dX0_setFactor_12 dX0_setFactor_14 dX0_setFactor_17 ⟨Nat.le_of_ble_eq_true rfl, Nat.le_of_ble_eq_true rfl, Nat.le_of_ble_eq_true rfl, Nat.le_of_ble_eq_true rfl⟩ (by unfold xE_fac; rw [c57]; rfl) (by unfold xR_fac; rw [c57]; rfl)

set_option maxRecDepth 100000 in
set_option maxHeartbeats 4000000 in
theorem k_X0_pass (l : Launch) (hl0 : l.stackTraces = false) (g : gG) (S : WS) (n : Nat) (hI : XI n S) (t : Int32) : vx_Met l yX0_pass (wA yX0_pass cX0_pass 2 (some .int)) ({ frames := 6, cells := 1, slots := 6, locals := 250 }) (PW g S [.ref (gA g 0), .int t]) (TQ g (xR_pass S n t) (xE_trait t) (some (.int (nI (xPassC S n (tN t)))))) (TX g (xR_pass S n t) (xE_trait t)) 1 6 (Ab g) := by
  refine metX (by decide +kernel) (Nat.le_of_ble_eq_true rfl) ?_
  intro p e s m below meth c C hb hml hret hlk hP het ls hl
  have C : CW g RX0 p s m ([.ref (gA g 0), .int t] : List Value).toArray := C
  have hS : va_S (Ab g) s.heap s.heap [] := va_S.rf
  have hl : lv_has ls 2 [(0, .ref (gA g 0)), (1, .int t)] := hl
  refine lv_iload_n C.1 hb dX0_pass_0 rfl (lv_at hl 1 rfl) ?_
  refine run_rd (cRunS (As := [.int t]) (rest := []) C hb (hml.trans hl.1.symm) hP hS (k_X0_hasTrait l g S t) wm_71 wm_72 wm_73 wm_2 (n := 1) (by decide +kernel) rfl ⟨rfl, rfl, Nat.le_of_ble_eq_true rfl, Nat.le_of_ble_eq_true rfl⟩ (Nat.le_of_ble_eq_true rfl) rfl ⟨Nat.zero_le _, Nat.zero_le _⟩ dX0_pass_1) ?_
  refine bz_ne (tgt := 17) C hb dX0_pass_4 (by decide) (fun c59 => ?_) (fun c59 => ?_)
  · have hx := xHasTrait_ix c59
    have ht1 := hx.1
    have ht2 := hx.2
    refine lv_aload_n C.1 hb dX0_pass_17 rfl (lv_at hl 0 rfl) ?_
    refine lv_iload_n C.1 hb dX0_pass_18 rfl (lv_at hl 1 rfl) ?_
    refine toI ht1 ?_
    refine run_wr (cRunX (As := [.int (nI (tN t))]) (rest := []) C hb (hml.trans hl.1.symm) hP hS rfl (k_X0_passOver l g S n hI (tN t) ht2) wm_188 wm_189 wm_190 wm_191 wm_2 (n := 1) (by decide +kernel) rfl ⟨rfl, rfl, Nat.le_of_ble_eq_true rfl, Nat.le_of_ble_eq_true rfl⟩ (Nat.le_of_ble_eq_true rfl) rfl ⟨Nat.zero_le _, Nat.zero_le _⟩ dX0_pass_19) hS (fun H locs hP hS => ?_)
    exact txI C hb hret hlk hP hS dX0_pass_22 rfl (by unfold xR_pass; rw [c59]; rfl) (by unfold xE_trait; rw [c59]; rfl)
  · exact xthrowB C hb hl0 hlk hP hS (hl.1.trans hml.symm) het (text := "no such trait") (by decide) dX0_pass_7 dX0_pass_10 dX0_pass_11 dX0_pass_13 dX0_pass_16 ⟨Nat.le_of_ble_eq_true rfl, Nat.le_of_ble_eq_true rfl, Nat.le_of_ble_eq_true rfl, Nat.le_of_ble_eq_true rfl⟩ (by unfold xE_trait; rw [c59]; rfl) (by unfold xR_pass; rw [c59]; rfl)

set_option maxRecDepth 100000 in
set_option maxHeartbeats 4000000 in
theorem k_X0_factor (l : Launch) (hl0 : l.stackTraces = false) (g : gG) (S : WS) (t k : Int32) : vx_Met l yX0_factor (wA yX0_factor cX0_factor 3 (some .int)) ({ frames := 6, cells := 1, slots := 6, locals := 250 }) (PW g S [.ref (gA g 0), .int t, .int k]) (TQ g S (xE_level t k) (some (.int (xFac S (tN t) (tN k))))) (TX g S (xE_level t k)) 1 6 (Ab g) := by
  refine metX (by decide +kernel) (Nat.le_of_ble_eq_true rfl) ?_
  intro p e s m below meth c C hb hml hret hlk hP het ls hl
  have C : CW g RX0 p s m ([.ref (gA g 0), .int t, .int k] : List Value).toArray := C
  have hS : va_S (Ab g) s.heap s.heap [] := va_S.rf
  have hl : lv_has ls 3 [(0, .ref (gA g 0)), (1, .int t), (2, .int k)] := hl
  refine lv_iload_n C.1 hb dX0_factor_0 rfl (lv_at hl 1 rfl) ?_
  refine lv_iload_n C.1 hb dX0_factor_1 rfl (lv_at hl 2 rfl) ?_
  refine run_rd (cRunS (As := [.int t, .int k]) (rest := []) C hb (hml.trans hl.1.symm) hP hS (k_X0_hasLevel l g S t k) wm_67 wm_68 wm_69 wm_2 (n := 2) (by decide +kernel) rfl ⟨rfl, rfl, Nat.le_of_ble_eq_true rfl, Nat.le_of_ble_eq_true rfl⟩ (Nat.le_of_ble_eq_true rfl) rfl ⟨Nat.zero_le _, Nat.zero_le _⟩ dX0_factor_2) ?_
  refine bz_ne (tgt := 18) C hb dX0_factor_5 (by decide) (fun c60 => ?_) (fun c60 => ?_)
  · have hx := xHasLevel_ix c60
    have ht1 := hx.1.1
    have ht2 := hx.1.2
    have hk1 := hx.2.1
    have hk2 := hx.2.2
    have h4 := levN_4 (tN t)
    refine lv_aload_n C.1 hb dX0_factor_18 rfl (lv_at hl 0 rfl) ?_
    refine gX_factors C hb hP dX0_factor_19 ?_
    refine lv_iload_n C.1 hb dX0_factor_22 rfl (lv_at hl 1 rfl) ?_
    refine al_fac (t := (tN t)) C hb hP ht1 ht2 dX0_factor_23 ?_
    refine lv_iload_n C.1 hb dX0_factor_24 rfl (lv_at hl 2 rfl) ?_
    refine ldX_fac (t := (tN t)) (j := (tN k)) C hb hP ht2 hk1 (by omega) dX0_factor_25 ?_
    exact txI C hb hret hlk hP hS dX0_factor_26 rfl rfl (by unfold xE_level; rw [c60]; rfl)
  · exact xthrowB C hb hl0 hlk hP hS (hl.1.trans hml.symm) het (text := "no such trait or level") (by decide) dX0_factor_8 dX0_factor_11 dX0_factor_12 dX0_factor_14 dX0_factor_17 ⟨Nat.le_of_ble_eq_true rfl, Nat.le_of_ble_eq_true rfl, Nat.le_of_ble_eq_true rfl, Nat.le_of_ble_eq_true rfl⟩ (by unfold xE_level; rw [c60]; rfl) rfl

set_option maxRecDepth 100000 in
set_option maxHeartbeats 4000000 in
theorem k_X0_fitted (l : Launch) (hl0 : l.stackTraces = false) (g : gG) (S : WS) (n : Nat) (hI : XI n S) (r : Int32) : vx_Met l yX0_fitted (wA yX0_fitted cX0_fitted 2 (some .long)) ({ frames := 6, cells := 1, slots := 6, locals := 250 }) (PW g S [.ref (gA g 0), .int r]) (TQ g S (xE_row S r) (some (.long (xLng S 3 (tN r))))) (TX g S (xE_row S r)) 1 6 (Ab g) := by
  refine metX (by decide +kernel) (Nat.le_of_ble_eq_true rfl) ?_
  intro p e s m below meth c C hb hml hret hlk hP het ls hl
  have C : CW g RX0 p s m ([.ref (gA g 0), .int r] : List Value).toArray := C
  have hS : va_S (Ab g) s.heap s.heap [] := va_S.rf
  have hl : lv_has ls 2 [(0, .ref (gA g 0)), (1, .int r)] := hl
  refine lv_aload_n C.1 hb dX0_fitted_0 rfl (lv_at hl 0 rfl) ?_
  refine lv_iload_n C.1 hb dX0_fitted_1 rfl (lv_at hl 1 rfl) ?_
  refine run_rd (cRunX (As := [.int r]) (rest := []) C hb (hml.trans hl.1.symm) hP hS rfl (k_X0_hasRow l g S n hI r) wm_127 wm_128 wm_129 wm_130 wm_2 (n := 1) (by decide +kernel) rfl ⟨rfl, rfl, Nat.le_of_ble_eq_true rfl, Nat.le_of_ble_eq_true rfl⟩ (Nat.le_of_ble_eq_true rfl) rfl ⟨Nat.zero_le _, Nat.zero_le _⟩ dX0_fitted_2) ?_
  refine bz_ne (tgt := 18) C hb dX0_fitted_5 (by decide) (fun c61 => ?_) (fun c61 => ?_)
  · have hx := xHasRow_ix hI.1 hI.2.1 c61
    have hx1 := hx.1.1
    have hx2 := hx.1.2
    have hn40 := hI.1
    refine lv_aload_n C.1 hb dX0_fitted_18 rfl (lv_at hl 0 rfl) ?_
    refine gX_fittedLosses C hb hP dX0_fitted_19 ?_
    refine lv_iload_n C.1 hb dX0_fitted_22 rfl (lv_at hl 1 rfl) ?_
    refine ldX_fittedLosses (j := (tN r)) C hb hP hx1 (by omega) dX0_fitted_23 ?_
    exact txL C hb hret hlk hP hS dX0_fitted_24 rfl rfl (by unfold xE_row; rw [c61]; rfl)
  · exact xthrowB C hb hl0 hlk hP hS (hl.1.trans hml.symm) het (text := "no such row") (by decide) dX0_fitted_8 dX0_fitted_11 dX0_fitted_12 dX0_fitted_14 dX0_fitted_17 ⟨Nat.le_of_ble_eq_true rfl, Nat.le_of_ble_eq_true rfl, Nat.le_of_ble_eq_true rfl, Nat.le_of_ble_eq_true rfl⟩ (by unfold xE_row; rw [c61]; rfl) rfl

set_option maxRecDepth 100000 in
set_option maxHeartbeats 4000000 in
theorem k_X0_toldSum (l : Launch) (hl0 : l.stackTraces = false) (g : gG) (S : WS) (n : Nat) (hI : XI n S) (t k : Int32) : vx_Met l yX0_toldSum (wA yX0_toldSum cX0_toldSum 3 (some .long)) ({ frames := 6, cells := 1, slots := 6, locals := 250 }) (PW g S [.ref (gA g 0), .int t, .int k]) (TQ g S (xE_level t k) (some (.long (xLTot (xIa S 1) (xLev S (tN t)) k (xLng S 2) n)))) (TX g S (xE_level t k)) 1 6 (Ab g) := by
  refine metX (by decide +kernel) (Nat.le_of_ble_eq_true rfl) ?_
  intro p e s m below meth c C hb hml hret hlk hP het ls hl
  have C : CW g RX0 p s m ([.ref (gA g 0), .int t, .int k] : List Value).toArray := C
  have hS : va_S (Ab g) s.heap s.heap [] := va_S.rf
  have hl : lv_has ls 3 [(0, .ref (gA g 0)), (1, .int t), (2, .int k)] := hl
  refine lv_iload_n C.1 hb dX0_toldSum_0 rfl (lv_at hl 1 rfl) ?_
  refine lv_iload_n C.1 hb dX0_toldSum_1 rfl (lv_at hl 2 rfl) ?_
  refine run_rd (cRunS (As := [.int t, .int k]) (rest := []) C hb (hml.trans hl.1.symm) hP hS (k_X0_hasLevel l g S t k) wm_67 wm_68 wm_69 wm_2 (n := 2) (by decide +kernel) rfl ⟨rfl, rfl, Nat.le_of_ble_eq_true rfl, Nat.le_of_ble_eq_true rfl⟩ (Nat.le_of_ble_eq_true rfl) rfl ⟨Nat.zero_le _, Nat.zero_le _⟩ dX0_toldSum_2) ?_
  refine bz_ne (tgt := 18) C hb dX0_toldSum_5 (by decide) (fun c62 => ?_) (fun c62 => ?_)
  · have hx := xHasLevel_ix c62
    have ht1 := hx.1.1
    have ht2 := hx.1.2
    have hk1 := hx.2.1
    have hk2 := hx.2.2
    have h4 := levN_4 (tN t)
    refine lv_aload_n C.1 hb dX0_toldSum_18 rfl (lv_at hl 0 rfl) ?_
    refine lv_aload_n C.1 hb dX0_toldSum_19 rfl (lv_at hl 0 rfl) ?_
    refine gX_losses C hb hP dX0_toldSum_20 ?_
    refine lv_iload_n C.1 hb dX0_toldSum_23 rfl (lv_at hl 1 rfl) ?_
    refine toI ht1 ?_
    refine lv_iload_n C.1 hb dX0_toldSum_24 rfl (lv_at hl 2 rfl) ?_
    refine run_rd (cRunX (As := [.ref (gA g 11), .int (nI (tN t)), .int k]) (rest := []) C hb (hml.trans hl.1.symm) hP hS rfl (k_X0_levelTotal l g S n hI 2 (by decide) (tN t) ht2 k) wm_198 wm_199 wm_200 wm_201 wm_2 (n := 3) (by decide +kernel) rfl ⟨rfl, rfl, Nat.le_of_ble_eq_true rfl, Nat.le_of_ble_eq_true rfl⟩ (Nat.le_of_ble_eq_true rfl) rfl ⟨Nat.zero_le _, Nat.zero_le _⟩ dX0_toldSum_25) ?_
    exact txL C hb hret hlk hP hS dX0_toldSum_28 rfl rfl (by unfold xE_level; rw [c62]; rfl)
  · exact xthrowB C hb hl0 hlk hP hS (hl.1.trans hml.symm) het (text := "no such trait or level") (by decide) dX0_toldSum_8 dX0_toldSum_11 dX0_toldSum_12 dX0_toldSum_14 dX0_toldSum_17 ⟨Nat.le_of_ble_eq_true rfl, Nat.le_of_ble_eq_true rfl, Nat.le_of_ble_eq_true rfl, Nat.le_of_ble_eq_true rfl⟩ (by unfold xE_level; rw [c62]; rfl) rfl

set_option maxRecDepth 100000 in
set_option maxHeartbeats 4000000 in
theorem k_X0_fittedSum (l : Launch) (hl0 : l.stackTraces = false) (g : gG) (S : WS) (n : Nat) (hI : XI n S) (t k : Int32) : vx_Met l yX0_fittedSum (wA yX0_fittedSum cX0_fittedSum 3 (some .long)) ({ frames := 6, cells := 1, slots := 6, locals := 250 }) (PW g S [.ref (gA g 0), .int t, .int k]) (TQ g S (xE_level t k) (some (.long (xLTot (xIa S 1) (xLev S (tN t)) k (xLng S 3) n)))) (TX g S (xE_level t k)) 1 6 (Ab g) := by
  refine metX (by decide +kernel) (Nat.le_of_ble_eq_true rfl) ?_
  intro p e s m below meth c C hb hml hret hlk hP het ls hl
  have C : CW g RX0 p s m ([.ref (gA g 0), .int t, .int k] : List Value).toArray := C
  have hS : va_S (Ab g) s.heap s.heap [] := va_S.rf
  have hl : lv_has ls 3 [(0, .ref (gA g 0)), (1, .int t), (2, .int k)] := hl
  refine lv_iload_n C.1 hb dX0_fittedSum_0 rfl (lv_at hl 1 rfl) ?_
  refine lv_iload_n C.1 hb dX0_fittedSum_1 rfl (lv_at hl 2 rfl) ?_
  refine run_rd (cRunS (As := [.int t, .int k]) (rest := []) C hb (hml.trans hl.1.symm) hP hS (k_X0_hasLevel l g S t k) wm_67 wm_68 wm_69 wm_2 (n := 2) (by decide +kernel) rfl ⟨rfl, rfl, Nat.le_of_ble_eq_true rfl, Nat.le_of_ble_eq_true rfl⟩ (Nat.le_of_ble_eq_true rfl) rfl ⟨Nat.zero_le _, Nat.zero_le _⟩ dX0_fittedSum_2) ?_
  refine bz_ne (tgt := 18) C hb dX0_fittedSum_5 (by decide) (fun c63 => ?_) (fun c63 => ?_)
  · have hx := xHasLevel_ix c63
    have ht1 := hx.1.1
    have ht2 := hx.1.2
    have hk1 := hx.2.1
    have hk2 := hx.2.2
    have h4 := levN_4 (tN t)
    refine lv_aload_n C.1 hb dX0_fittedSum_18 rfl (lv_at hl 0 rfl) ?_
    refine lv_aload_n C.1 hb dX0_fittedSum_19 rfl (lv_at hl 0 rfl) ?_
    refine gX_fittedLosses C hb hP dX0_fittedSum_20 ?_
    refine lv_iload_n C.1 hb dX0_fittedSum_23 rfl (lv_at hl 1 rfl) ?_
    refine toI ht1 ?_
    refine lv_iload_n C.1 hb dX0_fittedSum_24 rfl (lv_at hl 2 rfl) ?_
    refine run_rd (cRunX (As := [.ref (gA g 14), .int (nI (tN t)), .int k]) (rest := []) C hb (hml.trans hl.1.symm) hP hS rfl (k_X0_levelTotal l g S n hI 3 (by decide) (tN t) ht2 k) wm_198 wm_199 wm_200 wm_201 wm_2 (n := 3) (by decide +kernel) rfl ⟨rfl, rfl, Nat.le_of_ble_eq_true rfl, Nat.le_of_ble_eq_true rfl⟩ (Nat.le_of_ble_eq_true rfl) rfl ⟨Nat.zero_le _, Nat.zero_le _⟩ dX0_fittedSum_25) ?_
    exact txL C hb hret hlk hP hS dX0_fittedSum_28 rfl rfl (by unfold xE_level; rw [c63]; rfl)
  · exact xthrowB C hb hl0 hlk hP hS (hl.1.trans hml.symm) het (text := "no such trait or level") (by decide) dX0_fittedSum_8 dX0_fittedSum_11 dX0_fittedSum_12 dX0_fittedSum_14 dX0_fittedSum_17 ⟨Nat.le_of_ble_eq_true rfl, Nat.le_of_ble_eq_true rfl, Nat.le_of_ble_eq_true rfl, Nat.le_of_ble_eq_true rfl⟩ (by unfold xE_level; rw [c63]; rfl) rfl

set_option maxRecDepth 100000 in
set_option maxHeartbeats 4000000 in
theorem k_X0_worst (l : Launch) (hl0 : l.stackTraces = false) (g : gG) (S : WS) (n : Nat) (hI : XI n S) (t : Int32) : vx_Met l yX0_worst (wA yX0_worst cX0_worst 7 (some .long)) ({ frames := 6, cells := 1, slots := 6, locals := 250 }) (PW g S [.ref (gA g 0), .int t]) (TQ g S (xE_trait t) (some (.long (xWorst S n (tN t) (levN (tN t)))))) (TX g S (xE_trait t)) 1 6 (Ab g) := by
  refine metX (by decide +kernel) (Nat.le_of_ble_eq_true rfl) ?_
  intro p e s m below meth c C hb hml hret hlk hP het ls hl
  have C : CW g RX0 p s m ([.ref (gA g 0), .int t] : List Value).toArray := C
  have hS : va_S (Ab g) s.heap s.heap [] := va_S.rf
  have hl : lv_has ls 7 [(0, .ref (gA g 0)), (1, .int t)] := hl
  refine lv_iload_n C.1 hb dX0_worst_0 rfl (lv_at hl 1 rfl) ?_
  refine run_rd (cRunS (As := [.int t]) (rest := []) C hb (hml.trans hl.1.symm) hP hS (k_X0_hasTrait l g S t) wm_71 wm_72 wm_73 wm_2 (n := 1) (by decide +kernel) rfl ⟨rfl, rfl, Nat.le_of_ble_eq_true rfl, Nat.le_of_ble_eq_true rfl⟩ (Nat.le_of_ble_eq_true rfl) rfl ⟨Nat.zero_le _, Nat.zero_le _⟩ dX0_worst_1) ?_
  refine bz_ne (tgt := 17) C hb dX0_worst_4 (by decide) (fun c64 => ?_) (fun c64 => ?_)
  · have hx := xHasTrait_ix c64
    have ht1 := hx.1
    have ht2 := hx.2
    have h4 := levN_4 (tN t)
    refine lv_lconst (v := 0) C.1 hb dX0_worst_17 (by decide) ?_
    refine lv_lstore_n (lv' := [(2, .long 0), (0, .ref (gA g 0)), (1, .int t)]) C.1 hb dX0_worst_18 rfl hl (by decide) rfl (fun ls hl => ?_)
    refine lv_iconst (v := 0) C.1 hb dX0_worst_19 (by decide) ?_
    refine lv_istore (lv' := [(4, .int 0), (2, .long 0), (0, .ref (gA g 0)), (1, .int t)]) C.1 hb dX0_worst_20 hl (by decide) rfl (fun ls hl => ?_)
    have key : ∀ f i : Nat, levN (tN t) - i < f → i ≤ levN (tN t) → ∀ (H : Heap) (locs : List Loc), HW g S H → va_S (Ab g) s.heap H locs → ∀ ls : Array Slot, lv_has ls 7 [(0, .ref (gA g 0)), (1, .int t), (2, .long (xWorst S n (tN t) i)), (4, .int (nI i))] → W p l e ({ frames := 6, cells := 1, slots := 6, locals := 250 }) s m ([.ref (gA g 0), .int t] : List Value).toArray below meth c H locs 0 0 (vx_MQ below (TQ g S (xE_trait t) (some (.long (xWorst S n (tN t) (levN (tN t)))))) (TX g S (xE_trait t)) ([.ref (gA g 0), .int t] : List Value).toArray s 1 6 (Ab g)) (F0 m 22 ls []) := by
      intro f
      induction f with
      | zero => intro i h; exact absurd h (Nat.not_lt_zero _)
      | succ f ih =>
        intro i hfi hi  H locs hP hS ls hl
        refine lv_iload C.1 hb dX0_worst_22 (lv_at hl 3 rfl) ?_
        refine gX_LEVELS C hb hS dX0_worst_24 ?_
        refine lv_iload_n C.1 hb dX0_worst_27 rfl (lv_at hl 1 rfl) ?_
        refine toI ht1 ?_
        refine ldX_LEVELS (j := (tN t)) C hb hS rfl ht2 dX0_worst_28 ?_
        refine lv_icmp_ge (tgt := 73) C.1 hb dX0_worst_29 (by decide) (fun c65 => ?_) (fun c65 => ?_)
        · have hin : i = levN (tN t) := by have := le_nI (a := levN (tN t)) (b := i) (by omega) (by omega) c65; omega
          rw [hin] at hl
          refine lv_lload_n C.1 hb dX0_worst_73 rfl (lv_at hl 2 rfl) ?_
          exact txL C hb hret hlk hP hS dX0_worst_74 rfl rfl (by unfold xE_trait; rw [c64]; rfl)
        · have hlt : i < levN (tN t) := nle_nI (a := levN (tN t)) (b := i) (by omega) (by omega) c65
          refine lv_aload_n C.1 hb dX0_worst_32 rfl (lv_at hl 0 rfl) ?_
          refine lv_aload_n C.1 hb dX0_worst_33 rfl (lv_at hl 0 rfl) ?_
          refine gX_losses C hb hP dX0_worst_34 ?_
          refine lv_iload_n C.1 hb dX0_worst_37 rfl (lv_at hl 1 rfl) ?_
          refine toI ht1 ?_
          refine lv_iload C.1 hb dX0_worst_38 (lv_at hl 3 rfl) ?_
          refine run_rd (cRunX (As := [.ref (gA g 11), .int (nI (tN t)), .int (nI i)]) (rest := []) C hb (hml.trans hl.1.symm) hP hS rfl (k_X0_levelTotal l g S n hI 2 (by decide) (tN t) ht2 (nI i)) wm_198 wm_199 wm_200 wm_201 wm_2 (n := 3) (by decide +kernel) rfl ⟨rfl, rfl, Nat.le_of_ble_eq_true rfl, Nat.le_of_ble_eq_true rfl⟩ (Nat.le_of_ble_eq_true rfl) rfl ⟨Nat.zero_le _, Nat.zero_le _⟩ dX0_worst_40) ?_
          refine lv_aload_n C.1 hb dX0_worst_43 rfl (lv_at hl 0 rfl) ?_
          refine lv_aload_n C.1 hb dX0_worst_44 rfl (lv_at hl 0 rfl) ?_
          refine gX_fittedLosses C hb hP dX0_worst_45 ?_
          refine lv_iload_n C.1 hb dX0_worst_48 rfl (lv_at hl 1 rfl) ?_
          refine toI ht1 ?_
          refine lv_iload C.1 hb dX0_worst_49 (lv_at hl 3 rfl) ?_
          refine run_rd (cRunX (As := [.ref (gA g 14), .int (nI (tN t)), .int (nI i)]) (rest := [.long (xLTot (xIa S 1) (xLev S (tN t)) (nI i) (xLng S 2) n)]) C hb (hml.trans hl.1.symm) hP hS rfl (k_X0_levelTotal l g S n hI 3 (by decide) (tN t) ht2 (nI i)) wm_198 wm_199 wm_200 wm_201 wm_2 (n := 3) (by decide +kernel) rfl ⟨rfl, rfl, Nat.le_of_ble_eq_true rfl, Nat.le_of_ble_eq_true rfl⟩ (Nat.le_of_ble_eq_true rfl) rfl ⟨Nat.zero_le _, Nat.zero_le _⟩ dX0_worst_51) ?_
          refine lv_lsub C.1 hb dX0_worst_54 ?_
          refine lv_lstore (lv' := [(5, .long ((xLTot (xIa S 1) (xLev S (tN t)) (nI i) (xLng S 2) n) - (xLTot (xIa S 1) (xLev S (tN t)) (nI i) (xLng S 3) n))), (0, .ref (gA g 0)), (1, .int t), (2, .long (xWorst S n (tN t) i)), (4, .int (nI i))]) C.1 hb dX0_worst_55 hl (by decide) rfl (fun ls hl => ?_)
          refine lv_lload_n C.1 hb dX0_worst_57 rfl (lv_at hl 3 rfl) ?_
          refine lv_lload C.1 hb dX0_worst_58 (lv_at hl 0 rfl) ?_
          refine va_mabs_long C.1 hb (hml.trans hl.1.symm) C.2.1 (C.2.2.1 _ wm_409) (C.2.2.1 _ wm_410) (C.2.2.1 _ wm_207) (C.2.2.1 _ wm_411) (Nat.le_of_ble_eq_true rfl) (Nat.le_of_ble_eq_true rfl) (Nat.zero_le _) (Nat.zero_le _) dX0_worst_60 ?_
          refine va_mmax_long C.1 hb (hml.trans hl.1.symm) C.2.1 (C.2.2.1 _ wm_205) (C.2.2.1 _ wm_206) (C.2.2.1 _ wm_207) (C.2.2.1 _ wm_208) (Nat.le_of_ble_eq_true rfl) (Nat.le_of_ble_eq_true rfl) (Nat.zero_le _) (Nat.zero_le _) dX0_worst_63 ?_
          refine lv_lstore_n (lv' := [(2, .long (mx64 (xWorst S n (tN t) i) (ab64 ((xLTot (xIa S 1) (xLev S (tN t)) (nI i) (xLng S 2) n) - (xLTot (xIa S 1) (xLev S (tN t)) (nI i) (xLng S 3) n))))), (5, .long ((xLTot (xIa S 1) (xLev S (tN t)) (nI i) (xLng S 2) n) - (xLTot (xIa S 1) (xLev S (tN t)) (nI i) (xLng S 3) n))), (0, .ref (gA g 0)), (1, .int t), (4, .int (nI i))]) C.1 hb dX0_worst_66 rfl hl (by decide) rfl (fun ls hl => ?_)
          refine lv_iinc (v := nI (i + 1)) (lv' := [(4, .int (nI (i + 1))), (2, .long (mx64 (xWorst S n (tN t) i) (ab64 ((xLTot (xIa S 1) (xLev S (tN t)) (nI i) (xLng S 2) n) - (xLTot (xIa S 1) (xLev S (tN t)) (nI i) (xLng S 3) n))))), (5, .long ((xLTot (xIa S 1) (xLev S (tN t)) (nI i) (xLng S 2) n) - (xLTot (xIa S 1) (xLev S (tN t)) (nI i) (xLng S 3) n))), (0, .ref (gA g 0)), (1, .int t)]) C.1 hb dX0_worst_67 hl (k := 4) rfl (nI_1 i) (by decide) rfl (fun ls hl => ?_)
          refine lv_goto (tgt := 22) C.1 hb dX0_worst_70 (by decide) ?_
          exact ih (i + 1) (by omega) (by omega)  _ _ hP hS ls (lv_sub hl [3, 4, 1, 0] rfl)
    exact key (levN (tN t) - 0 + 1) 0 (by omega) (by omega)  _ _ hP hS ls (lv_sub hl [2, 3, 1, 0] rfl)
  · exact xthrowB C hb hl0 hlk hP hS (hl.1.trans hml.symm) het (text := "no such trait") (by decide) dX0_worst_7 dX0_worst_10 dX0_worst_11 dX0_worst_13 dX0_worst_16 ⟨Nat.le_of_ble_eq_true rfl, Nat.le_of_ble_eq_true rfl, Nat.le_of_ble_eq_true rfl, Nat.le_of_ble_eq_true rfl⟩ (by unfold xE_trait; rw [c64]; rfl) rfl

set_option maxRecDepth 100000 in
set_option maxHeartbeats 4000000 in
theorem k_X0_premium (l : Launch) (hl0 : l.stackTraces = false) (g : gG) (S : WS) (n : Nat) (hI : XI n S) (r : Int32) : vx_Met l yX0_premium (wA yX0_premium cX0_premium 2 (some .long)) ({ frames := 6, cells := 1, slots := 6, locals := 250 }) (PW g S [.ref (gA g 0), .int r]) (TQ g S (xE_row S r) (some (.long (xNewP S (tN r))))) (TX g S (xE_row S r)) 1 6 (Ab g) := by
  refine metX (by decide +kernel) (Nat.le_of_ble_eq_true rfl) ?_
  intro p e s m below meth c C hb hml hret hlk hP het ls hl
  have C : CW g RX0 p s m ([.ref (gA g 0), .int r] : List Value).toArray := C
  have hS : va_S (Ab g) s.heap s.heap [] := va_S.rf
  have hl : lv_has ls 2 [(0, .ref (gA g 0)), (1, .int r)] := hl
  refine lv_aload_n C.1 hb dX0_premium_0 rfl (lv_at hl 0 rfl) ?_
  refine lv_iload_n C.1 hb dX0_premium_1 rfl (lv_at hl 1 rfl) ?_
  refine run_rd (cRunX (As := [.int r]) (rest := []) C hb (hml.trans hl.1.symm) hP hS rfl (k_X0_hasRow l g S n hI r) wm_127 wm_128 wm_129 wm_130 wm_2 (n := 1) (by decide +kernel) rfl ⟨rfl, rfl, Nat.le_of_ble_eq_true rfl, Nat.le_of_ble_eq_true rfl⟩ (Nat.le_of_ble_eq_true rfl) rfl ⟨Nat.zero_le _, Nat.zero_le _⟩ dX0_premium_2) ?_
  refine bz_ne (tgt := 18) C hb dX0_premium_5 (by decide) (fun c66 => ?_) (fun c66 => ?_)
  · have hx := xHasRow_ix hI.1 hI.2.1 c66
    have hx1 := hx.1.1
    have hx2 := hx.1.2
    have hn40 := hI.1
    refine lv_aload_n C.1 hb dX0_premium_18 rfl (lv_at hl 0 rfl) ?_
    refine lv_iload_n C.1 hb dX0_premium_19 rfl (lv_at hl 1 rfl) ?_
    refine toI hx1 ?_
    refine run_rd (cRunX (As := [.int (nI (tN r))]) (rest := []) C hb (hml.trans hl.1.symm) hP hS rfl (k_X0_newPremium l g S (tN r) (by omega)) wm_317 wm_318 wm_319 wm_320 wm_2 (n := 1) (by decide +kernel) rfl ⟨rfl, rfl, Nat.le_of_ble_eq_true rfl, Nat.le_of_ble_eq_true rfl⟩ (Nat.le_of_ble_eq_true rfl) rfl ⟨Nat.zero_le _, Nat.zero_le _⟩ dX0_premium_20) ?_
    exact txL C hb hret hlk hP hS dX0_premium_23 rfl rfl (by unfold xE_row; rw [c66]; rfl)
  · exact xthrowB C hb hl0 hlk hP hS (hl.1.trans hml.symm) het (text := "no such row") (by decide) dX0_premium_8 dX0_premium_11 dX0_premium_12 dX0_premium_14 dX0_premium_17 ⟨Nat.le_of_ble_eq_true rfl, Nat.le_of_ble_eq_true rfl, Nat.le_of_ble_eq_true rfl, Nat.le_of_ble_eq_true rfl⟩ (by unfold xE_row; rw [c66]; rfl) rfl

set_option maxRecDepth 100000 in
set_option maxHeartbeats 4000000 in
theorem k_X0_capped (l : Launch) (hl0 : l.stackTraces = false) (g : gG) (S : WS) (n : Nat) (hI : XI n S) (r : Int32) : vx_Met l yX0_capped (wA yX0_capped cX0_capped 2 (some .long)) ({ frames := 6, cells := 1, slots := 6, locals := 250 }) (PW g S [.ref (gA g 0), .int r]) (TQ g S (xE_row S r) (some (.long (xCapP S (tN r))))) (TX g S (xE_row S r)) 1 6 (Ab g) := by
  refine metX (by decide +kernel) (Nat.le_of_ble_eq_true rfl) ?_
  intro p e s m below meth c C hb hml hret hlk hP het ls hl
  have C : CW g RX0 p s m ([.ref (gA g 0), .int r] : List Value).toArray := C
  have hS : va_S (Ab g) s.heap s.heap [] := va_S.rf
  have hl : lv_has ls 2 [(0, .ref (gA g 0)), (1, .int r)] := hl
  refine lv_aload_n C.1 hb dX0_capped_0 rfl (lv_at hl 0 rfl) ?_
  refine lv_iload_n C.1 hb dX0_capped_1 rfl (lv_at hl 1 rfl) ?_
  refine run_rd (cRunX (As := [.int r]) (rest := []) C hb (hml.trans hl.1.symm) hP hS rfl (k_X0_hasRow l g S n hI r) wm_127 wm_128 wm_129 wm_130 wm_2 (n := 1) (by decide +kernel) rfl ⟨rfl, rfl, Nat.le_of_ble_eq_true rfl, Nat.le_of_ble_eq_true rfl⟩ (Nat.le_of_ble_eq_true rfl) rfl ⟨Nat.zero_le _, Nat.zero_le _⟩ dX0_capped_2) ?_
  refine bz_ne (tgt := 18) C hb dX0_capped_5 (by decide) (fun c67 => ?_) (fun c67 => ?_)
  · have hx := xHasRow_ix hI.1 hI.2.1 c67
    have hx1 := hx.1.1
    have hx2 := hx.1.2
    have hn40 := hI.1
    refine lv_aload_n C.1 hb dX0_capped_18 rfl (lv_at hl 0 rfl) ?_
    refine lv_iload_n C.1 hb dX0_capped_19 rfl (lv_at hl 1 rfl) ?_
    refine toI hx1 ?_
    refine run_rd (cRunX (As := [.int (nI (tN r))]) (rest := []) C hb (hml.trans hl.1.symm) hP hS rfl (k_X0_cappedPremium l g S (tN r) (by omega)) wm_313 wm_314 wm_315 wm_316 wm_2 (n := 1) (by decide +kernel) rfl ⟨rfl, rfl, Nat.le_of_ble_eq_true rfl, Nat.le_of_ble_eq_true rfl⟩ (Nat.le_of_ble_eq_true rfl) rfl ⟨Nat.zero_le _, Nat.zero_le _⟩ dX0_capped_20) ?_
    exact txL C hb hret hlk hP hS dX0_capped_23 rfl rfl (by unfold xE_row; rw [c67]; rfl)
  · exact xthrowB C hb hl0 hlk hP hS (hl.1.trans hml.symm) het (text := "no such row") (by decide) dX0_capped_8 dX0_capped_11 dX0_capped_12 dX0_capped_14 dX0_capped_17 ⟨Nat.le_of_ble_eq_true rfl, Nat.le_of_ble_eq_true rfl, Nat.le_of_ble_eq_true rfl, Nat.le_of_ble_eq_true rfl⟩ (by unfold xE_row; rw [c67]; rfl) rfl

set_option maxRecDepth 100000 in
set_option maxHeartbeats 4000000 in
theorem k_X0_rankedAt (l : Launch) (hl0 : l.stackTraces = false) (g : gG) (S : WS) (n : Nat) (hI : XI n S) (q : Int32) : vx_Met l yX0_rankedAt (wA yX0_rankedAt cX0_rankedAt 3 (some .int)) ({ frames := 6, cells := 1, slots := 6, locals := 250 }) (PW g S [.ref (gA g 0), .int q]) (TQ g S (xE_rank S n q) (some (.int (nI ((xRank S n q).getD 0))))) (TX g S (xE_rank S n q)) 1 6 (Ab g) := by
  refine metX (by decide +kernel) (Nat.le_of_ble_eq_true rfl) ?_
  intro p e s m below meth c C hb hml hret hlk hP het ls hl
  have C : CW g RX0 p s m ([.ref (gA g 0), .int q] : List Value).toArray := C
  have hS : va_S (Ab g) s.heap s.heap [] := va_S.rf
  have hl : lv_has ls 3 [(0, .ref (gA g 0)), (1, .int q)] := hl
  refine lv_iconst (v := 0) C.1 hb dX0_rankedAt_0 (by decide) ?_
  refine lv_istore_n (lv' := [(2, .int 0), (0, .ref (gA g 0)), (1, .int q)]) C.1 hb dX0_rankedAt_1 rfl hl (by decide) rfl (fun ls hl => ?_)
  have key : ∀ f i : Nat, n - i < f → i ≤ n → (xRankF S n q (n - i) i = xRank S n q) → ∀ (H : Heap) (locs : List Loc), HW g S H → va_S (Ab g) s.heap H locs → ∀ ls : Array Slot, lv_has ls 3 [(0, .ref (gA g 0)), (1, .int q), (2, .int (nI i))] → W p l e ({ frames := 6, cells := 1, slots := 6, locals := 250 }) s m ([.ref (gA g 0), .int q] : List Value).toArray below meth c H locs 0 0 (vx_MQ below (TQ g S (xE_rank S n q) (some (.int (nI ((xRank S n q).getD 0))))) (TX g S (xE_rank S n q)) ([.ref (gA g 0), .int q] : List Value).toArray s 1 6 (Ab g)) (F0 m 2 ls []) := by
    intro f
    induction f with
    | zero => intro i h; exact absurd h (Nat.not_lt_zero _)
    | succ f ih =>
      intro i hfi hi heq H locs hP hS ls hl
      refine lv_iload_n C.1 hb dX0_rankedAt_2 rfl (lv_at hl 2 rfl) ?_
      refine lv_aload_n C.1 hb dX0_rankedAt_3 rfl (lv_at hl 0 rfl) ?_
      refine gX_addedRows C hb hP dX0_rankedAt_4 ?_
      refine lv_icmp_ge (tgt := 36) C.1 hb dX0_rankedAt_7 (by decide) (fun c68 => ?_) (fun c68 => ?_)
      · have hin : i = n := by have := le_nI (a := n) (b := i) (by have := hI.1; omega) (by have := hI.1; omega) (by rw [← hI.2.1]; exact c68); omega
        rw [hin] at hl
        have he : xRank S n q = none := by rw [← heq, hin, Nat.sub_self]; rfl
        exact xthrowB C hb hl0 hlk hP hS (hl.1.trans hml.symm) het (text := "no such place") (by decide) dX0_rankedAt_36 dX0_rankedAt_39 dX0_rankedAt_40 dX0_rankedAt_42 dX0_rankedAt_45 ⟨Nat.le_of_ble_eq_true rfl, Nat.le_of_ble_eq_true rfl, Nat.le_of_ble_eq_true rfl, Nat.le_of_ble_eq_true rfl⟩ (by unfold xE_rank; rw [he]) rfl
      · have hlt : i < n := nle_nI (a := n) (b := i) (by have := hI.1; omega) (by have := hI.1; omega) (by rw [← hI.2.1]; exact c68)
        have hn40 := hI.1
        have hd : n - i = (n - (i + 1)) + 1 := by omega
        rw [hd] at heq
        refine lv_aload_n C.1 hb dX0_rankedAt_10 rfl (lv_at hl 0 rfl) ?_
        refine gX_live C hb hP dX0_rankedAt_11 ?_
        refine lv_iload_n C.1 hb dX0_rankedAt_14 rfl (lv_at hl 2 rfl) ?_
        refine ldX_live (j := i) C hb hP rfl (by omega) dX0_rankedAt_15 ?_
        refine lv_if_eq (tgt := 30) C.1 hb dX0_rankedAt_16 (by decide) (fun c69 => ?_) (fun c69 => ?_)
        · refine lv_iinc (v := nI (i + 1)) (lv' := [(2, .int (nI (i + 1))), (0, .ref (gA g 0)), (1, .int q)]) C.1 hb dX0_rankedAt_30 hl (k := 2) rfl (nI_1 i) (by decide) rfl (fun ls hl => ?_)
          refine lv_goto (tgt := 2) C.1 hb dX0_rankedAt_33 (by decide) ?_
          exact ih (i + 1) (by omega) (by omega) ((if_pos c69).symm.trans heq) _ _ hP hS ls (lv_sub hl [1, 2, 0] rfl)
        · refine lv_aload_n C.1 hb dX0_rankedAt_19 rfl (lv_at hl 0 rfl) ?_
          refine lv_iload_n C.1 hb dX0_rankedAt_20 rfl (lv_at hl 2 rfl) ?_
          refine run_rd (cRunX (As := [.int (nI i)]) (rest := []) C hb (hml.trans hl.1.symm) hP hS rfl (k_X0_placeOf l g S n hI i (by omega)) wm_453 wm_454 wm_455 wm_456 wm_2 (n := 1) (by decide +kernel) rfl ⟨rfl, rfl, Nat.le_of_ble_eq_true rfl, Nat.le_of_ble_eq_true rfl⟩ (Nat.le_of_ble_eq_true rfl) rfl ⟨Nat.zero_le _, Nat.zero_le _⟩ dX0_rankedAt_21) ?_
          refine lv_iload_n C.1 hb dX0_rankedAt_24 rfl (lv_at hl 1 rfl) ?_
          refine lv_icmp_ne (tgt := 30) C.1 hb dX0_rankedAt_25 (by decide) (fun c70 => ?_) (fun c70 => ?_)
          · refine lv_iinc (v := nI (i + 1)) (lv' := [(2, .int (nI (i + 1))), (0, .ref (gA g 0)), (1, .int q)]) C.1 hb dX0_rankedAt_30 hl (k := 2) rfl (nI_1 i) (by decide) rfl (fun ls hl => ?_)
            refine lv_goto (tgt := 2) C.1 hb dX0_rankedAt_33 (by decide) ?_
            exact ih (i + 1) (by omega) (by omega) (((if_neg c69).trans (if_neg c70)).symm.trans heq) _ _ hP hS ls (lv_sub hl [1, 2, 0] rfl)
          · have he : xRank S n q = some i := heq.symm.trans ((if_neg c69).trans (if_pos c70))
            refine lv_iload_n C.1 hb dX0_rankedAt_28 rfl (lv_at hl 2 rfl) ?_
            exact txI C hb hret hlk hP hS dX0_rankedAt_29 (by rw [he]; rfl) rfl (by unfold xE_rank; rw [he])
  exact key (n - 0 + 1) 0 (by omega) (by omega) rfl _ _ hP hS ls (lv_sub hl [1, 2, 0] rfl)

set_option maxRecDepth 100000 in
set_option maxHeartbeats 4000000 in
theorem k_X0_add (l : Launch) (hl0 : l.stackTraces = false) (g : gG) (S : WS) (n : Nat) (hI : XI n S) (a b q ex cl lo : Int32) : vx_Met l yX0_add (wA yX0_add cX0_add 8 (some .int)) ({ frames := 6, cells := 1, slots := 6, locals := 250 }) (PW g S [.ref (gA g 0), .int a, .int b, .int q, .int ex, .int cl, .int lo]) (TQ g (xR_add S n a b q ex cl lo) (xE_add S a b q ex cl lo) (some (.int (nI n)))) (TX g (xR_add S n a b q ex cl lo) (xE_add S a b q ex cl lo)) 1 6 (Ab g) := by
  refine metX (by decide +kernel) (Nat.le_of_ble_eq_true rfl) ?_
  intro p e s m below meth c C hb hml hret hlk hP het ls hl
  have C : CW g RX0 p s m ([.ref (gA g 0), .int a, .int b, .int q, .int ex, .int cl, .int lo] : List Value).toArray := C
  have hS : va_S (Ab g) s.heap s.heap [] := va_S.rf
  have hl : lv_has ls 8 [(0, .ref (gA g 0)), (1, .int a), (2, .int b), (3, .int q), (4, .int ex), (5, .int cl), (6, .int lo)] := hl
  refine lv_iconst (v := 0) C.1 hb dX0_add_0 (by decide) ?_
  refine lv_iload_n C.1 hb dX0_add_1 rfl (lv_at hl 1 rfl) ?_
  refine run_rd (cRunS (As := [.int 0, .int a]) (rest := []) C hb (hml.trans hl.1.symm) hP hS (k_X0_hasLevel l g S 0 a) wm_67 wm_68 wm_69 wm_2 (n := 2) (by decide +kernel) rfl ⟨rfl, rfl, Nat.le_of_ble_eq_true rfl, Nat.le_of_ble_eq_true rfl⟩ (Nat.le_of_ble_eq_true rfl) rfl ⟨Nat.zero_le _, Nat.zero_le _⟩ dX0_add_2) ?_
  refine bz_eq (tgt := 24) C hb dX0_add_5 (by decide) (fun c71 => ?_) (fun c71 => ?_)
  · have ho : xAddOk a b q ex cl lo = false := by simp [xAddOk, c71]
    exact xthrowI C hb hl0 hlk hP hS (hl.1.trans hml.symm) het (text := "no such level") (by decide) dX0_add_24 dX0_add_27 dX0_add_28 dX0_add_30 dX0_add_33 ⟨Nat.le_of_ble_eq_true rfl, Nat.le_of_ble_eq_true rfl, Nat.le_of_ble_eq_true rfl, Nat.le_of_ble_eq_true rfl⟩ (by unfold xE_add; rw [ho]; rfl) (by unfold xR_add; rw [ho]; rfl)
  · refine lv_iconst (v := 1) C.1 hb dX0_add_8 (by decide) ?_
    refine lv_iload_n C.1 hb dX0_add_9 rfl (lv_at hl 2 rfl) ?_
    refine run_rd (cRunS (As := [.int 1, .int b]) (rest := []) C hb (hml.trans hl.1.symm) hP hS (k_X0_hasLevel l g S 1 b) wm_67 wm_68 wm_69 wm_2 (n := 2) (by decide +kernel) rfl ⟨rfl, rfl, Nat.le_of_ble_eq_true rfl, Nat.le_of_ble_eq_true rfl⟩ (Nat.le_of_ble_eq_true rfl) rfl ⟨Nat.zero_le _, Nat.zero_le _⟩ dX0_add_10) ?_
    refine bz_eq (tgt := 24) C hb dX0_add_13 (by decide) (fun c72 => ?_) (fun c72 => ?_)
    · have ho : xAddOk a b q ex cl lo = false := by simp [xAddOk, c72]
      exact xthrowI C hb hl0 hlk hP hS (hl.1.trans hml.symm) het (text := "no such level") (by decide) dX0_add_24 dX0_add_27 dX0_add_28 dX0_add_30 dX0_add_33 ⟨Nat.le_of_ble_eq_true rfl, Nat.le_of_ble_eq_true rfl, Nat.le_of_ble_eq_true rfl, Nat.le_of_ble_eq_true rfl⟩ (by unfold xE_add; rw [ho]; rfl) (by unfold xR_add; rw [ho]; rfl)
    · refine lv_iconst (v := 2) C.1 hb dX0_add_16 (by decide) ?_
      refine lv_iload_n C.1 hb dX0_add_17 rfl (lv_at hl 3 rfl) ?_
      refine run_rd (cRunS (As := [.int 2, .int q]) (rest := []) C hb (hml.trans hl.1.symm) hP hS (k_X0_hasLevel l g S 2 q) wm_67 wm_68 wm_69 wm_2 (n := 2) (by decide +kernel) rfl ⟨rfl, rfl, Nat.le_of_ble_eq_true rfl, Nat.le_of_ble_eq_true rfl⟩ (Nat.le_of_ble_eq_true rfl) rfl ⟨Nat.zero_le _, Nat.zero_le _⟩ dX0_add_18) ?_
      refine bz_ne (tgt := 34) C hb dX0_add_21 (by decide) (fun c73 => ?_) (fun c73 => ?_)
      · refine lv_iload C.1 hb dX0_add_34 (lv_at hl 4 rfl) ?_
        refine lv_iconst (v := 1) C.1 hb dX0_add_36 (by decide) ?_
        refine lv_sipush (v := 1000) C.1 hb dX0_add_37 (by decide) ?_
        refine run_rd (cRunS (As := [.int ex, .int 1, .int 1000]) (rest := []) C hb (hml.trans hl.1.symm) hP hS (k_X0_isWithin l g S ex 1 1000) wm_74 wm_75 wm_76 wm_2 (n := 3) (by decide +kernel) rfl ⟨rfl, rfl, Nat.le_of_ble_eq_true rfl, Nat.le_of_ble_eq_true rfl⟩ (Nat.le_of_ble_eq_true rfl) rfl ⟨Nat.zero_le _, Nat.zero_le _⟩ dX0_add_40) ?_
        refine bz_eq (tgt := 69) C hb dX0_add_43 (by decide) (fun c74 => ?_) (fun c74 => ?_)
        · have ho : xAddOk a b q ex cl lo = false := by simp [xAddOk, c74]
          exact xthrowI C hb hl0 hlk hP hS (hl.1.trans hml.symm) het (text := "exposure, claims or loss out of range") (by decide) dX0_add_69 dX0_add_72 dX0_add_73 dX0_add_75 dX0_add_78 ⟨Nat.le_of_ble_eq_true rfl, Nat.le_of_ble_eq_true rfl, Nat.le_of_ble_eq_true rfl, Nat.le_of_ble_eq_true rfl⟩ (by unfold xE_add; rw [ho]; rfl) (by unfold xR_add; rw [ho]; rfl)
        · refine lv_iload C.1 hb dX0_add_46 (lv_at hl 5 rfl) ?_
          refine lv_iconst (v := 0) C.1 hb dX0_add_48 (by decide) ?_
          refine lv_sipush (v := 1000) C.1 hb dX0_add_49 (by decide) ?_
          refine run_rd (cRunS (As := [.int cl, .int 0, .int 1000]) (rest := []) C hb (hml.trans hl.1.symm) hP hS (k_X0_isWithin l g S cl 0 1000) wm_74 wm_75 wm_76 wm_2 (n := 3) (by decide +kernel) rfl ⟨rfl, rfl, Nat.le_of_ble_eq_true rfl, Nat.le_of_ble_eq_true rfl⟩ (Nat.le_of_ble_eq_true rfl) rfl ⟨Nat.zero_le _, Nat.zero_le _⟩ dX0_add_52) ?_
          refine bz_eq (tgt := 69) C hb dX0_add_55 (by decide) (fun c75 => ?_) (fun c75 => ?_)
          · have ho : xAddOk a b q ex cl lo = false := by simp [xAddOk, c75]
            exact xthrowI C hb hl0 hlk hP hS (hl.1.trans hml.symm) het (text := "exposure, claims or loss out of range") (by decide) dX0_add_69 dX0_add_72 dX0_add_73 dX0_add_75 dX0_add_78 ⟨Nat.le_of_ble_eq_true rfl, Nat.le_of_ble_eq_true rfl, Nat.le_of_ble_eq_true rfl, Nat.le_of_ble_eq_true rfl⟩ (by unfold xE_add; rw [ho]; rfl) (by unfold xR_add; rw [ho]; rfl)
          · refine lv_iload C.1 hb dX0_add_58 (lv_at hl 6 rfl) ?_
            refine lv_iconst (v := 0) C.1 hb dX0_add_60 (by decide) ?_
            refine lv_ldc (v := 1000000) C.1 hb C.2.1 (C.2.2.1 _ wm_66) dX0_add_61 ?_
            refine run_rd (cRunS (As := [.int lo, .int 0, .int 1000000]) (rest := []) C hb (hml.trans hl.1.symm) hP hS (k_X0_isWithin l g S lo 0 1000000) wm_74 wm_75 wm_76 wm_2 (n := 3) (by decide +kernel) rfl ⟨rfl, rfl, Nat.le_of_ble_eq_true rfl, Nat.le_of_ble_eq_true rfl⟩ (Nat.le_of_ble_eq_true rfl) rfl ⟨Nat.zero_le _, Nat.zero_le _⟩ dX0_add_63) ?_
            refine bz_ne (tgt := 79) C hb dX0_add_66 (by decide) (fun c76 => ?_) (fun c76 => ?_)
            · have ho : xAddOk a b q ex cl lo = true := by simp [xAddOk, c71, c72, c73, c74, c75, c76]
              refine lv_aload_n C.1 hb dX0_add_79 rfl (lv_at hl 0 rfl) ?_
              refine gX_addedRows C hb hP dX0_add_80 ?_
              refine toI hI.2.1 ?_
              refine lv_bipush (v := 40) C.1 hb dX0_add_83 (by decide) ?_
              refine lv_icmp_lt (tgt := 98) C.1 hb dX0_add_85 (by decide) (fun c77 => ?_) (fun c77 => ?_)
              · have hlt : n < 40 := (nI_ltI (a := n) (b := 40) (by have := hI.1; omega) (by decide)).mp c77
                have hd : xSc S 0 < 40 := by rw [hI.2.1]; exact c77
                refine lv_aload_n C.1 hb dX0_add_98 rfl (lv_at hl 0 rfl) ?_
                refine gX_addedRows C hb hP dX0_add_99 ?_
                refine toI hI.2.1 ?_
                refine lv_istore (lv' := [(7, .int (nI n)), (0, .ref (gA g 0)), (1, .int a), (2, .int b), (3, .int q), (4, .int ex), (5, .int cl), (6, .int lo)]) C.1 hb dX0_add_102 hl (by decide) rfl (fun ls hl => ?_)
                refine lv_aload_n C.1 hb dX0_add_104 rfl (lv_at hl 1 rfl) ?_
                refine gX_rowLevels C hb hP dX0_add_105 ?_
                refine lv_iconst (v := 0) C.1 hb dX0_add_108 (by decide) ?_
                refine al_lev (t := 0) C hb hP (by decide) (by decide) dX0_add_109 ?_
                refine lv_iload C.1 hb dX0_add_110 (lv_at hl 0 rfl) ?_
                refine lv_iload_n C.1 hb dX0_add_112 rfl (lv_at hl 2 rfl) ?_
                refine stX_lev (t := 0) (j := n) C hb hP hS (by decide) rfl (by omega) dX0_add_113 (fun H locs hP hS => ?_)
                have hP : HW g (xAd1 S n a) H := hP
                refine lv_aload_n C.1 hb dX0_add_114 rfl (lv_at hl 1 rfl) ?_
                refine gX_rowLevels C hb hP dX0_add_115 ?_
                refine lv_iconst (v := 1) C.1 hb dX0_add_118 (by decide) ?_
                refine al_lev (t := 1) C hb hP (by decide) (by decide) dX0_add_119 ?_
                refine lv_iload C.1 hb dX0_add_120 (lv_at hl 0 rfl) ?_
                refine lv_iload_n C.1 hb dX0_add_122 rfl (lv_at hl 3 rfl) ?_
                refine stX_lev (t := 1) (j := n) C hb hP hS (by decide) rfl (by omega) dX0_add_123 (fun H locs hP hS => ?_)
                have hP : HW g (xAd2 S n a b) H := hP
                refine lv_aload_n C.1 hb dX0_add_124 rfl (lv_at hl 1 rfl) ?_
                refine gX_rowLevels C hb hP dX0_add_125 ?_
                refine lv_iconst (v := 2) C.1 hb dX0_add_128 (by decide) ?_
                refine al_lev (t := 2) C hb hP (by decide) (by decide) dX0_add_129 ?_
                refine lv_iload C.1 hb dX0_add_130 (lv_at hl 0 rfl) ?_
                refine lv_iload_n C.1 hb dX0_add_132 rfl (lv_at hl 4 rfl) ?_
                refine stX_lev (t := 2) (j := n) C hb hP hS (by decide) rfl (by omega) dX0_add_133 (fun H locs hP hS => ?_)
                have hP : HW g (xAd3 S n a b q) H := hP
                refine lv_aload_n C.1 hb dX0_add_134 rfl (lv_at hl 1 rfl) ?_
                refine gX_exposures C hb hP dX0_add_135 ?_
                refine lv_iload C.1 hb dX0_add_138 (lv_at hl 0 rfl) ?_
                refine lv_iload C.1 hb dX0_add_140 (lv_at hl 5 rfl) ?_
                refine lv_i2l C.1 hb dX0_add_142 rfl ?_
                refine stX_exposures (j := n) C hb hP hS rfl (by omega) dX0_add_143 (fun H locs hP hS => ?_)
                have hP : HW g (xAd4 S n a b q ex) H := hP
                refine lv_aload_n C.1 hb dX0_add_144 rfl (lv_at hl 1 rfl) ?_
                refine gX_claims C hb hP dX0_add_145 ?_
                refine lv_iload C.1 hb dX0_add_148 (lv_at hl 0 rfl) ?_
                refine lv_iload C.1 hb dX0_add_150 (lv_at hl 6 rfl) ?_
                refine lv_i2l C.1 hb dX0_add_152 rfl ?_
                refine stX_claims (j := n) C hb hP hS rfl (by omega) dX0_add_153 (fun H locs hP hS => ?_)
                have hP : HW g (xAd5 S n a b q ex cl) H := hP
                refine lv_aload_n C.1 hb dX0_add_154 rfl (lv_at hl 1 rfl) ?_
                refine gX_losses C hb hP dX0_add_155 ?_
                refine lv_iload C.1 hb dX0_add_158 (lv_at hl 0 rfl) ?_
                refine lv_iload C.1 hb dX0_add_160 (lv_at hl 7 rfl) ?_
                refine lv_i2l C.1 hb dX0_add_162 rfl ?_
                refine stX_losses (j := n) C hb hP hS rfl (by omega) dX0_add_163 (fun H locs hP hS => ?_)
                have hP : HW g (xAd6 S n a b q ex cl lo) H := hP
                refine lv_aload_n C.1 hb dX0_add_164 rfl (lv_at hl 1 rfl) ?_
                refine gX_oldPremiums C hb hP dX0_add_165 ?_
                refine lv_iload C.1 hb dX0_add_168 (lv_at hl 0 rfl) ?_
                refine lv_iconst (v := (-1)) C.1 hb dX0_add_170 (by decide) ?_
                refine stX_oldPremiums (j := n) C hb hP hS rfl (by omega) dX0_add_171 (fun H locs hP hS => ?_)
                have hP : HW g (xAd7 S n a b q ex cl lo) H := hP
                refine lv_aload_n C.1 hb dX0_add_172 rfl (lv_at hl 1 rfl) ?_
                refine gX_live C hb hP dX0_add_173 ?_
                refine lv_iload C.1 hb dX0_add_176 (lv_at hl 0 rfl) ?_
                refine lv_iconst (v := 1) C.1 hb dX0_add_178 (by decide) ?_
                refine stX_live (j := n) C hb hP hS rfl (by omega) (by decide) dX0_add_179 (fun H locs hP hS => ?_)
                have hP : HW g (xAd8 S n a b q ex cl lo) H := hP
                refine lv_aload_n C.1 hb dX0_add_180 rfl (lv_at hl 1 rfl) ?_
                refine lv_dup C.1 hb dX0_add_181 rfl ?_
                refine gX_addedRows C hb hP dX0_add_182 ?_
                refine lv_iconst (v := 1) C.1 hb dX0_add_185 (by decide) ?_
                refine lv_iadd C.1 hb dX0_add_186 ?_
                refine toI (show xSc (xAd8 S n a b q ex cl lo) 0 + 1 = nI (n + 1) by rw [show xSc (xAd8 S n a b q ex cl lo) 0 = nI n from hI.2.1]; exact nI_1 n) ?_
                refine pX_addedRows C hb hP hS dX0_add_187 (fun H locs hP hS => ?_)
                have hP : HW g (xAd9 S n a b q ex cl lo) H := hP
                refine lv_aload_n C.1 hb dX0_add_190 rfl (lv_at hl 1 rfl) ?_
                refine lv_dup C.1 hb dX0_add_191 rfl ?_
                refine gX_liveRows C hb hP dX0_add_192 ?_
                refine lv_iconst (v := 1) C.1 hb dX0_add_195 (by decide) ?_
                refine lv_iadd C.1 hb dX0_add_196 ?_
                refine pX_liveRows C hb hP hS dX0_add_197 (fun H locs hP hS => ?_)
                have hP : HW g (xAd S n a b q ex cl lo) H := hP
                refine lv_aload_n C.1 hb dX0_add_200 rfl (lv_at hl 1 rfl) ?_
                refine run_wr (cRunX (As := []) (rest := []) C hb (hml.trans hl.1.symm) hP hS rfl (k_X0_refit l g (xAd S n a b q ex cl lo) (n + 1) (xAd_XI hI hlt ho)) wm_77 wm_78 wm_79 wm_80 wm_2 (n := 0) (by decide +kernel) rfl ⟨rfl, rfl, Nat.le_of_ble_eq_true rfl, Nat.le_of_ble_eq_true rfl⟩ (Nat.le_of_ble_eq_true rfl) rfl ⟨Nat.zero_le _, Nat.zero_le _⟩ dX0_add_201) hS (fun H locs hP hS => ?_)
                refine lv_iload C.1 hb dX0_add_204 (lv_at hl 0 rfl) ?_
                exact txI C hb hret hlk hP hS dX0_add_206 rfl (by unfold xR_add; rw [ho, if_pos rfl, if_pos hd]) (by unfold xE_add; rw [ho, if_pos rfl, if_pos hd])
              · have hd : ¬ xSc S 0 < 40 := by rw [hI.2.1]; exact c77
                exact xthrowS C hb hl0 hlk hP hS (hl.1.trans hml.symm) het (text := "no room for another row") (by decide) dX0_add_88 dX0_add_91 dX0_add_92 dX0_add_94 dX0_add_97 ⟨Nat.le_of_ble_eq_true rfl, Nat.le_of_ble_eq_true rfl, Nat.le_of_ble_eq_true rfl, Nat.le_of_ble_eq_true rfl⟩ (by unfold xE_add; rw [ho, if_pos rfl, if_neg hd]) (by unfold xR_add; rw [ho, if_pos rfl, if_neg hd])
            · have ho : xAddOk a b q ex cl lo = false := by simp [xAddOk, c76]
              exact xthrowI C hb hl0 hlk hP hS (hl.1.trans hml.symm) het (text := "exposure, claims or loss out of range") (by decide) dX0_add_69 dX0_add_72 dX0_add_73 dX0_add_75 dX0_add_78 ⟨Nat.le_of_ble_eq_true rfl, Nat.le_of_ble_eq_true rfl, Nat.le_of_ble_eq_true rfl, Nat.le_of_ble_eq_true rfl⟩ (by unfold xE_add; rw [ho]; rfl) (by unfold xR_add; rw [ho]; rfl)
      · have ho : xAddOk a b q ex cl lo = false := by simp [xAddOk, c73]
        exact xthrowI C hb hl0 hlk hP hS (hl.1.trans hml.symm) het (text := "no such level") (by decide) dX0_add_24 dX0_add_27 dX0_add_28 dX0_add_30 dX0_add_33 ⟨Nat.le_of_ble_eq_true rfl, Nat.le_of_ble_eq_true rfl, Nat.le_of_ble_eq_true rfl, Nat.le_of_ble_eq_true rfl⟩ (by unfold xE_add; rw [ho]; rfl) (by unfold xR_add; rw [ho]; rfl)
end
section
/-! what the reference's methods answer, in the numbers of the state -/
theorem ix3 (i t : Nat) : (3 : Int32) * nI i + nI t = nI (3 * i + t) := by
  show nI 3 * nI i + nI t = _
  rw [pk_mul, nI_add]
theorem ix3c1 (i : Nat) : (3 : Int32) * nI i + 1 = nI (3 * i + 1) := ix3 i 1
theorem ix3c2 (i : Nat) : (3 : Int32) * nI i + 2 = nI (3 * i + 2) := ix3 i 2
theorem ix3z (i : Nat) : (3 : Int32) * nI i = nI (3 * i + 0) := by
  show nI 3 * nI i = _
  rw [pk_mul]; rfl
theorem ix4 (t k : Nat) : (4 : Int32) * nI t + nI k = nI (4 * t + k) := by
  show nI 4 * nI t + nI k = _
  rw [pk_mul, nI_add]
theorem ix4m (t k : Nat) (h : 1 ≤ k) : (4 : Int32) * nI t + nI k - 1 = nI (4 * t + (k - 1)) := by
  rw [ix4]
  obtain ⟨j, rfl⟩ : ∃ j, k = j + 1 := ⟨k - 1, by omega⟩
  exact nI_pred (4 * t + j)
theorem lt_pred {n : Nat} (hn : n < 2 ^ 31) (k : Int32) : nI n - 1 < k ↔ nI n ≤ k := by
  rw [Int32.lt_iff_toInt_lt, Int32.le_iff_toInt_le, nI_toInt hn]
  have h : (nI n - 1).toInt = (n : Int) - 1 := by
    rw [Int32.toInt_sub, nI_toInt hn, show (1 : Int32).toInt = 1 from by decide]
    exact Int.bmod_eq_of_le (by omega) (by omega)
  rw [h]
  omega
theorem wit_pred {n : Nat} (hn : n < 2 ^ 31) (k : Int32) : xIsWithin k 0 (nI n - 1) = (!decide (k < 0) && !decide (nI n ≤ k)) := by
  unfold xIsWithin
  rw [decide_eq_decide.mpr (lt_pred hn k)]
theorem mTrait_eq (t : Int32) : xIsWithin t 0 2 = xHasTrait t := by
  have h := wit_pred (n := 3) (by decide) t
  exact h
def mLv (S : WS) : Nat → Bool := fun k => decide (mIa S 5 k = 0)
def mRow (S : WS) (r : Int32) : Bool := !decide (r < 0) && (!decide (mSc S 0 ≤ r) && decide (mIa S 5 (tN r) = 0))
theorem mRow_ix {S : WS} {r : Int32} {n : Nat} (hn : n ≤ 40) (h0 : mSc S 0 = nI n) (h : mRow S r = true) : (r = nI (tN r) ∧ tN r < n) ∧ mIa S 5 (tN r) = 0 := by
  simp only [mRow, Bool.and_eq_true, Bool.not_eq_true', decide_eq_false_iff_not, decide_eq_true_eq, h0] at h
  exact ⟨ixN (n := n) (by omega) h.1 h.2.1, h.2.2⟩
theorem within_ix {r : Int32} {n : Nat} (hn : n ≤ 40) (h : xIsWithin r 0 (nI n - 1) = true) : r = nI (tN r) ∧ tN r < n := by
  rw [wit_pred (by omega)] at h
  simp only [Bool.and_eq_true, Bool.not_eq_true', decide_eq_false_iff_not] at h
  exact ixN (n := n) (by omega) h.1 h.2
def mHas (S : WS) (t : Nat) (k : Int32) : Nat → Bool := fun i => decide (mIa S 5 i = 0) && decide (mIa S 0 (3 * i + t) = k)
def mL (S : WS) (a : Nat) : Nat → Int64 := fun i => (mIa S a i).toInt64
def mBase (S : WS) (n : Nat) : Int64 := if wsum (mLv S) (mL S 1) n = 0 then 0 else 10000 * wsum (mLv S) (mL S 3) n / wsum (mLv S) (mL S 1) n
def mFitN (S : WS) (b : Int64) (r : Nat) : Nat → Int64
  | 0 => (mIa S 1 r).toInt64 * b / 10000
  | t + 1 => mFitN S b r t * (mIa S 6 (4 * t + tN (mIa S 0 (3 * r + t)))).toInt64 / 10000
def mFit (S : WS) (b : Int64) (r : Nat) : Int64 := mFitN S b r 3
def mSumL (S : WS) (n t : Nat) (k : Int32) (a : Nat) : Int64 := wsum (mHas S t k) (mL S a) n
def mFitO (S : WS) (n t : Nat) (k : Int32) : Int64 := wsum (mHas S t k) (mFit S (mBase S n)) n
def mBnd (v : Int64) : Int32 := if 100 ≤ v then (if v ≤ 100000 then v.toInt32 else 100000) else 100
def mF (S : WS) (t : Nat) : Nat → Int32 := fun k => mIa S 6 (4 * t + k)
def mFound (S : WS) (n t k : Nat) : Int32 :=
  if mFitO S n t (nI k) ≤ 0 then mIa S 6 (4 * t + k) else if mSumL S n t (nI k) 2 ≤ 0 then mIa S 6 (4 * t + k) else
  mBnd ((mIa S 6 (4 * t + k)).toInt64 + ((mIa S 6 (4 * t + k)).toInt64 * mSumL S n t (nI k) 3 / mFitO S n t (nI k) - (mIa S 6 (4 * t + k)).toInt64) * mSumL S n t (nI k) 2 / (mSumL S n t (nI k) 2 + (mSc S 1).toInt64))
/-- the reference's state as its calls leave it: n rows were added -/
def MI (n : Nat) (S : WS) : Prop := n ≤ 40 ∧ mSc S 0 = nI n ∧ (∀ t k : Nat, t < 3 → k < n → ∃ j : Nat, j < 4 ∧ mIa S 0 (3 * k + t) = nI j) ∧ (∀ k : Nat, k < n → ∃ c : Nat, c ≤ 1000 ∧ mIa S 2 k = nI c) ∧ ∃ c : Nat, c ≤ 1000 ∧ mSc S 1 = nI c
theorem MI_lev {n : Nat} {S : WS} (hI : MI n S) {t k : Nat} (ht : t < 3) (hk : k < n) : mIa S 0 (3 * k + t) = nI (tN (mIa S 0 (3 * k + t))) ∧ tN (mIa S 0 (3 * k + t)) < 4 := by
  obtain ⟨j, hj, e⟩ := hI.2.2.1 t k ht hk
  rw [e, tN_nI (by omega)]
  exact ⟨rfl, hj⟩
theorem MI_ix4 {n : Nat} {S : WS} (hI : MI n S) {t k : Nat} (ht : t < 3) (hk : k < n) : (4 : Int32) * nI t + mIa S 0 (3 * k + t) = nI (4 * t + tN (mIa S 0 (3 * k + t))) := by
  have h := (MI_lev hI ht hk).1
  rw [h, ix4, tN_nI (by have := (MI_lev hI ht hk).2; omega)]
theorem MI_last {n : Nat} {S : WS} (v : Int32) (h : MI n S) : MI n (msSc S 3 v) := h
theorem MI_6 {n : Nat} {S : WS} (f : Nat → Int32) (h : MI n S) : MI n (msIa S 6 f) := h
theorem MI_7 {n : Nat} {S : WS} (f : Nat → Int32) (h : MI n S) : MI n (msIa S 7 f) := h
theorem MI_8 {n : Nat} {S : WS} (f : Nat → Int32) (h : MI n S) : MI n (msIa S 8 f) := h
theorem wsum_small {P : Nat → Bool} {f : Nat → Int64} {B : Nat} : ∀ k : Nat, (∀ i, i < k → ∃ c : Nat, c ≤ B ∧ f i = lN c) → ∃ c : Nat, c ≤ k * B ∧ wsum P f k = lN c
  | 0, _ => ⟨0, Nat.zero_le _, rfl⟩
  | k + 1, h => by
    obtain ⟨c, hc, e⟩ := wsum_small (P := P) k (fun i hi => h i (by omega))
    obtain ⟨d, hd, e2⟩ := h k (by omega)
    have e3 : (k + 1) * B = k * B + B := Nat.succ_mul k B
    cases h1 : P k
    · exact ⟨c, by omega, by rw [wsum_f h1]; exact e⟩
    · exact ⟨c + d, by omega, by rw [wsum_t h1, e, e2, lN_add]⟩
theorem mFound_div {n : Nat} {S : WS} (hI : MI n S) {t : Nat} {k : Int32} (h : ¬ mSumL S n t k 2 ≤ 0) : ¬ mSumL S n t k 2 + (mSc S 1).toInt64 = 0 := by
  obtain ⟨hn, -, -, hc, d, hd, e2⟩ := hI
  obtain ⟨c, hc1, e⟩ := wsum_small (P := mHas S t k) (f := mL S 2) (B := 1000) n (fun i hi => by
    obtain ⟨c, h1, h2⟩ := hc i hi
    exact ⟨c, h1, by show (mIa S 2 i).toInt64 = _; rw [h2, nI_l (by omega)]⟩)
  have hb : c ≤ 40000 := by have : n * 1000 ≤ 40 * 1000 := Nat.mul_le_mul_right _ hn; omega
  have hp : 0 < c := by
    rcases Nat.eq_zero_or_pos c with q | q
    · exact absurd (by unfold mSumL; rw [e, q]; decide) h
    · exact q
  unfold mSumL
  rw [e, e2, nI_l (by omega), lN_add]
  exact lN_ne0 (by omega) (by omega)
def gCode (a b c : Bool) : Int32 := if a then (if b then (if c then 0 else 3) else 2) else 1
def mGo (S : WS) (a b c : Bool) : WS := msSc S 3 (gCode a b c)
theorem MI_go {n : Nat} {S : WS} (a b c : Bool) (h : MI n S) : MI n (mGo S a b c) := h
theorem i64_i32 (x : Int32) : x.toInt64.toInt32 = x := Int32.toInt32_toInt64 x
def mPut (f : Nat → Int32) (t : Nat) (h : Nat → Int32) (i : Nat) : Nat → Int32 := fun j => if 4 * t ≤ j ∧ j < 4 * t + i then h (j - 4 * t) else f j
theorem mPut_0 (f : Nat → Int32) (t : Nat) (h : Nat → Int32) : mPut f t h 0 = f := funext fun j => if_neg (by omega)
theorem mPut_at (f : Nat → Int32) (t : Nat) (h : Nat → Int32) (i : Nat) : mPut f t h i (4 * t + i) = f (4 * t + i) := if_neg (by omega)
theorem mPut_s (f : Nat → Int32) (t : Nat) (h : Nat → Int32) (i : Nat) : upd (mPut f t h i) (4 * t + i) (h i) = mPut f t h (i + 1) := by
  funext j
  unfold upd
  by_cases hj : j = 4 * t + i
  · subst hj
    rw [if_pos rfl]
    unfold mPut
    rw [if_pos (by omega), show 4 * t + i - 4 * t = i by omega]
  · rw [if_neg hj]
    unfold mPut
    by_cases h2 : 4 * t ≤ j ∧ j < 4 * t + i
    · rw [if_pos h2, if_pos (by omega)]
    · rw [if_neg h2, if_neg (by omega)]
def mPassF (S : WS) (n t : Nat) : WS := msIa S 7 (fil (mFound S n t) (mIa S 7) (levN t))
def mPass (S : WS) (n t : Nat) : WS := msIa (mPassF S n t) 6 (mPut (mIa S 6) t (mFound S n t) (levN t))
def mPasP (S : WS) (n t : Nat) : Nat → Bool := fun k => !decide (mIa S 6 (4 * t + k) = mFound S n t k)
def mPassC (S : WS) (n t : Nat) : Nat := xCnt (mPasP S n t) (levN t)
theorem MI_pass {n : Nat} {S : WS} (t : Nat) (h : MI n S) : MI n (mPass S n t) := h
theorem mia_twice (S : WS) (q : Nat) (a b : Nat → Int32) : msIa (msIa S q a) q b = msIa S q b := by
  show (_, (va_up (va_up S.2.1.1 q a) q b, _), _) = _
  rw [bx_uu]
theorem mia_at (S : WS) (q : Nat) (a : Nat → Int32) : mIa (msIa S q a) q = a := va_up_self _ _ _
theorem mia_self (S : WS) (t : Nat) : msIa S t (mIa S t) = S := by
  have h : va_up S.2.1.1 t (S.2.1.1 t) = S.2.1.1 := by
    funext j
    unfold va_up
    by_cases hj : j = t
    · rw [if_pos hj, hj]
    · rw [if_neg hj]
  show (_, (va_up S.2.1.1 t (S.2.1.1 t), _), _) = S
  rw [h]
theorem upd_twice (f : Nat → Int32) (i : Nat) (x y : Int32) : upd (upd f i x) i y = upd f i y := by
  funext j
  unfold upd
  by_cases h : j = i
  · rw [if_pos h, if_pos h]
  · rw [if_neg h, if_neg h, if_neg h]
theorem mfound_step (S : WS) (G : Nat → Int32) (i : Nat) {x : Int32} (h : x = G i) : msIa (msIa S 7 (fil G (mIa S 7) i)) 7 (upd (mIa (msIa S 7 (fil G (mIa S 7) i)) 7) i x) = msIa S 7 (fil G (mIa S 7) (i + 1)) := by
  rw [mia_twice, mia_at, h, fil_sI]
theorem mput_step (S : WS) (t i : Nat) (G : Nat → Int32) : msIa (msIa S 6 (mPut (mIa S 6) t G i)) 6 (upd (mIa (msIa S 6 (mPut (mIa S 6) t G i)) 6) (4 * t + i) (G i)) = msIa S 6 (mPut (mIa S 6) t G (i + 1)) := by
  rw [mia_twice, mia_at, mPut_s]
def mCount (S : WS) (n : Nat) : Nat := xCnt (mLv S) n
def mPrem (S : WS) (n r : Nat) : Int64 := mFit S (mBase S n) r * mSp S / 10000
def mTop (x m : Int64) : Int64 := if x ≤ m then x else m
def mBot (x m : Int64) : Int64 := if m ≤ x then x else m
def mLow (c : Int32) : Int32 := if c ≤ 100 then 100 - c else 0
def mCap (S : WS) (n r : Nat) : Int64 := if mSc S 2 = -1 then mPrem S n r else if mIa S 4 r = -1 then mPrem S n r else
  mTop (mBot (mPrem S n r) ((mIa S 4 r).toInt64 * (mLow (mSc S 2)).toInt64 / 100)) ((mIa S 4 r).toInt64 * (100 + mSc S 2).toInt64 / 100)
def mAllF (S : WS) (n : Nat) : Int64 := wsum (mLv S) (mFit S (mBase S n)) n
def mAllC (S : WS) (n : Nat) : Int64 := wsum (mLv S) (mCap S n) n
def mSpV (x : Int64) : Int64 := if 1 ≤ x then (if x ≤ 1000000 then x else 1000000) else 1
def mSpread (S : WS) (n : Nat) : WS := if mAllC S n ≤ 0 then S else msSp S (mSpV (mSp S * mTop (10000 * mAllF S n / mAllC S n) 1000000 / 10000))
def mAhead (S : WS) (b : Int64) (r q : Nat) : Bool := decide (mL S 3 q * (1 + mFit S b r) < mL S 3 r * (1 + mFit S b q)) || (decide (mL S 3 r * (1 + mFit S b q) = mL S 3 q * (1 + mFit S b r)) && !decide (nI q ≤ nI r))
def mRkP (S : WS) (b : Int64) (r : Nat) : Nat → Bool := fun k => decide (mIa S 5 k = 0) && (!decide (nI k = nI r) && mAhead S b k r)
def mRankF (S : WS) (n : Nat) (b : Int64) (q : Int32) : Nat → Nat → Int32
  | 0, _ => -1
  | d + 1, i => if mIa S 5 i = 0 then (if nI (xCnt (mRkP S b i) n) = q then nI i else mRankF S n b q d (i + 1)) else mRankF S n b q d (i + 1)
def mRank (S : WS) (n : Nat) (q : Int32) : Int32 := mRankF S n (mBase S n) q n 0
def mAbs (x : Int64) : Int64 := if 0 ≤ x then x else -x
def mGrt (w x : Int64) : Int64 := if x ≤ w then w else x
def mWorst (S : WS) (n t : Nat) : Nat → Int64
  | 0 => 0
  | k + 1 => mGrt (mWorst S n t k) (mAbs (mSumL S n t (nI k) 3 - mFitO S n t (nI k)))
def mRound (S : WS) (n : Nat) : WS := mPass (mPass (mPass S n 0) n 1) n 2
def mRoundC (S : WS) (n : Nat) : Nat := mPassC S n 0 + mPassC (mPass S n 0) n 1 + mPassC (mPass (mPass S n 0) n 1) n 2
theorem mPassC_le (S : WS) (n t : Nat) : mPassC S n t ≤ 4 := Nat.le_trans (xCnt_le _ _) (levN_4 t)
theorem mRoundC_le (S : WS) (n : Nat) : mRoundC S n ≤ 12 := by
  have h1 := mPassC_le S n 0
  have h2 := mPassC_le (mPass S n 0) n 1
  have h3 := mPassC_le (mPass (mPass S n 0) n 1) n 2
  unfold mRoundC
  omega
theorem MI_round {n : Nat} {S : WS} (h : MI n S) : MI n (mRound S n) := h
/-- from r rounds done on, at most d more: how many are done at the end, and the state -/
def mSettle (n : Nat) : Nat → Nat → WS → Nat × WS
  | 0, r, S => (r, S)
  | d + 1, r, S => if mRoundC S n = 0 then (r + 1, mRound S n) else mSettle n d (r + 1) (mRound S n)
def mAdd1 (S : WS) (n : Nat) (a : Int32) : WS := msIa S 0 (upd (mIa S 0) (3 * n + 0) a)
def mAdd2 (S : WS) (n : Nat) (a b : Int32) : WS := msIa (mAdd1 S n a) 0 (upd (mIa (mAdd1 S n a) 0) (3 * n + 1) b)
def mAdd3 (S : WS) (n : Nat) (a b c : Int32) : WS := msIa (mAdd2 S n a b) 0 (upd (mIa (mAdd2 S n a b) 0) (3 * n + 2) c)
def mAdd4 (S : WS) (n : Nat) (a b c ex : Int32) : WS := msIa (mAdd3 S n a b c) 1 (upd (mIa (mAdd3 S n a b c) 1) n ex)
def mAdd5 (S : WS) (n : Nat) (a b c ex cl : Int32) : WS := msIa (mAdd4 S n a b c ex) 2 (upd (mIa (mAdd4 S n a b c ex) 2) n cl)
def mAdd6 (S : WS) (n : Nat) (a b c ex cl lo : Int32) : WS := msIa (mAdd5 S n a b c ex cl) 3 (upd (mIa (mAdd5 S n a b c ex cl) 3) n lo)
def mAdd7 (S : WS) (n : Nat) (a b c ex cl lo : Int32) : WS := msIa (mAdd6 S n a b c ex cl lo) 4 (upd (mIa (mAdd6 S n a b c ex cl lo) 4) n (-1))
def mAdd (S : WS) (n : Nat) (a b c ex cl lo : Int32) : WS := msSc (mAdd7 S n a b c ex cl lo) 0 (nI (n + 1))
def mR_add (S : WS) (n : Nat) (a b c ex cl lo : Int32) : WS := if xAddOk a b c ex cl lo then (if mSc S 0 < 40 then mAdd (mGo S true true true) n a b c ex cl lo else mGo S true false true) else mGo S false (decide (mSc S 0 < 40)) true
def mV_add (S : WS) (n : Nat) (a b c ex cl lo : Int32) : Int32 := if xAddOk a b c ex cl lo then (if mSc S 0 < 40 then nI n else 0) else 0
def mWd (S : WS) (r : Nat) : WS := msIa (mGo S true true true) 5 (upd (mIa (mGo S true true true) 5) r 1)
def mR_wd (S : WS) (r : Int32) : WS := if mRow S r then mWd S (tN r) else mGo S false true true
def mV_wd (S : WS) (n : Nat) (r : Int32) : Int32 := if mRow S r then nI (mCount (mWd S (tN r)) n) else 0
def mOldOk (v : Int32) : Bool := xIsWithin v (-1) 10000000
def mR_old (S : WS) (r v : Int32) : WS := if mRow S r then (if mOldOk v then msIa (mGo S true true true) 4 (upd (mIa (mGo S true true true) 4) (tN r) v) else mGo S true false true) else mGo S false (mOldOk v) true
def mV_old (S : WS) (r v : Int32) : Int32 := if mRow S r then (if mOldOk v then mIa S 4 (tN r) else 0) else 0
def mRulOk (c k : Int32) : Bool := xIsWithin c 0 1000 && xIsWithin k (-1) 1000
def mR_rules (S : WS) (c k : Int32) : WS := if mRulOk c k then msSc (msSc (mGo S true true true) 1 c) 2 k else mGo S false true true
def mV_rules (S : WS) (c k : Int32) : Int32 := if mRulOk c k then mSc S 1 else 0
def mR_fac (S : WS) (t k v : Int32) : WS := if xHasLevel t k then (if xIsWithin v 100 100000 then msIa (mGo S true true true) 6 (upd (mIa (mGo S true true true) 6) (4 * tN t + tN k) v) else mGo S true false true) else mGo S false (xIsWithin v 100 100000) true
def mV_fac (S : WS) (t k v : Int32) : Int32 := if xHasLevel t k then (if xIsWithin v 100 100000 then mIa S 6 (4 * tN t + tN k) else 0) else 0
def mR_pass (S : WS) (n : Nat) (t : Int32) : WS := if xHasTrait t then mPass (mGo S true true true) n (tN t) else mGo S false true true
def mV_pass (S : WS) (n : Nat) (t : Int32) : Int32 := if xHasTrait t then nI (mPassC (mGo S true true true) n (tN t)) else 0
def mV_lev (S : WS) (t k : Int32) (v : Int32) : Int32 := if xHasLevel t k then v else 0
def mV_levL (t k : Int32) (v : Int64) : Int64 := if xHasLevel t k then v else 0
def mV_rowL (S : WS) (r : Int32) (v : Int64) : Int64 := if mRow S r then v else 0
def mV_trL (t : Int32) (v : Int64) : Int64 := if xHasTrait t then v else 0
def mPlace (S : WS) (n : Nat) (q : Int32) : Int32 := if 0 ≤ q then mRank S n q else -1
def mV_rank (S : WS) (n : Nat) (q : Int32) : Int32 := if mPlace S n q = -1 then 0 else mPlace S n q
end
section
set_option maxRecDepth 100000 in
set_option maxHeartbeats 4000000 in
theorem k_X1_in (l : Launch) (g : gG) (S : WS) (v lo hi : Int32) : Met l yX1_in (wA yX1_in cX1_in 3 (some .boolean)) ({ frames := 0, cells := 0, slots := 0, locals := 0 }) (PW g S [.int v, .int lo, .int hi]) (RQ (some (.int (bI (xIsWithin v lo hi))))) 0 0 (fun _ => False) := by
  refine metI (by decide +kernel) (Nat.le_of_ble_eq_true rfl) ?_
  intro p e s m below meth c C hb hml hret hlk hP ls hl
  have C : CW g RX1 p s m ([.int v, .int lo, .int hi] : List Value).toArray := C
  have hS : va_S (Ab g) s.heap s.heap [] := va_S.rf
  have hl : lv_has ls 3 [(0, .int v), (1, .int lo), (2, .int hi)] := hl
  refine lv_iload_n C.1 hb dX1_in_0 rfl (lv_at hl 0 rfl) ?_
  refine lv_iload_n C.1 hb dX1_in_1 rfl (lv_at hl 1 rfl) ?_
  refine lv_icmp_lt (tgt := 14) C.1 hb dX1_in_2 (by decide) (fun c78 => ?_) (fun c78 => ?_)
  · refine lv_iconst (v := 0) C.1 hb dX1_in_14 (by decide) ?_
    exact rdZ C hb hret hlk dX1_in_15 (by simp [xIsWithin, bI, c78])
  · refine lv_iload_n C.1 hb dX1_in_5 rfl (lv_at hl 0 rfl) ?_
    refine lv_iload_n C.1 hb dX1_in_6 rfl (lv_at hl 2 rfl) ?_
    refine lv_icmp_gt (tgt := 14) C.1 hb dX1_in_7 (by decide) (fun c79 => ?_) (fun c79 => ?_)
    · refine lv_iconst (v := 0) C.1 hb dX1_in_14 (by decide) ?_
      exact rdZ C hb hret hlk dX1_in_15 (by simp [xIsWithin, bI, c78, c79])
    · refine lv_iconst (v := 1) C.1 hb dX1_in_10 (by decide) ?_
      refine lv_goto (tgt := 15) C.1 hb dX1_in_11 (by decide) ?_
      exact rdZ C hb hret hlk dX1_in_15 (by simp [xIsWithin, bI, c78, c79])

set_option maxRecDepth 100000 in
set_option maxHeartbeats 4000000 in
theorem k_X1_thrown (l : Launch) (g : gG) (S : WS) : Met l yX1_thrown (wA yX1_thrown cX1_thrown 1 (some .int)) ({ frames := 0, cells := 0, slots := 0, locals := 0 }) (PW g S [.ref (gA g 17)]) (RQ (some (.int (mSc S 3)))) 0 0 (fun _ => False) := by
  refine metI (by decide +kernel) (Nat.le_of_ble_eq_true rfl) ?_
  intro p e s m below meth c C hb hml hret hlk hP ls hl
  have C : CW g RX1 p s m ([.ref (gA g 17)] : List Value).toArray := C
  have hS : va_S (Ab g) s.heap s.heap [] := va_S.rf
  have hl : lv_has ls 1 [(0, .ref (gA g 17))] := hl
  refine lv_aload_n C.1 hb dX1_thrown_0 rfl (lv_at hl 0 rfl) ?_
  refine gM_last C hb hP dX1_thrown_1 ?_
  exact rdI C hb hret hlk dX1_thrown_4 rfl

set_option maxRecDepth 100000 in
set_option maxHeartbeats 4000000 in
theorem k_X1_goes (l : Launch) (g : gG) (S : WS) (a b z : Bool) : Met l yX1_goes (wA yX1_goes cX1_goes 4 (some .boolean)) ({ frames := 0, cells := 0, slots := 0, locals := 0 }) (PW g S [.ref (gA g 17), .int (bI a), .int (bI b), .int (bI z)]) (WQ g (mGo S a b z) (some (.int (bI (a && (b && z)))))) 0 0 (Ab g) := by
  refine metI (by decide +kernel) (Nat.le_of_ble_eq_true rfl) ?_
  intro p e s m below meth c C hb hml hret hlk hP ls hl
  have C : CW g RX1 p s m ([.ref (gA g 17), .int (bI a), .int (bI b), .int (bI z)] : List Value).toArray := C
  have hS : va_S (Ab g) s.heap s.heap [] := va_S.rf
  have hl : lv_has ls 4 [(0, .ref (gA g 17)), (1, .int (bI a)), (2, .int (bI b)), (3, .int (bI z))] := hl
  refine lv_aload_n C.1 hb dX1_goes_0 rfl (lv_at hl 0 rfl) ?_
  refine lv_iload_n C.1 hb dX1_goes_1 rfl (lv_at hl 1 rfl) ?_
  refine bz_ne (tgt := 9) C hb dX1_goes_2 (by decide) (fun c80 => ?_) (fun c80 => ?_)
  · refine lv_iload_n C.1 hb dX1_goes_9 rfl (lv_at hl 2 rfl) ?_
    refine bz_ne (tgt := 17) C hb dX1_goes_10 (by decide) (fun c81 => ?_) (fun c81 => ?_)
    · refine lv_iload_n C.1 hb dX1_goes_17 rfl (lv_at hl 3 rfl) ?_
      refine bz_eq (tgt := 25) C hb dX1_goes_18 (by decide) (fun c82 => ?_) (fun c82 => ?_)
      · refine lv_iconst (v := 3) C.1 hb dX1_goes_25 (by decide) ?_
        refine pM_last C hb hP hS dX1_goes_26 (fun H locs hP hS => ?_)
        refine lv_aload_n C.1 hb dX1_goes_29 rfl (lv_at hl 0 rfl) ?_
        refine gM_last C hb hP dX1_goes_30 ?_
        refine lv_if_ne (tgt := 40) C.1 hb dX1_goes_33 (by decide) (fun c83 => ?_) (fun c83 => ?_)
        · refine lv_iconst (v := 0) C.1 hb dX1_goes_40 (by decide) ?_
          exact wrZ C hb hret hlk hP hS dX1_goes_41 (by rw [c80, c81, c82]; rfl) (by rw [c80, c81, c82]; rfl)
        · exact absurd (show (3 : Int32) = 0 from c83) (by decide)
      · refine lv_iconst (v := 0) C.1 hb dX1_goes_21 (by decide) ?_
        refine lv_goto (tgt := 26) C.1 hb dX1_goes_22 (by decide) ?_
        refine pM_last C hb hP hS dX1_goes_26 (fun H locs hP hS => ?_)
        refine lv_aload_n C.1 hb dX1_goes_29 rfl (lv_at hl 0 rfl) ?_
        refine gM_last C hb hP dX1_goes_30 ?_
        refine lv_if_ne (tgt := 40) C.1 hb dX1_goes_33 (by decide) (fun c84 => ?_) (fun c84 => ?_)
        · exact absurd (show (0 : Int32) = 0 from rfl) c84
        · refine lv_iconst (v := 1) C.1 hb dX1_goes_36 (by decide) ?_
          refine lv_goto (tgt := 41) C.1 hb dX1_goes_37 (by decide) ?_
          exact wrZ C hb hret hlk hP hS dX1_goes_41 (by rw [c80, c81, c82]; rfl) (by rw [c80, c81, c82]; rfl)
    · refine lv_iconst (v := 2) C.1 hb dX1_goes_13 (by decide) ?_
      refine lv_goto (tgt := 26) C.1 hb dX1_goes_14 (by decide) ?_
      refine pM_last C hb hP hS dX1_goes_26 (fun H locs hP hS => ?_)
      refine lv_aload_n C.1 hb dX1_goes_29 rfl (lv_at hl 0 rfl) ?_
      refine gM_last C hb hP dX1_goes_30 ?_
      refine lv_if_ne (tgt := 40) C.1 hb dX1_goes_33 (by decide) (fun c85 => ?_) (fun c85 => ?_)
      · refine lv_iconst (v := 0) C.1 hb dX1_goes_40 (by decide) ?_
        exact wrZ C hb hret hlk hP hS dX1_goes_41 (by rw [c80, c81]; rfl) (by rw [c80, c81]; rfl)
      · exact absurd (show (2 : Int32) = 0 from c85) (by decide)
  · refine lv_iconst (v := 1) C.1 hb dX1_goes_5 (by decide) ?_
    refine lv_goto (tgt := 26) C.1 hb dX1_goes_6 (by decide) ?_
    refine pM_last C hb hP hS dX1_goes_26 (fun H locs hP hS => ?_)
    refine lv_aload_n C.1 hb dX1_goes_29 rfl (lv_at hl 0 rfl) ?_
    refine gM_last C hb hP dX1_goes_30 ?_
    refine lv_if_ne (tgt := 40) C.1 hb dX1_goes_33 (by decide) (fun c86 => ?_) (fun c86 => ?_)
    · refine lv_iconst (v := 0) C.1 hb dX1_goes_40 (by decide) ?_
      exact wrZ C hb hret hlk hP hS dX1_goes_41 (by rw [c80]; rfl) (by rw [c80]; rfl)
    · exact absurd (show (1 : Int32) = 0 from c86) (by decide)

set_option maxRecDepth 100000 in
set_option maxHeartbeats 4000000 in
theorem k_X1_levelsOf (l : Launch) (g : gG) (S : WS) (t : Nat) (ht : t < 3) : Met l yX1_levelsOf (wA yX1_levelsOf cX1_levelsOf 1 (some .int)) ({ frames := 0, cells := 0, slots := 0, locals := 0 }) (PW g S [.int (nI t)]) (RQ (some (.int (nI (levN t))))) 0 0 (fun _ => False) := by
  refine metI (by decide +kernel) (Nat.le_of_ble_eq_true rfl) ?_
  intro p e s m below meth c C hb hml hret hlk hP ls hl
  have C : CW g RX1 p s m ([.int (nI t)] : List Value).toArray := C
  have hS : va_S (Ab g) s.heap s.heap [] := va_S.rf
  have hl : lv_has ls 1 [(0, .int (nI t))] := hl
  refine lv_iload_n C.1 hb dX1_levelsOf_0 rfl (lv_at hl 0 rfl) ?_
  refine lv_iconst (v := 1) C.1 hb dX1_levelsOf_1 (by decide) ?_
  refine lv_icmp_ne (tgt := 9) C.1 hb dX1_levelsOf_2 (by decide) (fun c87 => ?_) (fun c87 => ?_)
  · have hne : ¬ t = 1 := fun q => c87 (by rw [q]; rfl)
    refine lv_iconst (v := 4) C.1 hb dX1_levelsOf_9 (by decide) ?_
    exact rdI C hb hret hlk dX1_levelsOf_10 (by unfold levN; rw [if_neg hne]; rfl)
  · have he : t = 1 := (nI_eq (b := 1) (by omega) (by decide)).mp c87
    refine lv_iconst (v := 3) C.1 hb dX1_levelsOf_5 (by decide) ?_
    refine lv_goto (tgt := 10) C.1 hb dX1_levelsOf_6 (by decide) ?_
    exact rdI C hb hret hlk dX1_levelsOf_10 (by unfold levN; rw [if_pos he]; rfl)

set_option maxRecDepth 100000 in
set_option maxHeartbeats 4000000 in
theorem k_X1_isTrait (l : Launch) (g : gG) (S : WS) (t : Int32) : Met l yX1_isTrait (wA yX1_isTrait cX1_isTrait 1 (some .boolean)) ({ frames := 1, cells := 0, slots := 0, locals := 30 }) (PW g S [.int t]) (RQ (some (.int (bI (xHasTrait t))))) 0 0 (fun _ => False) := by
  refine metI (by decide +kernel) (Nat.le_of_ble_eq_true rfl) ?_
  intro p e s m below meth c C hb hml hret hlk hP ls hl
  have C : CW g RX1 p s m ([.int t] : List Value).toArray := C
  have hS : va_S (Ab g) s.heap s.heap [] := va_S.rf
  have hl : lv_has ls 1 [(0, .int t)] := hl
  refine lv_iload_n C.1 hb dX1_isTrait_0 rfl (lv_at hl 0 rfl) ?_
  refine lv_iconst (v := 0) C.1 hb dX1_isTrait_1 (by decide) ?_
  refine lv_iconst (v := 2) C.1 hb dX1_isTrait_2 (by decide) ?_
  refine run_rd (cRunS (As := [.int t, .int 0, .int 2]) (rest := []) C hb (hml.trans hl.1.symm) hP hS (k_X1_in l g S t 0 2) wm_102 wm_103 wm_104 wm_5 (n := 3) (by decide +kernel) rfl ⟨rfl, rfl, Nat.le_of_ble_eq_true rfl, Nat.le_of_ble_eq_true rfl⟩ (Nat.le_of_ble_eq_true rfl) rfl ⟨Nat.zero_le _, Nat.zero_le _⟩ dX1_isTrait_3) ?_
  refine toI (congrArg bI (mTrait_eq t)) ?_
  exact rdZ C hb hret hlk dX1_isTrait_6 rfl

set_option maxRecDepth 100000 in
set_option maxHeartbeats 4000000 in
theorem k_X1_isLevel (l : Launch) (g : gG) (S : WS) (t k : Int32) : Met l yX1_isLevel (wA yX1_isLevel cX1_isLevel 2 (some .boolean)) ({ frames := 2, cells := 0, slots := 0, locals := 60 }) (PW g S [.int t, .int k]) (RQ (some (.int (bI (xHasLevel t k))))) 0 0 (fun _ => False) := by
  refine metI (by decide +kernel) (Nat.le_of_ble_eq_true rfl) ?_
  intro p e s m below meth c C hb hml hret hlk hP ls hl
  have C : CW g RX1 p s m ([.int t, .int k] : List Value).toArray := C
  have hS : va_S (Ab g) s.heap s.heap [] := va_S.rf
  have hl : lv_has ls 2 [(0, .int t), (1, .int k)] := hl
  refine lv_iload_n C.1 hb dX1_isLevel_0 rfl (lv_at hl 0 rfl) ?_
  refine run_rd (cRunS (As := [.int t]) (rest := []) C hb (hml.trans hl.1.symm) hP hS (k_X1_isTrait l g S t) wm_99 wm_100 wm_101 wm_5 (n := 1) (by decide +kernel) rfl ⟨rfl, rfl, Nat.le_of_ble_eq_true rfl, Nat.le_of_ble_eq_true rfl⟩ (Nat.le_of_ble_eq_true rfl) rfl ⟨Nat.zero_le _, Nat.zero_le _⟩ dX1_isLevel_1) ?_
  refine bz_eq (tgt := 25) C hb dX1_isLevel_4 (by decide) (fun c88 => ?_) (fun c88 => ?_)
  · refine lv_iconst (v := 0) C.1 hb dX1_isLevel_25 (by decide) ?_
    exact rdZ C hb hret hlk dX1_isLevel_26 (by unfold xHasLevel; rw [c88]; rfl)
  · have hx := xHasTrait_ix c88
    have h4 := levN_4 (tN t)
    refine lv_iload_n C.1 hb dX1_isLevel_7 rfl (lv_at hl 1 rfl) ?_
    refine lv_iconst (v := 0) C.1 hb dX1_isLevel_8 (by decide) ?_
    refine lv_iload_n C.1 hb dX1_isLevel_9 rfl (lv_at hl 0 rfl) ?_
    refine toI hx.1 ?_
    refine run_rd (cRunS (As := [.int (nI (tN t))]) (rest := [.int 0, .int k]) C hb (hml.trans hl.1.symm) hP hS (k_X1_levelsOf l g S (tN t) hx.2) wm_105 wm_106 wm_107 wm_5 (n := 1) (by decide +kernel) rfl ⟨rfl, rfl, Nat.le_of_ble_eq_true rfl, Nat.le_of_ble_eq_true rfl⟩ (Nat.le_of_ble_eq_true rfl) rfl ⟨Nat.zero_le _, Nat.zero_le _⟩ dX1_isLevel_10) ?_
    refine lv_iconst (v := 1) C.1 hb dX1_isLevel_13 (by decide) ?_
    refine lv_isub C.1 hb dX1_isLevel_14 ?_
    refine run_rd (cRunS (As := [.int k, .int 0, .int ((nI (levN (tN t))) - 1)]) (rest := []) C hb (hml.trans hl.1.symm) hP hS (k_X1_in l g S k 0 (nI (levN (tN t)) - 1)) wm_102 wm_103 wm_104 wm_5 (n := 3) (by decide +kernel) rfl ⟨rfl, rfl, Nat.le_of_ble_eq_true rfl, Nat.le_of_ble_eq_true rfl⟩ (Nat.le_of_ble_eq_true rfl) rfl ⟨Nat.zero_le _, Nat.zero_le _⟩ dX1_isLevel_15) ?_
    refine toI (congrArg bI (wit_pred (by omega) k)) ?_
    refine bz_eq (tgt := 25) C hb dX1_isLevel_18 (by decide) (fun c89 => ?_) (fun c89 => ?_)
    · refine lv_iconst (v := 0) C.1 hb dX1_isLevel_25 (by decide) ?_
      exact rdZ C hb hret hlk dX1_isLevel_26 (by unfold xHasLevel; rw [c88, c89]; rfl)
    · refine lv_iconst (v := 1) C.1 hb dX1_isLevel_21 (by decide) ?_
      refine lv_goto (tgt := 26) C.1 hb dX1_isLevel_22 (by decide) ?_
      exact rdZ C hb hret hlk dX1_isLevel_26 (by unfold xHasLevel; rw [c88, c89]; rfl)

set_option maxRecDepth 100000 in
set_option maxHeartbeats 4000000 in
theorem k_X1_isRow (l : Launch) (g : gG) (S : WS) (n : Nat) (hI : MI n S) (r : Int32) : Met l yX1_isRow (wA yX1_isRow cX1_isRow 2 (some .boolean)) ({ frames := 1, cells := 0, slots := 0, locals := 30 }) (PW g S [.ref (gA g 17), .int r]) (RQ (some (.int (bI (mRow S r))))) 0 0 (fun _ => False) := by
  refine metI (by decide +kernel) (Nat.le_of_ble_eq_true rfl) ?_
  intro p e s m below meth c C hb hml hret hlk hP ls hl
  have C : CW g RX1 p s m ([.ref (gA g 17), .int r] : List Value).toArray := C
  have hS : va_S (Ab g) s.heap s.heap [] := va_S.rf
  have hl : lv_has ls 2 [(0, .ref (gA g 17)), (1, .int r)] := hl
  have hn40 := hI.1
  refine lv_iload_n C.1 hb dX1_isRow_0 rfl (lv_at hl 1 rfl) ?_
  refine lv_iconst (v := 0) C.1 hb dX1_isRow_1 (by decide) ?_
  refine lv_aload_n C.1 hb dX1_isRow_2 rfl (lv_at hl 0 rfl) ?_
  refine gM_rows C hb hP dX1_isRow_3 ?_
  refine toI hI.2.1 ?_
  refine lv_iconst (v := 1) C.1 hb dX1_isRow_6 (by decide) ?_
  refine lv_isub C.1 hb dX1_isRow_7 ?_
  refine run_rd (cRunS (As := [.int r, .int 0, .int ((nI n) - 1)]) (rest := []) C hb (hml.trans hl.1.symm) hP hS (k_X1_in l g S r 0 (nI n - 1)) wm_102 wm_103 wm_104 wm_5 (n := 3) (by decide +kernel) rfl ⟨rfl, rfl, Nat.le_of_ble_eq_true rfl, Nat.le_of_ble_eq_true rfl⟩ (Nat.le_of_ble_eq_true rfl) rfl ⟨Nat.zero_le _, Nat.zero_le _⟩ dX1_isRow_8) ?_
  refine toI (congrArg bI (wit_pred (by omega) r)) ?_
  refine bz_eq (tgt := 27) C hb dX1_isRow_11 (by decide) (fun c90 => ?_) (fun c90 => ?_)
  · have hc : (!decide (r < 0) && !decide (mSc S 0 ≤ r)) = false := by rw [hI.2.1]; exact c90
    refine lv_iconst (v := 0) C.1 hb dX1_isRow_27 (by decide) ?_
    exact rdZ C hb hret hlk dX1_isRow_28 (by unfold mRow; rw [← Bool.and_assoc, hc]; rfl)
  · have hx := within_ix hI.1 ((wit_pred (by omega) r).trans c90)
    have hx2 := hx.2
    have hc : (!decide (r < 0) && !decide (mSc S 0 ≤ r)) = true := by rw [hI.2.1]; exact c90
    refine lv_aload_n C.1 hb dX1_isRow_14 rfl (lv_at hl 0 rfl) ?_
    refine gM_gone C hb hP dX1_isRow_15 ?_
    refine lv_iload_n C.1 hb dX1_isRow_18 rfl (lv_at hl 1 rfl) ?_
    refine ldM_gone (j := (tN r)) C hb hP hx.1 (by omega) dX1_isRow_19 ?_
    refine lv_if_ne (tgt := 27) C.1 hb dX1_isRow_20 (by decide) (fun c91 => ?_) (fun c91 => ?_)
    · refine lv_iconst (v := 0) C.1 hb dX1_isRow_27 (by decide) ?_
      exact rdZ C hb hret hlk dX1_isRow_28 (by unfold mRow; rw [← Bool.and_assoc, hc]; simp [bI, c91])
    · refine lv_iconst (v := 1) C.1 hb dX1_isRow_23 (by decide) ?_
      refine lv_goto (tgt := 28) C.1 hb dX1_isRow_24 (by decide) ?_
      exact rdZ C hb hret hlk dX1_isRow_28 (by unfold mRow; rw [← Bool.and_assoc, hc]; simp [bI, c91])

set_option maxRecDepth 100000 in
set_option maxHeartbeats 4000000 in
theorem k_X1_count (l : Launch) (g : gG) (S : WS) (n : Nat) (hI : MI n S) : Met l yX1_count (wA yX1_count cX1_count 3 (some .int)) ({ frames := 0, cells := 0, slots := 0, locals := 0 }) (PW g S [.ref (gA g 17)]) (RQ (some (.int (nI (mCount S n))))) 0 0 (fun _ => False) := by
  refine metI (by decide +kernel) (Nat.le_of_ble_eq_true rfl) ?_
  intro p e s m below meth c C hb hml hret hlk hP ls hl
  have C : CW g RX1 p s m ([.ref (gA g 17)] : List Value).toArray := C
  have hS : va_S (Ab g) s.heap s.heap [] := va_S.rf
  have hl : lv_has ls 3 [(0, .ref (gA g 17))] := hl
  refine lv_iconst (v := 0) C.1 hb dX1_count_0 (by decide) ?_
  refine lv_istore_n (lv' := [(1, .int 0), (0, .ref (gA g 17))]) C.1 hb dX1_count_1 rfl hl (by decide) rfl (fun ls hl => ?_)
  refine lv_iconst (v := 0) C.1 hb dX1_count_2 (by decide) ?_
  refine lv_istore_n (lv' := [(2, .int 0), (1, .int 0), (0, .ref (gA g 17))]) C.1 hb dX1_count_3 rfl hl (by decide) rfl (fun ls hl => ?_)
  have key : ∀ f i : Nat, n - i < f → i ≤ n → ∀ ls : Array Slot, lv_has ls 3 [(0, .ref (gA g 17)), (1, .int (nI (xCnt (mLv S) i))), (2, .int (nI i))] → W p l e ({ frames := 0, cells := 0, slots := 0, locals := 0 }) s m ([.ref (gA g 17)] : List Value).toArray below meth c s.heap [] 0 0 (MQ below (RQ (some (.int (nI (mCount S n))))) ([.ref (gA g 17)] : List Value).toArray s 0 0 (fun _ => False)) (F0 m 4 ls []) := by
    intro f
    induction f with
    | zero => intro i h; exact absurd h (Nat.not_lt_zero _)
    | succ f ih =>
      intro i hfi hi  ls hl
      refine lv_iload_n C.1 hb dX1_count_4 rfl (lv_at hl 2 rfl) ?_
      refine lv_aload_n C.1 hb dX1_count_5 rfl (lv_at hl 0 rfl) ?_
      refine gM_rows C hb hP dX1_count_6 ?_
      refine lv_icmp_ge (tgt := 35) C.1 hb dX1_count_9 (by decide) (fun c92 => ?_) (fun c92 => ?_)
      · have hin : i = n := by have := le_nI (a := n) (b := i) (by have := hI.1; omega) (by have := hI.1; omega) (by rw [← hI.2.1]; exact c92); omega
        rw [hin] at hl
        refine lv_iload_n C.1 hb dX1_count_35 rfl (lv_at hl 1 rfl) ?_
        exact rdI C hb hret hlk dX1_count_36 rfl
      · have hlti : i < n := nle_nI (a := n) (b := i) (by have := hI.1; omega) (by have := hI.1; omega) (by rw [← hI.2.1]; exact c92)
        have hn40 := hI.1
        refine lv_iload_n C.1 hb dX1_count_12 rfl (lv_at hl 1 rfl) ?_
        refine lv_aload_n C.1 hb dX1_count_13 rfl (lv_at hl 0 rfl) ?_
        refine gM_gone C hb hP dX1_count_14 ?_
        refine lv_iload_n C.1 hb dX1_count_17 rfl (lv_at hl 2 rfl) ?_
        refine ldM_gone (j := i) C hb hP rfl (by omega) dX1_count_18 ?_
        refine lv_if_eq (tgt := 26) C.1 hb dX1_count_19 (by decide) (fun c93 => ?_) (fun c93 => ?_)
        · refine lv_iconst (v := 1) C.1 hb dX1_count_26 (by decide) ?_
          refine lv_iadd C.1 hb dX1_count_27 ?_
          refine toI (nI_1 _) ?_
          refine lv_istore_n (lv' := [(1, .int (nI (xCnt (mLv S) i + 1))), (0, .ref (gA g 17)), (2, .int (nI i))]) C.1 hb dX1_count_28 rfl hl (by decide) rfl (fun ls hl => ?_)
          refine lv_iinc (v := nI (i + 1)) (lv' := [(2, .int (nI (i + 1))), (1, .int (nI (xCnt (mLv S) i + 1))), (0, .ref (gA g 17))]) C.1 hb dX1_count_29 hl (k := 2) rfl (nI_1 i) (by decide) rfl (fun ls hl => ?_)
          refine lv_goto (tgt := 4) C.1 hb dX1_count_32 (by decide) ?_
          exact ih (i + 1) (by omega) (by omega)  ls (by rw [xCnt_t (show mLv S i = true by simp [mLv, c93])]; exact lv_sub hl [2, 1, 0] rfl)
        · refine lv_iconst (v := 0) C.1 hb dX1_count_22 (by decide) ?_
          refine lv_goto (tgt := 27) C.1 hb dX1_count_23 (by decide) ?_
          refine lv_iadd C.1 hb dX1_count_27 ?_
          refine toI (Int32.add_zero _) ?_
          refine lv_istore_n (lv' := [(1, .int (nI (xCnt (mLv S) i))), (0, .ref (gA g 17)), (2, .int (nI i))]) C.1 hb dX1_count_28 rfl hl (by decide) rfl (fun ls hl => ?_)
          refine lv_iinc (v := nI (i + 1)) (lv' := [(2, .int (nI (i + 1))), (1, .int (nI (xCnt (mLv S) i))), (0, .ref (gA g 17))]) C.1 hb dX1_count_29 hl (k := 2) rfl (nI_1 i) (by decide) rfl (fun ls hl => ?_)
          refine lv_goto (tgt := 4) C.1 hb dX1_count_32 (by decide) ?_
          exact ih (i + 1) (by omega) (by omega)  ls (by rw [xCnt_f (show mLv S i = false by simp [mLv, c93])]; exact lv_sub hl [2, 1, 0] rfl)
  exact key (n - 0 + 1) 0 (by omega) (by omega)  ls (lv_sub hl [2, 1, 0] rfl)

set_option maxRecDepth 100000 in
set_option maxHeartbeats 4000000 in
theorem k_X1_baseNow (l : Launch) (g : gG) (S : WS) (n : Nat) (hI : MI n S) : Met l yX1_baseNow (wA yX1_baseNow cX1_baseNow 6 (some .long)) ({ frames := 0, cells := 0, slots := 0, locals := 0 }) (PW g S [.ref (gA g 17)]) (RQ (some (.long (mBase S n)))) 0 0 (fun _ => False) := by
  refine metI (by decide +kernel) (Nat.le_of_ble_eq_true rfl) ?_
  intro p e s m below meth c C hb hml hret hlk hP ls hl
  have C : CW g RX1 p s m ([.ref (gA g 17)] : List Value).toArray := C
  have hS : va_S (Ab g) s.heap s.heap [] := va_S.rf
  have hl : lv_has ls 6 [(0, .ref (gA g 17))] := hl
  refine lv_lconst (v := 0) C.1 hb dX1_baseNow_0 (by decide) ?_
  refine lv_lstore_n (lv' := [(1, .long 0), (0, .ref (gA g 17))]) C.1 hb dX1_baseNow_1 rfl hl (by decide) rfl (fun ls hl => ?_)
  refine lv_lconst (v := 0) C.1 hb dX1_baseNow_2 (by decide) ?_
  refine lv_lstore_n (lv' := [(3, .long 0), (1, .long 0), (0, .ref (gA g 17))]) C.1 hb dX1_baseNow_3 rfl hl (by decide) rfl (fun ls hl => ?_)
  refine lv_iconst (v := 0) C.1 hb dX1_baseNow_4 (by decide) ?_
  refine lv_istore (lv' := [(5, .int 0), (3, .long 0), (1, .long 0), (0, .ref (gA g 17))]) C.1 hb dX1_baseNow_5 hl (by decide) rfl (fun ls hl => ?_)
  have key : ∀ f i : Nat, n - i < f → i ≤ n → ∀ ls : Array Slot, lv_has ls 6 [(0, .ref (gA g 17)), (1, .long (wsum (mLv S) (mL S 3) i)), (3, .long (wsum (mLv S) (mL S 1) i)), (5, .int (nI i))] → W p l e ({ frames := 0, cells := 0, slots := 0, locals := 0 }) s m ([.ref (gA g 17)] : List Value).toArray below meth c s.heap [] 0 0 (MQ below (RQ (some (.long (mBase S n)))) ([.ref (gA g 17)] : List Value).toArray s 0 0 (fun _ => False)) (F0 m 7 ls []) := by
    intro f
    induction f with
    | zero => intro i h; exact absurd h (Nat.not_lt_zero _)
    | succ f ih =>
      intro i hfi hi  ls hl
      refine lv_iload C.1 hb dX1_baseNow_7 (lv_at hl 3 rfl) ?_
      refine lv_aload_n C.1 hb dX1_baseNow_9 rfl (lv_at hl 0 rfl) ?_
      refine gM_rows C hb hP dX1_baseNow_10 ?_
      refine lv_icmp_ge (tgt := 72) C.1 hb dX1_baseNow_13 (by decide) (fun c94 => ?_) (fun c94 => ?_)
      · have hin : i = n := by have := le_nI (a := n) (b := i) (by have := hI.1; omega) (by have := hI.1; omega) (by rw [← hI.2.1]; exact c94); omega
        rw [hin] at hl
        refine lv_lload_n C.1 hb dX1_baseNow_72 rfl (lv_at hl 2 rfl) ?_
        refine lv_lconst (v := 0) C.1 hb dX1_baseNow_73 (by decide) ?_
        refine lc_ne (tgt := 82) C hb dX1_baseNow_74 dX1_baseNow_75 (by decide) (fun c95 => ?_) (fun c95 => ?_)
        · refine lv_ldc2 (v := 10000) C.1 hb C.2.1 (C.2.2.1 _ wm_47) dX1_baseNow_82 ?_
          refine lv_lload_n C.1 hb dX1_baseNow_85 rfl (lv_at hl 1 rfl) ?_
          refine lv_lmul C.1 hb dX1_baseNow_86 ?_
          refine lv_lload_n C.1 hb dX1_baseNow_87 rfl (lv_at hl 2 rfl) ?_
          refine lv_ldiv C.1 hb dX1_baseNow_88 c95 ?_
          exact rdL C hb hret hlk dX1_baseNow_89 (by unfold mBase; rw [if_neg c95])
        · refine lv_lconst (v := 0) C.1 hb dX1_baseNow_78 (by decide) ?_
          refine lv_goto (tgt := 89) C.1 hb dX1_baseNow_79 (by decide) ?_
          exact rdL C hb hret hlk dX1_baseNow_89 (by unfold mBase; rw [if_pos c95])
      · have hlti : i < n := nle_nI (a := n) (b := i) (by have := hI.1; omega) (by have := hI.1; omega) (by rw [← hI.2.1]; exact c94)
        have hn40 := hI.1
        refine lv_lload_n C.1 hb dX1_baseNow_16 rfl (lv_at hl 1 rfl) ?_
        refine lv_aload_n C.1 hb dX1_baseNow_17 rfl (lv_at hl 0 rfl) ?_
        refine gM_gone C hb hP dX1_baseNow_18 ?_
        refine lv_iload C.1 hb dX1_baseNow_21 (lv_at hl 3 rfl) ?_
        refine ldM_gone (j := i) C hb hP rfl (by omega) dX1_baseNow_23 ?_
        refine lv_if_eq (tgt := 31) C.1 hb dX1_baseNow_24 (by decide) (fun c96 => ?_) (fun c96 => ?_)
        · have hp : mLv S i = true := by simp [mLv, c96]
          refine lv_aload_n C.1 hb dX1_baseNow_31 rfl (lv_at hl 0 rfl) ?_
          refine gM_losses C hb hP dX1_baseNow_32 ?_
          refine lv_iload C.1 hb dX1_baseNow_35 (lv_at hl 3 rfl) ?_
          refine ldM_losses (j := i) C hb hP rfl (by omega) dX1_baseNow_37 ?_
          refine lv_i2l C.1 hb dX1_baseNow_38 rfl ?_
          refine lv_ladd C.1 hb dX1_baseNow_39 ?_
          refine lv_lstore_n (lv' := [(1, .long ((wsum (mLv S) (mL S 3) i) + (mIa S 3 i).toInt64)), (0, .ref (gA g 17)), (3, .long (wsum (mLv S) (mL S 1) i)), (5, .int (nI i))]) C.1 hb dX1_baseNow_40 rfl hl (by decide) rfl (fun ls hl => ?_)
          refine lv_lload_n C.1 hb dX1_baseNow_41 rfl (lv_at hl 2 rfl) ?_
          refine lv_aload_n C.1 hb dX1_baseNow_42 rfl (lv_at hl 1 rfl) ?_
          refine gM_gone C hb hP dX1_baseNow_43 ?_
          refine lv_iload C.1 hb dX1_baseNow_46 (lv_at hl 3 rfl) ?_
          refine ldM_gone (j := i) C hb hP rfl (by omega) dX1_baseNow_48 ?_
          refine lv_if_eq (tgt := 56) C.1 hb dX1_baseNow_49 (by decide) (fun c97 => ?_) (fun c97 => ?_)
          · refine lv_aload_n C.1 hb dX1_baseNow_56 rfl (lv_at hl 1 rfl) ?_
            refine gM_exposures C hb hP dX1_baseNow_57 ?_
            refine lv_iload C.1 hb dX1_baseNow_60 (lv_at hl 3 rfl) ?_
            refine ldM_exposures (j := i) C hb hP rfl (by omega) dX1_baseNow_62 ?_
            refine lv_i2l C.1 hb dX1_baseNow_63 rfl ?_
            refine lv_ladd C.1 hb dX1_baseNow_64 ?_
            refine lv_lstore_n (lv' := [(3, .long ((wsum (mLv S) (mL S 1) i) + (mIa S 1 i).toInt64)), (1, .long ((wsum (mLv S) (mL S 3) i) + (mIa S 3 i).toInt64)), (0, .ref (gA g 17)), (5, .int (nI i))]) C.1 hb dX1_baseNow_65 rfl hl (by decide) rfl (fun ls hl => ?_)
            refine lv_iinc (v := nI (i + 1)) (lv' := [(5, .int (nI (i + 1))), (3, .long ((wsum (mLv S) (mL S 1) i) + (mIa S 1 i).toInt64)), (1, .long ((wsum (mLv S) (mL S 3) i) + (mIa S 3 i).toInt64)), (0, .ref (gA g 17))]) C.1 hb dX1_baseNow_66 hl (k := 3) rfl (nI_1 i) (by decide) rfl (fun ls hl => ?_)
            refine lv_goto (tgt := 7) C.1 hb dX1_baseNow_69 (by decide) ?_
            exact ih (i + 1) (by omega) (by omega)  ls (by rw [wsum_t hp, wsum_t hp]; exact lv_sub hl [3, 2, 1, 0] rfl)
          · exact absurd c96 c97
        · have hp : mLv S i = false := by simp [mLv, c96]
          refine lv_lconst (v := 0) C.1 hb dX1_baseNow_27 (by decide) ?_
          refine lv_goto (tgt := 39) C.1 hb dX1_baseNow_28 (by decide) ?_
          refine lv_ladd C.1 hb dX1_baseNow_39 ?_
          refine toL (Int64.add_zero _) ?_
          refine lv_lstore_n (lv' := [(1, .long (wsum (mLv S) (mL S 3) i)), (0, .ref (gA g 17)), (3, .long (wsum (mLv S) (mL S 1) i)), (5, .int (nI i))]) C.1 hb dX1_baseNow_40 rfl hl (by decide) rfl (fun ls hl => ?_)
          refine lv_lload_n C.1 hb dX1_baseNow_41 rfl (lv_at hl 2 rfl) ?_
          refine lv_aload_n C.1 hb dX1_baseNow_42 rfl (lv_at hl 1 rfl) ?_
          refine gM_gone C hb hP dX1_baseNow_43 ?_
          refine lv_iload C.1 hb dX1_baseNow_46 (lv_at hl 3 rfl) ?_
          refine ldM_gone (j := i) C hb hP rfl (by omega) dX1_baseNow_48 ?_
          refine lv_if_eq (tgt := 56) C.1 hb dX1_baseNow_49 (by decide) (fun c98 => ?_) (fun c98 => ?_)
          · exact absurd c98 c96
          · refine lv_lconst (v := 0) C.1 hb dX1_baseNow_52 (by decide) ?_
            refine lv_goto (tgt := 64) C.1 hb dX1_baseNow_53 (by decide) ?_
            refine lv_ladd C.1 hb dX1_baseNow_64 ?_
            refine toL (Int64.add_zero _) ?_
            refine lv_lstore_n (lv' := [(3, .long (wsum (mLv S) (mL S 1) i)), (1, .long (wsum (mLv S) (mL S 3) i)), (0, .ref (gA g 17)), (5, .int (nI i))]) C.1 hb dX1_baseNow_65 rfl hl (by decide) rfl (fun ls hl => ?_)
            refine lv_iinc (v := nI (i + 1)) (lv' := [(5, .int (nI (i + 1))), (3, .long (wsum (mLv S) (mL S 1) i)), (1, .long (wsum (mLv S) (mL S 3) i)), (0, .ref (gA g 17))]) C.1 hb dX1_baseNow_66 hl (k := 3) rfl (nI_1 i) (by decide) rfl (fun ls hl => ?_)
            refine lv_goto (tgt := 7) C.1 hb dX1_baseNow_69 (by decide) ?_
            exact ih (i + 1) (by omega) (by omega)  ls (by rw [wsum_f hp, wsum_f hp]; exact lv_sub hl [3, 2, 1, 0] rfl)
  exact key (n - 0 + 1) 0 (by omega) (by omega)  ls (lv_sub hl [3, 2, 1, 0] rfl)

set_option maxRecDepth 100000 in
set_option maxHeartbeats 4000000 in
theorem k_X1_fit (l : Launch) (g : gG) (S : WS) (n : Nat) (hI : MI n S) (r : Nat) (hr : r < n) (b : Int64) : Met l yX1_fit (wA yX1_fit cX1_fit 7 (some .long)) ({ frames := 0, cells := 0, slots := 0, locals := 0 }) (PW g S [.ref (gA g 17), .int (nI r), .long b]) (RQ (some (.long (mFit S b r)))) 0 0 (fun _ => False) := by
  refine metI (by decide +kernel) (Nat.le_of_ble_eq_true rfl) ?_
  intro p e s m below meth c C hb hml hret hlk hP ls hl
  have C : CW g RX1 p s m ([.ref (gA g 17), .int (nI r), .long b] : List Value).toArray := C
  have hS : va_S (Ab g) s.heap s.heap [] := va_S.rf
  have hl : lv_has ls 7 [(0, .ref (gA g 17)), (1, .int (nI r)), (2, .long b)] := hl
  have hn40 := hI.1
  refine lv_aload_n C.1 hb dX1_fit_0 rfl (lv_at hl 0 rfl) ?_
  refine gM_exposures C hb hP dX1_fit_1 ?_
  refine lv_iload_n C.1 hb dX1_fit_4 rfl (lv_at hl 1 rfl) ?_
  refine ldM_exposures (j := r) C hb hP rfl (by omega) dX1_fit_5 ?_
  refine lv_i2l C.1 hb dX1_fit_6 rfl ?_
  refine lv_lload_n C.1 hb dX1_fit_7 rfl (lv_at hl 2 rfl) ?_
  refine lv_lmul C.1 hb dX1_fit_8 ?_
  refine lv_ldc2 (v := 10000) C.1 hb C.2.1 (C.2.2.1 _ wm_47) dX1_fit_9 ?_
  refine lv_ldiv C.1 hb dX1_fit_12 (by decide) ?_
  refine lv_lstore (lv' := [(4, .long (((mIa S 1 r).toInt64 * b) / 10000)), (0, .ref (gA g 17)), (1, .int (nI r)), (2, .long b)]) C.1 hb dX1_fit_13 hl (by decide) rfl (fun ls hl => ?_)
  refine lv_iconst (v := 0) C.1 hb dX1_fit_15 (by decide) ?_
  refine lv_istore (lv' := [(6, .int 0), (4, .long (((mIa S 1 r).toInt64 * b) / 10000)), (0, .ref (gA g 17)), (1, .int (nI r)), (2, .long b)]) C.1 hb dX1_fit_16 hl (by decide) rfl (fun ls hl => ?_)
  have key : ∀ f i : Nat, 3 - i < f → i ≤ 3 → ∀ ls : Array Slot, lv_has ls 7 [(0, .ref (gA g 17)), (1, .int (nI r)), (2, .long b), (4, .long (mFitN S b r i)), (6, .int (nI i))] → W p l e ({ frames := 0, cells := 0, slots := 0, locals := 0 }) s m ([.ref (gA g 17), .int (nI r), .long b] : List Value).toArray below meth c s.heap [] 0 0 (MQ below (RQ (some (.long (mFit S b r)))) ([.ref (gA g 17), .int (nI r), .long b] : List Value).toArray s 0 0 (fun _ => False)) (F0 m 18 ls []) := by
    intro f
    induction f with
    | zero => intro i h; exact absurd h (Nat.not_lt_zero _)
    | succ f ih =>
      intro i hfi hi  ls hl
      refine lv_iload C.1 hb dX1_fit_18 (lv_at hl 4 rfl) ?_
      refine lv_iconst (v := 3) C.1 hb dX1_fit_20 (by decide) ?_
      refine lv_icmp_ge (tgt := 61) C.1 hb dX1_fit_21 (by decide) (fun c99 => ?_) (fun c99 => ?_)
      · have hin : i = 3 := by have := le_nI (a := 3) (b := i) (by decide) (by omega) c99; omega
        rw [hin] at hl
        refine lv_lload C.1 hb dX1_fit_61 (lv_at hl 3 rfl) ?_
        exact rdL C hb hret hlk dX1_fit_63 rfl
      · have hlt : i < 3 := nle_nI (a := 3) (b := i) (by decide) (by omega) c99
        have hlv := MI_lev hI hlt hr
        have hl2 := hlv.2
        refine lv_lload C.1 hb dX1_fit_24 (lv_at hl 3 rfl) ?_
        refine lv_aload_n C.1 hb dX1_fit_26 rfl (lv_at hl 0 rfl) ?_
        refine gM_factors C hb hP dX1_fit_27 ?_
        refine lv_iconst (v := 4) C.1 hb dX1_fit_30 (by decide) ?_
        refine lv_iload C.1 hb dX1_fit_31 (lv_at hl 4 rfl) ?_
        refine lv_imul C.1 hb dX1_fit_33 ?_
        refine lv_aload_n C.1 hb dX1_fit_34 rfl (lv_at hl 0 rfl) ?_
        refine gM_levels C hb hP dX1_fit_35 ?_
        refine lv_iconst (v := 3) C.1 hb dX1_fit_38 (by decide) ?_
        refine lv_iload_n C.1 hb dX1_fit_39 rfl (lv_at hl 1 rfl) ?_
        refine lv_imul C.1 hb dX1_fit_40 ?_
        refine lv_iload C.1 hb dX1_fit_41 (lv_at hl 4 rfl) ?_
        refine lv_iadd C.1 hb dX1_fit_43 ?_
        refine ldM_levels (j := (3 * r + i)) C hb hP (ix3 r i) (by omega) dX1_fit_44 ?_
        refine lv_iadd C.1 hb dX1_fit_45 ?_
        refine ldM_factors (j := (4 * i + tN (mIa S 0 (3 * r + i)))) C hb hP (MI_ix4 hI hlt hr) (by omega) dX1_fit_46 ?_
        refine lv_i2l C.1 hb dX1_fit_47 rfl ?_
        refine lv_lmul C.1 hb dX1_fit_48 ?_
        refine lv_ldc2 (v := 10000) C.1 hb C.2.1 (C.2.2.1 _ wm_47) dX1_fit_49 ?_
        refine lv_ldiv C.1 hb dX1_fit_52 (by decide) ?_
        refine lv_lstore (lv' := [(4, .long (((mFitN S b r i) * (mIa S 6 (4 * i + tN (mIa S 0 (3 * r + i)))).toInt64) / 10000)), (0, .ref (gA g 17)), (1, .int (nI r)), (2, .long b), (6, .int (nI i))]) C.1 hb dX1_fit_53 hl (by decide) rfl (fun ls hl => ?_)
        refine lv_iinc (v := nI (i + 1)) (lv' := [(6, .int (nI (i + 1))), (4, .long (((mFitN S b r i) * (mIa S 6 (4 * i + tN (mIa S 0 (3 * r + i)))).toInt64) / 10000)), (0, .ref (gA g 17)), (1, .int (nI r)), (2, .long b)]) C.1 hb dX1_fit_55 hl (k := 4) rfl (nI_1 i) (by decide) rfl (fun ls hl => ?_)
        refine lv_goto (tgt := 18) C.1 hb dX1_fit_58 (by decide) ?_
        exact ih (i + 1) (by omega) (by omega)  ls (by rw [show mFitN S b r (i + 1) = mFitN S b r i * (mIa S 6 (4 * i + tN (mIa S 0 (3 * r + i)))).toInt64 / 10000 from rfl]; exact lv_sub hl [2, 3, 4, 1, 0] rfl)
  exact key (3 - 0 + 1) 0 (by omega) (by omega)  ls (lv_sub hl [2, 3, 4, 1, 0] rfl)

set_option maxRecDepth 100000 in
set_option maxHeartbeats 4000000 in
theorem k_X1_has (l : Launch) (g : gG) (S : WS) (i t : Nat) (hi : i < 40) (ht : t < 3) (k : Int32) : Met l yX1_has (wA yX1_has cX1_has 4 (some .boolean)) ({ frames := 0, cells := 0, slots := 0, locals := 0 }) (PW g S [.ref (gA g 17), .int (nI i), .int (nI t), .int k]) (RQ (some (.int (bI (mHas S t k i))))) 0 0 (fun _ => False) := by
  refine metI (by decide +kernel) (Nat.le_of_ble_eq_true rfl) ?_
  intro p e s m below meth c C hb hml hret hlk hP ls hl
  have C : CW g RX1 p s m ([.ref (gA g 17), .int (nI i), .int (nI t), .int k] : List Value).toArray := C
  have hS : va_S (Ab g) s.heap s.heap [] := va_S.rf
  have hl : lv_has ls 4 [(0, .ref (gA g 17)), (1, .int (nI i)), (2, .int (nI t)), (3, .int k)] := hl
  refine lv_aload_n C.1 hb dX1_has_0 rfl (lv_at hl 0 rfl) ?_
  refine gM_gone C hb hP dX1_has_1 ?_
  refine lv_iload_n C.1 hb dX1_has_4 rfl (lv_at hl 1 rfl) ?_
  refine ldM_gone (j := i) C hb hP rfl (by omega) dX1_has_5 ?_
  refine lv_if_ne (tgt := 27) C.1 hb dX1_has_6 (by decide) (fun c100 => ?_) (fun c100 => ?_)
  · refine lv_iconst (v := 0) C.1 hb dX1_has_27 (by decide) ?_
    exact rdZ C hb hret hlk dX1_has_28 (by simp [mHas, bI, c100])
  · refine lv_aload_n C.1 hb dX1_has_9 rfl (lv_at hl 0 rfl) ?_
    refine gM_levels C hb hP dX1_has_10 ?_
    refine lv_iconst (v := 3) C.1 hb dX1_has_13 (by decide) ?_
    refine lv_iload_n C.1 hb dX1_has_14 rfl (lv_at hl 1 rfl) ?_
    refine lv_imul C.1 hb dX1_has_15 ?_
    refine lv_iload_n C.1 hb dX1_has_16 rfl (lv_at hl 2 rfl) ?_
    refine lv_iadd C.1 hb dX1_has_17 ?_
    refine ldM_levels (j := (3 * i + t)) C hb hP (ix3 i t) (by omega) dX1_has_18 ?_
    refine lv_iload_n C.1 hb dX1_has_19 rfl (lv_at hl 3 rfl) ?_
    refine lv_icmp_ne (tgt := 27) C.1 hb dX1_has_20 (by decide) (fun c101 => ?_) (fun c101 => ?_)
    · refine lv_iconst (v := 0) C.1 hb dX1_has_27 (by decide) ?_
      exact rdZ C hb hret hlk dX1_has_28 (by simp [mHas, bI, c100, c101])
    · refine lv_iconst (v := 1) C.1 hb dX1_has_23 (by decide) ?_
      refine lv_goto (tgt := 28) C.1 hb dX1_has_24 (by decide) ?_
      exact rdZ C hb hret hlk dX1_has_28 (by simp [mHas, bI, c100, c101])

set_option maxRecDepth 100000 in
set_option maxHeartbeats 4000000 in
theorem k_X1_told (l : Launch) (g : gG) (S : WS) (n : Nat) (hI : MI n S) (t : Nat) (ht : t < 3) (k : Int32) : Met l yX1_told (wA yX1_told cX1_told 6 (some .long)) ({ frames := 1, cells := 0, slots := 0, locals := 40 }) (PW g S [.ref (gA g 17), .int (nI t), .int k]) (RQ (some (.long (mSumL S n t k 3)))) 0 0 (fun _ => False) := by
  refine metI (by decide +kernel) (Nat.le_of_ble_eq_true rfl) ?_
  intro p e s m below meth c C hb hml hret hlk hP ls hl
  have C : CW g RX1 p s m ([.ref (gA g 17), .int (nI t), .int k] : List Value).toArray := C
  have hS : va_S (Ab g) s.heap s.heap [] := va_S.rf
  have hl : lv_has ls 6 [(0, .ref (gA g 17)), (1, .int (nI t)), (2, .int k)] := hl
  refine lv_lconst (v := 0) C.1 hb dX1_told_0 (by decide) ?_
  refine lv_lstore_n (lv' := [(3, .long 0), (0, .ref (gA g 17)), (1, .int (nI t)), (2, .int k)]) C.1 hb dX1_told_1 rfl hl (by decide) rfl (fun ls hl => ?_)
  refine lv_iconst (v := 0) C.1 hb dX1_told_2 (by decide) ?_
  refine lv_istore (lv' := [(5, .int 0), (3, .long 0), (0, .ref (gA g 17)), (1, .int (nI t)), (2, .int k)]) C.1 hb dX1_told_3 hl (by decide) rfl (fun ls hl => ?_)
  have key : ∀ f i : Nat, n - i < f → i ≤ n → ∀ ls : Array Slot, lv_has ls 6 [(0, .ref (gA g 17)), (1, .int (nI t)), (2, .int k), (3, .long (wsum (mHas S t k) (mL S 3) i)), (5, .int (nI i))] → W p l e ({ frames := 1, cells := 0, slots := 0, locals := 40 }) s m ([.ref (gA g 17), .int (nI t), .int k] : List Value).toArray below meth c s.heap [] 0 0 (MQ below (RQ (some (.long (mSumL S n t k 3)))) ([.ref (gA g 17), .int (nI t), .int k] : List Value).toArray s 0 0 (fun _ => False)) (F0 m 5 ls []) := by
    intro f
    induction f with
    | zero => intro i h; exact absurd h (Nat.not_lt_zero _)
    | succ f ih =>
      intro i hfi hi  ls hl
      refine lv_iload C.1 hb dX1_told_5 (lv_at hl 4 rfl) ?_
      refine lv_aload_n C.1 hb dX1_told_7 rfl (lv_at hl 0 rfl) ?_
      refine gM_rows C hb hP dX1_told_8 ?_
      refine lv_icmp_ge (tgt := 46) C.1 hb dX1_told_11 (by decide) (fun c102 => ?_) (fun c102 => ?_)
      · have hin : i = n := by have := le_nI (a := n) (b := i) (by have := hI.1; omega) (by have := hI.1; omega) (by rw [← hI.2.1]; exact c102); omega
        rw [hin] at hl
        refine lv_lload_n C.1 hb dX1_told_46 rfl (lv_at hl 3 rfl) ?_
        exact rdL C hb hret hlk dX1_told_47 rfl
      · have hlti : i < n := nle_nI (a := n) (b := i) (by have := hI.1; omega) (by have := hI.1; omega) (by rw [← hI.2.1]; exact c102)
        have hn40 := hI.1
        refine lv_lload_n C.1 hb dX1_told_14 rfl (lv_at hl 3 rfl) ?_
        refine lv_aload_n C.1 hb dX1_told_15 rfl (lv_at hl 0 rfl) ?_
        refine lv_iload C.1 hb dX1_told_16 (lv_at hl 4 rfl) ?_
        refine lv_iload_n C.1 hb dX1_told_18 rfl (lv_at hl 1 rfl) ?_
        refine lv_iload_n C.1 hb dX1_told_19 rfl (lv_at hl 2 rfl) ?_
        refine run_rd (cRunM (As := [.int (nI i), .int (nI t), .int k]) (rest := [.long (wsum (mHas S t k) (mL S 3) i)]) C hb (hml.trans hl.1.symm) hP hS rfl (k_X1_has l g S i t (by omega) ht k) wm_228 wm_229 wm_230 wm_231 wm_5 (n := 3) (by decide +kernel) rfl ⟨rfl, rfl, Nat.le_of_ble_eq_true rfl, Nat.le_of_ble_eq_true rfl⟩ (Nat.le_of_ble_eq_true rfl) rfl ⟨Nat.zero_le _, Nat.zero_le _⟩ dX1_told_20) ?_
        refine bz_eq (tgt := 37) C hb dX1_told_23 (by decide) (fun c103 => ?_) (fun c103 => ?_)
        · refine lv_lconst (v := 0) C.1 hb dX1_told_37 (by decide) ?_
          refine lv_ladd C.1 hb dX1_told_38 ?_
          refine toL (Int64.add_zero _) ?_
          refine lv_lstore_n (lv' := [(3, .long (wsum (mHas S t k) (mL S 3) i)), (0, .ref (gA g 17)), (1, .int (nI t)), (2, .int k), (5, .int (nI i))]) C.1 hb dX1_told_39 rfl hl (by decide) rfl (fun ls hl => ?_)
          refine lv_iinc (v := nI (i + 1)) (lv' := [(5, .int (nI (i + 1))), (3, .long (wsum (mHas S t k) (mL S 3) i)), (0, .ref (gA g 17)), (1, .int (nI t)), (2, .int k)]) C.1 hb dX1_told_40 hl (k := 4) rfl (nI_1 i) (by decide) rfl (fun ls hl => ?_)
          refine lv_goto (tgt := 5) C.1 hb dX1_told_43 (by decide) ?_
          exact ih (i + 1) (by omega) (by omega)  ls (by rw [wsum_f c103]; exact lv_sub hl [2, 3, 4, 1, 0] rfl)
        · refine lv_aload_n C.1 hb dX1_told_26 rfl (lv_at hl 0 rfl) ?_
          refine gM_losses C hb hP dX1_told_27 ?_
          refine lv_iload C.1 hb dX1_told_30 (lv_at hl 4 rfl) ?_
          refine ldM_losses (j := i) C hb hP rfl (by omega) dX1_told_32 ?_
          refine lv_i2l C.1 hb dX1_told_33 rfl ?_
          refine lv_goto (tgt := 38) C.1 hb dX1_told_34 (by decide) ?_
          refine lv_ladd C.1 hb dX1_told_38 ?_
          refine lv_lstore_n (lv' := [(3, .long ((wsum (mHas S t k) (mL S 3) i) + (mIa S 3 i).toInt64)), (0, .ref (gA g 17)), (1, .int (nI t)), (2, .int k), (5, .int (nI i))]) C.1 hb dX1_told_39 rfl hl (by decide) rfl (fun ls hl => ?_)
          refine lv_iinc (v := nI (i + 1)) (lv' := [(5, .int (nI (i + 1))), (3, .long ((wsum (mHas S t k) (mL S 3) i) + (mIa S 3 i).toInt64)), (0, .ref (gA g 17)), (1, .int (nI t)), (2, .int k)]) C.1 hb dX1_told_40 hl (k := 4) rfl (nI_1 i) (by decide) rfl (fun ls hl => ?_)
          refine lv_goto (tgt := 5) C.1 hb dX1_told_43 (by decide) ?_
          exact ih (i + 1) (by omega) (by omega)  ls (by rw [wsum_t c103]; exact lv_sub hl [2, 3, 4, 1, 0] rfl)
  exact key (n - 0 + 1) 0 (by omega) (by omega)  ls (lv_sub hl [2, 3, 4, 1, 0] rfl)

set_option maxRecDepth 100000 in
set_option maxHeartbeats 4000000 in
theorem k_X1_claimed (l : Launch) (g : gG) (S : WS) (n : Nat) (hI : MI n S) (t : Nat) (ht : t < 3) (k : Int32) : Met l yX1_claimed (wA yX1_claimed cX1_claimed 6 (some .long)) ({ frames := 1, cells := 0, slots := 0, locals := 40 }) (PW g S [.ref (gA g 17), .int (nI t), .int k]) (RQ (some (.long (mSumL S n t k 2)))) 0 0 (fun _ => False) := by
  refine metI (by decide +kernel) (Nat.le_of_ble_eq_true rfl) ?_
  intro p e s m below meth c C hb hml hret hlk hP ls hl
  have C : CW g RX1 p s m ([.ref (gA g 17), .int (nI t), .int k] : List Value).toArray := C
  have hS : va_S (Ab g) s.heap s.heap [] := va_S.rf
  have hl : lv_has ls 6 [(0, .ref (gA g 17)), (1, .int (nI t)), (2, .int k)] := hl
  refine lv_lconst (v := 0) C.1 hb dX1_claimed_0 (by decide) ?_
  refine lv_lstore_n (lv' := [(3, .long 0), (0, .ref (gA g 17)), (1, .int (nI t)), (2, .int k)]) C.1 hb dX1_claimed_1 rfl hl (by decide) rfl (fun ls hl => ?_)
  refine lv_iconst (v := 0) C.1 hb dX1_claimed_2 (by decide) ?_
  refine lv_istore (lv' := [(5, .int 0), (3, .long 0), (0, .ref (gA g 17)), (1, .int (nI t)), (2, .int k)]) C.1 hb dX1_claimed_3 hl (by decide) rfl (fun ls hl => ?_)
  have key : ∀ f i : Nat, n - i < f → i ≤ n → ∀ ls : Array Slot, lv_has ls 6 [(0, .ref (gA g 17)), (1, .int (nI t)), (2, .int k), (3, .long (wsum (mHas S t k) (mL S 2) i)), (5, .int (nI i))] → W p l e ({ frames := 1, cells := 0, slots := 0, locals := 40 }) s m ([.ref (gA g 17), .int (nI t), .int k] : List Value).toArray below meth c s.heap [] 0 0 (MQ below (RQ (some (.long (mSumL S n t k 2)))) ([.ref (gA g 17), .int (nI t), .int k] : List Value).toArray s 0 0 (fun _ => False)) (F0 m 5 ls []) := by
    intro f
    induction f with
    | zero => intro i h; exact absurd h (Nat.not_lt_zero _)
    | succ f ih =>
      intro i hfi hi  ls hl
      refine lv_iload C.1 hb dX1_claimed_5 (lv_at hl 4 rfl) ?_
      refine lv_aload_n C.1 hb dX1_claimed_7 rfl (lv_at hl 0 rfl) ?_
      refine gM_rows C hb hP dX1_claimed_8 ?_
      refine lv_icmp_ge (tgt := 46) C.1 hb dX1_claimed_11 (by decide) (fun c104 => ?_) (fun c104 => ?_)
      · have hin : i = n := by have := le_nI (a := n) (b := i) (by have := hI.1; omega) (by have := hI.1; omega) (by rw [← hI.2.1]; exact c104); omega
        rw [hin] at hl
        refine lv_lload_n C.1 hb dX1_claimed_46 rfl (lv_at hl 3 rfl) ?_
        exact rdL C hb hret hlk dX1_claimed_47 rfl
      · have hlti : i < n := nle_nI (a := n) (b := i) (by have := hI.1; omega) (by have := hI.1; omega) (by rw [← hI.2.1]; exact c104)
        have hn40 := hI.1
        refine lv_lload_n C.1 hb dX1_claimed_14 rfl (lv_at hl 3 rfl) ?_
        refine lv_aload_n C.1 hb dX1_claimed_15 rfl (lv_at hl 0 rfl) ?_
        refine lv_iload C.1 hb dX1_claimed_16 (lv_at hl 4 rfl) ?_
        refine lv_iload_n C.1 hb dX1_claimed_18 rfl (lv_at hl 1 rfl) ?_
        refine lv_iload_n C.1 hb dX1_claimed_19 rfl (lv_at hl 2 rfl) ?_
        refine run_rd (cRunM (As := [.int (nI i), .int (nI t), .int k]) (rest := [.long (wsum (mHas S t k) (mL S 2) i)]) C hb (hml.trans hl.1.symm) hP hS rfl (k_X1_has l g S i t (by omega) ht k) wm_228 wm_229 wm_230 wm_231 wm_5 (n := 3) (by decide +kernel) rfl ⟨rfl, rfl, Nat.le_of_ble_eq_true rfl, Nat.le_of_ble_eq_true rfl⟩ (Nat.le_of_ble_eq_true rfl) rfl ⟨Nat.zero_le _, Nat.zero_le _⟩ dX1_claimed_20) ?_
        refine bz_eq (tgt := 37) C hb dX1_claimed_23 (by decide) (fun c105 => ?_) (fun c105 => ?_)
        · refine lv_lconst (v := 0) C.1 hb dX1_claimed_37 (by decide) ?_
          refine lv_ladd C.1 hb dX1_claimed_38 ?_
          refine toL (Int64.add_zero _) ?_
          refine lv_lstore_n (lv' := [(3, .long (wsum (mHas S t k) (mL S 2) i)), (0, .ref (gA g 17)), (1, .int (nI t)), (2, .int k), (5, .int (nI i))]) C.1 hb dX1_claimed_39 rfl hl (by decide) rfl (fun ls hl => ?_)
          refine lv_iinc (v := nI (i + 1)) (lv' := [(5, .int (nI (i + 1))), (3, .long (wsum (mHas S t k) (mL S 2) i)), (0, .ref (gA g 17)), (1, .int (nI t)), (2, .int k)]) C.1 hb dX1_claimed_40 hl (k := 4) rfl (nI_1 i) (by decide) rfl (fun ls hl => ?_)
          refine lv_goto (tgt := 5) C.1 hb dX1_claimed_43 (by decide) ?_
          exact ih (i + 1) (by omega) (by omega)  ls (by rw [wsum_f c105]; exact lv_sub hl [2, 3, 4, 1, 0] rfl)
        · refine lv_aload_n C.1 hb dX1_claimed_26 rfl (lv_at hl 0 rfl) ?_
          refine gM_claims C hb hP dX1_claimed_27 ?_
          refine lv_iload C.1 hb dX1_claimed_30 (lv_at hl 4 rfl) ?_
          refine ldM_claims (j := i) C hb hP rfl (by omega) dX1_claimed_32 ?_
          refine lv_i2l C.1 hb dX1_claimed_33 rfl ?_
          refine lv_goto (tgt := 38) C.1 hb dX1_claimed_34 (by decide) ?_
          refine lv_ladd C.1 hb dX1_claimed_38 ?_
          refine lv_lstore_n (lv' := [(3, .long ((wsum (mHas S t k) (mL S 2) i) + (mIa S 2 i).toInt64)), (0, .ref (gA g 17)), (1, .int (nI t)), (2, .int k), (5, .int (nI i))]) C.1 hb dX1_claimed_39 rfl hl (by decide) rfl (fun ls hl => ?_)
          refine lv_iinc (v := nI (i + 1)) (lv' := [(5, .int (nI (i + 1))), (3, .long ((wsum (mHas S t k) (mL S 2) i) + (mIa S 2 i).toInt64)), (0, .ref (gA g 17)), (1, .int (nI t)), (2, .int k)]) C.1 hb dX1_claimed_40 hl (k := 4) rfl (nI_1 i) (by decide) rfl (fun ls hl => ?_)
          refine lv_goto (tgt := 5) C.1 hb dX1_claimed_43 (by decide) ?_
          exact ih (i + 1) (by omega) (by omega)  ls (by rw [wsum_t c105]; exact lv_sub hl [2, 3, 4, 1, 0] rfl)
  exact key (n - 0 + 1) 0 (by omega) (by omega)  ls (lv_sub hl [2, 3, 4, 1, 0] rfl)

set_option maxRecDepth 100000 in
set_option maxHeartbeats 4000000 in
theorem k_X1_exposed (l : Launch) (g : gG) (S : WS) (n : Nat) (hI : MI n S) (t : Nat) (ht : t < 3) (k : Int32) : Met l yX1_exposed (wA yX1_exposed cX1_exposed 6 (some .long)) ({ frames := 1, cells := 0, slots := 0, locals := 40 }) (PW g S [.ref (gA g 17), .int (nI t), .int k]) (RQ (some (.long (mSumL S n t k 1)))) 0 0 (fun _ => False) := by
  refine metI (by decide +kernel) (Nat.le_of_ble_eq_true rfl) ?_
  intro p e s m below meth c C hb hml hret hlk hP ls hl
  have C : CW g RX1 p s m ([.ref (gA g 17), .int (nI t), .int k] : List Value).toArray := C
  have hS : va_S (Ab g) s.heap s.heap [] := va_S.rf
  have hl : lv_has ls 6 [(0, .ref (gA g 17)), (1, .int (nI t)), (2, .int k)] := hl
  refine lv_lconst (v := 0) C.1 hb dX1_exposed_0 (by decide) ?_
  refine lv_lstore_n (lv' := [(3, .long 0), (0, .ref (gA g 17)), (1, .int (nI t)), (2, .int k)]) C.1 hb dX1_exposed_1 rfl hl (by decide) rfl (fun ls hl => ?_)
  refine lv_iconst (v := 0) C.1 hb dX1_exposed_2 (by decide) ?_
  refine lv_istore (lv' := [(5, .int 0), (3, .long 0), (0, .ref (gA g 17)), (1, .int (nI t)), (2, .int k)]) C.1 hb dX1_exposed_3 hl (by decide) rfl (fun ls hl => ?_)
  have key : ∀ f i : Nat, n - i < f → i ≤ n → ∀ ls : Array Slot, lv_has ls 6 [(0, .ref (gA g 17)), (1, .int (nI t)), (2, .int k), (3, .long (wsum (mHas S t k) (mL S 1) i)), (5, .int (nI i))] → W p l e ({ frames := 1, cells := 0, slots := 0, locals := 40 }) s m ([.ref (gA g 17), .int (nI t), .int k] : List Value).toArray below meth c s.heap [] 0 0 (MQ below (RQ (some (.long (mSumL S n t k 1)))) ([.ref (gA g 17), .int (nI t), .int k] : List Value).toArray s 0 0 (fun _ => False)) (F0 m 5 ls []) := by
    intro f
    induction f with
    | zero => intro i h; exact absurd h (Nat.not_lt_zero _)
    | succ f ih =>
      intro i hfi hi  ls hl
      refine lv_iload C.1 hb dX1_exposed_5 (lv_at hl 4 rfl) ?_
      refine lv_aload_n C.1 hb dX1_exposed_7 rfl (lv_at hl 0 rfl) ?_
      refine gM_rows C hb hP dX1_exposed_8 ?_
      refine lv_icmp_ge (tgt := 46) C.1 hb dX1_exposed_11 (by decide) (fun c106 => ?_) (fun c106 => ?_)
      · have hin : i = n := by have := le_nI (a := n) (b := i) (by have := hI.1; omega) (by have := hI.1; omega) (by rw [← hI.2.1]; exact c106); omega
        rw [hin] at hl
        refine lv_lload_n C.1 hb dX1_exposed_46 rfl (lv_at hl 3 rfl) ?_
        exact rdL C hb hret hlk dX1_exposed_47 rfl
      · have hlti : i < n := nle_nI (a := n) (b := i) (by have := hI.1; omega) (by have := hI.1; omega) (by rw [← hI.2.1]; exact c106)
        have hn40 := hI.1
        refine lv_lload_n C.1 hb dX1_exposed_14 rfl (lv_at hl 3 rfl) ?_
        refine lv_aload_n C.1 hb dX1_exposed_15 rfl (lv_at hl 0 rfl) ?_
        refine lv_iload C.1 hb dX1_exposed_16 (lv_at hl 4 rfl) ?_
        refine lv_iload_n C.1 hb dX1_exposed_18 rfl (lv_at hl 1 rfl) ?_
        refine lv_iload_n C.1 hb dX1_exposed_19 rfl (lv_at hl 2 rfl) ?_
        refine run_rd (cRunM (As := [.int (nI i), .int (nI t), .int k]) (rest := [.long (wsum (mHas S t k) (mL S 1) i)]) C hb (hml.trans hl.1.symm) hP hS rfl (k_X1_has l g S i t (by omega) ht k) wm_228 wm_229 wm_230 wm_231 wm_5 (n := 3) (by decide +kernel) rfl ⟨rfl, rfl, Nat.le_of_ble_eq_true rfl, Nat.le_of_ble_eq_true rfl⟩ (Nat.le_of_ble_eq_true rfl) rfl ⟨Nat.zero_le _, Nat.zero_le _⟩ dX1_exposed_20) ?_
        refine bz_eq (tgt := 37) C hb dX1_exposed_23 (by decide) (fun c107 => ?_) (fun c107 => ?_)
        · refine lv_lconst (v := 0) C.1 hb dX1_exposed_37 (by decide) ?_
          refine lv_ladd C.1 hb dX1_exposed_38 ?_
          refine toL (Int64.add_zero _) ?_
          refine lv_lstore_n (lv' := [(3, .long (wsum (mHas S t k) (mL S 1) i)), (0, .ref (gA g 17)), (1, .int (nI t)), (2, .int k), (5, .int (nI i))]) C.1 hb dX1_exposed_39 rfl hl (by decide) rfl (fun ls hl => ?_)
          refine lv_iinc (v := nI (i + 1)) (lv' := [(5, .int (nI (i + 1))), (3, .long (wsum (mHas S t k) (mL S 1) i)), (0, .ref (gA g 17)), (1, .int (nI t)), (2, .int k)]) C.1 hb dX1_exposed_40 hl (k := 4) rfl (nI_1 i) (by decide) rfl (fun ls hl => ?_)
          refine lv_goto (tgt := 5) C.1 hb dX1_exposed_43 (by decide) ?_
          exact ih (i + 1) (by omega) (by omega)  ls (by rw [wsum_f c107]; exact lv_sub hl [2, 3, 4, 1, 0] rfl)
        · refine lv_aload_n C.1 hb dX1_exposed_26 rfl (lv_at hl 0 rfl) ?_
          refine gM_exposures C hb hP dX1_exposed_27 ?_
          refine lv_iload C.1 hb dX1_exposed_30 (lv_at hl 4 rfl) ?_
          refine ldM_exposures (j := i) C hb hP rfl (by omega) dX1_exposed_32 ?_
          refine lv_i2l C.1 hb dX1_exposed_33 rfl ?_
          refine lv_goto (tgt := 38) C.1 hb dX1_exposed_34 (by decide) ?_
          refine lv_ladd C.1 hb dX1_exposed_38 ?_
          refine lv_lstore_n (lv' := [(3, .long ((wsum (mHas S t k) (mL S 1) i) + (mIa S 1 i).toInt64)), (0, .ref (gA g 17)), (1, .int (nI t)), (2, .int k), (5, .int (nI i))]) C.1 hb dX1_exposed_39 rfl hl (by decide) rfl (fun ls hl => ?_)
          refine lv_iinc (v := nI (i + 1)) (lv' := [(5, .int (nI (i + 1))), (3, .long ((wsum (mHas S t k) (mL S 1) i) + (mIa S 1 i).toInt64)), (0, .ref (gA g 17)), (1, .int (nI t)), (2, .int k)]) C.1 hb dX1_exposed_40 hl (k := 4) rfl (nI_1 i) (by decide) rfl (fun ls hl => ?_)
          refine lv_goto (tgt := 5) C.1 hb dX1_exposed_43 (by decide) ?_
          exact ih (i + 1) (by omega) (by omega)  ls (by rw [wsum_t c107]; exact lv_sub hl [2, 3, 4, 1, 0] rfl)
  exact key (n - 0 + 1) 0 (by omega) (by omega)  ls (lv_sub hl [2, 3, 4, 1, 0] rfl)

set_option maxRecDepth 100000 in
set_option maxHeartbeats 4000000 in
theorem k_X1_fittedOf (l : Launch) (g : gG) (S : WS) (n : Nat) (hI : MI n S) (t : Nat) (ht : t < 3) (k : Int32) : Met l yX1_fittedOf (wA yX1_fittedOf cX1_fittedOf 8 (some .long)) ({ frames := 1, cells := 0, slots := 0, locals := 40 }) (PW g S [.ref (gA g 17), .int (nI t), .int k]) (RQ (some (.long (mFitO S n t k)))) 0 0 (fun _ => False) := by
  refine metI (by decide +kernel) (Nat.le_of_ble_eq_true rfl) ?_
  intro p e s m below meth c C hb hml hret hlk hP ls hl
  have C : CW g RX1 p s m ([.ref (gA g 17), .int (nI t), .int k] : List Value).toArray := C
  have hS : va_S (Ab g) s.heap s.heap [] := va_S.rf
  have hl : lv_has ls 8 [(0, .ref (gA g 17)), (1, .int (nI t)), (2, .int k)] := hl
  refine lv_aload_n C.1 hb dX1_fittedOf_0 rfl (lv_at hl 0 rfl) ?_
  refine run_rd (cRunM (As := []) (rest := []) C hb (hml.trans hl.1.symm) hP hS rfl (k_X1_baseNow l g S n hI) wm_224 wm_225 wm_226 wm_227 wm_5 (n := 0) (by decide +kernel) rfl ⟨rfl, rfl, Nat.le_of_ble_eq_true rfl, Nat.le_of_ble_eq_true rfl⟩ (Nat.le_of_ble_eq_true rfl) rfl ⟨Nat.zero_le _, Nat.zero_le _⟩ dX1_fittedOf_1) ?_
  refine lv_lstore_n (lv' := [(3, .long (mBase S n)), (0, .ref (gA g 17)), (1, .int (nI t)), (2, .int k)]) C.1 hb dX1_fittedOf_4 rfl hl (by decide) rfl (fun ls hl => ?_)
  refine lv_lconst (v := 0) C.1 hb dX1_fittedOf_5 (by decide) ?_
  refine lv_lstore (lv' := [(5, .long 0), (3, .long (mBase S n)), (0, .ref (gA g 17)), (1, .int (nI t)), (2, .int k)]) C.1 hb dX1_fittedOf_6 hl (by decide) rfl (fun ls hl => ?_)
  refine lv_iconst (v := 0) C.1 hb dX1_fittedOf_8 (by decide) ?_
  refine lv_istore (lv' := [(7, .int 0), (5, .long 0), (3, .long (mBase S n)), (0, .ref (gA g 17)), (1, .int (nI t)), (2, .int k)]) C.1 hb dX1_fittedOf_9 hl (by decide) rfl (fun ls hl => ?_)
  have key : ∀ f i : Nat, n - i < f → i ≤ n → ∀ ls : Array Slot, lv_has ls 8 [(0, .ref (gA g 17)), (1, .int (nI t)), (2, .int k), (3, .long (mBase S n)), (5, .long (wsum (mHas S t k) (mFit S (mBase S n)) i)), (7, .int (nI i))] → W p l e ({ frames := 1, cells := 0, slots := 0, locals := 40 }) s m ([.ref (gA g 17), .int (nI t), .int k] : List Value).toArray below meth c s.heap [] 0 0 (MQ below (RQ (some (.long (mFitO S n t k)))) ([.ref (gA g 17), .int (nI t), .int k] : List Value).toArray s 0 0 (fun _ => False)) (F0 m 11 ls []) := by
    intro f
    induction f with
    | zero => intro i h; exact absurd h (Nat.not_lt_zero _)
    | succ f ih =>
      intro i hfi hi  ls hl
      refine lv_iload C.1 hb dX1_fittedOf_11 (lv_at hl 5 rfl) ?_
      refine lv_aload_n C.1 hb dX1_fittedOf_13 rfl (lv_at hl 0 rfl) ?_
      refine gM_rows C hb hP dX1_fittedOf_14 ?_
      refine lv_icmp_ge (tgt := 53) C.1 hb dX1_fittedOf_17 (by decide) (fun c108 => ?_) (fun c108 => ?_)
      · have hin : i = n := by have := le_nI (a := n) (b := i) (by have := hI.1; omega) (by have := hI.1; omega) (by rw [← hI.2.1]; exact c108); omega
        rw [hin] at hl
        refine lv_lload C.1 hb dX1_fittedOf_53 (lv_at hl 4 rfl) ?_
        exact rdL C hb hret hlk dX1_fittedOf_55 rfl
      · have hlti : i < n := nle_nI (a := n) (b := i) (by have := hI.1; omega) (by have := hI.1; omega) (by rw [← hI.2.1]; exact c108)
        have hn40 := hI.1
        refine lv_lload C.1 hb dX1_fittedOf_20 (lv_at hl 4 rfl) ?_
        refine lv_aload_n C.1 hb dX1_fittedOf_22 rfl (lv_at hl 0 rfl) ?_
        refine lv_iload C.1 hb dX1_fittedOf_23 (lv_at hl 5 rfl) ?_
        refine lv_iload_n C.1 hb dX1_fittedOf_25 rfl (lv_at hl 1 rfl) ?_
        refine lv_iload_n C.1 hb dX1_fittedOf_26 rfl (lv_at hl 2 rfl) ?_
        refine run_rd (cRunM (As := [.int (nI i), .int (nI t), .int k]) (rest := [.long (wsum (mHas S t k) (mFit S (mBase S n)) i)]) C hb (hml.trans hl.1.symm) hP hS rfl (k_X1_has l g S i t (by omega) ht k) wm_228 wm_229 wm_230 wm_231 wm_5 (n := 3) (by decide +kernel) rfl ⟨rfl, rfl, Nat.le_of_ble_eq_true rfl, Nat.le_of_ble_eq_true rfl⟩ (Nat.le_of_ble_eq_true rfl) rfl ⟨Nat.zero_le _, Nat.zero_le _⟩ dX1_fittedOf_27) ?_
        refine bz_eq (tgt := 43) C hb dX1_fittedOf_30 (by decide) (fun c109 => ?_) (fun c109 => ?_)
        · refine lv_lconst (v := 0) C.1 hb dX1_fittedOf_43 (by decide) ?_
          refine lv_ladd C.1 hb dX1_fittedOf_44 ?_
          refine toL (Int64.add_zero _) ?_
          refine lv_lstore (lv' := [(5, .long (wsum (mHas S t k) (mFit S (mBase S n)) i)), (0, .ref (gA g 17)), (1, .int (nI t)), (2, .int k), (3, .long (mBase S n)), (7, .int (nI i))]) C.1 hb dX1_fittedOf_45 hl (by decide) rfl (fun ls hl => ?_)
          refine lv_iinc (v := nI (i + 1)) (lv' := [(7, .int (nI (i + 1))), (5, .long (wsum (mHas S t k) (mFit S (mBase S n)) i)), (0, .ref (gA g 17)), (1, .int (nI t)), (2, .int k), (3, .long (mBase S n))]) C.1 hb dX1_fittedOf_47 hl (k := 5) rfl (nI_1 i) (by decide) rfl (fun ls hl => ?_)
          refine lv_goto (tgt := 11) C.1 hb dX1_fittedOf_50 (by decide) ?_
          exact ih (i + 1) (by omega) (by omega)  ls (by rw [wsum_f c109]; exact lv_sub hl [2, 3, 4, 5, 1, 0] rfl)
        · refine lv_aload_n C.1 hb dX1_fittedOf_33 rfl (lv_at hl 0 rfl) ?_
          refine lv_iload C.1 hb dX1_fittedOf_34 (lv_at hl 5 rfl) ?_
          refine lv_lload_n C.1 hb dX1_fittedOf_36 rfl (lv_at hl 3 rfl) ?_
          refine run_rd (cRunM (As := [.int (nI i), .long (mBase S n)]) (rest := [.long (wsum (mHas S t k) (mFit S (mBase S n)) i)]) C hb (hml.trans hl.1.symm) hP hS rfl (k_X1_fit l g S n hI i hlti (mBase S n)) wm_232 wm_233 wm_234 wm_235 wm_5 (n := 2) (by decide +kernel) rfl ⟨rfl, rfl, Nat.le_of_ble_eq_true rfl, Nat.le_of_ble_eq_true rfl⟩ (Nat.le_of_ble_eq_true rfl) rfl ⟨Nat.zero_le _, Nat.zero_le _⟩ dX1_fittedOf_37) ?_
          refine lv_goto (tgt := 44) C.1 hb dX1_fittedOf_40 (by decide) ?_
          refine lv_ladd C.1 hb dX1_fittedOf_44 ?_
          refine lv_lstore (lv' := [(5, .long ((wsum (mHas S t k) (mFit S (mBase S n)) i) + (mFit S (mBase S n) i))), (0, .ref (gA g 17)), (1, .int (nI t)), (2, .int k), (3, .long (mBase S n)), (7, .int (nI i))]) C.1 hb dX1_fittedOf_45 hl (by decide) rfl (fun ls hl => ?_)
          refine lv_iinc (v := nI (i + 1)) (lv' := [(7, .int (nI (i + 1))), (5, .long ((wsum (mHas S t k) (mFit S (mBase S n)) i) + (mFit S (mBase S n) i))), (0, .ref (gA g 17)), (1, .int (nI t)), (2, .int k), (3, .long (mBase S n))]) C.1 hb dX1_fittedOf_47 hl (k := 5) rfl (nI_1 i) (by decide) rfl (fun ls hl => ?_)
          refine lv_goto (tgt := 11) C.1 hb dX1_fittedOf_50 (by decide) ?_
          exact ih (i + 1) (by omega) (by omega)  ls (by rw [wsum_t c109]; exact lv_sub hl [2, 3, 4, 5, 1, 0] rfl)
  exact key (n - 0 + 1) 0 (by omega) (by omega)  ls (lv_sub hl [3, 4, 5, 2, 1, 0] rfl)

set_option maxRecDepth 100000 in
set_option maxHeartbeats 4000000 in
theorem k_X1_bounded (l : Launch) (g : gG) (S : WS) (v : Int64) : Met l yX1_bounded (wA yX1_bounded cX1_bounded 3 (some .int)) ({ frames := 0, cells := 0, slots := 0, locals := 0 }) (PW g S [.ref (gA g 17), .long v]) (RQ (some (.int (mBnd v)))) 0 0 (fun _ => False) := by
  refine metI (by decide +kernel) (Nat.le_of_ble_eq_true rfl) ?_
  intro p e s m below meth c C hb hml hret hlk hP ls hl
  have C : CW g RX1 p s m ([.ref (gA g 17), .long v] : List Value).toArray := C
  have hS : va_S (Ab g) s.heap s.heap [] := va_S.rf
  have hl : lv_has ls 3 [(0, .ref (gA g 17)), (1, .long v)] := hl
  refine lv_lload_n C.1 hb dX1_bounded_0 rfl (lv_at hl 1 rfl) ?_
  refine lv_ldc2 (v := 100) C.1 hb C.2.1 (C.2.2.1 _ wm_248) dX1_bounded_1 ?_
  refine lc_ge (tgt := 13) C hb dX1_bounded_4 dX1_bounded_5 (by decide) (fun c110 => ?_) (fun c110 => ?_)
  · refine lv_lload_n C.1 hb dX1_bounded_13 rfl (lv_at hl 1 rfl) ?_
    refine lv_ldc2 (v := 100000) C.1 hb C.2.1 (C.2.2.1 _ wm_249) dX1_bounded_14 ?_
    refine lc_le (tgt := 26) C hb dX1_bounded_17 dX1_bounded_18 (by decide) (fun c111 => ?_) (fun c111 => ?_)
    · refine lv_lload_n C.1 hb dX1_bounded_26 rfl (lv_at hl 1 rfl) ?_
      refine lv_l2i C.1 hb dX1_bounded_27 rfl ?_
      exact rdI C hb hret hlk dX1_bounded_28 (by unfold mBnd; rw [if_pos c110, if_pos c111])
    · refine lv_ldc (v := 100000) C.1 hb C.2.1 (C.2.2.1 _ wm_180) dX1_bounded_21 ?_
      refine lv_goto (tgt := 28) C.1 hb dX1_bounded_23 (by decide) ?_
      exact rdI C hb hret hlk dX1_bounded_28 (by unfold mBnd; rw [if_pos c110, if_neg c111])
  · refine lv_bipush (v := 100) C.1 hb dX1_bounded_8 (by decide) ?_
    refine lv_goto (tgt := 28) C.1 hb dX1_bounded_10 (by decide) ?_
    exact rdI C hb hret hlk dX1_bounded_28 (by unfold mBnd; rw [if_neg c110])
end
