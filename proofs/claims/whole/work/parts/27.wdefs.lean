/-! each case of the law's loop, in numbers -/
theorem fo_add (T : WS) (n : Nat) (a b c ex cl lo : Int32) : (mR_add T n a b c ex cl lo).2.2 = T.2.2 := by
  unfold mR_add
  repeat' split
  all_goals rfl
theorem fo_wd (T : WS) (r : Int32) : (mR_wd T r).2.2 = T.2.2 := by
  unfold mR_wd
  repeat' split
  all_goals rfl
theorem fo_old (T : WS) (r v : Int32) : (mR_old T r v).2.2 = T.2.2 := by
  unfold mR_old
  repeat' split
  all_goals rfl
theorem fo_rules (T : WS) (c k : Int32) : (mR_rules T c k).2.2 = T.2.2 := by
  unfold mR_rules
  repeat' split
  all_goals rfl
theorem fo_fac (T : WS) (t k v : Int32) : (mR_fac T t k v).2.2 = T.2.2 := by
  unfold mR_fac
  repeat' split
  all_goals rfl
theorem fo_pass (T : WS) (n : Nat) (t : Int32) : (mR_pass T n t).2.2 = T.2.2 := by
  unfold mR_pass
  repeat' split
  all_goals rfl
theorem fo_smF (n t : Nat) : ∀ (d : Nat) (S : WS), (mSmF n t d S).2.2 = S.2.2
  | 0, _ => rfl
  | d + 1, S => by
    by_cases c : mLowS S t = -1
    · have e : mSmF n t (d + 1) S = S := if_pos c
      rw [e]
    · have e : mSmF n t (d + 1) S = mSmF n t d (mStep S n t) := if_neg c
      rw [e, fo_smF n t d]; rfl
theorem fo_smooth (T : WS) (n : Nat) (t : Int32) : (mR_smooth T n t).2.2 = T.2.2 := by
  unfold mR_smooth
  split
  · exact fo_smF n (tN t) (levN (tN t)) (mSm0 (mGo T true true true) (tN t) (levN (tN t)))
  · rfl
theorem cdE_0 {c1 : String} {ex : Option String} (h : cdE c1 ex = 0) : ex = none := by
  cases ex with
  | none => rfl
  | some E =>
    exfalso
    have h2 : (if E = c1 then (1 : Int32) else 2) = 0 := h
    by_cases q : E = c1
    · rw [if_pos q] at h2; exact absurd h2 (by decide)
    · rw [if_neg q] at h2; exact absurd h2 (by decide)
theorem w_add {n : Nat} {S : WS} (hR : RR n S S) (a b q ex cl lo : Int32) (f : Nat → Int64) : MI n (wsOut (xR_add S n a b q ex cl lo) f) ∧ mSc (mR_add (wsOut (xR_add S n a b q ex cl lo) f) n a b q ex cl lo) 3 = cdE eIAE (xE_add S a b q ex cl lo) ∧ (xE_add S a b q ex cl lo = none → nI n = mV_add (wsOut (xR_add S n a b q ex cl lo) f) n a b q ex cl lo) ∧ (∃ n', RR n' (mR_add (wsOut (xR_add S n a b q ex cl lo) f) n a b q ex cl lo) (mR_add (wsOut (xR_add S n a b q ex cl lo) f) n a b q ex cl lo)) ∧ wOut (mR_add (wsOut (xR_add S n a b q ex cl lo) f) n a b q ex cl lo) = f := by
  have fr := congrArg Prod.fst (o_add hR a b q ex cl lo).2.2.2.1
  have hT : RR n S (wsOut (xR_add S n a b q ex cl lo) f) := RR_cg rfl fr hR
  obtain ⟨o1, o2, ⟨n2, o3⟩, -, fm⟩ := o_add hT a b q ex cl lo
  exact ⟨hT.1.2.1, o1, o2, ⟨_, RR_cg fm rfl o3⟩, fo_add _ n a b q ex cl lo⟩
theorem w_withdraw {n : Nat} {S : WS} (hR : RR n S S) (r : Int32) (f : Nat → Int64) : MI n (wsOut (xR_wd S n r) f) ∧ mSc (mR_wd (wsOut (xR_wd S n r) f) r) 3 = cdE eIOB (xE_row S r) ∧ (xE_row S r = none → xSc S 1 - 1 = mV_wd (wsOut (xR_wd S n r) f) n r) ∧ (∃ n', RR n' (mR_wd (wsOut (xR_wd S n r) f) r) (mR_wd (wsOut (xR_wd S n r) f) r)) ∧ wOut (mR_wd (wsOut (xR_wd S n r) f) r) = f := by
  have fr := congrArg Prod.fst (o_wd hR r).2.2.2.1
  have hT : RR n S (wsOut (xR_wd S n r) f) := RR_cg rfl fr hR
  obtain ⟨o1, o2, o3, -, fm⟩ := o_wd hT r
  exact ⟨hT.1.2.1, o1, o2, ⟨_, RR_cg fm rfl o3⟩, fo_wd _ r⟩
theorem w_setOld {n : Nat} {S : WS} (hR : RR n S S) (r v : Int32) (f : Nat → Int64) : MI n (wsOut (xR_old S r v) f) ∧ mSc (mR_old (wsOut (xR_old S r v) f) r v) 3 = cdE eIOB (xE_old S r v) ∧ (xE_old S r v = none → xIa S 0 (tN r) = mV_old (wsOut (xR_old S r v) f) r v) ∧ (∃ n', RR n' (mR_old (wsOut (xR_old S r v) f) r v) (mR_old (wsOut (xR_old S r v) f) r v)) ∧ wOut (mR_old (wsOut (xR_old S r v) f) r v) = f := by
  have fr := congrArg Prod.fst (o_old hR r v).2.2.2.1
  have hT : RR n S (wsOut (xR_old S r v) f) := RR_cg rfl fr hR
  obtain ⟨o1, o2, o3, -, fm⟩ := o_old hT r v
  exact ⟨hT.1.2.1, o1, o2, ⟨_, RR_cg fm rfl o3⟩, fo_old _ r v⟩
theorem w_setRules {n : Nat} {S : WS} (hR : RR n S S) (q k : Int32) (f : Nat → Int64) : MI n (wsOut (xR_rules S q k) f) ∧ mSc (mR_rules (wsOut (xR_rules S q k) f) q k) 3 = cdE eIAE (xE_rules q k) ∧ (xE_rules q k = none → xSc S 2 = mV_rules (wsOut (xR_rules S q k) f) q k) ∧ (∃ n', RR n' (mR_rules (wsOut (xR_rules S q k) f) q k) (mR_rules (wsOut (xR_rules S q k) f) q k)) ∧ wOut (mR_rules (wsOut (xR_rules S q k) f) q k) = f := by
  have fr := congrArg Prod.fst (o_rules hR q k).2.2.2.1
  have hT : RR n S (wsOut (xR_rules S q k) f) := RR_cg rfl fr hR
  obtain ⟨o1, o2, o3, -, fm⟩ := o_rules hT q k
  exact ⟨hT.1.2.1, o1, o2, ⟨_, RR_cg fm rfl o3⟩, fo_rules _ q k⟩
theorem w_setFactor {n : Nat} {S : WS} (hR : RR n S S) (t k v : Int32) (f : Nat → Int64) : MI n (wsOut (xR_fac S n t k v) f) ∧ mSc (mR_fac (wsOut (xR_fac S n t k v) f) t k v) 3 = cdE eIOB (xE_fac t k v) ∧ (xE_fac t k v = none → xFac S (tN t) (tN k) = mV_fac (wsOut (xR_fac S n t k v) f) t k v) ∧ (∃ n', RR n' (mR_fac (wsOut (xR_fac S n t k v) f) t k v) (mR_fac (wsOut (xR_fac S n t k v) f) t k v)) ∧ wOut (mR_fac (wsOut (xR_fac S n t k v) f) t k v) = f := by
  have fr := congrArg Prod.fst (o_fac hR t k v).2.2.2.1
  have hT : RR n S (wsOut (xR_fac S n t k v) f) := RR_cg rfl fr hR
  obtain ⟨o1, o2, o3, -, fm⟩ := o_fac hT t k v
  exact ⟨hT.1.2.1, o1, o2, ⟨_, RR_cg fm rfl o3⟩, fo_fac _ t k v⟩
theorem w_pass {n : Nat} {S : WS} (hR : RR n S S) (t : Int32) (f : Nat → Int64) : MI n (wsOut (xR_pass S n t) f) ∧ mSc (mR_pass (wsOut (xR_pass S n t) f) n t) 3 = cdE eIOB (xE_trait t) ∧ (xE_trait t = none → nI (xPassC S n (tN t)) = mV_pass (wsOut (xR_pass S n t) f) n t) ∧ (∃ n', RR n' (mR_pass (wsOut (xR_pass S n t) f) n t) (mR_pass (wsOut (xR_pass S n t) f) n t)) ∧ wOut (mR_pass (wsOut (xR_pass S n t) f) n t) = f := by
  have fr := congrArg Prod.fst (o_pass hR t).2.2.2.1
  have hT : RR n S (wsOut (xR_pass S n t) f) := RR_cg rfl fr hR
  obtain ⟨o1, o2, o3, -, fm⟩ := o_pass hT t
  exact ⟨hT.1.2.1, o1, o2, ⟨_, RR_cg fm rfl o3⟩, fo_pass _ n t⟩
theorem w_smooth {n : Nat} {S : WS} (hR : RR n S S) (t : Int32) (f : Nat → Int64) : MI n (wsOut (xR_smooth S n t) f) ∧ mSc (mR_smooth (wsOut (xR_smooth S n t) f) n t) 3 = cdE eIOB (xE_trait t) ∧ (xE_trait t = none → nI (xV_smooth S n (tN t)) = mV_smooth (wsOut (xR_smooth S n t) f) n t) ∧ (∃ n', RR n' (mR_smooth (wsOut (xR_smooth S n t) f) n t) (mR_smooth (wsOut (xR_smooth S n t) f) n t)) ∧ wOut (mR_smooth (wsOut (xR_smooth S n t) f) n t) = f := by
  have fr := congrArg Prod.fst (o_smooth hR t).2.2.2.1
  have hT : RR n S (wsOut (xR_smooth S n t) f) := RR_cg rfl fr hR
  obtain ⟨o1, o2, o3, -, fm⟩ := o_smooth hT t
  exact ⟨hT.1.2.1, o1, o2, ⟨_, RR_cg fm rfl o3⟩, fo_smooth _ n t⟩
theorem w_factor {n : Nat} {S : WS} (hR : RR n S S) (t k : Int32) (f : Nat → Int64) : MI n (wsOut S f) ∧ mSc (mGo (wsOut S f) (xHasLevel t k) true true) 3 = cdE eIOB (xE_level t k) ∧ (xE_level t k = none → xFac S (tN t) (tN k) = mV_lev (wsOut S f) t k (mIa (wsOut S f) 6 (4 * tN t + tN k))) ∧ (∃ n', RR n' (mGo (wsOut S f) (xHasLevel t k) true true) (mGo (wsOut S f) (xHasLevel t k) true true)) ∧ wOut (mGo (wsOut S f) (xHasLevel t k) true true) = f := by
  have hT : RR n S (wsOut S f) := hR
  obtain ⟨o1, o3, fm⟩ := o_lev hT t k
  exact ⟨hT.1.2.1, o1, fun he => o_factor hT he, ⟨n, RR_cg fm rfl o3⟩, rfl⟩
theorem w_fitted {n : Nat} {S : WS} (hR : RR n S S) (r : Int32) (f : Nat → Int64) : MI n (wsOut S f) ∧ mSc (mGo (wsOut S f) (mRow (wsOut S f) r) true true) 3 = cdE eIOB (xE_row S r) ∧ (xE_row S r = none → xLng S 3 (tN r) = mV_rowL (wsOut S f) r (mFit (mGo (wsOut S f) true true true) (mBase (mGo (wsOut S f) true true true) n) (tN r))) ∧ (∃ n', RR n' (mGo (wsOut S f) (mRow (wsOut S f) r) true true) (mGo (wsOut S f) (mRow (wsOut S f) r) true true)) ∧ wOut (mGo (wsOut S f) (mRow (wsOut S f) r) true true) = f := by
  have hT : RR n S (wsOut S f) := hR
  obtain ⟨o1, o3, fm⟩ := o_row hT r
  exact ⟨hT.1.2.1, o1, fun he => (hT.2.2 _ (row_lt hT he)).trans (v_rowL hT he _).symm, ⟨n, RR_cg fm rfl o3⟩, rfl⟩
theorem w_toldSum {n : Nat} {S : WS} (hR : RR n S S) (t k : Int32) (f : Nat → Int64) : MI n (wsOut S f) ∧ mSc (mGo (wsOut S f) (xHasLevel t k) true true) 3 = cdE eIOB (xE_level t k) ∧ (xE_level t k = none → xLTot (xIa S 1) (xLev S (tN t)) k (xLng S 2) n = mV_levL t k (mSumL (mGo (wsOut S f) true true true) n (tN t) k 3)) ∧ (∃ n', RR n' (mGo (wsOut S f) (xHasLevel t k) true true) (mGo (wsOut S f) (xHasLevel t k) true true)) ∧ wOut (mGo (wsOut S f) (xHasLevel t k) true true) = f := by
  have hT : RR n S (wsOut S f) := hR
  obtain ⟨o1, o3, fm⟩ := o_lev hT t k
  exact ⟨hT.1.2.1, o1, fun he => (told_eq hT.1 (xHasLevel_ix (lev_of he)).1.2 k).trans (v_levL he _).symm, ⟨n, RR_cg fm rfl o3⟩, rfl⟩
theorem w_fittedSum {n : Nat} {S : WS} (hR : RR n S S) (t k : Int32) (f : Nat → Int64) : MI n (wsOut S f) ∧ mSc (mGo (wsOut S f) (xHasLevel t k) true true) 3 = cdE eIOB (xE_level t k) ∧ (xE_level t k = none → xLTot (xIa S 1) (xLev S (tN t)) k (xLng S 3) n = mV_levL t k (mFitO (mGo (wsOut S f) true true true) n (tN t) k)) ∧ (∃ n', RR n' (mGo (wsOut S f) (xHasLevel t k) true true) (mGo (wsOut S f) (xHasLevel t k) true true)) ∧ wOut (mGo (wsOut S f) (xHasLevel t k) true true) = f := by
  have hT : RR n S (wsOut S f) := hR
  obtain ⟨o1, o3, fm⟩ := o_lev hT t k
  exact ⟨hT.1.2.1, o1, fun he => (fito_eq hT (xHasLevel_ix (lev_of he)).1.2 k).trans (v_levL he _).symm, ⟨n, RR_cg fm rfl o3⟩, rfl⟩
theorem w_worst {n : Nat} {S : WS} (hR : RR n S S) (t : Int32) (f : Nat → Int64) : MI n (wsOut S f) ∧ mSc (mGo (wsOut S f) (xHasTrait t) true true) 3 = cdE eIOB (xE_trait t) ∧ (xE_trait t = none → xWorst S n (tN t) (levN (tN t)) = mV_trL t (mWorst (mGo (wsOut S f) true true true) n (tN t) (levN (tN t)))) ∧ (∃ n', RR n' (mGo (wsOut S f) (xHasTrait t) true true) (mGo (wsOut S f) (xHasTrait t) true true)) ∧ wOut (mGo (wsOut S f) (xHasTrait t) true true) = f := by
  have hT : RR n S (wsOut S f) := hR
  obtain ⟨o1, o3, fm⟩ := o_tr hT t
  exact ⟨hT.1.2.1, o1, fun he => (worst_eq (T := mGo (wsOut S f) true true true) hT (xHasTrait_ix (tr_of he)).2 _).trans (v_trL he _).symm, ⟨n, RR_cg fm rfl o3⟩, rfl⟩
theorem w_premium {n : Nat} {S : WS} (hR : RR n S S) (r : Int32) (f : Nat → Int64) : MI n (wsOut S f) ∧ mSc (mGo (wsOut S f) (mRow (wsOut S f) r) true true) 3 = cdE eIOB (xE_row S r) ∧ (xE_row S r = none → xNewP S (tN r) = mV_rowL (wsOut S f) r (mPrem (mGo (wsOut S f) true true true) n (tN r))) ∧ (∃ n', RR n' (mGo (wsOut S f) (mRow (wsOut S f) r) true true) (mGo (wsOut S f) (mRow (wsOut S f) r) true true)) ∧ wOut (mGo (wsOut S f) (mRow (wsOut S f) r) true true) = f := by
  have hT : RR n S (wsOut S f) := hR
  obtain ⟨o1, o3, fm⟩ := o_row hT r
  exact ⟨hT.1.2.1, o1, fun he => (newp_eq hT (row_lt hT he)).trans (v_rowL hT he _).symm, ⟨n, RR_cg fm rfl o3⟩, rfl⟩
theorem w_capped {n : Nat} {S : WS} (hR : RR n S S) (r : Int32) (f : Nat → Int64) : MI n (wsOut S f) ∧ mSc (mGo (wsOut S f) (mRow (wsOut S f) r) true true) 3 = cdE eIOB (xE_row S r) ∧ (xE_row S r = none → xCapP S (tN r) = mV_rowL (wsOut S f) r (mCap (mGo (wsOut S f) true true true) n (tN r))) ∧ (∃ n', RR n' (mGo (wsOut S f) (mRow (wsOut S f) r) true true) (mGo (wsOut S f) (mRow (wsOut S f) r) true true)) ∧ wOut (mGo (wsOut S f) (mRow (wsOut S f) r) true true) = f := by
  have hT : RR n S (wsOut S f) := hR
  obtain ⟨o1, o3, fm⟩ := o_row hT r
  exact ⟨hT.1.2.1, o1, fun he => (cap_eq hT (row_lt hT he)).trans (v_rowL hT he _).symm, ⟨n, RR_cg fm rfl o3⟩, rfl⟩
theorem w_rankedAt {n : Nat} {S : WS} (hR : RR n S S) (q : Int32) (f : Nat → Int64) : MI n (wsOut S f) ∧ mSc (mGo (wsOut S f) (!decide (mPlace (wsOut S f) n q = -1)) true true) 3 = cdE eIOB (xE_rank S n q) ∧ (xE_rank S n q = none → nI ((xRank S n q).getD 0) = mV_rank (wsOut S f) n q) ∧ (∃ n', RR n' (mGo (wsOut S f) (!decide (mPlace (wsOut S f) n q = -1)) true true) (mGo (wsOut S f) (!decide (mPlace (wsOut S f) n q = -1)) true true)) ∧ wOut (mGo (wsOut S f) (!decide (mPlace (wsOut S f) n q = -1)) true true) = f := by
  have hT : RR n S (wsOut S f) := hR
  obtain ⟨o1, o2, o3, fm⟩ := o_rank hT q
  exact ⟨hT.1.2.1, o1, o2, ⟨n, RR_cg fm rfl o3⟩, rfl⟩
theorem w_settle {n : Nat} {S : WS} (hR : RR n S S) : MI n (xSettle n 60 1 S).2 ∧ nI (xSettle n 60 1 S).1 = nI (mSettle n 60 0 (msSc (xSettle n 60 1 S).2 3 0)).1 ∧ RR n (mSettle n 60 0 (msSc (xSettle n 60 1 S).2 3 0)).2 (mSettle n 60 0 (msSc (xSettle n 60 1 S).2 3 0)).2 := by
  have fr := congrArg Prod.fst (fr_settle n 60 1 S)
  have hT0 : RR n S (xSettle n 60 1 S).2 := RR_cg rfl fr hR
  have hT : RR n S (msSc (xSettle n 60 1 S).2 3 0) := hT0
  have k := settle_RL 60 0 S (msSc (xSettle n 60 1 S).2 3 0) rfl hT
  exact ⟨hT.1.2.1, congrArg nI k.1, RR_cg (fm_settle n 60 0 (msSc (xSettle n 60 1 S).2 3 0)) rfl k.2⟩
theorem w_spread {n : Nat} {S : WS} (hR : RR n S S) : MI n (xSpread S n) ∧ xSc (xSpread S n) 4 = (mSp (mSpread (msSc (xSpread S n) 3 0) n)).toInt32 ∧ RR n (mSpread (msSc (xSpread S n) 3 0) n) (mSpread (msSc (xSpread S n) 3 0) n) := by
  have fr := congrArg Prod.fst (o_spread hR).2.2.1
  have hT : RR n S (xSpread S n) := RR_cg rfl fr hR
  obtain ⟨o1, o2, -, fm⟩ := o_spread hT
  exact ⟨hT.1.2.1, o1, RR_cg fm rfl o2⟩
theorem w_rows {n : Nat} {S : WS} (hR : RR n S S) : xSc S 1 = nI (mCount (msSc S 3 0) n) ∧ RR n (msSc S 3 0) (msSc S 3 0) := ⟨hR.1.2.2.2.2.2.2.2.1.2.2.2, hR⟩
theorem w_base {n : Nat} {S : WS} (hR : RR n S S) : xBase S = mBase (msSc S 3 0) n ∧ RR n (msSc S 3 0) (msSc S 3 0) := ⟨hR.2.1, hR⟩
theorem w_lost {n : Nat} {S : WS} (hR : RR n S S) : xTot (xIa S 1) (xLng S 3) n - xTot (xIa S 1) (xCapP S) n = mAllF (msSc S 3 0) n - mAllC (msSc S 3 0) n ∧ RR n (msSc S 3 0) (msSc S 3 0) := by
  have h2 : RR n S (msSc S 3 0) := hR
  exact ⟨by rw [allf_eq h2, allc_eq h2], hR⟩
theorem and31 (x : Int32) : ∃ j : Nat, j < 32 ∧ x &&& 31 = nI j := pk_andE x 5 (by decide)
theorem len7 {L i : Nat} (hL : L ≤ 3584) (hi : i ≤ 3584) : nI L - 7 < nI i ↔ L < i + 7 := by
  rw [Int32.lt_iff_toInt_lt, nI_toInt (by omega)]
  have h : (nI L - 7).toInt = (L : Int) - 7 := by
    rw [Int32.toInt_sub, nI_toInt (by omega), show (7 : Int32).toInt = 7 from by decide]
    exact Int.bmod_eq_of_le (by omega) (by omega)
  rw [h]
  omega
section WSCR
variable {p : Program} {l : Launch} {e : Env} {R : Room} {s : State} {m : MethodId} {args : Array Value} {below : List Frame} {meth : Method} {c : Code} {H : Heap} {locs : List Loc} {cells slots : Nat} {Q : State → Prop}
variable {cc : ByteArray} {pc : Nat} {ls : Array Slot} {rest : List Value} {g : gG} {own : String}
theorem ld_s (C : CW g own p s m args) (hb : c.code = cc) {b L : Nat} {xs : Nat → Int32} (hX : va_X b L xs s s.heap) (hbl : b < s.heap.size) (hbA : ¬ Ab g b) (hS : va_S (Ab g) s.heap H locs) (hL : L ≤ 3584) {i : Int32} {j : Nat} (hi : i = nI j) (hj : j < L) (hdg : decode cc pc = .ok (.iaload, 1))
    (kk : W p l e R s m args below meth c H locs cells slots Q (F0 m (pc + 1) ls (.int (xs j) :: rest))) : W p l e R s m args below meth c H locs cells slots Q (F0 m pc ls (.int i :: .ref b :: rest)) := by
  subst hi
  refine va_sld C.1 hb hX hbl hbA hS (vp_in_nI hj (by omega)) hdg ?_
  rw [nI_clamp (by omega)]
  exact kk
end WSCR
