/-! each call: the same code, the same value, the same numbers after -/
def cdE (c1 : String) : Option String → Int32
  | none => 0
  | some E => if E = c1 then 1 else 2
theorem RR_cg {n : Nat} {S T S' T' : WS} (h1 : S'.1 = S.1) (h2 : T'.2.1 = T.2.1) (h : RR n S T) : RR n S' T' := by
  obtain ⟨a, b⟩ := S
  obtain ⟨c, d, e⟩ := T
  obtain ⟨a', b'⟩ := S'
  obtain ⟨c', d', e'⟩ := T'
  cases h1
  cases h2
  exact h
theorem fr_refit (S : WS) (n : Nat) : (xRefit S n).2 = S.2 := rfl
theorem fr_pass (S : WS) (n t : Nat) : (xPass S n t).2 = S.2 := rfl
theorem fr_round (S : WS) (n : Nat) : ∀ t, (xRound S n t).2 = S.2
  | 0 => rfl
  | t + 1 => fr_round S n t
theorem fr_settle (n : Nat) : ∀ (d r : Nat) (S : WS), (xSettle n d r S).2.2 = S.2
  | 0, _, _ => rfl
  | d + 1, r, S => by
    by_cases c : xRoundC S n 3 = 0
    · have e : xSettle n (d + 1) r S = (r, xRound S n 3) := if_pos c
      rw [e]; rfl
    · have e : xSettle n (d + 1) r S = xSettle n d (r + 1) (xRound S n 3) := if_neg c
      rw [e, fr_settle n d]; rfl
theorem fm_settle (n : Nat) : ∀ (d r : Nat) (S : WS), (mSettle n d r S).2.1 = S.1
  | 0, _, _ => rfl
  | d + 1, r, S => by
    by_cases c : mRoundC S n = 0
    · have e : mSettle n (d + 1) r S = (r + 1, mRound S n) := if_pos c
      rw [e]; rfl
    · have e : mSettle n (d + 1) r S = mSettle n d (r + 1) (mRound S n) := if_neg c
      rw [e, fm_settle n d]; rfl
theorem fr_join (S : WS) (n t a b : Nat) : (xJoin S n t a b).2 = S.2 := rfl
theorem fr_smF (n t : Nat) : ∀ (d : Nat) (S : WS), (xSmF n t d S).2 = S.2
  | 0, _ => rfl
  | d + 1, S => by
    by_cases c : xLow S t = -1
    · have e : xSmF n t (d + 1) S = S := if_pos c
      rw [e]
    · have e : xSmF n t (d + 1) S = xSmF n t d (xJoin S n t (tN (xLow S t)) (xJst S t)) := if_neg c
      rw [e, fr_smF n t d]; rfl
theorem fm_smF (n t : Nat) : ∀ (d : Nat) (S : WS), (mSmF n t d S).1 = S.1
  | 0, _ => rfl
  | d + 1, S => by
    by_cases c : mLowS S t = -1
    · have e : mSmF n t (d + 1) S = S := if_pos c
      rw [e]
    · have e : mSmF n t (d + 1) S = mSmF n t d (mStep S n t) := if_neg c
      rw [e, fm_smF n t d]; rfl
/-- a row's number -/
theorem row_eq {n : Nat} {S T : WS} (h : RC n S T) (r : Int32) : xHasRow S r = mRow T r := by
  have h0 : xSc S 0 = nI n := h.1.2.1
  have h0m : mSc T 0 = nI n := h.2.1.2.1
  have hn := h.1.1
  unfold xHasRow mRow
  rw [h0, h0m]
  by_cases a : r < 0
  · simp [a]
  · by_cases b : nI n ≤ r
    · simp [b]
    · have hk := (ixN (n := n) (by omega) a b).2
      have e := h.2.2.1 _ hk
      have e2 : decide (xIa S 1 (tN r) = 0) = !decide (mIa T 5 (tN r) = 0) := by
        by_cases c : mIa T 5 (tN r) = 0
        · simp [c, e]
        · simp [c, e.mpr c]
      rw [e2, Bool.not_not]
theorem xCnt_rem {P Q : Nat → Bool} {r : Nat} : ∀ n : Nat, r < n → P r = true → Q r = false → (∀ k, k ≠ r → Q k = P k) → xCnt P n = xCnt Q n + 1
  | 0, h, _, _, _ => absurd h (Nat.not_lt_zero r)
  | n + 1, h, hp, hq, he => by
    by_cases c : r = n
    · subst c
      rw [xCnt_t hp, xCnt_f hq, xCnt_cong r (fun k hk => (he k (by omega)).symm)]
    · have ih := xCnt_rem n (by omega) hp hq he
      have e := he n (fun q => c q.symm)
      cases hn : P n
      · rw [xCnt_f hn, xCnt_f (e.trans hn), ih]
      · rw [xCnt_t hn, xCnt_t (e.trans hn), ih]
section OPS
variable {n : Nat} {S T : WS}
theorem o_wd (h : RR n S T) (r : Int32) : mSc (mR_wd T r) 3 = cdE eIOB (xE_row S r) ∧ (xE_row S r = none → xSc S 1 - 1 = mV_wd T n r) ∧ RR n (xR_wd S n r) (mR_wd T r) ∧ (xR_wd S n r).2 = S.2 ∧ (mR_wd T r).1 = T.1 := by
  have he := row_eq h.1 r
  unfold xE_row mR_wd xR_wd mV_wd
  rw [he]
  cases hr : mRow T r
  · exact ⟨rfl, fun q => (by cases q), h, rfl, rfl⟩
  · obtain ⟨⟨e1, e2⟩, e3⟩ := mRow_ix h.1.1.1 h.1.2.1.2.1 hr
    obtain ⟨h1, h2, h5, h6, h7, h8, h9, ⟨g1, g2, g3, g4⟩, h10, h11⟩ := id h.1
    have hc : mCount T n = mCount (mWd T (tN r)) n + 1 := by
      refine xCnt_rem n e2 (decide_eq_true e3) ?_ (fun k hk => ?_)
      · refine decide_eq_false ?_
        show ¬ upd (mIa T 5) (tN r) 1 (tN r) = 0
        rw [pk_us]; decide
      · show decide (upd (mIa T 5) (tN r) 1 k = 0) = decide (mIa T 5 k = 0)
        rw [pk_un hk]
    have hv : xSc S 1 - 1 = nI (mCount (mWd T (tN r)) n) := by rw [g4, hc, nI_pred]
    refine ⟨rfl, fun _ => hv, ?_, rfl, rfl⟩
    refine refit_RL (S := xWd S (tN r)) ⟨h1, h2, fun k hk => ?_, h6, h7, h8, h9, ⟨g1, g2, g3, hv⟩, h10, fun k hk1 hk2 => ?_⟩
    · show upd (xIa S 1) (tN r) 0 k = 0 ↔ ¬ upd (mIa T 5) (tN r) 1 k = 0
      by_cases c : k = tN r
      · rw [c, pk_us, pk_us]; decide
      · rw [pk_un c, pk_un c]; exact h5 k hk
    · show upd (mIa T 5) (tN r) 1 k = 0
      rw [pk_un (by omega)]
      exact h11 k hk1 hk2
theorem i_m1 (v : Int32) : v = -1 ↔ v.toInt = -1 := by rw [← Int32.toInt_inj]; rfl
theorem within_m1 (v : Int32) (hi : Int32) : xIsWithin v (-1) hi = true ↔ (-1 ≤ v.toInt ∧ v.toInt ≤ hi.toInt) := by
  simp only [xIsWithin, Bool.and_eq_true, Bool.not_eq_true', decide_eq_false_iff_not, Int32.lt_iff_toInt_lt, show (-1 : Int32).toInt = -1 from by decide]
  omega
theorem within_0 (v : Int32) (hi : Int32) : xIsWithin v 0 hi = true ↔ (0 ≤ v.toInt ∧ v.toInt ≤ hi.toInt) := by
  simp only [xIsWithin, Bool.and_eq_true, Bool.not_eq_true', decide_eq_false_iff_not, Int32.lt_iff_toInt_lt, show (0 : Int32).toInt = 0 from by decide]
  omega
theorem cap_or (v hi : Int32) (hh : -1 ≤ hi.toInt) : (decide (v = -1) || xIsWithin v 0 hi) = xIsWithin v (-1) hi := by
  rw [Bool.eq_iff_iff, Bool.or_eq_true, decide_eq_true_eq, within_m1, within_0, i_m1]
  omega
theorem old_ok (v : Int32) : xOldOk v = mOldOk v := cap_or v 10000000 (by decide)
theorem rul_ok (c k : Int32) : mRulOk c k = (xIsWithin c 0 1000 && xCapOk k) := by
  unfold mRulOk xCapOk
  rw [cap_or k 1000 (by decide)]
theorem o_old (h : RR n S T) (r v : Int32) : mSc (mR_old T r v) 3 = cdE eIOB (xE_old S r v) ∧ (xE_old S r v = none → xIa S 0 (tN r) = mV_old T r v) ∧ RR n (xR_old S r v) (mR_old T r v) ∧ (xR_old S r v).2 = S.2 ∧ (mR_old T r v).1 = T.1 := by
  have he := row_eq h.1 r
  have ho := old_ok v
  unfold xE_old mR_old xR_old mV_old
  rw [he, ho]
  cases hr : mRow T r
  · exact ⟨rfl, fun q => (by cases q), h, rfl, rfl⟩
  · cases hv : mOldOk v
    · exact ⟨rfl, fun q => (by cases q), h, rfl, rfl⟩
    · obtain ⟨⟨e1, e2⟩, e3⟩ := mRow_ix h.1.1.1 h.1.2.1.2.1 hr
      obtain ⟨⟨h1, h2, h5, h6, h7, h8, h9, g, h10, h11⟩, hb, hf⟩ := id h
      refine ⟨rfl, fun _ => (h7 _ e2).2.2.2, ⟨⟨h1, h2, h5, h6, fun k hk => ?_, h8, h9, g, h10, h11⟩, hb, hf⟩, rfl, rfl⟩
      obtain ⟨q1, q2, q3, q4⟩ := h7 k hk
      refine ⟨q1, q2, q3, ?_⟩
      show upd (xIa S 0) (tN r) v k = upd (mIa T 4) (tN r) v k
      by_cases c : k = tN r
      · rw [c, pk_us, pk_us]
      · rw [pk_un c, pk_un c]; exact q4
theorem o_rules (h : RR n S T) (c k : Int32) : mSc (mR_rules T c k) 3 = cdE eIAE (xE_rules c k) ∧ (xE_rules c k = none → xSc S 2 = mV_rules T c k) ∧ RR n (xR_rules S c k) (mR_rules T c k) ∧ (xR_rules S c k).2 = S.2 ∧ (mR_rules T c k).1 = T.1 := by
  unfold xE_rules mR_rules xR_rules mV_rules
  rw [rul_ok]
  cases hc : xIsWithin c 0 1000
  · exact ⟨rfl, fun q => (by cases q), h, rfl, rfl⟩
  · cases hk : xCapOk k
    · exact ⟨rfl, fun q => (by cases q), h, rfl, rfl⟩
    · obtain ⟨⟨h1, h2, h5, h6, h7, h8, h9, ⟨g1, g2, g3, g4⟩, h10, h11⟩, hb, hf⟩ := id h
      obtain ⟨d, hd, e⟩ := xWithin_nI (hi := 1000) (by decide) hc
      have hk2 : k = -1 ∨ ∃ c : Nat, c ≤ 1000 ∧ k = nI c := by
        unfold xCapOk at hk
        rw [Bool.or_eq_true, decide_eq_true_eq] at hk
        exact hk.imp id (fun q => xWithin_nI (hi := 1000) (by decide) q)
      exact ⟨rfl, fun _ => g1, ⟨⟨⟨h1.1, h1.2.1, h1.2.2.1, h1.2.2.2.1, d, hd, e⟩, ⟨h2.1, h2.2.1, h2.2.2.1, h2.2.2.2.1, d, hd, e⟩, h5, h6, h7, h8, h9, ⟨rfl, rfl, g3, g4⟩, hk2, h11⟩, hb, hf⟩, rfl, rfl⟩
theorem o_fac (h : RR n S T) (t k v : Int32) : mSc (mR_fac T t k v) 3 = cdE eIOB (xE_fac t k v) ∧ (xE_fac t k v = none → xFac S (tN t) (tN k) = mV_fac T t k v) ∧ RR n (xR_fac S n t k v) (mR_fac T t k v) ∧ (xR_fac S n t k v).2 = S.2 ∧ (mR_fac T t k v).1 = T.1 := by
  unfold xE_fac mR_fac xR_fac mV_fac
  cases hl : xHasLevel t k
  · exact ⟨rfl, fun q => (by cases q), h, rfl, rfl⟩
  · cases hv : xIsWithin v 100 100000
    · exact ⟨rfl, fun q => (by cases q), h, rfl, rfl⟩
    · obtain ⟨⟨e1, e2⟩, e3, e4⟩ := xHasLevel_ix hl
      have q4 := levN_4 (tN t)
      obtain ⟨h1, h2, h5, h6, h7, h8, h9, g, h10, h11⟩ := id h.1
      refine ⟨rfl, fun _ => h9 _ _ e2 (by omega), refit_RL (S := xSetF S (tN t) (tN k) v) ⟨h1, h2, h5, h6, h7, h8, fun u j hu hj => ?_, g, h10, h11⟩, rfl, rfl⟩
      show va_up (xFac S) (tN t) (upd (xFac S (tN t)) (tN k) v) u j = upd (mIa T 6) (4 * tN t + tN k) v (4 * u + j)
      by_cases c : u = tN t
      · rw [c, va_up_self]
        by_cases d : j = tN k
        · rw [d, pk_us, pk_us]
        · rw [pk_un d, pk_un (by omega)]
          exact h9 _ _ e2 hj
      · rw [va_up_ne _ _ c, pk_un (by omega)]
        exact h9 u j hu hj
theorem o_pass (h : RR n S T) (t : Int32) : mSc (mR_pass T n t) 3 = cdE eIOB (xE_trait t) ∧ (xE_trait t = none → nI (xPassC S n (tN t)) = mV_pass T n t) ∧ RR n (xR_pass S n t) (mR_pass T n t) ∧ (xR_pass S n t).2 = S.2 ∧ (mR_pass T n t).1 = T.1 := by
  unfold xE_trait mR_pass xR_pass mV_pass
  cases ht : xHasTrait t
  · exact ⟨rfl, fun q => (by cases q), h, rfl, rfl⟩
  · have h2 : RR n S (mGo T true true true) := h
    have e := (xHasTrait_ix ht).2
    exact ⟨rfl, fun _ => congrArg nI (passc_eq h2 e), pass_RL h2 e, rfl, rfl⟩
theorem o_lev (h : RR n S T) (t k : Int32) : mSc (mGo T (xHasLevel t k) true true) 3 = cdE eIOB (xE_level t k) ∧ RR n S (mGo T (xHasLevel t k) true true) ∧ (mGo T (xHasLevel t k) true true).1 = T.1 := by
  unfold xE_level
  cases xHasLevel t k <;> exact ⟨rfl, h, rfl⟩
theorem o_row (h : RR n S T) (r : Int32) : mSc (mGo T (mRow T r) true true) 3 = cdE eIOB (xE_row S r) ∧ RR n S (mGo T (mRow T r) true true) ∧ (mGo T (mRow T r) true true).1 = T.1 := by
  unfold xE_row
  rw [row_eq h.1 r]
  cases mRow T r <;> exact ⟨rfl, h, rfl⟩
theorem o_tr (h : RR n S T) (t : Int32) : mSc (mGo T (xHasTrait t) true true) 3 = cdE eIOB (xE_trait t) ∧ RR n S (mGo T (xHasTrait t) true true) ∧ (mGo T (xHasTrait t) true true).1 = T.1 := by
  unfold xE_trait
  cases xHasTrait t <;> exact ⟨rfl, h, rfl⟩
theorem lev_of {t k : Int32} (h : xE_level t k = none) : xHasLevel t k = true := by
  unfold xE_level at h
  cases q : xHasLevel t k
  · rw [q] at h; cases h
  · rfl
theorem row_of {r : Int32} (h : xE_row S r = none) : xHasRow S r = true := by
  unfold xE_row at h
  cases q : xHasRow S r
  · rw [q] at h; cases h
  · rfl
theorem tr_of {t : Int32} (h : xE_trait t = none) : xHasTrait t = true := by
  unfold xE_trait at h
  cases q : xHasTrait t
  · rw [q] at h; cases h
  · rfl
theorem v_lev {t k : Int32} (h : xE_level t k = none) (v : Int32) : mV_lev T t k v = v := if_pos (lev_of h)
theorem v_levL {t k : Int32} (h : xE_level t k = none) (v : Int64) : mV_levL t k v = v := if_pos (lev_of h)
theorem v_trL {t : Int32} (h : xE_trait t = none) (v : Int64) : mV_trL t v = v := if_pos (tr_of h)
theorem v_rowL (hh : RR n S T) {r : Int32} (h : xE_row S r = none) (v : Int64) : mV_rowL T r v = v := if_pos ((row_eq hh.1 r).symm.trans (row_of h))
theorem o_factor (h : RR n S T) {t k : Int32} (he : xE_level t k = none) : xFac S (tN t) (tN k) = mV_lev T t k (mIa T 6 (4 * tN t + tN k)) := by
  obtain ⟨⟨e1, e2⟩, e3, e4⟩ := xHasLevel_ix (lev_of he)
  have q4 := levN_4 (tN t)
  rw [v_lev he]
  exact h.1.2.2.2.2.2.2.1 _ _ e2 (by omega)
theorem row_lt (h : RR n S T) {r : Int32} (he : xE_row S r = none) : tN r < n := (xHasRow_ix h.1.1.1 h.1.1.2.1 (row_of he)).1.2
theorem worst_eq (h : RR n S T) {t : Nat} (ht : t < 3) : ∀ k : Nat, xWorst S n t k = mWorst T n t k
  | 0 => rfl
  | k + 1 => by
    have ih := worst_eq h ht k
    show mx64 (xWorst S n t k) (ab64 _) = mGrt (mWorst T n t k) (mAbs _)
    rw [ih, told_eq h.1 ht, fito_eq h ht]
    have e1 : ∀ x : Int64, ab64 x = mAbs x := fun x => by
      unfold ab64 mAbs
      by_cases c : 0 < x
      · rw [if_pos c, if_pos (Int64.le_of_lt c)]
      · rw [if_neg c]
        by_cases d : 0 ≤ x
        · rw [if_pos d, Int64.le_antisymm (Int64.not_lt.mp c) d]; rfl
        · rw [if_neg d]
    have e2 : ∀ w x : Int64, mx64 w x = mGrt w x := fun w x => mx_bot w x
    rw [e1, e2]
end OPS
