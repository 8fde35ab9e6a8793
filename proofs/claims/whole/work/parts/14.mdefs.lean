/-! what the reference's methods answer, in the numbers of the state -/
theorem ix3 (i t : Nat) : (3 : Int32) * nI i + nI t = nI (3 * i + t) := by
  show nI 3 * nI i + nI t = _
  rw [pk_mul, nI_add]
theorem ix3c1 (i : Nat) : (3 : Int32) * nI i + 1 = nI (3 * i + 1) := ix3 i 1
theorem ix3c2 (i : Nat) : (3 : Int32) * nI i + 2 = nI (3 * i + 2) := ix3 i 2
theorem ix3z (i : Nat) : (3 : Int32) * nI i = nI (3 * i + 0) := by
  show nI 3 * nI i = _
  rw [pk_mul]; rfl
theorem ix4 (t k : Nat) : (4 : Int32) * nI t + nI k = nI (4 * t + k) := by
  show nI 4 * nI t + nI k = _
  rw [pk_mul, nI_add]
theorem ix4m (t k : Nat) (h : 1 ≤ k) : (4 : Int32) * nI t + nI k - 1 = nI (4 * t + (k - 1)) := by
  rw [ix4]
  obtain ⟨j, rfl⟩ : ∃ j, k = j + 1 := ⟨k - 1, by omega⟩
  exact nI_pred (4 * t + j)
theorem lt_pred {n : Nat} (hn : n < 2 ^ 31) (k : Int32) : nI n - 1 < k ↔ nI n ≤ k := by
  rw [Int32.lt_iff_toInt_lt, Int32.le_iff_toInt_le, nI_toInt hn]
  have h : (nI n - 1).toInt = (n : Int) - 1 := by
    rw [Int32.toInt_sub, nI_toInt hn, show (1 : Int32).toInt = 1 from by decide]
    exact Int.bmod_eq_of_le (by omega) (by omega)
  rw [h]
  omega
theorem wit_pred {n : Nat} (hn : n < 2 ^ 31) (k : Int32) : xIsWithin k 0 (nI n - 1) = (!decide (k < 0) && !decide (nI n ≤ k)) := by
  unfold xIsWithin
  rw [decide_eq_decide.mpr (lt_pred hn k)]
theorem mTrait_eq (t : Int32) : xIsWithin t 0 2 = xHasTrait t := by
  have h := wit_pred (n := 3) (by decide) t
  exact h
def mLv (S : WS) : Nat → Bool := fun k => decide (mIa S 5 k = 0)
def mRow (S : WS) (r : Int32) : Bool := !decide (r < 0) && (!decide (mSc S 0 ≤ r) && decide (mIa S 5 (tN r) = 0))
theorem mRow_ix {S : WS} {r : Int32} {n : Nat} (hn : n ≤ 40) (h0 : mSc S 0 = nI n) (h : mRow S r = true) : (r = nI (tN r) ∧ tN r < n) ∧ mIa S 5 (tN r) = 0 := by
  simp only [mRow, Bool.and_eq_true, Bool.not_eq_true', decide_eq_false_iff_not, decide_eq_true_eq, h0] at h
  exact ⟨ixN (n := n) (by omega) h.1 h.2.1, h.2.2⟩
theorem within_ix {r : Int32} {n : Nat} (hn : n ≤ 40) (h : xIsWithin r 0 (nI n - 1) = true) : r = nI (tN r) ∧ tN r < n := by
  rw [wit_pred (by omega)] at h
  simp only [Bool.and_eq_true, Bool.not_eq_true', decide_eq_false_iff_not] at h
  exact ixN (n := n) (by omega) h.1 h.2
def mHas (S : WS) (t : Nat) (k : Int32) : Nat → Bool := fun i => decide (mIa S 5 i = 0) && decide (mIa S 0 (3 * i + t) = k)
def mL (S : WS) (a : Nat) : Nat → Int64 := fun i => (mIa S a i).toInt64
def mBase (S : WS) (n : Nat) : Int64 := if wsum (mLv S) (mL S 1) n = 0 then 0 else 10000 * wsum (mLv S) (mL S 3) n / wsum (mLv S) (mL S 1) n
def mFitN (S : WS) (b : Int64) (r : Nat) : Nat → Int64
  | 0 => (mIa S 1 r).toInt64 * b / 10000
  | t + 1 => mFitN S b r t * (mIa S 6 (4 * t + tN (mIa S 0 (3 * r + t)))).toInt64 / 10000
def mFit (S : WS) (b : Int64) (r : Nat) : Int64 := mFitN S b r 3
def mSumL (S : WS) (n t : Nat) (k : Int32) (a : Nat) : Int64 := wsum (mHas S t k) (mL S a) n
def mFitO (S : WS) (n t : Nat) (k : Int32) : Int64 := wsum (mHas S t k) (mFit S (mBase S n)) n
def mBnd (v : Int64) : Int32 := if 100 ≤ v then (if v ≤ 100000 then v.toInt32 else 100000) else 100
def mF (S : WS) (t : Nat) : Nat → Int32 := fun k => mIa S 6 (4 * t + k)
def mFound (S : WS) (n t k : Nat) : Int32 :=
  if mFitO S n t (nI k) ≤ 0 then mIa S 6 (4 * t + k) else if mSumL S n t (nI k) 2 ≤ 0 then mIa S 6 (4 * t + k) else
  mBnd ((mIa S 6 (4 * t + k)).toInt64 + ((mIa S 6 (4 * t + k)).toInt64 * mSumL S n t (nI k) 3 / mFitO S n t (nI k) - (mIa S 6 (4 * t + k)).toInt64) * mSumL S n t (nI k) 2 / (mSumL S n t (nI k) 2 + (mSc S 1).toInt64))
/-- the reference's state as its calls leave it: n rows were added -/
def MI (n : Nat) (S : WS) : Prop := n ≤ 40 ∧ mSc S 0 = nI n ∧ (∀ t k : Nat, t < 3 → k < n → ∃ j : Nat, j < 4 ∧ mIa S 0 (3 * k + t) = nI j) ∧ (∀ k : Nat, k < n → ∃ c : Nat, c ≤ 1000 ∧ mIa S 2 k = nI c) ∧ ∃ c : Nat, c ≤ 1000 ∧ mSc S 1 = nI c
theorem MI_lev {n : Nat} {S : WS} (hI : MI n S) {t k : Nat} (ht : t < 3) (hk : k < n) : mIa S 0 (3 * k + t) = nI (tN (mIa S 0 (3 * k + t))) ∧ tN (mIa S 0 (3 * k + t)) < 4 := by
  obtain ⟨j, hj, e⟩ := hI.2.2.1 t k ht hk
  rw [e, tN_nI (by omega)]
  exact ⟨rfl, hj⟩
theorem MI_ix4 {n : Nat} {S : WS} (hI : MI n S) {t k : Nat} (ht : t < 3) (hk : k < n) : (4 : Int32) * nI t + mIa S 0 (3 * k + t) = nI (4 * t + tN (mIa S 0 (3 * k + t))) := by
  have h := (MI_lev hI ht hk).1
  rw [h, ix4, tN_nI (by have := (MI_lev hI ht hk).2; omega)]
theorem MI_last {n : Nat} {S : WS} (v : Int32) (h : MI n S) : MI n (msSc S 3 v) := h
theorem MI_6 {n : Nat} {S : WS} (f : Nat → Int32) (h : MI n S) : MI n (msIa S 6 f) := h
theorem MI_7 {n : Nat} {S : WS} (f : Nat → Int32) (h : MI n S) : MI n (msIa S 7 f) := h
theorem MI_8 {n : Nat} {S : WS} (f : Nat → Int32) (h : MI n S) : MI n (msIa S 8 f) := h
theorem wsum_small {P : Nat → Bool} {f : Nat → Int64} {B : Nat} : ∀ k : Nat, (∀ i, i < k → ∃ c : Nat, c ≤ B ∧ f i = lN c) → ∃ c : Nat, c ≤ k * B ∧ wsum P f k = lN c
  | 0, _ => ⟨0, Nat.zero_le _, rfl⟩
  | k + 1, h => by
    obtain ⟨c, hc, e⟩ := wsum_small (P := P) k (fun i hi => h i (by omega))
    obtain ⟨d, hd, e2⟩ := h k (by omega)
    have e3 : (k + 1) * B = k * B + B := Nat.succ_mul k B
    cases h1 : P k
    · exact ⟨c, by omega, by rw [wsum_f h1]; exact e⟩
    · exact ⟨c + d, by omega, by rw [wsum_t h1, e, e2, lN_add]⟩
theorem mFound_div {n : Nat} {S : WS} (hI : MI n S) {t : Nat} {k : Int32} (h : ¬ mSumL S n t k 2 ≤ 0) : ¬ mSumL S n t k 2 + (mSc S 1).toInt64 = 0 := by
  obtain ⟨hn, -, -, hc, d, hd, e2⟩ := hI
  obtain ⟨c, hc1, e⟩ := wsum_small (P := mHas S t k) (f := mL S 2) (B := 1000) n (fun i hi => by
    obtain ⟨c, h1, h2⟩ := hc i hi
    exact ⟨c, h1, by show (mIa S 2 i).toInt64 = _; rw [h2, nI_l (by omega)]⟩)
  have hb : c ≤ 40000 := by have : n * 1000 ≤ 40 * 1000 := Nat.mul_le_mul_right _ hn; omega
  have hp : 0 < c := by
    rcases Nat.eq_zero_or_pos c with q | q
    · exact absurd (by unfold mSumL; rw [e, q]; decide) h
    · exact q
  unfold mSumL
  rw [e, e2, nI_l (by omega), lN_add]
  exact lN_ne0 (by omega) (by omega)
def gCode (a b c : Bool) : Int32 := if a then (if b then (if c then 0 else 3) else 2) else 1
def mGo (S : WS) (a b c : Bool) : WS := msSc S 3 (gCode a b c)
theorem MI_go {n : Nat} {S : WS} (a b c : Bool) (h : MI n S) : MI n (mGo S a b c) := h
theorem i64_i32 (x : Int32) : x.toInt64.toInt32 = x := Int32.toInt32_toInt64 x
def mPut (f : Nat → Int32) (t : Nat) (h : Nat → Int32) (i : Nat) : Nat → Int32 := fun j => if 4 * t ≤ j ∧ j < 4 * t + i then h (j - 4 * t) else f j
theorem mPut_0 (f : Nat → Int32) (t : Nat) (h : Nat → Int32) : mPut f t h 0 = f := funext fun j => if_neg (by omega)
theorem mPut_at (f : Nat → Int32) (t : Nat) (h : Nat → Int32) (i : Nat) : mPut f t h i (4 * t + i) = f (4 * t + i) := if_neg (by omega)
theorem mPut_s (f : Nat → Int32) (t : Nat) (h : Nat → Int32) (i : Nat) : upd (mPut f t h i) (4 * t + i) (h i) = mPut f t h (i + 1) := by
  funext j
  unfold upd
  by_cases hj : j = 4 * t + i
  · subst hj
    rw [if_pos rfl]
    unfold mPut
    rw [if_pos (by omega), show 4 * t + i - 4 * t = i by omega]
  · rw [if_neg hj]
    unfold mPut
    by_cases h2 : 4 * t ≤ j ∧ j < 4 * t + i
    · rw [if_pos h2, if_pos (by omega)]
    · rw [if_neg h2, if_neg (by omega)]
def mPassF (S : WS) (n t : Nat) : WS := msIa S 7 (fil (mFound S n t) (mIa S 7) (levN t))
def mPass (S : WS) (n t : Nat) : WS := msIa (mPassF S n t) 6 (mPut (mIa S 6) t (mFound S n t) (levN t))
def mPasP (S : WS) (n t : Nat) : Nat → Bool := fun k => !decide (mIa S 6 (4 * t + k) = mFound S n t k)
def mPassC (S : WS) (n t : Nat) : Nat := xCnt (mPasP S n t) (levN t)
theorem MI_pass {n : Nat} {S : WS} (t : Nat) (h : MI n S) : MI n (mPass S n t) := h
theorem mia_twice (S : WS) (q : Nat) (a b : Nat → Int32) : msIa (msIa S q a) q b = msIa S q b := by
  show (_, (va_up (va_up S.2.1.1 q a) q b, _), _) = _
  rw [bx_uu]
theorem mia_at (S : WS) (q : Nat) (a : Nat → Int32) : mIa (msIa S q a) q = a := va_up_self _ _ _
theorem mia_self (S : WS) (t : Nat) : msIa S t (mIa S t) = S := by
  have h : va_up S.2.1.1 t (S.2.1.1 t) = S.2.1.1 := by
    funext j
    unfold va_up
    by_cases hj : j = t
    · rw [if_pos hj, hj]
    · rw [if_neg hj]
  show (_, (va_up S.2.1.1 t (S.2.1.1 t), _), _) = S
  rw [h]
theorem upd_twice (f : Nat → Int32) (i : Nat) (x y : Int32) : upd (upd f i x) i y = upd f i y := by
  funext j
  unfold upd
  by_cases h : j = i
  · rw [if_pos h, if_pos h]
  · rw [if_neg h, if_neg h, if_neg h]
theorem mfound_step (S : WS) (G : Nat → Int32) (i : Nat) {x : Int32} (h : x = G i) : msIa (msIa S 7 (fil G (mIa S 7) i)) 7 (upd (mIa (msIa S 7 (fil G (mIa S 7) i)) 7) i x) = msIa S 7 (fil G (mIa S 7) (i + 1)) := by
  rw [mia_twice, mia_at, h, fil_sI]
theorem mput_step (S : WS) (F : Nat → Int32) (t i : Nat) (G : Nat → Int32) : msIa (msIa S 6 (mPut F t G i)) 6 (upd (mIa (msIa S 6 (mPut F t G i)) 6) (4 * t + i) (G i)) = msIa S 6 (mPut F t G (i + 1)) := by
  rw [mia_twice, mia_at, mPut_s]
theorem mfound_step2 (S : WS) (G : Nat → Int32) (i : Nat) {x y : Int32} (h : x = G i) : msIa (msIa (msIa S 7 (fil G (mIa S 7) i)) 7 (upd (mIa (msIa S 7 (fil G (mIa S 7) i)) 7) i y)) 7 (upd (mIa (msIa (msIa S 7 (fil G (mIa S 7) i)) 7 (upd (mIa (msIa S 7 (fil G (mIa S 7) i)) 7) i y)) 7) i x) = msIa S 7 (fil G (mIa S 7) (i + 1)) := by
  rw [mia_twice, mia_at, mia_twice, mia_at, upd_twice, h, fil_sI]
def mCount (S : WS) (n : Nat) : Nat := xCnt (mLv S) n
def mPrem (S : WS) (n r : Nat) : Int64 := mFit S (mBase S n) r * mSp S / 10000
def mTop (x m : Int64) : Int64 := if x ≤ m then x else m
def mBot (x m : Int64) : Int64 := if m ≤ x then x else m
def mLow (c : Int32) : Int32 := if c ≤ 100 then 100 - c else 0
def mCap (S : WS) (n r : Nat) : Int64 := if mSc S 2 = -1 then mPrem S n r else if mIa S 4 r = -1 then mPrem S n r else
  mTop (mBot (mPrem S n r) ((mIa S 4 r).toInt64 * (mLow (mSc S 2)).toInt64 / 100)) ((mIa S 4 r).toInt64 * (100 + mSc S 2).toInt64 / 100)
def mAllF (S : WS) (n : Nat) : Int64 := wsum (mLv S) (mFit S (mBase S n)) n
def mAllC (S : WS) (n : Nat) : Int64 := wsum (mLv S) (mCap S n) n
def mSpV (x : Int64) : Int64 := if 1 ≤ x then (if x ≤ 1000000 then x else 1000000) else 1
def mSpread (S : WS) (n : Nat) : WS := if mAllC S n ≤ 0 then S else msSp S (mSpV (mSp S * mTop (10000 * mAllF S n / mAllC S n) 1000000 / 10000))
def mAhead (S : WS) (b : Int64) (r q : Nat) : Bool := decide (mL S 3 q * (1 + mFit S b r) < mL S 3 r * (1 + mFit S b q)) || (decide (mL S 3 r * (1 + mFit S b q) = mL S 3 q * (1 + mFit S b r)) && !decide (nI q ≤ nI r))
def mRkP (S : WS) (b : Int64) (r : Nat) : Nat → Bool := fun k => decide (mIa S 5 k = 0) && (!decide (nI k = nI r) && mAhead S b k r)
def mRankF (S : WS) (n : Nat) (b : Int64) (q : Int32) : Nat → Nat → Int32
  | 0, _ => -1
  | d + 1, i => if mIa S 5 i = 0 then (if nI (xCnt (mRkP S b i) n) = q then nI i else mRankF S n b q d (i + 1)) else mRankF S n b q d (i + 1)
def mRank (S : WS) (n : Nat) (q : Int32) : Int32 := mRankF S n (mBase S n) q n 0
def mAbs (x : Int64) : Int64 := if 0 ≤ x then x else -x
def mGrt (w x : Int64) : Int64 := if x ≤ w then w else x
def mWorst (S : WS) (n t : Nat) : Nat → Int64
  | 0 => 0
  | k + 1 => mGrt (mWorst S n t k) (mAbs (mSumL S n t (nI k) 3 - mFitO S n t (nI k)))
def mRound (S : WS) (n : Nat) : WS := mPass (mPass (mPass S n 0) n 1) n 2
def mRoundC (S : WS) (n : Nat) : Nat := mPassC S n 0 + mPassC (mPass S n 0) n 1 + mPassC (mPass (mPass S n 0) n 1) n 2
theorem mPassC_le (S : WS) (n t : Nat) : mPassC S n t ≤ 4 := Nat.le_trans (xCnt_le _ _) (levN_4 t)
theorem mRoundC_le (S : WS) (n : Nat) : mRoundC S n ≤ 12 := by
  have h1 := mPassC_le S n 0
  have h2 := mPassC_le (mPass S n 0) n 1
  have h3 := mPassC_le (mPass (mPass S n 0) n 1) n 2
  unfold mRoundC
  omega
theorem MI_round {n : Nat} {S : WS} (h : MI n S) : MI n (mRound S n) := h
/-- from r rounds done on, at most d more: how many are done at the end, and the state -/
def mSettle (n : Nat) : Nat → Nat → WS → Nat × WS
  | 0, r, S => (r, S)
  | d + 1, r, S => if mRoundC S n = 0 then (r + 1, mRound S n) else mSettle n d (r + 1) (mRound S n)
def mAdd1 (S : WS) (n : Nat) (a : Int32) : WS := msIa S 0 (upd (mIa S 0) (3 * n + 0) a)
def mAdd2 (S : WS) (n : Nat) (a b : Int32) : WS := msIa (mAdd1 S n a) 0 (upd (mIa (mAdd1 S n a) 0) (3 * n + 1) b)
def mAdd3 (S : WS) (n : Nat) (a b c : Int32) : WS := msIa (mAdd2 S n a b) 0 (upd (mIa (mAdd2 S n a b) 0) (3 * n + 2) c)
def mAdd4 (S : WS) (n : Nat) (a b c ex : Int32) : WS := msIa (mAdd3 S n a b c) 1 (upd (mIa (mAdd3 S n a b c) 1) n ex)
def mAdd5 (S : WS) (n : Nat) (a b c ex cl : Int32) : WS := msIa (mAdd4 S n a b c ex) 2 (upd (mIa (mAdd4 S n a b c ex) 2) n cl)
def mAdd6 (S : WS) (n : Nat) (a b c ex cl lo : Int32) : WS := msIa (mAdd5 S n a b c ex cl) 3 (upd (mIa (mAdd5 S n a b c ex cl) 3) n lo)
def mAdd7 (S : WS) (n : Nat) (a b c ex cl lo : Int32) : WS := msIa (mAdd6 S n a b c ex cl lo) 4 (upd (mIa (mAdd6 S n a b c ex cl lo) 4) n (-1))
def mAdd (S : WS) (n : Nat) (a b c ex cl lo : Int32) : WS := msSc (mAdd7 S n a b c ex cl lo) 0 (nI (n + 1))
def mR_add (S : WS) (n : Nat) (a b c ex cl lo : Int32) : WS := if xAddOk a b c ex cl lo then (if mSc S 0 < 40 then mAdd (mGo S true true true) n a b c ex cl lo else mGo S true false true) else mGo S false (decide (mSc S 0 < 40)) true
def mV_add (S : WS) (n : Nat) (a b c ex cl lo : Int32) : Int32 := if xAddOk a b c ex cl lo then (if mSc S 0 < 40 then nI n else 0) else 0
def mWd (S : WS) (r : Nat) : WS := msIa (mGo S true true true) 5 (upd (mIa (mGo S true true true) 5) r 1)
def mR_wd (S : WS) (r : Int32) : WS := if mRow S r then mWd S (tN r) else mGo S false true true
def mV_wd (S : WS) (n : Nat) (r : Int32) : Int32 := if mRow S r then nI (mCount (mWd S (tN r)) n) else 0
def mOldOk (v : Int32) : Bool := xIsWithin v (-1) 10000000
def mR_old (S : WS) (r v : Int32) : WS := if mRow S r then (if mOldOk v then msIa (mGo S true true true) 4 (upd (mIa (mGo S true true true) 4) (tN r) v) else mGo S true false true) else mGo S false (mOldOk v) true
def mV_old (S : WS) (r v : Int32) : Int32 := if mRow S r then (if mOldOk v then mIa S 4 (tN r) else 0) else 0
def mRulOk (c k : Int32) : Bool := xIsWithin c 0 1000 && xIsWithin k (-1) 1000
def mR_rules (S : WS) (c k : Int32) : WS := if mRulOk c k then msSc (msSc (mGo S true true true) 1 c) 2 k else mGo S false true true
def mV_rules (S : WS) (c k : Int32) : Int32 := if mRulOk c k then mSc S 1 else 0
def mR_fac (S : WS) (t k v : Int32) : WS := if xHasLevel t k then (if xIsWithin v 100 100000 then msIa (mGo S true true true) 6 (upd (mIa (mGo S true true true) 6) (4 * tN t + tN k) v) else mGo S true false true) else mGo S false (xIsWithin v 100 100000) true
def mV_fac (S : WS) (t k v : Int32) : Int32 := if xHasLevel t k then (if xIsWithin v 100 100000 then mIa S 6 (4 * tN t + tN k) else 0) else 0
def mR_pass (S : WS) (n : Nat) (t : Int32) : WS := if xHasTrait t then mPass (mGo S true true true) n (tN t) else mGo S false true true
def mV_pass (S : WS) (n : Nat) (t : Int32) : Int32 := if xHasTrait t then nI (mPassC (mGo S true true true) n (tN t)) else 0
def mV_lev (S : WS) (t k : Int32) (v : Int32) : Int32 := if xHasLevel t k then v else 0
def mV_levL (t k : Int32) (v : Int64) : Int64 := if xHasLevel t k then v else 0
def mV_rowL (S : WS) (r : Int32) (v : Int64) : Int64 := if mRow S r then v else 0
def mV_trL (t : Int32) (v : Int64) : Int64 := if xHasTrait t then v else 0
def mPlace (S : WS) (n : Nat) (q : Int32) : Int32 := if 0 ≤ q then mRank S n q else -1
def mV_rank (S : WS) (n : Nat) (q : Int32) : Int32 := if mPlace S n q = -1 then 0 else mPlace S n q
