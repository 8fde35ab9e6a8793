/-! the class's numbers and the reference's -/
theorem wsum_cong {P Q : Nat → Bool} {f g : Nat → Int64} : ∀ n : Nat, (∀ k, k < n → P k = Q k) → (∀ k, k < n → f k = g k) → wsum P f n = wsum Q g n
  | 0, _, _ => rfl
  | n + 1, h1, h2 => by
    have ih := wsum_cong n (fun k hk => h1 k (by omega)) (fun k hk => h2 k (by omega))
    have e1 := h1 n (by omega)
    have e2 := h2 n (by omega)
    cases hp : P n
    · rw [wsum_f hp, wsum_f (e1.symm.trans hp), ih]
    · rw [wsum_t hp, wsum_t (e1.symm.trans hp), ih, e2]
theorem xCnt_cong {P Q : Nat → Bool} : ∀ n : Nat, (∀ k, k < n → P k = Q k) → xCnt P n = xCnt Q n
  | 0, _ => rfl
  | n + 1, h1 => by
    have ih := xCnt_cong n (fun k hk => h1 k (by omega))
    have e1 := h1 n (by omega)
    cases hp : P n
    · rw [xCnt_f hp, xCnt_f (e1.symm.trans hp), ih]
    · rw [xCnt_t hp, xCnt_t (e1.symm.trans hp), ih]
/-- all but what is held of the fitted losses -/
def RC (n : Nat) (S T : WS) : Prop := XI n S ∧ MI n T ∧ (∀ k, k < n → (xIa S 1 k = 0 ↔ ¬ mIa T 5 k = 0)) ∧ (∀ t k, t < 3 → k < n → xLev S t k = mIa T 0 (3 * k + t)) ∧
  (∀ k, k < n → xLng S 0 k = mL T 1 k ∧ xLng S 1 k = mL T 2 k ∧ xLng S 2 k = mL T 3 k ∧ xIa S 0 k = mIa T 4 k) ∧ (∀ k, k < n → ∃ c : Nat, c ≤ 1000 ∧ mIa T 1 k = nI c) ∧
  (∀ t k, t < 3 → k < 4 → xFac S t k = mIa T 6 (4 * t + k)) ∧ (xSc S 2 = mSc T 1 ∧ xSc S 3 = mSc T 2 ∧ mSp T = (xSc S 4).toInt64 ∧ xSc S 1 = nI (mCount T n)) ∧ (xSc S 3 = -1 ∨ ∃ c : Nat, c ≤ 1000 ∧ xSc S 3 = nI c) ∧ (∀ k, n ≤ k → k < 40 → mIa T 5 k = 0)
def RR (n : Nat) (S T : WS) : Prop := RC n S T ∧ xBase S = mBase T n ∧ ∀ k, k < n → xLng S 3 k = mFit T (mBase T n) k
section PURE
variable {n : Nat} {S T : WS}
theorem rc_lv (h : RC n S T) {k : Nat} (hk : k < n) : mLv T k = true ↔ ¬ xIa S 1 k = 0 := by
  have h1 := h.2.2.1 k hk
  unfold mLv
  rw [decide_eq_true_eq]
  constructor
  · intro q r; exact (h1.mp r) q
  · intro q
    by_cases c : mIa T 5 k = 0
    · exact c
    · exact absurd (h1.mpr c) q
theorem rc_lvf (h : RC n S T) {k : Nat} (hk : k < n) : mLv T k = false ↔ xIa S 1 k = 0 := by
  have := rc_lv h hk
  constructor
  · intro q
    by_cases c : xIa S 1 k = 0
    · exact c
    · rw [this.mpr c] at q; cases q
  · intro q
    cases hq : mLv T k
    · rfl
    · exact absurd q (this.mp hq)
theorem xTot_w (h : RC n S T) {f g : Nat → Int64} : ∀ m : Nat, m ≤ n → (∀ k, k < m → f k = g k) → xTot (xIa S 1) f m = wsum (mLv T) g m
  | 0, _, _ => rfl
  | m + 1, hm, hf => by
    have ih := xTot_w h m (by omega) (fun k hk => hf k (by omega))
    have e := hf m (by omega)
    by_cases c : xIa S 1 m = 0
    · rw [xTot_z c, wsum_f ((rc_lvf h (by omega)).mpr c), ih]
    · rw [xTot_n c, wsum_t ((rc_lv h (by omega)).mpr c), ih, e]
theorem xLTot_w (h : RC n S T) {t : Nat} (ht : t < 3) {q : Int32} {f g : Nat → Int64} : ∀ m : Nat, m ≤ n → (∀ k, k < m → f k = g k) → xLTot (xIa S 1) (xLev S t) q f m = wsum (mHas T t q) g m
  | 0, _, _ => rfl
  | m + 1, hm, hf => by
    have ih := xLTot_w h ht (q := q) m (by omega) (fun k hk => hf k (by omega))
    have e := hf m (by omega)
    have el := h.2.2.2.1 t m ht (by omega)
    by_cases c : xIa S 1 m = 0
    · have hp : mHas T t q m = false := by
        have := (h.2.2.1 m (by omega)).mp c
        simp [mHas, this]
      rw [xLTot_z c, wsum_f hp, ih]
    · have h5 : mIa T 5 m = 0 := of_decide_eq_true ((rc_lv h (by omega)).mpr c)
      by_cases d : xLev S t m = q
      · have hp : mHas T t q m = true := by
          rw [el] at d
          simp [mHas, h5, d]
        rw [xLTot_q c d, wsum_t hp, ih, e]
      · have hp : mHas T t q m = false := by
          rw [el] at d
          simp [mHas, d]
        rw [xLTot_o c d, wsum_f hp, ih]
theorem fitN_eq (h : RC n S T) {k : Nat} (hk : k < n) : ∀ t : Nat, t ≤ 3 → xFitN S k t = mFitN T (xBase S) k t
  | 0, _ => by
    show xLng S 0 k * xBase S / 10000 = _
    rw [(h.2.2.2.2.1 k hk).1]
    rfl
  | t + 1, ht => by
    have ih := fitN_eq h hk t (by omega)
    show xFitN S k t * (xFac S t (tN (xLev S t k))).toInt64 / 10000 = mFitN T (xBase S) k t * (mIa T 6 (4 * t + tN (mIa T 0 (3 * k + t)))).toInt64 / 10000
    have hl := (XI_lev h.1 (t := t) (by omega) hk).2
    rw [ih, h.2.2.2.2.2.2.1 t _ (by omega) hl, h.2.2.2.1 t k (by omega) hk]
theorem fit_eq (h : RC n S T) {k : Nat} (hk : k < n) : xFit S k = mFit T (xBase S) k := fitN_eq h hk 3 (Nat.le_refl 3)
theorem expo_small (h : RC n S T) (P : Nat → Bool) : ∃ c : Nat, c ≤ 40000 ∧ wsum P (mL T 1) n = lN c := by
  obtain ⟨c, hc, e⟩ := wsum_small (P := P) (f := mL T 1) (B := 1000) n (fun i hi => by
    obtain ⟨c, h1, h2⟩ := h.2.2.2.2.2.1 i hi
    exact ⟨c, h1, by show (mIa T 1 i).toInt64 = _; rw [h2, nI_l (by omega)]⟩)
  have hn := h.1.1
  have : n * 1000 ≤ 40 * 1000 := Nat.mul_le_mul_right _ hn
  exact ⟨c, by omega, e⟩
theorem lN_le0 {c : Nat} (hc : c < 2 ^ 31) : lN c ≤ 0 ↔ c = 0 := by
  have := lN_le (a := c) (b := 0) hc (by decide)
  constructor
  · intro q; have := this.mp q; omega
  · intro q; exact this.mpr (by omega)
theorem lN_z {c : Nat} (hc : c < 2 ^ 31) : lN c = 0 ↔ c = 0 := lN_eq (a := c) (b := 0) hc (by decide)
theorem base_eq (h : RC n S T) : xBase1 S n = mBase T n := by
  have e1 : xTot (xIa S 1) (xLng S 0) n = wsum (mLv T) (mL T 1) n := xTot_w h n (Nat.le_refl n) (fun k hk => (h.2.2.2.2.1 k hk).1)
  have e2 : xTot (xIa S 1) (xLng S 2) n = wsum (mLv T) (mL T 3) n := xTot_w h n (Nat.le_refl n) (fun k hk => (h.2.2.2.2.1 k hk).2.2.1)
  obtain ⟨c, hc, e3⟩ := expo_small h (mLv T)
  unfold xBase1 mBase
  rw [e1, e2, e3]
  by_cases q : c = 0
  · rw [if_pos ((lN_le0 (by omega)).mpr q), if_pos ((lN_z (by omega)).mpr q)]
  · rw [if_neg (fun r => q ((lN_le0 (by omega)).mp r)), if_neg (fun r => q ((lN_z (by omega)).mp r))]
theorem refit_RL (h : RC n S T) : RR n (xRefit S n) T := by
  have hb := base_eq h
  refine ⟨h, hb, fun k hk => ?_⟩
  have h2 : RC n (xsBase S (xBase1 S n)) T := h
  have e : xLng (xRefit S n) 3 k = xFit (xsBase S (xBase1 S n)) k := (congrFun (lng_at (xsBase S (xBase1 S n)) 3 _) k).trans (fil_lo hk)
  rw [e, fit_eq h2 hk, ← hb]
/-- the sums that both sides answer -/
theorem told_eq (h : RC n S T) {t : Nat} (ht : t < 3) (q : Int32) : xLTot (xIa S 1) (xLev S t) q (xLng S 2) n = mSumL T n t q 3 := xLTot_w h ht n (Nat.le_refl n) (fun k hk => (h.2.2.2.2.1 k hk).2.2.1)
theorem clm_eq (h : RC n S T) {t : Nat} (ht : t < 3) (q : Int32) : xLTot (xIa S 1) (xLev S t) q (xLng S 1) n = mSumL T n t q 2 := xLTot_w h ht n (Nat.le_refl n) (fun k hk => (h.2.2.2.2.1 k hk).2.1)
theorem exp_eq (h : RC n S T) {t : Nat} (ht : t < 3) (q : Int32) : xLTot (xIa S 1) (xLev S t) q (xLng S 0) n = mSumL T n t q 1 := xLTot_w h ht n (Nat.le_refl n) (fun k hk => (h.2.2.2.2.1 k hk).1)
theorem fito_eq (h : RR n S T) {t : Nat} (ht : t < 3) (q : Int32) : xLTot (xIa S 1) (xLev S t) q (xLng S 3) n = mFitO T n t q := xLTot_w h.1 ht n (Nat.le_refl n) (fun k hk => h.2.2 k hk)
theorem allf_eq (h : RR n S T) : xTot (xIa S 1) (xLng S 3) n = mAllF T n := xTot_w h.1 n (Nat.le_refl n) (fun k hk => h.2.2 k hk)
theorem mx_bot (x y : Int64) : mx64 x y = mBot x y := by
  unfold mx64 mBot
  by_cases c : y < x
  · rw [if_pos c, if_pos (Int64.le_of_lt c)]
  · rw [if_neg c]
    by_cases d : y ≤ x
    · rw [if_pos d]
      exact Int64.le_antisymm d (Int64.not_lt.mp c)
    · rw [if_neg d]
theorem mn_top (x y : Int64) : mn64 x y = mTop x y := by
  unfold mn64 mTop
  by_cases c : y < x
  · rw [if_pos c, if_neg (fun q => absurd (Int64.lt_of_lt_of_le c q) Int64.lt_irrefl)]
  · rw [if_neg c, if_pos (Int64.not_lt.mp c)]
theorem low_eq {c : Nat} (hc : c ≤ 1000) : mxI (100 - nI c) 0 = mLow (nI c) := by
  have e : (100 - nI c).toInt = 100 - (c : Int) := by
    rw [Int32.toInt_sub, nI_toInt (by omega), show (100 : Int32).toInt = 100 from by decide]
    exact Int.bmod_eq_of_le (by omega) (by omega)
  have h1 : (100 - nI c) < 0 ↔ 100 < c := by
    rw [Int32.lt_iff_toInt_lt, e, show (0 : Int32).toInt = 0 from by decide]
    omega
  have h2 : nI c ≤ 100 ↔ c ≤ 100 := nI_leI (b := 100) (by omega) (by decide)
  unfold mxI mLow
  by_cases q : 100 < c
  · rw [if_pos (h1.mpr q), if_neg (fun r => by have := h2.mp r; omega)]
  · rw [if_neg (fun r => q (h1.mp r)), if_pos (h2.mpr (by omega))]
theorem newp_eq (h : RR n S T) {k : Nat} (hk : k < n) : xNewP S k = mPrem T n k := by
  unfold xNewP mPrem
  rw [h.2.2 k hk, h.1.2.2.2.2.2.2.2.1.2.2.1]
theorem cap_eq (h : RR n S T) {k : Nat} (hk : k < n) : xCapP S k = mCap T n k := by
  have e1 := newp_eq h hk
  have e2 : xSc S 3 = mSc T 2 := h.1.2.2.2.2.2.2.2.1.2.1
  have e3 := (h.1.2.2.2.2.1 k hk).2.2.2
  unfold xCapP mCap
  rw [e1, ← e2, ← e3]
  by_cases c : xSc S 3 = -1
  · rw [if_pos c, if_pos c]
  · rw [if_neg c, if_neg c]
    by_cases d : xIa S 0 k = -1
    · rw [if_pos d, if_pos d]
    · rw [if_neg d, if_neg d]
      rcases h.1.2.2.2.2.2.2.2.2.1 with q | ⟨m, hm, q⟩
      · exact absurd q c
      · unfold xBnd
        rw [mx_bot, mn_top, q, low_eq hm]
theorem allc_eq (h : RR n S T) : xTot (xIa S 1) (xCapP S) n = mAllC T n := xTot_w h.1 n (Nat.le_refl n) (fun k hk => cap_eq h hk)
theorem bnd_eq (v : Int64) : (xBnd v 100 100000).toInt32 = mBnd v := by
  unfold xBnd mBnd
  rw [mx_bot, mn_top]
  unfold mBot mTop
  by_cases c : 100 ≤ v
  · rw [if_pos c, if_pos c]
    by_cases d : v ≤ 100000
    · rw [if_pos d, if_pos d]
    · rw [if_neg d, if_neg d]; decide
  · rw [if_neg c, if_neg c, if_pos (by decide)]; decide
theorem found_eq (h : RR n S T) {t k : Nat} (ht : t < 3) (hk : k < 4) : xFound S n t k = mFound T n t k := by
  unfold xFound mFound
  rw [fito_eq h ht, clm_eq h.1 ht, told_eq h.1 ht, h.1.2.2.2.2.2.2.1 t k ht hk, h.1.2.2.2.2.2.2.2.1.1, bnd_eq]
  by_cases c : mFitO T n t (nI k) ≤ 0
  · rw [if_pos c, if_pos c]
  · rw [if_neg c, if_neg c]
    by_cases d : mSumL T n t (nI k) 2 ≤ 0
    · rw [if_pos d, if_neg (fun q => absurd (Int64.lt_of_lt_of_le q d) Int64.lt_irrefl)]
    · rw [if_neg d, if_pos (Int64.not_le.mp d)]
theorem passc_eq (h : RR n S T) {t : Nat} (ht : t < 3) : xPassC S n t = mPassC T n t := by
  have h4 := levN_4 t
  refine xCnt_cong _ (fun k hk => ?_)
  unfold xPasP mPasP
  rw [found_eq h ht (by omega), h.1.2.2.2.2.2.2.1 t k ht (by omega)]
  congr 1
  exact decide_eq_decide.mpr ⟨fun q => q.symm, fun q => q.symm⟩
theorem pass_RC (h : RR n S T) {t : Nat} (ht : t < 3) : RC n (xPassF S n t) (mPass T n t) := by
  have h4 := levN_4 t
  have h3 := levN_3 t
  obtain ⟨h1, h2, h5, h6, h7, h8, h9, h10⟩ := id h.1
  refine ⟨h1, h2, h5, h6, h7, h8, fun u k hu hk => ?_, h10⟩
  have e2 : mIa (mPass T n t) 6 (4 * u + k) = mPut (mIa T 6) t (mFound T n t) (levN t) (4 * u + k) := congrFun (mia_at (mPassF T n t) 6 _) _
  rw [e2]
  by_cases hut : u = t
  · subst hut
    have e1 : xFac (xPassF S n u) u k = fil (xFound S n u) (xFac S u) (levN u) k := congrFun (fac_at S u _) k
    rw [e1]
    by_cases hl : k < levN u
    · rw [fil_lo hl, found_eq h hu hk]
      unfold mPut
      rw [if_pos (by omega), show 4 * u + k - 4 * u = k by omega]
    · rw [fil_hi (by omega), h9 u k hu hk]
      unfold mPut
      rw [if_neg (by omega)]
  · have e1 : xFac (xPassF S n t) u k = xFac S u k := congrFun (va_up_ne _ _ hut) k
    rw [e1, h9 u k hu hk]
    unfold mPut
    rw [if_neg (by omega)]
theorem pass_RL (h : RR n S T) {t : Nat} (ht : t < 3) : RR n (xPass S n t) (mPass T n t) := refit_RL (pass_RC h ht)
theorem round_RL (h : RR n S T) : RR n (xRound S n 3) (mRound T n) := pass_RL (pass_RL (pass_RL h (by decide)) (by decide)) (by decide)
theorem roundc_eq (h : RR n S T) : xRoundC S n 3 = mRoundC T n := by
  have a1 := passc_eq h (t := 0) (by decide)
  have h1 := pass_RL h (t := 0) (by decide)
  have a2 := passc_eq h1 (t := 1) (by decide)
  have h2 := pass_RL h1 (t := 1) (by decide)
  have a3 := passc_eq h2 (t := 2) (by decide)
  show 0 + xPassC S n 0 + xPassC (xPass S n 0) n 1 + xPassC (xPass (xPass S n 0) n 1) n 2 = mPassC T n 0 + mPassC (mPass T n 0) n 1 + mPassC (mPass (mPass T n 0) n 1) n 2
  omega
end PURE
theorem settle_RL {n : Nat} : ∀ (d r : Nat) (S T : WS), r + d = 60 → RR n S T → (xSettle n d (r + 1) S).1 = (mSettle n d r T).1 ∧ RR n (xSettle n d (r + 1) S).2 (mSettle n d r T).2
  | 0, r, S, T, hr, h => ⟨show 60 = r by omega, h⟩
  | d + 1, r, S, T, hr, h => by
    have e := roundc_eq h
    have h2 := round_RL h
    by_cases c : mRoundC T n = 0
    · have e1 : xSettle n (d + 1) (r + 1) S = (r + 1, xRound S n 3) := if_pos (e.trans c)
      have e2 : mSettle n (d + 1) r T = (r + 1, mRound T n) := if_pos c
      rw [e1, e2]
      exact ⟨rfl, h2⟩
    · have e1 : xSettle n (d + 1) (r + 1) S = xSettle n d (r + 1 + 1) (xRound S n 3) := if_neg (fun q => c (e.symm.trans q))
      have e2 : mSettle n (d + 1) r T = mSettle n d (r + 1) (mRound T n) := if_neg c
      rw [e1, e2]
      exact settle_RL d (r + 1) _ _ (by omega) h2
