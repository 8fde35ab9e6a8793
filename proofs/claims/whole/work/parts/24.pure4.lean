/-! spreading, ranking, adding, the start -/
theorem i64_rng {y : Int64} (h1 : 1 ≤ y) (h2 : y ≤ 1000000) : y.toInt32.toInt64 = y := by
  rw [Int64.le_iff_toInt_le] at h1 h2
  rw [show (1 : Int64).toInt = 1 from by decide] at h1
  rw [show (1000000 : Int64).toInt = 1000000 from by decide] at h2
  obtain ⟨c, hc⟩ : ∃ c : Nat, y.toInt = (c : Int) := ⟨y.toInt.toNat, by omega⟩
  have e : y = lN c := Int64.toInt_inj.mp (by rw [hc, lN_toInt (by omega)])
  rw [e, lN_i, nI_l (by omega)]
theorem spv_eq (v : Int64) : xBnd v 1 1000000 = mSpV v := by
  unfold xBnd mSpV
  rw [mx_bot, mn_top]
  unfold mBot mTop
  by_cases c : 1 ≤ v
  · rw [if_pos c, if_pos c]
  · rw [if_neg c, if_neg c, if_pos (by decide)]
theorem spv_rng (v : Int64) : 1 ≤ mSpV v ∧ mSpV v ≤ 1000000 := by
  unfold mSpV
  by_cases c : 1 ≤ v
  · rw [if_pos c]
    by_cases d : v ≤ 1000000
    · rw [if_pos d]; exact ⟨c, d⟩
    · rw [if_neg d]; decide
  · rw [if_neg c]; decide
theorem o_spread {n : Nat} {S T : WS} (h : RR n S T) : xSc (xSpread S n) 4 = (mSp (mSpread (msSc T 3 0) n)).toInt32 ∧ RR n (xSpread S n) (mSpread (msSc T 3 0) n) ∧ (xSpread S n).2 = S.2 ∧ (mSpread (msSc T 3 0) n).1 = T.1 := by
  have h2 : RR n S (msSc T 3 0) := h
  have e1 := allf_eq h2
  have e2 := allc_eq h2
  obtain ⟨⟨h1, hm, h5, h6, h7, h8, h9, ⟨g1, g2, g3, g4⟩, h10, h11⟩, hb, hf⟩ := id h2
  unfold xSpread mSpread
  rw [e2]
  by_cases c : mAllC (msSc T 3 0) n ≤ 0
  · rw [if_pos c, if_pos c]
    refine ⟨?_, h2, rfl, rfl⟩
    rw [g3, i64_i32]
  · rw [if_neg c, if_neg c]
    have e3 : xSpr1 S n = (mSpV (mSp (msSc T 3 0) * mTop (10000 * mAllF (msSc T 3 0) n / mAllC (msSc T 3 0) n) 1000000 / 10000)).toInt32 := by
      unfold xSpr1
      rw [e1, e2, ← g3, mn_top, spv_eq]
    obtain ⟨r1, r2⟩ := spv_rng (mSp (msSc T 3 0) * mTop (10000 * mAllF (msSc T 3 0) n / mAllC (msSc T 3 0) n) 1000000 / 10000)
    refine ⟨e3, ⟨⟨h1, hm, h5, h6, h7, h8, h9, ⟨g1, g2, ?_, g4⟩, h10, h11⟩, hb, hf⟩, rfl, rfl⟩
    show mSpV (mSp (msSc T 3 0) * mTop (10000 * mAllF (msSc T 3 0) n / mAllC (msSc T 3 0) n) 1000000 / 10000) = (xSpr1 S n).toInt64
    rw [e3, i64_rng r1 r2]
section RANK
variable {n : Nat} {S T : WS}
theorem ah_eq (h : RR n S T) {r q : Nat} (hr : r < n) (hq : q < n) : xAhead S r q = mAhead T (mBase T n) r q := by
  unfold xAhead mAhead
  rw [(h.1.2.2.2.2.1 r hr).2.2.1, (h.1.2.2.2.2.1 q hq).2.2.1, h.2.2 r hr, h.2.2 q hq]
theorem ah_self (T : WS) (b : Int64) (r : Nat) : mAhead T b r r = false := by
  unfold mAhead
  simp [Int64.lt_irrefl, Int32.le_refl]
theorem pl_eq (h : RR n S T) {r : Nat} (hr : r < n) : xPlace S r n = xCnt (mRkP T (mBase T n) r) n := by
  have hn := h.1.1.1
  refine xCnt_cong _ (fun k hk => ?_)
  unfold xPlP mRkP
  rw [ah_eq h hk hr]
  have e := h.1.2.2.1 k hk
  have e1 : (!decide (xIa S 1 k = 0)) = decide (mIa T 5 k = 0) := by
    by_cases c : mIa T 5 k = 0
    · simp [c, e]
    · simp [c, e.mpr c]
  rw [e1]
  by_cases c : k = r
  · subst c
    rw [ah_self]; simp
  · have c2 : ¬ nI k = nI r := fun q => c ((nI_eq (by omega) (by omega)).mp q)
    simp [c2]
theorem rankF_eq (h : RR n S T) (q : Int32) : ∀ d i : Nat, i + d = n → (xRankF S n q d i = none ∧ mRankF T n (mBase T n) q d i = -1) ∨ ∃ k, k < n ∧ 0 ≤ q ∧ xRankF S n q d i = some k ∧ mRankF T n (mBase T n) q d i = nI k
  | 0, _, _ => Or.inl ⟨rfl, rfl⟩
  | d + 1, i, hi => by
    have hn := h.1.1.1
    have ih := rankF_eq h q d (i + 1) (by omega)
    have e := h.1.2.2.1 i (by omega)
    have ep := pl_eq h (r := i) (by omega)
    by_cases c : xIa S 1 i = 0
    · have e1 : xRankF S n q (d + 1) i = xRankF S n q d (i + 1) := if_pos c
      have e2 : mRankF T n (mBase T n) q (d + 1) i = mRankF T n (mBase T n) q d (i + 1) := if_neg (e.mp c)
      rw [e1, e2]; exact ih
    · have c2 : mIa T 5 i = 0 := by
        by_cases r : mIa T 5 i = 0
        · exact r
        · exact absurd (e.mpr r) c
      by_cases g : nI (xPlace S i n) = q
      · have e1 : xRankF S n q (d + 1) i = some i := (if_neg c).trans (if_pos g)
        have e2 : mRankF T n (mBase T n) q (d + 1) i = nI i := (if_pos c2).trans (if_pos (by rw [← ep]; exact g))
        have hle : xPlace S i n ≤ n := xCnt_le _ _
        exact Or.inr ⟨i, by omega, by rw [← g]; exact nI_pos' (by omega), e1, e2⟩
      · have e1 : xRankF S n q (d + 1) i = xRankF S n q d (i + 1) := (if_neg c).trans (if_neg g)
        have e2 : mRankF T n (mBase T n) q (d + 1) i = mRankF T n (mBase T n) q d (i + 1) := (if_pos c2).trans (if_neg (by rw [← ep]; exact g))
        rw [e1, e2]; exact ih
theorem o_rank (h : RR n S T) (q : Int32) : mSc (mGo T (!decide (mPlace T n q = -1)) true true) 3 = cdE eIOB (xE_rank S n q) ∧ (xE_rank S n q = none → nI ((xRank S n q).getD 0) = mV_rank T n q) ∧ RR n S (mGo T (!decide (mPlace T n q = -1)) true true) ∧ (mGo T (!decide (mPlace T n q = -1)) true true).1 = T.1 := by
  have hn := h.1.1.1
  rcases rankF_eq h q n 0 (by omega) with ⟨e1, e2⟩ | ⟨k, hk, h0, e1, e2⟩
  · have e3 : mPlace T n q = -1 := by
      unfold mPlace
      by_cases c : 0 ≤ q
      · rw [if_pos c]; exact e2
      · rw [if_neg c]
    have e4 : xE_rank S n q = some eIOB := by
      unfold xE_rank xRank
      rw [e1]
    rw [e3, e4]
    exact ⟨rfl, fun q => (by cases q), h, rfl⟩
  · have e3 : mPlace T n q = nI k := (if_pos h0).trans e2
    have e4 : xE_rank S n q = none := by
      unfold xE_rank xRank
      rw [e1]
    have hk1 := nI_ne_m1 (k := k) (by omega)
    unfold mV_rank xRank
    rw [e3, e4, e1, decide_eq_false hk1]
    exact ⟨rfl, fun _ => by rw [if_neg hk1]; rfl, h, rfl⟩
theorem o_add (h : RR n S T) (a b c ex cl lo : Int32) : mSc (mR_add T n a b c ex cl lo) 3 = cdE eIAE (xE_add S a b c ex cl lo) ∧ (xE_add S a b c ex cl lo = none → nI n = mV_add T n a b c ex cl lo) ∧ (∃ n', RR n' (xR_add S n a b c ex cl lo) (mR_add T n a b c ex cl lo)) ∧ (xR_add S n a b c ex cl lo).2 = S.2 ∧ (mR_add T n a b c ex cl lo).1 = T.1 := by
  have h0 : xSc S 0 = nI n := h.1.1.2.1
  have h0m : mSc T 0 = nI n := h.1.2.1.2.1
  have hn := h.1.1.1
  unfold xE_add mR_add xR_add mV_add
  rw [h0, h0m]
  cases hok : xAddOk a b c ex cl lo
  · exact ⟨rfl, fun q => (by cases q), ⟨n, h⟩, rfl, rfl⟩
  · by_cases hl : nI n < 40
    · have hn4 : n < 40 := (nI_ltI (a := n) (b := 40) (by omega) (by decide)).mp hl
      rw [if_pos rfl, if_pos rfl, if_pos rfl, if_pos rfl, if_pos hl, if_pos hl, if_pos hl, if_pos hl]
      have hX := xAd_XI h.1.1 hn4 hok
      simp only [xAddOk, Bool.and_eq_true] at hok
      obtain ⟨k1, k2, k3, k4, k5, k6⟩ := hok
      have l1 := xHasLevel_ix k1
      have l2 := xHasLevel_ix k2
      have l3 := xHasLevel_ix k3
      have q1 := levN_4 (tN 0)
      have q2 := levN_4 (tN 1)
      have q3 := levN_4 (tN 2)
      obtain ⟨c5, hc5, e5⟩ := xWithin_nI (hi := 1000) (by decide) k5
      have k4' : xIsWithin ex 0 1000 = true := by
        simp only [xIsWithin, Bool.and_eq_true, Bool.not_eq_true', decide_eq_false_iff_not] at k4 ⊢
        exact ⟨fun q => k4.1 (Int32.lt_of_lt_of_le q (by decide)), k4.2⟩
      obtain ⟨c4, hc4, e4⟩ := xWithin_nI (hi := 1000) (by decide) k4'
      obtain ⟨h1, h2, h5, h6, h7, h8, h9, ⟨g1, g2, g3, g4⟩, h10, h11⟩ := id h.1
      have hz : mIa T 5 n = 0 := h11 n (Nat.le_refl n) hn4
      have hM0 : ∀ t k, t < 3 → mIa (mAdd (mGo T true true true) n a b c ex cl lo) 0 (3 * k + t) = upd (upd (upd (mIa T 0) (3 * n + 0) a) (3 * n + 1) b) (3 * n + 2) c (3 * k + t) := fun t k ht => rfl
      have hM0o : ∀ t k, t < 3 → k ≠ n → mIa (mAdd (mGo T true true true) n a b c ex cl lo) 0 (3 * k + t) = mIa T 0 (3 * k + t) := fun t k ht hk => by
        rw [hM0 t k ht, pk_un (by omega), pk_un (by omega), pk_un (by omega)]
      have hMn0 : mIa (mAdd (mGo T true true true) n a b c ex cl lo) 0 (3 * n + 0) = a := by
        rw [hM0 0 n (by omega), pk_un (by omega), pk_un (by omega), pk_us]
      have hMn1 : mIa (mAdd (mGo T true true true) n a b c ex cl lo) 0 (3 * n + 1) = b := by
        rw [hM0 1 n (by omega), pk_un (by omega), pk_us]
      have hMn2 : mIa (mAdd (mGo T true true true) n a b c ex cl lo) 0 (3 * n + 2) = c := by
        rw [hM0 2 n (by omega), pk_us]
      have hct : mCount (mAdd (mGo T true true true) n a b c ex cl lo) (n + 1) = mCount T n + 1 := xCnt_t (decide_eq_true hz)
      refine ⟨rfl, fun _ => rfl, ⟨n + 1, refit_RL ⟨hX, ⟨by omega, rfl, fun t k ht hk => ?_, fun k hk => ?_, h2.2.2.2.2⟩, fun k hk => ?_, fun t k ht hk => ?_, fun k hk => ?_, fun k hk => ?_, h9, ⟨g1, g2, g3, ?_⟩, h10, fun k hk1 hk2 => h11 k (by omega) hk2⟩⟩, rfl, rfl⟩
      · by_cases e : k = n
        · subst e
          rcases (show t = 0 ∨ t = 1 ∨ t = 2 by omega) with rfl | rfl | rfl
          · exact ⟨tN a, by omega, hMn0.trans l1.2.1⟩
          · exact ⟨tN b, by omega, hMn1.trans l2.2.1⟩
          · exact ⟨tN c, by omega, hMn2.trans l3.2.1⟩
        · rw [hM0o t k ht e]
          exact h2.2.2.1 t k ht (by omega)
      · show ∃ c : Nat, c ≤ 1000 ∧ upd (mIa T 2) n cl k = nI c
        by_cases e : k = n
        · rw [e, pk_us]; exact ⟨c5, hc5, e5⟩
        · rw [pk_un e]; exact h2.2.2.2.1 k (by omega)
      · show upd (xIa S 1) n 1 k = 0 ↔ ¬ mIa T 5 k = 0
        by_cases e : k = n
        · rw [e, pk_us, hz]; decide
        · rw [pk_un e]; exact h5 k (by omega)
      · by_cases e : k = n
        · subst e
          rcases (show t = 0 ∨ t = 1 ∨ t = 2 by omega) with rfl | rfl | rfl
          · exact (pk_us (f := xLev S 0)).trans hMn0.symm
          · exact (pk_us (f := xLev S 1)).trans hMn1.symm
          · exact (pk_us (f := xLev S 2)).trans hMn2.symm
        · rw [hM0o t k ht e, ← h6 t k ht (by omega)]
          rcases (show t = 0 ∨ t = 1 ∨ t = 2 by omega) with rfl | rfl | rfl
          · exact pk_un (f := xLev S 0) e
          · exact pk_un (f := xLev S 1) e
          · exact pk_un (f := xLev S 2) e
      · show vp_updL (xLng S 0) n ex.toInt64 k = (upd (mIa T 1) n ex k).toInt64 ∧ vp_updL (xLng S 1) n cl.toInt64 k = (upd (mIa T 2) n cl k).toInt64 ∧ vp_updL (xLng S 2) n lo.toInt64 k = (upd (mIa T 3) n lo k).toInt64 ∧ upd (xIa S 0) n (-1) k = upd (mIa T 4) n (-1) k
        by_cases e : k = n
        · rw [e, pk_uLs, pk_uLs, pk_uLs, pk_us, pk_us, pk_us, pk_us, pk_us]
          exact ⟨rfl, rfl, rfl, rfl⟩
        · rw [pk_uLn e, pk_uLn e, pk_uLn e, pk_un e, pk_un e, pk_un e, pk_un e, pk_un e]
          exact h7 k (by omega)
      · show ∃ c : Nat, c ≤ 1000 ∧ upd (mIa T 1) n ex k = nI c
        by_cases e : k = n
        · rw [e, pk_us]; exact ⟨c4, hc4, e4⟩
        · rw [pk_un e]; exact h8 k (by omega)
      · show xSc S 1 + 1 = nI (mCount (mAdd (mGo T true true true) n a b c ex cl lo) (n + 1))
        rw [hct, g4, nI_1]
    · rw [if_pos rfl, if_pos rfl, if_pos rfl, if_pos rfl, if_neg hl, if_neg hl, if_neg hl, if_neg hl]
      exact ⟨show (2 : Int32) = cdE eIAE (some eISE) from by decide, fun q => (by cases q), ⟨n, h⟩, rfl, rfl⟩
end RANK
theorem RR_0 : RR 0 WS0 WS0 := by
  refine ⟨⟨⟨by omega, by decide, fun t k _ hk => absurd hk (by omega), fun k hk => absurd hk (by omega), 0, by omega, by decide⟩, ⟨by omega, by decide, fun t k _ hk => absurd hk (by omega), fun k hk => absurd hk (by omega), 0, by omega, by decide⟩, fun k hk => absurd hk (by omega), fun t k _ hk => absurd hk (by omega), fun k hk => absurd hk (by omega), fun k hk => absurd hk (by omega), fun t k ht hk => ?_, ⟨by decide, by decide, by decide, by decide⟩, Or.inl (by decide), fun k _ _ => rfl⟩, rfl, fun k hk => absurd hk (by omega)⟩
  have e1 : xFac WS0 t k = 10000 := fil_lo (f := fun _ => (10000 : Int32)) (g := fun _ => 0) (i := 4) hk
  have e2 : mIa WS0 6 (4 * t + k) = 10000 := fil_lo (f := fun _ => (10000 : Int32)) (g := fun _ => 0) (i := 12) (by omega)
  rw [e1, e2]
