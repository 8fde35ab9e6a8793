/-! smoothing in step -/
theorem xLowF_cong {f g : Nat → Int32} : ∀ d i : Nat, 1 ≤ i → (∀ k, k < i + d → f k = g k) → xLowF f d i = xLowF g d i
  | 0, _, _, _ => rfl
  | d + 1, i, hi, h => by
    have ih := xLowF_cong (f := f) (g := g) d (i + 1) (by omega) (fun k hk => h k (by omega))
    show (if f (i - 1) ≤ f i then xLowF f d (i + 1) else nI i) = (if g (i - 1) ≤ g i then xLowF g d (i + 1) else nI i)
    rw [h i (by omega), h (i - 1) (by omega), ih]
def SR (n t : Nat) (S T : WS) : Prop := RC n S T ∧ (∀ k, k < levN t → xIa S 2 k = mIa T 8 k) ∧ (∀ k, k < levN t → xIa S 3 k = mIa T 7 k) ∧ xJI S t ∧ mJI T t
section SMO
variable {n t : Nat} {S T : WS}
theorem sr_low (ht : t < 3) (h : SR n t S T) : xLow S t = mLowS T t := by
  have q3 := levN_3 t
  have q4 := levN_4 t
  exact xLowF_cong _ _ (Nat.le_refl 1) (fun k hk => h.1.2.2.2.2.2.2.1 t k ht (by omega))
theorem xCnt_ge1 {k : Nat} (h : 0 < k) (h2 : k ≤ 40) : mxI (nI k) 1 = nI k := by
  unfold mxI
  rw [if_neg (fun q => by have := (nI_ltI (a := k) (b := 1) (by omega) (by decide)).mp q; omega)]
theorem sr_mean (ht : t < 3) (h : SR n t S T) {fl st : Nat} (hfl : fl < levN t) (hst : st < fl) (h1 : mIa T 8 fl = nI fl) (hf : xIa S 2 fl = nI fl) : xMean (xJoin1 S t fl st) n t st = (mMean T n t (nI st) (nI fl)).toInt32 := by
  have q4 := levN_4 t
  have hR : RC n (xJoin1 S t fl st) T := h.1
  have hP : ∀ k, k < levN t → xGP (xJoin1 S t fl st) st k = mMP T (nI st) (nI fl) k := fun k hk => by
    have e5 : xIa (xJoin1 S t fl st) 2 k = if xIa S 2 k = nI st ∨ xIa S 2 k = nI fl then nI st else xIa S 2 k := xJoin_J (n := n) h.2.2.2.1 hfl hk
    have e6 := h.2.1 k hk
    obtain ⟨s, g1, g2, -⟩ := JI_st h.2.2.2.1 k hk
    unfold xGP mMP
    rw [e5, ← e6]
    by_cases c : xIa S 2 k = nI st
    · have hs : s = st := (nI_eq (by omega) (by omega)).mp (g2.symm.trans c)
      have : st ≤ k := by omega
      simp [c, this]
    · by_cases d : xIa S 2 k = nI fl
      · have hs : s = fl := (nI_eq (by omega) (by omega)).mp (g2.symm.trans d)
        have : st ≤ k := by omega
        simp [d, this]
      · simp [c, d]
  have hW : ∀ k, k < levN t → xWt (xJoin1 S t fl st) n t k = mEx T n t k := fun k hk => exp_eq hR ht _
  have hF : ∀ k, k < levN t → xFac (xJoin1 S t fl st) t k = mIa T 6 (4 * t + k) := fun k hk => hR.2.2.2.2.2.2.1 t k ht (by omega)
  have e1 : wsum (xGP (xJoin1 S t fl st) st) (xWt (xJoin1 S t fl st) n t) (levN t) = wsum (mMP T (nI st) (nI fl)) (mEx T n t) (levN t) := wsum_cong _ hP hW
  have e2 : wsum (xGP (xJoin1 S t fl st) st) (fun k => (xFac (xJoin1 S t fl st) t k).toInt64) (levN t) = wsum (mMP T (nI st) (nI fl)) (fun k => (mIa T 6 (4 * t + k)).toInt64) (levN t) := wsum_cong _ hP (fun k hk => congrArg Int32.toInt64 (hF k hk))
  have e3 : wsum (xGP (xJoin1 S t fl st) st) (fun k => xWt (xJoin1 S t fl st) n t k * (xFac (xJoin1 S t fl st) t k).toInt64) (levN t) = wsum (mMP T (nI st) (nI fl)) (fun k => mEx T n t k * (mIa T 6 (4 * t + k)).toInt64) (levN t) := wsum_cong _ hP (fun k hk => by
    show xWt (xJoin1 S t fl st) n t k * (xFac (xJoin1 S t fl st) t k).toInt64 = mEx T n t k * (mIa T 6 (4 * t + k)).toInt64
    rw [hW k hk, hF k hk])
  have e4 : xCnt (xGP (xJoin1 S t fl st) st) (levN t) = xCnt (mMP T (nI st) (nI fl)) (levN t) := xCnt_cong _ hP
  have hpos : 0 < xCnt (mMP T (nI st) (nI fl)) (levN t) := xCnt_some (levN t) fl hfl (by simp [mMP, h1])
  have hle := xCnt_le (mMP T (nI st) (nI fl)) (levN t)
  obtain ⟨c, hc, ec⟩ := wsum_small (P := mMP T (nI st) (nI fl)) (f := mEx T n t) (B := 40000) (levN t) (fun i hi => expo_small h.1 (mHas T t (nI i)))
  have hc2 : c ≤ 160000 := by
    have : levN t * 40000 ≤ 4 * 40000 := Nat.mul_le_mul_right _ q4
    omega
  unfold xMean mMean
  rw [e1, e2, e3, e4, xCnt_ge1 hpos (by omega), ec]
  by_cases q : c = 0
  · rw [if_pos ((lN_le0 (by omega)).mpr q), if_pos ((lN_z (by omega)).mpr q)]
  · rw [if_neg (fun r => q ((lN_le0 (by omega)).mp r)), if_neg (fun r => q ((lN_z (by omega)).mp r))]
theorem sr_step (ht : t < 3) (h : SR n t S T) (hl : ¬ xLow S t = -1) : SR n t (xJoin S n t (tN (xLow S t)) (xJst S t)) (mStep T n t) := by
  have q4 := levN_4 t
  have el := sr_low ht h
  have hl2 : ¬ mLowS T t = -1 := fun q => hl (el.trans q)
  obtain ⟨h1, h2, h3, h4⟩ := xLow_cases hl
  obtain ⟨g1, g2, g3⟩ := xJst_ok h.2.2.2.1 hl
  obtain ⟨s, k1, k2, k3, k4⟩ := mStep_ok h.2.2.2.2 hl2
  rw [← el] at k1 k2 k4
  have hf : xIa S 2 (tN (xLow S t)) = nI (tN (xLow S t)) := (h.2.1 _ h3).trans k4
  have es : s = xJst S t := by
    have := (h.2.1 (tN (xLow S t) - 1) (by omega)).symm.trans g1
    exact (nI_eq (by omega) (by omega)).mp (k2.symm.trans this)
  subst es
  have em : mStep T n t = mMeans T n t (nI (xJst S t)) (nI (tN (xLow S t))) := by
    unfold mStep
    rw [← el, k2, k4]
  have emean := sr_mean ht h h3 g2 k4 hf
  have hxJ := xJI_join (n := n) h.2.2.2.1 hl
  have hmJ := mJI_step (n := n) h.2.2.2.2 hl2
  rw [em] at hmJ ⊢
  obtain ⟨hR, c1, c2, hx0, -⟩ := h
  obtain ⟨r1, r2, r5, r6, r7, r8, r9, r10⟩ := hR
  refine ⟨⟨r1, r2, r5, r6, r7, r8, fun u k hu hk => ?_, r10⟩, fun k hk => ?_, c2, hxJ, hmJ⟩
  · have em : mIa (mMeans T n t (nI (xJst S t)) (nI (tN (xLow S t)))) 6 (4 * u + k) = mMF T t (nI (xJst S t)) (nI (tN (xLow S t))) (mMean T n t (nI (xJst S t)) (nI (tN (xLow S t)))).toInt32 (levN t) (4 * u + k) := congrFun (mia_at (msIa T 8 _) 6 _) _
    have ex : xFac (xJoin S n t (tN (xLow S t)) (xJst S t)) u = va_up (xFac S) t (xJoinF (xJoin1 S t (tN (xLow S t)) (xJst S t)) t (xJst S t) (xMean (xJoin1 S t (tN (xLow S t)) (xJst S t)) n t (xJst S t)) (levN t)) u := rfl
    by_cases c : u = t
    · subst c
      by_cases d : k < levN u
      · have a1 := xJoin_F (n := n) hx0 h3 g2 d
        have a2 := mMeans_F T n u (nI (xJst S u)) (nI (tN (xLow S u))) d
        have a3 : mF (mMeans T n u (nI (xJst S u)) (nI (tN (xLow S u)))) u k = mIa (mMeans T n u (nI (xJst S u)) (nI (tN (xLow S u)))) 6 (4 * u + k) := rfl
        rw [a1, ← a3, a2, c1 k d, emean, r9 u k hu hk]
        rfl
      · rw [em, congrFun ex k, va_up_self]
        unfold mMF xJoinF
        rw [if_neg (fun q => d q.2.1), if_neg (fun q => by omega)]
        exact r9 u k hu hk
    · rw [em, congrFun ex k, va_up_ne _ _ c]
      unfold mMF
      rw [if_neg (fun q => by omega)]
      exact r9 u k hu hk
  · have a1 := xJoin_J (n := n) hx0 h3 (st := xJst S t) hk
    have a2 := mMeans_J T n t (nI (xJst S t)) (nI (tN (xLow S t))) hk
    rw [a1, a2, c1 k hk]
theorem sr_run (ht : t < 3) : ∀ (d : Nat) (S T : WS), SR n t S T → SR n t (xSmF n t d S) (mSmF n t d T)
  | 0, _, _, h => h
  | d + 1, S, T, h => by
    have el := sr_low ht h
    by_cases c : xLow S t = -1
    · have e1 : xSmF n t (d + 1) S = S := if_pos c
      have e2 : mSmF n t (d + 1) T = T := if_pos (el.symm.trans c)
      rw [e1, e2]; exact h
    · have e1 : xSmF n t (d + 1) S = xSmF n t d (xJoin S n t (tN (xLow S t)) (xJst S t)) := if_neg c
      have e2 : mSmF n t (d + 1) T = mSmF n t d (mStep T n t) := if_neg (fun q => c (el.trans q))
      rw [e1, e2]
      exact sr_run ht d _ _ (sr_step ht h c)
theorem sr_0 (ht : t < 3) (h : RC n S T) : SR n t (xSm0 S t (levN t)) (mSm0 T t (levN t)) := by
  have q4 := levN_4 t
  refine ⟨h, fun k hk => ?_, fun k hk => ?_, xJI_0 S t, mJI_0 T t⟩
  · have e1 : xIa (xSm0 S t (levN t)) 2 = fil nI (xIa S 2) (levN t) := ia_at _ 2 _
    have e2 : mIa (mSm0 T t (levN t)) 8 = fil nI (mIa T 8) (levN t) := mia_at T 8 _
    rw [e1, e2, fil_lo hk, fil_lo hk]
  · have e1 : xIa (xSm0 S t (levN t)) 3 = fil (xFac S t) (xIa S 3) (levN t) := ia_at S 3 _
    have e2 : mIa (mSm0 T t (levN t)) 7 = fil (mF T t) (mIa T 7) (levN t) := mia_at (msIa T 8 _) 7 _
    rw [e1, e2, fil_lo hk, fil_lo hk]
    exact h.2.2.2.2.2.2.1 t k ht (by omega)
end SMO
theorem o_smooth {n : Nat} {S T : WS} (h : RR n S T) (t : Int32) : mSc (mR_smooth T n t) 3 = cdE eIOB (xE_trait t) ∧ (xE_trait t = none → nI (xV_smooth S n (tN t)) = mV_smooth T n t) ∧ RR n (xR_smooth S n t) (mR_smooth T n t) ∧ (xR_smooth S n t).2 = S.2 ∧ (mR_smooth T n t).1 = T.1 := by
  unfold xE_trait mR_smooth xR_smooth mV_smooth
  cases ht : xHasTrait t
  · exact ⟨rfl, fun q => (by cases q), h, rfl, rfl⟩
  · have e := (xHasTrait_ix ht).2
    have q4 := levN_4 (tN t)
    have h2 : RC n S (mGo T true true true) := h.1
    have hs := sr_run e (levN (tN t)) _ _ (sr_0 e h2)
    have hr := refit_RL hs.1
    have hl : mSc (mSmS (mGo T true true true) n (tN t)) 3 = 0 := by
      have key : ∀ (d : Nat) (U : WS), (mSmF n (tN t) d U).2.1.2.1 = U.2.1.2.1 := by
        intro d
        induction d with
        | zero => intro U; rfl
        | succ d ih =>
          intro U
          by_cases c : mLowS U (tN t) = -1
          · have e2 : mSmF n (tN t) (d + 1) U = U := if_pos c
            rw [e2]
          · have e2 : mSmF n (tN t) (d + 1) U = mSmF n (tN t) d (mStep U n (tN t)) := if_neg c
            rw [e2, ih]; rfl
      exact congrFun (key (levN (tN t)) (mSm0 (mGo T true true true) (tN t) (levN (tN t)))) 3
    refine ⟨hl, fun _ => congrArg nI (xCnt_cong _ (fun k hk => ?_)), hr, ?_, ?_⟩
    · have a1 := hs.1.2.2.2.2.2.2.1 (tN t) k e (by omega)
      have a2 := hs.2.2.1 k hk
      show (!decide (xFac (xSmF n (tN t) (levN (tN t)) (xSm0 S (tN t) (levN (tN t)))) (tN t) k = xIa (xSmF n (tN t) (levN (tN t)) (xSm0 S (tN t) (levN (tN t)))) 3 k)) = !decide (mIa (mSmF n (tN t) (levN (tN t)) (mSm0 (mGo T true true true) (tN t) (levN (tN t)))) 6 (4 * tN t + k) = mIa (mSmF n (tN t) (levN (tN t)) (mSm0 (mGo T true true true) (tN t) (levN (tN t)))) 7 k)
      rw [a1, a2]
    · exact fr_smF n (tN t) (levN (tN t)) (xSm0 S (tN t) (levN (tN t)))
    · exact fm_smF n (tN t) (levN (tN t)) (mSm0 (mGo T true true true) (tN t) (levN (tN t)))
