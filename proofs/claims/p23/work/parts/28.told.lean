/-! what the law asks of the class -/
section TOLD
variable {n : Nat} {T S : WS}
theorem row_live (h : LN n T) {k : Nat} (hk : k < n) (hv : ¬ xIa T 1 k = 0) : xHasRow T (nI k) = true := by
  have hn := ln_n h
  have e0 : xSc T 0 = nI n := h.1.2.1
  unfold xHasRow
  rw [e0, tN_nI (by omega), decide_eq_false (nI_pos (by omega)), decide_eq_false (fun q => by have := (nI_leI (a := n) (b := k) (by omega) (by omega)).mp q; omega), decide_eq_false hv]
  rfl
theorem row_gone (h : LN n T) {k : Nat} (hk : k < n) (hv : xIa T 1 k = 0) : xHasRow T (nI k) = false := by
  have hn := ln_n h
  unfold xHasRow
  rw [tN_nI (by omega), decide_eq_true hv]
  simp
theorem row_0 (h : LN n T) (hn0 : n = 0) : xHasRow T (nI 0) = false := by
  have e0 : xSc T 0 = nI n := h.1.2.1
  unfold xHasRow
  rw [e0, hn0, decide_eq_true (show nI 0 ≤ nI 0 by decide)]
  simp
theorem rtV_live (h : LN n T) {k : Nat} (hk : k < n) (hv : ¬ xIa T 1 k = 0) (v : Int64) : rtV T v k = v := if_pos (row_live h hk hv)
theorem rtV_gone (h : LN n T) {k : Nat} (hk : k < n) (hv : xIa T 1 k = 0) (v : Int64) : rtV T v k = -5 := if_neg (by rw [row_gone h hk hv]; decide)
theorem lr_cnt (h : LR n T S) {k : Nat} (hk : k < n) : nI (xCnt (xLiv T) k) + (1 - lA S 5 k) = nI (xCnt (xLiv T) (k + 1)) := by
  rw [h.2.2.1 k hk]
  by_cases c : xIa T 1 k = 0
  · rw [if_pos c, xCnt_f (by simp [xLiv, c])]
    exact Int32.add_zero _
  · rw [if_neg c, xCnt_t (by simp [xLiv, c])]
    exact nI_1 _
theorem lr_rows (h : LR n T S) : xSc T 1 = nI (xCnt (xLiv T) n) := h.1.2.2.2.2.2.2.2.1
theorem has_tr {t : Nat} (ht : t < 3) : xHasTrait (nI t) = true := by
  unfold xHasTrait
  rw [decide_eq_false (nI_pos (by omega)), decide_eq_false (fun q => by have := (nI_leI (a := 3) (b := t) (by decide) (by omega)).mp q; omega)]
  rfl
theorem has_lev {t k : Nat} (ht : t < 3) (hk : k < levN t) : xHasLevel (nI t) (nI k) = true := by
  have h4 := levN_4 t
  unfold xHasLevel
  rw [has_tr ht, tN_nI (by omega), decide_eq_false (nI_pos (by omega)), decide_eq_false (fun q => by have := (nI_leI (a := levN t) (b := k) (by omega) (by omega)).mp q; omega)]
  rfl
theorem ex_lev {t k : Nat} (ht : t < 3) (hk : k < levN t) : xE_level (nI t) (nI k) = none := by
  unfold xE_level
  rw [has_lev ht hk]
  rfl
theorem ex_tr {t : Nat} (ht : t < 3) : xE_trait (nI t) = none := by
  unfold xE_trait
  rw [has_tr ht]
  rfl
theorem dif_p (h : LN n T) (t k : Nat) (c : ¬ sLos T n t k ≤ sFit T n t k) : sLos T n t k - sFit T n t k = ab64 (sLos T n t k - sFit T n t k) := by
  obtain ⟨a, ha, e1⟩ := s_los h t k
  obtain ⟨b, hb, e2⟩ := s_fit h t k
  rw [e1, e2] at c ⊢
  have hab : b < a := Nat.lt_of_not_le fun q => c ((pk_lLE (by omega) (by omega)).mpr q)
  unfold ab64
  rw [lN_sub (by omega), if_pos ((lN_p' (by omega)).mpr (by omega))]
theorem dif_n (h : LN n T) (t k : Nat) (c : sLos T n t k ≤ sFit T n t k) : sFit T n t k - sLos T n t k = ab64 (sLos T n t k - sFit T n t k) := by
  obtain ⟨a, ha, e1⟩ := s_los h t k
  obtain ⟨b, hb, e2⟩ := s_fit h t k
  rw [e1, e2] at c ⊢
  have hab : a ≤ b := (pk_lLE (by omega) (by omega)).mp c
  have e3 := pk_lT (n := a) (by omega)
  have e4 := pk_lT (n := b) (by omega)
  unfold ab64
  rw [if_neg, Int64.neg_sub]
  rw [Int64.lt_iff_toInt_lt, ti_sub (x := lN a) (y := lN b) (by rw [e3, e4]; omega) (by rw [e3, e4]; omega), e3, e4, show (0 : Int64).toInt = 0 from by decide]
  omega
theorem wst_le {S : WS} {n t k : Nat} (c : ab64 (sLos S n t k - sFit S n t k) ≤ xWorst S n t k) : xWorst S n t k = xWorst S n t (k + 1) := by
  show _ = mx64 (xWorst S n t k) (ab64 (sLos S n t k - sFit S n t k))
  unfold mx64
  by_cases d : ab64 (sLos S n t k - sFit S n t k) < xWorst S n t k
  · rw [if_pos d]
  · rw [if_neg d]
    exact Int64.le_antisymm (Int64.not_lt.mp d) c
theorem wst_gt {S : WS} {n t k : Nat} (c : ¬ ab64 (sLos S n t k - sFit S n t k) ≤ xWorst S n t k) : ab64 (sLos S n t k - sFit S n t k) = xWorst S n t (k + 1) := by
  show _ = mx64 (xWorst S n t k) (ab64 (sLos S n t k - sFit S n t k))
  unfold mx64
  rw [if_neg (fun d => c (Int64.le_of_lt d))]
end TOLD
