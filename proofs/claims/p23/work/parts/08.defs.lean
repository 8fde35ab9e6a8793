theorem nI_sub1 {i : Nat} (h : 1 ≤ i) : nI i - 1 = nI (i - 1) := by
  obtain ⟨k, rfl⟩ : ∃ k, i = k + 1 := ⟨i - 1, by omega⟩
  exact nI_pred k
theorem xGP_lo (S : WS) (st : Nat) : ∀ i : Nat, i < st → xGP S st i = false := fun i h => by
  have h2 : ¬ st ≤ i := by omega
  simp [xGP, h2]
theorem xPassC_le (S : WS) (n t : Nat) : xPassC S n t ≤ 4 := Nat.le_trans (xCnt_le _ _) (levN_4 t)
theorem xRoundC_le (S : WS) (n : Nat) : ∀ t : Nat, xRoundC S n t ≤ 4 * t
  | 0 => Nat.le_refl 0
  | t + 1 => by
    have h1 := xRoundC_le S n t
    have h2 := xPassC_le (xRound S n t) n t
    show xRoundC S n t + xPassC (xRound S n t) n t ≤ 4 * (t + 1)
    omega
def xSettle (n : Nat) : Nat → Nat → WS → Nat × WS
  | 0, _, S => (60, S)
  | f + 1, r, S => if xRoundC S n 3 = 0 then (r, xRound S n 3) else xSettle n f (r + 1) (xRound S n 3)
def xSpr1 (S : WS) (n : Nat) : Int32 := (xBnd ((xSc S 4).toInt64 * mn64 (10000 * xTot (xIa S 1) (xLng S 3) n / xTot (xIa S 1) (xCapP S) n) 1000000 / 10000) 1 1000000).toInt32
def xSpread (S : WS) (n : Nat) : WS := if xTot (xIa S 1) (xCapP S) n ≤ 0 then S else xsSc S 4 (xSpr1 S n)
