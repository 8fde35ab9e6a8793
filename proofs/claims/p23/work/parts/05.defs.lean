/-! what the class's private methods answer, in the numbers of the state -/
theorem le_nI {a b : Nat} (ha : a < 2 ^ 31) (hb : b < 2 ^ 31) (h : nI a ≤ nI b) : a ≤ b := (nI_leI ha hb).mp h
theorem nle_nI {a b : Nat} (ha : a < 2 ^ 31) (hb : b < 2 ^ 31) (h : ¬ nI a ≤ nI b) : b < a := Nat.lt_of_not_le (fun q => h ((nI_leI ha hb).mpr q))
theorem ixN {r : Int32} {n : Nat} (hn : n < 2 ^ 31) (h1 : ¬ r < 0) (h2 : ¬ nI n ≤ r) : r = nI (tN r) ∧ tN r < n := by
  rcases pk_ix r hn with h | h | ⟨j, hj, rfl⟩
  · exact absurd h h1
  · exact absurd h h2
  · unfold tN
    rw [nI_clamp (by omega)]
    exact ⟨rfl, hj⟩
theorem tN_nI {j : Nat} (h : j < 2 ^ 31) : tN (nI j) = j := nI_clamp h
theorem levN_4 (t : Nat) : levN t ≤ 4 := by unfold levN; split <;> omega
theorem levN_3 (t : Nat) : 3 ≤ levN t := by unfold levN; split <;> omega
def lngP (q : Nat) : Nat := if q = 3 then 14 else 9 + q
def xHasTrait (t : Int32) : Bool := !decide (t < 0) && !decide (3 ≤ t)
def xIsWithin (v lo hi : Int32) : Bool := !decide (v < lo) && !decide (hi < v)
def xHasLevel (t k : Int32) : Bool := xHasTrait t && (!decide (k < 0) && !decide (nI (levN (tN t)) ≤ k))
def xHasRow (S : WS) (r : Int32) : Bool := !decide (r < 0) && (!decide (xSc S 0 ≤ r) && !decide (xIa S 1 (tN r) = 0))
theorem xHasTrait_ix {t : Int32} (h : xHasTrait t = true) : t = nI (tN t) ∧ tN t < 3 := by
  simp only [xHasTrait, Bool.and_eq_true, Bool.not_eq_true', decide_eq_false_iff_not] at h
  exact ixN (n := 3) (by decide) h.1 h.2
theorem xHasLevel_ix {t k : Int32} (h : xHasLevel t k = true) : (t = nI (tN t) ∧ tN t < 3) ∧ (k = nI (tN k) ∧ tN k < levN (tN t)) := by
  simp only [xHasLevel, Bool.and_eq_true, Bool.not_eq_true', decide_eq_false_iff_not] at h
  have h3 := levN_4 (tN t)
  exact ⟨xHasTrait_ix h.1, ixN (n := levN (tN t)) (by omega) h.2.1 h.2.2⟩
theorem xHasRow_ix {S : WS} {r : Int32} {n : Nat} (hn : n ≤ 40) (h0 : xSc S 0 = nI n) (h : xHasRow S r = true) : (r = nI (tN r) ∧ tN r < n) ∧ ¬ xIa S 1 (tN r) = 0 := by
  simp only [xHasRow, Bool.and_eq_true, Bool.not_eq_true', decide_eq_false_iff_not, h0] at h
  exact ⟨ixN (n := n) (by omega) h.1 h.2.1, h.2.2⟩
def xTot (live : Nat → Int32) (f : Nat → Int64) : Nat → Int64
  | 0 => 0
  | k + 1 => if live k = 0 then xTot live f k else xTot live f k + f k
theorem xTot_z {live : Nat → Int32} {f : Nat → Int64} {k : Nat} (h : live k = 0) : xTot live f (k + 1) = xTot live f k := if_pos h
theorem xTot_n {live : Nat → Int32} {f : Nat → Int64} {k : Nat} (h : ¬ live k = 0) : xTot live f (k + 1) = xTot live f k + f k := if_neg h
def xLTot (live lv : Nat → Int32) (q : Int32) (f : Nat → Int64) : Nat → Int64
  | 0 => 0
  | k + 1 => if live k = 0 then xLTot live lv q f k else if lv k = q then xLTot live lv q f k + f k else xLTot live lv q f k
theorem xLTot_z {live lv : Nat → Int32} {q : Int32} {f : Nat → Int64} {k : Nat} (h : live k = 0) : xLTot live lv q f (k + 1) = xLTot live lv q f k := if_pos h
theorem xLTot_q {live lv : Nat → Int32} {q : Int32} {f : Nat → Int64} {k : Nat} (h : ¬ live k = 0) (h2 : lv k = q) : xLTot live lv q f (k + 1) = xLTot live lv q f k + f k := (if_neg h).trans (if_pos h2)
theorem xLTot_o {live lv : Nat → Int32} {q : Int32} {f : Nat → Int64} {k : Nat} (h : ¬ live k = 0) (h2 : ¬ lv k = q) : xLTot live lv q f (k + 1) = xLTot live lv q f k := (if_neg h).trans (if_neg h2)
def mx64 (x y : Int64) : Int64 := if y < x then x else y
def mn64 (x y : Int64) : Int64 := if y < x then y else x
def ab64 (x : Int64) : Int64 := if 0 < x then x else -x
def xBnd (v lo hi : Int64) : Int64 := mn64 (mx64 v lo) hi
/-- the class's state as its calls leave it: n rows were added -/
def XI (n : Nat) (S : WS) : Prop := n ≤ 40 ∧ xSc S 0 = nI n ∧ (∀ t k : Nat, t < 3 → k < n → ∃ j : Nat, j < 4 ∧ xLev S t k = nI j) ∧ (∀ k : Nat, k < n → ∃ c : Nat, c ≤ 1000 ∧ xLng S 1 k = lN c) ∧ ∃ c : Nat, c ≤ 1000 ∧ xSc S 2 = nI c
def xFitN (S : WS) (r : Nat) : Nat → Int64
  | 0 => xLng S 0 r * xBase S / 10000
  | t + 1 => xFitN S r t * (xFac S t (tN (xLev S t r))).toInt64 / 10000
def xFit (S : WS) (r : Nat) : Int64 := xFitN S r 3
def xNewP (S : WS) (r : Nat) : Int64 := xLng S 3 r * (xSc S 4).toInt64 / 10000
def mxI (x y : Int32) : Int32 := if x < y then y else x
def xCapP (S : WS) (r : Nat) : Int64 := if xSc S 3 = -1 then xNewP S r else if xIa S 0 r = -1 then xNewP S r else
  xBnd (xNewP S r) ((xIa S 0 r).toInt64 * (mxI (100 - xSc S 3) 0).toInt64 / 100) ((xIa S 0 r).toInt64 * (100 + xSc S 3).toInt64 / 100)
def xAhead (S : WS) (r q : Nat) : Bool := decide (xLng S 2 q * (1 + xLng S 3 r) < xLng S 2 r * (1 + xLng S 3 q)) || (decide (xLng S 2 r * (1 + xLng S 3 q) = xLng S 2 q * (1 + xLng S 3 r)) && !decide (nI q ≤ nI r))
def xCnt (p : Nat → Bool) : Nat → Nat
  | 0 => 0
  | k + 1 => if p k then xCnt p k + 1 else xCnt p k
theorem xCnt_t {p : Nat → Bool} {k : Nat} (h : p k = true) : xCnt p (k + 1) = xCnt p k + 1 := if_pos h
theorem xCnt_f {p : Nat → Bool} {k : Nat} (h : p k = false) : xCnt p (k + 1) = xCnt p k := if_neg (by rw [h]; decide)
theorem xCnt_le (p : Nat → Bool) : ∀ k, xCnt p k ≤ k
  | 0 => Nat.le_refl 0
  | k + 1 => by
    have h := xCnt_le p k
    cases hp : p k
    · rw [xCnt_f hp]; omega
    · rw [xCnt_t hp]; omega
def xPlP (S : WS) (r : Nat) : Nat → Bool := fun k => !decide (xIa S 1 k = 0) && xAhead S k r
def xPlace (S : WS) (r n : Nat) : Nat := xCnt (xPlP S r) n
def xFound (S : WS) (n t k : Nat) : Int32 :=
  if xLTot (xIa S 1) (xLev S t) (nI k) (xLng S 3) n ≤ 0 then xFac S t k else
  if 0 < xLTot (xIa S 1) (xLev S t) (nI k) (xLng S 1) n then
    (xBnd ((xFac S t k).toInt64 + ((xFac S t k).toInt64 * xLTot (xIa S 1) (xLev S t) (nI k) (xLng S 2) n / xLTot (xIa S 1) (xLev S t) (nI k) (xLng S 3) n - (xFac S t k).toInt64) * xLTot (xIa S 1) (xLev S t) (nI k) (xLng S 1) n / (xLTot (xIa S 1) (xLev S t) (nI k) (xLng S 1) n + (xSc S 2).toInt64)) 100 100000).toInt32
  else xFac S t k
/-- f up to i, g behind -/
def fil {α : Type} (f g : Nat → α) (i : Nat) : Nat → α := fun k => if k < i then f k else g k
theorem fil_0 {α : Type} (f g : Nat → α) : fil f g 0 = g := funext fun k => if_neg (Nat.not_lt_zero k)
theorem fil_at {α : Type} (f g : Nat → α) (i : Nat) : fil f g i i = g i := if_neg (Nat.lt_irrefl i)
theorem fil_lo {α : Type} {f g : Nat → α} {i k : Nat} (h : k < i) : fil f g i k = f k := if_pos h
theorem fil_hi {α : Type} {f g : Nat → α} {i k : Nat} (h : i ≤ k) : fil f g i k = g k := if_neg (by omega)
theorem fil_sI (f g : Nat → Int32) (i : Nat) : upd (fil f g i) i (f i) = fil f g (i + 1) := by
  funext k
  unfold upd fil
  by_cases h : k = i
  · subst h; rw [if_pos rfl, if_pos (by omega)]
  · rw [if_neg h]
    by_cases h2 : k < i
    · rw [if_pos h2, if_pos (by omega)]
    · rw [if_neg h2, if_neg (by omega)]
theorem fil_sL (f g : Nat → Int64) (i : Nat) : vp_updL (fil f g i) i (f i) = fil f g (i + 1) := by
  funext k
  unfold vp_updL fil
  by_cases h : k = i
  · subst h; rw [if_pos rfl, if_pos (by omega)]
  · rw [if_neg h]
    by_cases h2 : k < i
    · rw [if_pos h2, if_pos (by omega)]
    · rw [if_neg h2, if_neg (by omega)]
theorem fil_k {α : Type} {f g : Nat → α} {i : Nat} (h : f i = g i) : fil f g (i + 1) = fil f g i := by
  funext k
  unfold fil
  by_cases h1 : k = i
  · subst h1; rw [if_pos (by omega), if_neg (by omega), h]
  · by_cases h2 : k < i
    · rw [if_pos h2, if_pos (by omega)]
    · rw [if_neg h2, if_neg (by omega)]
def xBase1 (S : WS) (n : Nat) : Int64 := if xTot (xIa S 1) (xLng S 0) n ≤ 0 then 0 else 10000 * xTot (xIa S 1) (xLng S 2) n / xTot (xIa S 1) (xLng S 0) n
def xRefit (S : WS) (n : Nat) : WS := xsLng (xsBase S (xBase1 S n)) 3 (fil (xFit (xsBase S (xBase1 S n))) (xLng S 3) n)
def xPassF (S : WS) (n t : Nat) : WS := xsFac S t (fil (xFound S n t) (xFac S t) (levN t))
def xPass (S : WS) (n t : Nat) : WS := xRefit (xPassF S n t) n
def xPasP (S : WS) (n t : Nat) : Nat → Bool := fun k => !decide (xFound S n t k = xFac S t k)
def xPassC (S : WS) (n t : Nat) : Nat := xCnt (xPasP S n t) (levN t)
def xRound (S : WS) (n : Nat) : Nat → WS
  | 0 => S
  | t + 1 => xPass (xRound S n t) n t
def xRoundC (S : WS) (n : Nat) : Nat → Nat
  | 0 => 0
  | t + 1 => xRoundC S n t + xPassC (xRound S n t) n t
theorem wW_lng (g : gG) (S : WS) {q : Nat} (hq : q < 4) : (wW g S)[lngP q]? = some (gA g (lngP q), .inl (gT g 1, 40, .inr (.inl (xLng S q)))) := by
  rcases (show q = 0 ∨ q = 1 ∨ q = 2 ∨ q = 3 by omega) with rfl | rfl | rfl | rfl <;> rfl
section WLNG
variable {p : Program} {l : Launch} {e : Env} {R : Room} {s : State} {m : MethodId} {args : Array Value} {below : List Frame} {meth : Method} {c : Code} {H : Heap} {locs : List Loc} {cells slots : Nat} {Q : State → Prop}
variable {cc : ByteArray} {pc : Nat} {ls : Array Slot} {rest : List Value} {g : gG} {S : WS} {own : String}
theorem ldX_lng (C : CW g own p s m args) (hb : c.code = cc) (hP : HW g S H) {q : Nat} (hq : q < 4) {i : Int32} {j : Nat} (hi : i = nI j) (hj : j < 40) (hdg : decode cc pc = .ok (.laload, 1)) (kk : W p l e R s m args below meth c H locs cells slots Q (F0 m (pc + 1) ls (.long (xLng S q j) :: rest))) : W p l e R s m args below meth c H locs cells slots Q (F0 m (pc) ls (.int i :: .ref (gA g (lngP q)) :: rest)) := by
  subst hi
  refine va_lald (D := gD g) (f := xLng S q) C.1 hb C.2.2.2.1 hP.1 (lngP q) 1 (wW_lng g S hq) rfl (vp_in_nI hj (by decide)) hdg ?_
  rw [nI_clamp (by omega)]
  exact kk
end WLNG
