/-! how great the class's numbers are, and the law's pass -/
theorem lN_st {a f A : Nat} (ha : a ≤ A) (hA : A ≤ 1000000000000) (hf : f ≤ 100000) : lN a * (nI f).toInt64 / 10000 = lN (a * f / 10000) ∧ a * f / 10000 ≤ 10 * A := by
  have h1 : a * f ≤ A * 100000 := Nat.mul_le_mul ha hf
  have h2 : a * f ≤ 1000000000000 * 100000 := Nat.le_trans h1 (Nat.mul_le_mul_right _ hA)
  constructor
  · rw [nI_l (by omega), lN_mul]
    show lN _ / lN 10000 = _
    rw [pk_lDiv (by omega) (by decide) (by decide)]
  · omega
section NUM
variable {n : Nat} {T S : WS}
theorem ln_n (h : LN n T) : n ≤ 12 := h.2.1
theorem ln_loss (h : LN n T) {k : Nat} (hk : k < n) : NL 1000000 (xLng T 2 k) := (h.2.2.2.1 k hk).2.2.1
theorem ln_clm (h : LN n T) {k : Nat} (hk : k < n) : NL 1000 (xLng T 1 k) := h.1.2.2.2.1 k hk
theorem ln_fac (h : LN n T) {t k : Nat} (ht : t < 3) (hk : k < levN t) : ∃ f : Nat, 100 ≤ f ∧ f ≤ 100000 ∧ xFac T t k = nI f := h.2.2.2.2.1 t k ht hk
theorem ln_cred (h : LN n T) : ∃ c : Nat, c ≤ 1000 ∧ xSc T 2 = nI c := h.1.2.2.2.2
theorem ln_lev (h : LN n T) {t k : Nat} (ht : t < 3) (hk : k < n) : tN (xLev T t k) < levN t := by
  obtain ⟨j, hj, e⟩ := h.2.2.1 t k ht hk
  have h4 := levN_4 t
  rw [e, tN_nI (by omega)]
  exact hj
theorem ln_fit0 (h : LN n T) {k : Nat} (hk : k < n) (hv : ¬ xIa T 1 k = 0) : NL 12000000 (xFitN T k 0) := by
  have hn := ln_n h
  obtain ⟨x, hx1, hx2, ex⟩ := (h.2.2.2.1 k hk).2.1
  obtain ⟨E, hE1, hE2, eE⟩ := xTot_ge (lv := xIa T 1) (f := xLng T 0) (B := 1000) n (fun i hi _ => ln_exp h hi) k x hk hv ex (by omega) (by omega)
  obtain ⟨D, hD, eD⟩ := xTot_small (lv := xIa T 1) (f := xLng T 2) (B := 1000000) n (fun i hi _ => ln_loss h hi)
  have hE3 : E ≤ 12000 := by have : n * 1000 ≤ 12 * 1000 := Nat.mul_le_mul_right _ hn; omega
  have hD3 : D ≤ 12000000 := by have : n * 1000000 ≤ 12 * 1000000 := Nat.mul_le_mul_right _ hn; omega
  have hb : xBase T = lN (10000 * D / E) := by
    rw [h.2.2.2.2.2.2.2.2.1]
    unfold xBase1
    rw [eE, eD, if_neg (fun q => by have := (lN_le0 (c := E) (by omega)).mp q; omega)]
    show lN 10000 * lN D / lN E = _
    rw [lN_mul, pk_lDiv (by omega) (by omega) (by omega)]
  have h1 : 10000 * D / E * E ≤ 10000 * D := Nat.div_mul_le_self _ _
  have h2 : x * (10000 * D / E) ≤ E * (10000 * D / E) := Nat.mul_le_mul_right _ hE1
  have h3 : E * (10000 * D / E) = 10000 * D / E * E := Nat.mul_comm _ _
  refine ⟨x * (10000 * D / E) / 10000, by omega, ?_⟩
  show xLng T 0 k * xBase T / 10000 = _
  rw [ex, hb, lN_mul]
  show lN _ / lN 10000 = _
  rw [pk_lDiv (by omega) (by decide) (by decide)]
theorem ln_fitN (h : LN n T) {k : Nat} (hk : k < n) (hv : ¬ xIa T 1 k = 0) : NL 12000000000 (xFit T k) := by
  have st : ∀ t A, t < 3 → A ≤ 1000000000000 → NL A (xFitN T k t) → NL (10 * A) (xFitN T k (t + 1)) := by
    intro t A ht hA ⟨a, ha, e⟩
    obtain ⟨f, hf1, hf2, ef⟩ := ln_fac h ht (ln_lev h ht hk)
    obtain ⟨e1, h1⟩ := lN_st ha hA hf2
    refine ⟨a * f / 10000, h1, ?_⟩
    show xFitN T k t * (xFac T t (tN (xLev T t k))).toInt64 / 10000 = _
    rw [e, ef, e1]
  exact st 2 1200000000 (by decide) (by decide) (st 1 120000000 (by decide) (by decide) (st 0 12000000 (by decide) (by decide) (ln_fit0 h hk hv)))
theorem ln_fit (h : LN n T) {k : Nat} (hk : k < n) (hv : ¬ xIa T 1 k = 0) : NL 12000000000 (xLng T 3 k) := by
  rw [h.2.2.2.2.2.2.2.2.2 k hk]
  exact ln_fitN h hk hv
abbrev sFit (T : WS) (n t k : Nat) : Int64 := xLTot (xIa T 1) (xLev T t) (nI k) (xLng T 3) n
abbrev sClm (T : WS) (n t k : Nat) : Int64 := xLTot (xIa T 1) (xLev T t) (nI k) (xLng T 1) n
abbrev sLos (T : WS) (n t k : Nat) : Int64 := xLTot (xIa T 1) (xLev T t) (nI k) (xLng T 2) n
abbrev sExp (T : WS) (n t k : Nat) : Int64 := xLTot (xIa T 1) (xLev T t) (nI k) (xLng T 0) n
theorem s_fit (h : LN n T) (t k : Nat) : ∃ c : Nat, c ≤ 144000000000 ∧ sFit T n t k = lN c := by
  obtain ⟨c, hc, e⟩ := xLTot_sm (live := xIa T 1) (lv := xLev T t) (q := nI k) (f := xLng T 3) (B := 12000000000) n (fun i hi hv => ln_fit h hi hv)
  have hn := ln_n h
  have : n * 12000000000 ≤ 12 * 12000000000 := Nat.mul_le_mul_right _ hn
  exact ⟨c, by omega, e⟩
theorem s_clm (h : LN n T) (t k : Nat) : ∃ c : Nat, c ≤ 12000 ∧ sClm T n t k = lN c := by
  obtain ⟨c, hc, e⟩ := xLTot_sm (live := xIa T 1) (lv := xLev T t) (q := nI k) (f := xLng T 1) (B := 1000) n (fun i hi _ => ln_clm h hi)
  have hn := ln_n h
  have : n * 1000 ≤ 12 * 1000 := Nat.mul_le_mul_right _ hn
  exact ⟨c, by omega, e⟩
theorem s_exp (h : LN n T) (t k : Nat) : ∃ c : Nat, c ≤ 12000 ∧ sExp T n t k = lN c := by
  obtain ⟨c, hc, e⟩ := xLTot_sm (live := xIa T 1) (lv := xLev T t) (q := nI k) (f := xLng T 0) (B := 1000) n (fun i hi _ => ln_exp h hi)
  have hn := ln_n h
  have : n * 1000 ≤ 12 * 1000 := Nat.mul_le_mul_right _ hn
  exact ⟨c, by omega, e⟩
theorem s_los (h : LN n T) (t k : Nat) : ∃ c : Nat, c ≤ 12000000 ∧ sLos T n t k = lN c := by
  obtain ⟨c, hc, e⟩ := xLTot_sm (live := xIa T 1) (lv := xLev T t) (q := nI k) (f := xLng T 2) (B := 1000000) n (fun i hi _ => ln_loss h hi)
  have hn := ln_n h
  have : n * 1000000 ≤ 12 * 1000000 := Nat.mul_le_mul_right _ hn
  exact ⟨c, by omega, e⟩
theorem lN_le0' {c : Nat} (hc : c < 2 ^ 63) : lN c ≤ 0 ↔ c = 0 := by
  have := pk_lLE (a := c) (b := 0) hc (by decide)
  constructor
  · intro q; have := this.mp q; omega
  · intro q; exact this.mpr (by omega)
theorem lN_z' {c : Nat} (hc : c < 2 ^ 63) : lN c = 0 ↔ c = 0 := pk_lEQ (a := c) (b := 0) hc (by decide)
theorem lN_p' {c : Nat} (hc : c < 2 ^ 63) : 0 < lN c ↔ 0 < c := pk_lLT (a := 0) (b := c) (by decide) hc
theorem ti_mul {x y : Int64} (h1 : -(2 ^ 63) ≤ x.toInt * y.toInt) (h2 : x.toInt * y.toInt < 2 ^ 63) : (x * y).toInt = x.toInt * y.toInt := by
  rw [Int64.toInt_mul]
  exact Int.bmod_eq_of_le (by omega) (by omega)
theorem ti_sub {x y : Int64} (h1 : -(2 ^ 63) ≤ x.toInt - y.toInt) (h2 : x.toInt - y.toInt < 2 ^ 63) : (x - y).toInt = x.toInt - y.toInt := by
  rw [Int64.toInt_sub]
  exact Int.bmod_eq_of_le (by omega) (by omega)
theorem neg_div64 {x y : Int64} (hx : -(2 ^ 63) < x.toInt) (hx2 : x.toInt < 2 ^ 63) : -(-x / y) = x / y := by
  have e1 : (-x).toInt = -x.toInt := by
    rw [Int64.toInt_neg]
    exact Int.bmod_eq_of_le (by omega) (by omega)
  rw [← Int64.toInt_inj, Int64.toInt_neg, Int64.toInt_div, Int64.toInt_div, e1, Int.neg_tdiv, Int.bmod_neg_bmod, Int.neg_neg]
/-- what a level of the law's pass finds, as a long -/
def pF (T : WS) (n t : Nat) : Nat → Int64 := fun k => (xFound T n t k).toInt64
def pBy (T : WS) (n t k : Nat) : Int64 := ((xFac T t k).toInt64 * sLos T n t k / sFit T n t k - (xFac T t k).toInt64) * sClm T n t k
def pV (T : WS) (n t k : Nat) : Int64 := (xFac T t k).toInt64 + pBy T n t k / (sClm T n t k + (xSc T 2).toInt64)
theorem pF_z {t k : Nat} (hz : sFit T n t k = 0) : (xFac T t k).toInt64 = pF T n t k := by
  unfold pF xFound
  rw [if_pos (by show sFit T n t k ≤ 0; rw [hz]; decide)]
theorem pF_c {t k : Nat} (hz : sClm T n t k = 0) : (xFac T t k).toInt64 = pF T n t k := by
  unfold pF xFound
  by_cases c : xLTot (xIa T 1) (xLev T t) (nI k) (xLng T 3) n ≤ 0
  · rw [if_pos c]
  · rw [if_neg c, if_neg (by show ¬ 0 < sClm T n t k; rw [hz]; decide)]
theorem i64_r {y : Int64} (h1 : 100 ≤ y) (h2 : y ≤ 100000) : y.toInt32.toInt64 = y := by
  rw [Int64.le_iff_toInt_le] at h1 h2
  rw [show (100 : Int64).toInt = 100 from by decide] at h1
  rw [show (100000 : Int64).toInt = 100000 from by decide] at h2
  obtain ⟨c, hc⟩ : ∃ c : Nat, y.toInt = (c : Int) := ⟨y.toInt.toNat, by omega⟩
  have e : y = lN c := Int64.toInt_inj.mp (by rw [hc, lN_toInt (by omega)])
  rw [e, lN_i, nI_l (by omega)]
theorem bnd_rng (v : Int64) : 100 ≤ xBnd v 100 100000 ∧ xBnd v 100 100000 ≤ 100000 := by
  rw [mnmx (by decide)]
  by_cases c : v < 100
  · rw [if_pos c]; decide
  · rw [if_neg c]
    by_cases d : 100000 < v
    · rw [if_pos d]; decide
    · rw [if_neg d]; exact ⟨Int64.not_lt.mp c, Int64.not_lt.mp d⟩
theorem pF_m (h : LN n T) {t k : Nat} (h1 : ¬ sFit T n t k = 0) (h2 : ¬ sClm T n t k = 0) : pF T n t k = if pV T n t k < 100 then 100 else if 100000 < pV T n t k then 100000 else pV T n t k := by
  obtain ⟨c, hc, e⟩ := s_fit h t k
  obtain ⟨d, hd, e2⟩ := s_clm h t k
  have q1 : ¬ sFit T n t k ≤ 0 := by
    intro q; rw [e] at q h1
    exact h1 ((lN_z' (by omega)).mpr ((lN_le0' (by omega)).mp q))
  have q2 : 0 < sClm T n t k := by
    rw [e2] at h2 ⊢
    refine (lN_p' (by omega)).mpr (Nat.pos_of_ne_zero fun q => h2 ((lN_z' (by omega)).mpr q))
  have e3 : pF T n t k = (xBnd (pV T n t k) 100 100000).toInt32.toInt64 := by
    unfold pF xFound
    rw [if_neg q1, if_pos q2]
    rfl
  rw [e3, i64_r (bnd_rng _).1 (bnd_rng _).2, mnmx (by decide)]
theorem pBy_lo (h : LN n T) {t k : Nat} (ht : t < 3) (hk : k < levN t) (h1 : ¬ sFit T n t k = 0) : -(2 ^ 63) < (pBy T n t k).toInt ∧ (pBy T n t k).toInt < 2 ^ 63 := by
  obtain ⟨F, hF, e⟩ := s_fit h t k
  obtain ⟨d, hd, e2⟩ := s_clm h t k
  obtain ⟨a, ha, e3⟩ := s_los h t k
  obtain ⟨f, hf1, hf2, e4⟩ := ln_fac h ht hk
  have hm : f * a ≤ 100000 * 12000000 := Nat.mul_le_mul hf2 ha
  have hF0 : 0 < F := Nat.pos_of_ne_zero fun q => h1 (by rw [e, q]; rfl)
  have hq : f * a / F ≤ f * a := Nat.div_le_self _ _
  have e5 : (xFac T t k).toInt64 * sLos T n t k / sFit T n t k = lN (f * a / F) := by
    rw [e, e3, e4, nI_l (by omega), lN_mul, pk_lDiv (by omega) hF0 (by omega)]
  have hq2 : f * a / F ≤ 1200000000000 := Nat.le_trans hq hm
  generalize f * a / F = q at e5 hq2
  have e7 := pk_lT (n := q) (by omega)
  have e8 := pk_lT (n := f) (by omega)
  have e9 := pk_lT (n := d) (by omega)
  have e6 : ((xFac T t k).toInt64 * sLos T n t k / sFit T n t k - (xFac T t k).toInt64).toInt = (q : Int) - (f : Int) := by
    rw [e5, e4, nI_l (by omega), ti_sub (x := lN q) (y := lN f) (by rw [e7, e8]; omega) (by rw [e7, e8]; omega), e7, e8]
  have lo : (-100000 : Int) * 12000 ≤ ((q : Int) - (f : Int)) * (d : Int) := by
    have h1 : (-100000 : Int) * (d : Int) ≤ ((q : Int) - (f : Int)) * (d : Int) := Int.mul_le_mul_of_nonneg_right (by omega) (by omega)
    omega
  have hi : ((q : Int) - (f : Int)) * (d : Int) ≤ 1200000000000 * 12000 := by
    have h1 : ((q : Int) - (f : Int)) * (d : Int) ≤ 1200000000000 * (d : Int) := Int.mul_le_mul_of_nonneg_right (by omega) (by omega)
    omega
  have e10 : (pBy T n t k).toInt = ((q : Int) - (f : Int)) * (d : Int) := by
    unfold pBy
    rw [ti_mul, e6, e2, e9]
    · rw [e6, e2, e9]; omega
    · rw [e6, e2, e9]; omega
  rw [e10]
  omega
theorem pF_neg (h : LN n T) {t k : Nat} (ht : t < 3) (hk : k < levN t) (h1 : ¬ sFit T n t k = 0) (y : Int64) : -(-pBy T n t k / y) = pBy T n t k / y := neg_div64 (pBy_lo h ht hk h1).1 (pBy_lo h ht hk h1).2
theorem pF_div (h : LN n T) {t k : Nat} (h2 : ¬ sClm T n t k = 0) : ¬ sClm T n t k + (xSc T 2).toInt64 = 0 := by
  obtain ⟨d, hd, e2⟩ := s_clm h t k
  obtain ⟨c, hc, e⟩ := ln_cred h
  rw [e2] at h2 ⊢
  rw [e, nI_l (by omega), lN_add]
  intro q
  have := (lN_z' (by omega)).mp q
  exact h2 ((lN_z' (by omega)).mpr (by omega))
theorem i64_inj {x y : Int32} (h : x.toInt64 = y.toInt64) : x = y := by
  have := congrArg Int64.toInt32 h
  rwa [Int32.toInt32_toInt64, Int32.toInt32_toInt64] at this
end NUM
def mPut (f : Nat → Int32) (t : Nat) (h : Nat → Int32) (i : Nat) : Nat → Int32 := fun j => if 4 * t ≤ j ∧ j < 4 * t + i then h (j - 4 * t) else f j
theorem mPut_0 (f : Nat → Int32) (t : Nat) (h : Nat → Int32) : mPut f t h 0 = f := funext fun j => if_neg (by omega)
theorem mPut_at (f : Nat → Int32) (t : Nat) (h : Nat → Int32) (i : Nat) : mPut f t h i (4 * t + i) = f (4 * t + i) := if_neg (by omega)
theorem mPut_s (f : Nat → Int32) (t : Nat) (h : Nat → Int32) (i : Nat) : upd (mPut f t h i) (4 * t + i) (h i) = mPut f t h (i + 1) := by
  funext j
  unfold upd
  by_cases hj : j = 4 * t + i
  · subst hj
    rw [if_pos rfl]
    unfold mPut
    rw [if_pos (by omega), show 4 * t + i - 4 * t = i by omega]
  · rw [if_neg hj]
    unfold mPut
    by_cases h2 : 4 * t ≤ j ∧ j < 4 * t + i
    · rw [if_pos h2, if_pos (by omega)]
    · rw [if_neg h2, if_neg (by omega)]
/-- the law's arrays with new factors of a trait -/
def lPut (L : LAr) (t : Nat) (h : Nat → Int32) (i : Nat) : LAr := va_up L 6 (mPut (L 6) t h i)
theorem lPut_0 (L : LAr) (t : Nat) (h : Nat → Int32) : lPut L t h 0 = L := by
  unfold lPut
  rw [mPut_0]
  funext j
  unfold va_up
  by_cases hj : j = 6
  · rw [if_pos hj, hj]
  · rw [if_neg hj]
theorem lPut_6 (L : LAr) (t : Nat) (h : Nat → Int32) (i : Nat) : lPut L t h i 6 = mPut (L 6) t h i := va_up_self _ _ _
theorem lPut_s (L : LAr) (t : Nat) (h : Nat → Int32) (i : Nat) : va_up (lPut L t h i) 6 (upd (lPut L t h i 6) (4 * t + i) (h i)) = lPut L t h (i + 1) := by
  rw [lPut_6, mPut_s]
  unfold lPut
  rw [bx_uu]
section WEXT
variable {p : Program} {l : Launch} {e : Env} {R : Room} {s : State} {m : MethodId} {args : Array Value} {below : List Frame} {meth : Method} {c : Code} {H : Heap} {locs : List Loc} {cells slots : Nat} {Q : State → Prop}
variable {cc : ByteArray} {pc : Nat} {ls : Array Slot} {rest : List Value} {g : gG} {X : XS} {L : LAr} {own : String} {q1 q2 q3 : Nat} {F G : Nat → Int64} {Z : Nat → Int32}
theorem ldE_p0 (C : CW g own p s m args) (hb : c.code = cc) (hP : HW g (X, L, [eL g q1 (F)]) H) {i : Int32} {j : Nat} (hi : i = nI j) (hj : j < 4) (hdg : decode cc pc = .ok (.laload, 1)) (kk : W p l e R s m args below meth c H locs cells slots Q (F0 m (pc + 1) ls (.long (F j) :: rest))) : W p l e R s m args below meth c H locs cells slots Q (F0 m (pc) ls (.int i :: .ref q1 :: rest)) := by
  subst hi
  refine va_lald (D := gD g) (f := F) C.1 hb C.2.2.2.1 hP.1 25 1 rfl rfl (vp_in_nI hj (by decide)) hdg ?_
  rw [nI_clamp (by omega)]
  exact kk
theorem stE_p0 (C : CW g own p s m args) (hb : c.code = cc) (hP : HW g (X, L, [eL g q1 (F)]) H) (hS : va_S (Ab g) s.heap H locs) {i : Int32} {j : Nat} {x : Int64} (hi : i = nI j) (hj : j < 4) (hdg : decode cc pc = .ok (.lastore, 1)) (kk : ∀ (H1 : Heap) (locs1 : List Loc), HW g (X, L, [eL g q1 (vp_updL (F) j x)]) H1 → va_S (Ab g) s.heap H1 locs1 → W p l e R s m args below meth c H1 locs1 cells slots Q (F0 m (pc + 1) ls (rest))) : W p l e R s m args below meth c H locs cells slots Q (F0 m (pc) ls (.long x :: .int i :: .ref q1 :: rest)) := by
  subst hi
  refine va_last (D := gD g) (f := F) C.1 hb C.2.2.2.1 hP.1 hP.2 hS 25 1 rfl rfl (vp_in_nI hj (by decide)) hdg (fun H1 locs1 hP1 hD1 hS1 => kk H1 locs1 ?_ hS1)
  rw [nI_clamp (by omega)] at hP1 hD1
  exact ⟨hP1, hD1⟩
theorem ldE_s0 (C : CW g own p s m args) (hb : c.code = cc) (hP : HW g (X, L, [eL g q1 (F), eL g q2 (G), eI g q3 (Z)]) H) {i : Int32} {j : Nat} (hi : i = nI j) (hj : j < 4) (hdg : decode cc pc = .ok (.laload, 1)) (kk : W p l e R s m args below meth c H locs cells slots Q (F0 m (pc + 1) ls (.long (F j) :: rest))) : W p l e R s m args below meth c H locs cells slots Q (F0 m (pc) ls (.int i :: .ref q1 :: rest)) := by
  subst hi
  refine va_lald (D := gD g) (f := F) C.1 hb C.2.2.2.1 hP.1 25 1 rfl rfl (vp_in_nI hj (by decide)) hdg ?_
  rw [nI_clamp (by omega)]
  exact kk
theorem stE_s0 (C : CW g own p s m args) (hb : c.code = cc) (hP : HW g (X, L, [eL g q1 (F), eL g q2 (G), eI g q3 (Z)]) H) (hS : va_S (Ab g) s.heap H locs) {i : Int32} {j : Nat} {x : Int64} (hi : i = nI j) (hj : j < 4) (hdg : decode cc pc = .ok (.lastore, 1)) (kk : ∀ (H1 : Heap) (locs1 : List Loc), HW g (X, L, [eL g q1 (vp_updL (F) j x), eL g q2 (G), eI g q3 (Z)]) H1 → va_S (Ab g) s.heap H1 locs1 → W p l e R s m args below meth c H1 locs1 cells slots Q (F0 m (pc + 1) ls (rest))) : W p l e R s m args below meth c H locs cells slots Q (F0 m (pc) ls (.long x :: .int i :: .ref q1 :: rest)) := by
  subst hi
  refine va_last (D := gD g) (f := F) C.1 hb C.2.2.2.1 hP.1 hP.2 hS 25 1 rfl rfl (vp_in_nI hj (by decide)) hdg (fun H1 locs1 hP1 hD1 hS1 => kk H1 locs1 ?_ hS1)
  rw [nI_clamp (by omega)] at hP1 hD1
  exact ⟨hP1, hD1⟩
theorem ldE_s1 (C : CW g own p s m args) (hb : c.code = cc) (hP : HW g (X, L, [eL g q1 (F), eL g q2 (G), eI g q3 (Z)]) H) {i : Int32} {j : Nat} (hi : i = nI j) (hj : j < 4) (hdg : decode cc pc = .ok (.laload, 1)) (kk : W p l e R s m args below meth c H locs cells slots Q (F0 m (pc + 1) ls (.long (G j) :: rest))) : W p l e R s m args below meth c H locs cells slots Q (F0 m (pc) ls (.int i :: .ref q2 :: rest)) := by
  subst hi
  refine va_lald (D := gD g) (f := G) C.1 hb C.2.2.2.1 hP.1 26 1 rfl rfl (vp_in_nI hj (by decide)) hdg ?_
  rw [nI_clamp (by omega)]
  exact kk
theorem stE_s1 (C : CW g own p s m args) (hb : c.code = cc) (hP : HW g (X, L, [eL g q1 (F), eL g q2 (G), eI g q3 (Z)]) H) (hS : va_S (Ab g) s.heap H locs) {i : Int32} {j : Nat} {x : Int64} (hi : i = nI j) (hj : j < 4) (hdg : decode cc pc = .ok (.lastore, 1)) (kk : ∀ (H1 : Heap) (locs1 : List Loc), HW g (X, L, [eL g q1 (F), eL g q2 (vp_updL (G) j x), eI g q3 (Z)]) H1 → va_S (Ab g) s.heap H1 locs1 → W p l e R s m args below meth c H1 locs1 cells slots Q (F0 m (pc + 1) ls (rest))) : W p l e R s m args below meth c H locs cells slots Q (F0 m (pc) ls (.long x :: .int i :: .ref q2 :: rest)) := by
  subst hi
  refine va_last (D := gD g) (f := G) C.1 hb C.2.2.2.1 hP.1 hP.2 hS 26 1 rfl rfl (vp_in_nI hj (by decide)) hdg (fun H1 locs1 hP1 hD1 hS1 => kk H1 locs1 ?_ hS1)
  rw [nI_clamp (by omega)] at hP1 hD1
  exact ⟨hP1, hD1⟩
theorem ldE_s2 (C : CW g own p s m args) (hb : c.code = cc) (hP : HW g (X, L, [eL g q1 (F), eL g q2 (G), eI g q3 (Z)]) H) {i : Int32} {j : Nat} (hi : i = nI j) (hj : j < 4) (hdg : decode cc pc = .ok (.iaload, 1)) (kk : W p l e R s m args below meth c H locs cells slots Q (F0 m (pc + 1) ls (.int (Z j) :: rest))) : W p l e R s m args below meth c H locs cells slots Q (F0 m (pc) ls (.int i :: .ref q3 :: rest)) := by
  subst hi
  refine va_iald (D := gD g) (f := Z) C.1 hb C.2.2.2.1 hP.1 27 0 rfl rfl (vp_in_nI hj (by decide)) hdg ?_
  rw [nI_clamp (by omega)]
  exact kk
theorem stE_s2 (C : CW g own p s m args) (hb : c.code = cc) (hP : HW g (X, L, [eL g q1 (F), eL g q2 (G), eI g q3 (Z)]) H) (hS : va_S (Ab g) s.heap H locs) {i : Int32} {j : Nat} {x : Int32} (hi : i = nI j) (hj : j < 4) (hdg : decode cc pc = .ok (.iastore, 1)) (kk : ∀ (H1 : Heap) (locs1 : List Loc), HW g (X, L, [eL g q1 (F), eL g q2 (G), eI g q3 (upd (Z) j x)]) H1 → va_S (Ab g) s.heap H1 locs1 → W p l e R s m args below meth c H1 locs1 cells slots Q (F0 m (pc + 1) ls (rest))) : W p l e R s m args below meth c H locs cells slots Q (F0 m (pc) ls (.int x :: .int i :: .ref q3 :: rest)) := by
  subst hi
  refine va_iast (D := gD g) (f := Z) C.1 hb C.2.2.2.1 hP.1 hP.2 hS 27 0 rfl rfl (vp_in_nI hj (by decide)) hdg (fun H1 locs1 hP1 hD1 hS1 => kk H1 locs1 ?_ hS1)
  rw [nI_clamp (by omega)] at hP1 hD1
  exact ⟨hP1, hD1⟩
end WEXT
