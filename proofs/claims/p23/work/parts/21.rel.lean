/-! the law's arrays against the class's numbers -/
theorem ix3 (k t : Nat) : (3 : Int32) * nI k + nI t = nI (3 * k + t) := by
  show nI 3 * nI k + nI t = _
  rw [pk_mul, nI_add]
theorem ix4 (t k : Nat) : (4 : Int32) * nI t + nI k = nI (4 * t + k) := by
  show nI 4 * nI t + nI k = _
  rw [pk_mul, nI_add]
theorem ix2 (t k : Nat) : (2 : Int32) * nI t + nI k = nI (2 * t + k) := by
  show nI 2 * nI t + nI k = _
  rw [pk_mul, nI_add]
def fraw (L : Nat) (xs : Nat → Int32) (k : Nat) : Int32 := if L = 0 then 181 * nI k + 157 else xs (k % L) ^^^ (156007 * nI k)
def fV (L : Nat) (xs : Nat → Int32) (k b : Nat) : Nat := (fraw L xs k).toBitVec.toNat % 2 ^ 31 % b
theorem fV_lt (L : Nat) (xs : Nat → Int32) (k : Nat) {b : Nat} (hb : 0 < b) : fV L xs k b < b := Nat.mod_lt _ hb
def xLiv (T : WS) : Nat → Bool := fun k => !decide (xIa T 1 k = 0)
def NB (M : Nat) (x : Int32) : Prop := ∃ c : Nat, c ≤ M ∧ x = nI c
def NL (M : Nat) (x : Int64) : Prop := ∃ c : Nat, c ≤ M ∧ x = lN c
/-- the class's numbers as the law's calls leave them -/
def LN (n : Nat) (T : WS) : Prop := XI n T ∧ n ≤ 12 ∧ (∀ t k, t < 3 → k < n → ∃ j : Nat, j < levN t ∧ xLev T t k = nI j) ∧
  (∀ k, k < n → (xIa T 1 k = 0 ∨ xIa T 1 k = 1) ∧ (∃ x : Nat, 1 ≤ x ∧ x ≤ 1000 ∧ xLng T 0 k = lN x) ∧ NL 1000000 (xLng T 2 k) ∧ (xIa T 0 k = -1 ∨ NB 10000000 (xIa T 0 k))) ∧
  (∀ t k, t < 3 → k < levN t → ∃ f : Nat, 100 ≤ f ∧ f ≤ 100000 ∧ xFac T t k = nI f) ∧ (xSc T 3 = -1 ∨ NB 1000 (xSc T 3)) ∧ (∃ s : Nat, 1 ≤ s ∧ s ≤ 1000000 ∧ xSc T 4 = nI s) ∧
  xSc T 1 = nI (xCnt (xLiv T) n) ∧ xBase T = xBase1 T n ∧ ∀ k, k < n → xLng T 3 k = xFit T k
/-- the law's arrays hold them -/
def LL (n : Nat) (T S : WS) : Prop := lA S 7 0 = nI n ∧ (∀ k, k < n → lA S 5 k = if xIa T 1 k = 0 then 1 else 0) ∧ (∀ t k, t < 3 → k < n → lA S 0 (3 * k + t) = xLev T t k) ∧
  (∀ k, k < n → (lA S 1 k).toInt64 = xLng T 0 k ∧ (lA S 2 k).toInt64 = xLng T 1 k ∧ (lA S 3 k).toInt64 = xLng T 2 k ∧ lA S 4 k = xIa T 0 k) ∧
  (∀ t k, t < 3 → k < levN t → lA S 6 (4 * t + k) = xFac T t k) ∧ lA S 7 1 = xSc T 2 ∧ lA S 7 2 = xSc T 3 ∧ lA S 7 3 = xSc T 4
def LR (n : Nat) (T S : WS) : Prop := LN n T ∧ LL n T S
section REL
variable {n : Nat} {T S : WS}
theorem lr_n (h : LR n T S) : n ≤ 12 := h.1.2.1
theorem lr_m0 (h : LR n T S) : lA S 7 0 = nI n := h.2.1
theorem lr_g1 (h : LR n T S) {k : Nat} (hk : k < n) (hg : lA S 5 k = 1) : xIa T 1 k = 0 := by
  have e := h.2.2.1 k hk
  by_cases c : xIa T 1 k = 0
  · exact c
  · rw [if_neg c, hg] at e; exact absurd e (by decide)
theorem lr_g0 (h : LR n T S) {k : Nat} (hk : k < n) (hg : ¬ lA S 5 k = 1) : ¬ xIa T 1 k = 0 := fun c => hg ((h.2.2.1 k hk).trans (if_pos c))
theorem lr_z0 (h : LR n T S) {k : Nat} (hk : k < n) (hg : lA S 5 k = 0) : ¬ xIa T 1 k = 0 := lr_g0 h hk (by rw [hg]; decide)
theorem lr_z1 (h : LR n T S) {k : Nat} (hk : k < n) (hg : ¬ lA S 5 k = 0) : xIa T 1 k = 0 := by
  by_cases c : xIa T 1 k = 0
  · exact c
  · exact absurd ((h.2.2.1 k hk).trans (if_neg c)) hg
theorem lr_lev (h : LR n T S) {t k : Nat} (ht : t < 3) (hk : k < n) : xLev T t k = nI (tN (xLev T t k)) ∧ tN (xLev T t k) < levN t := by
  obtain ⟨j, hj, e⟩ := h.1.2.2.1 t k ht hk
  have h4 := levN_4 t
  rw [e, tN_nI (by omega)]
  exact ⟨rfl, hj⟩
theorem lr_l (h : LR n T S) {t k : Nat} (ht : t < 3) (hk : k < n) : lA S 0 (3 * k + t) = nI (tN (xLev T t k)) := (h.2.2.2.1 t k ht hk).trans (lr_lev h ht hk).1
theorem lr_f (h : LR n T S) {t k : Nat} (ht : t < 3) (hk : k < levN t) : lA S 6 (4 * t + k) = xFac T t k := h.2.2.2.2.2.1 t k ht hk
theorem lr_x (h : LR n T S) {k : Nat} (hk : k < n) : (lA S 1 k).toInt64 = xLng T 0 k := (h.2.2.2.2.1 k hk).1
theorem lr_c (h : LR n T S) {k : Nat} (hk : k < n) : (lA S 2 k).toInt64 = xLng T 1 k := (h.2.2.2.2.1 k hk).2.1
theorem lr_d (h : LR n T S) {k : Nat} (hk : k < n) : (lA S 3 k).toInt64 = xLng T 2 k := (h.2.2.2.2.1 k hk).2.2.1
theorem lr_o (h : LR n T S) {k : Nat} (hk : k < n) : lA S 4 k = xIa T 0 k := (h.2.2.2.2.1 k hk).2.2.2
theorem lr_m1 (h : LR n T S) : lA S 7 1 = xSc T 2 := h.2.2.2.2.2.2.1
theorem lr_m2 (h : LR n T S) : lA S 7 2 = xSc T 3 := h.2.2.2.2.2.2.2.1
theorem lr_m3 (h : LR n T S) : lA S 7 3 = xSc T 4 := h.2.2.2.2.2.2.2.2
theorem lr_base (h : LR n T S) : xBase T = xBase1 T n := h.1.2.2.2.2.2.2.2.2.1
theorem lr_fit (h : LR n T S) {k : Nat} (hk : k < n) : xLng T 3 k = xFit T k := h.1.2.2.2.2.2.2.2.2.2 k hk
/-- a level's factor, as the law reads it for a row -/
theorem lr_fl (h : LR n T S) {t k : Nat} (ht : t < 3) (hk : k < n) : lA S 6 (4 * t + tN (xLev T t k)) = xFac T t (tN (xLev T t k)) := lr_f h ht (lr_lev h ht hk).2
theorem lr_fit0 (h : LR n T S) {k : Nat} (hk : k < n) : xBase T * (lA S 1 k).toInt64 / 10000 = xFitN T k 0 := by
  rw [lr_x h hk, Int64.mul_comm]
  rfl
theorem xTot_cong {lv : Nat → Int32} {f g : Nat → Int64} : ∀ m : Nat, (∀ k, k < m → ¬ lv k = 0 → f k = g k) → xTot lv f m = xTot lv g m
  | 0, _ => rfl
  | m + 1, hf => by
    have ih := xTot_cong m (fun k hk => hf k (by omega))
    by_cases c : lv m = 0
    · rw [xTot_z c, xTot_z c, ih]
    · rw [xTot_n c, xTot_n c, ih, hf m (by omega) c]
theorem xLTot_cong {live lv : Nat → Int32} {q : Int32} {f g : Nat → Int64} : ∀ m : Nat, (∀ k, k < m → ¬ live k = 0 → f k = g k) → xLTot live lv q f m = xLTot live lv q g m
  | 0, _ => rfl
  | m + 1, hf => by
    have ih := xLTot_cong (lv := lv) (q := q) m (fun k hk => hf k (by omega))
    by_cases c : live m = 0
    · rw [xLTot_z c, xLTot_z c, ih]
    · by_cases d : lv m = q
      · rw [xLTot_q c d, xLTot_q c d, ih, hf m (by omega) c]
      · rw [xLTot_o c d, xLTot_o c d, ih]
theorem xTot_small {lv : Nat → Int32} {f : Nat → Int64} {B : Nat} : ∀ m : Nat, (∀ k, k < m → ¬ lv k = 0 → NL B (f k)) → ∃ c : Nat, c ≤ m * B ∧ xTot lv f m = lN c
  | 0, _ => ⟨0, Nat.zero_le _, rfl⟩
  | m + 1, h => by
    obtain ⟨c, hc, e⟩ := xTot_small m (fun k hk => h k (by omega))
    have e3 : (m + 1) * B = m * B + B := Nat.succ_mul m B
    by_cases q : lv m = 0
    · exact ⟨c, by omega, by rw [xTot_z q]; exact e⟩
    · obtain ⟨d, hd, e2⟩ := h m (by omega) q
      exact ⟨c + d, by omega, by rw [xTot_n q, e, e2, lN_add]⟩
theorem xLTot_sm {live lv : Nat → Int32} {q : Int32} {f : Nat → Int64} {B : Nat} : ∀ m : Nat, (∀ k, k < m → ¬ live k = 0 → NL B (f k)) → ∃ c : Nat, c ≤ m * B ∧ xLTot live lv q f m = lN c
  | 0, _ => ⟨0, Nat.zero_le _, rfl⟩
  | m + 1, h => by
    obtain ⟨c, hc, e⟩ := xLTot_sm (lv := lv) (q := q) m (fun k hk => h k (by omega))
    have e3 : (m + 1) * B = m * B + B := Nat.succ_mul m B
    by_cases q1 : live m = 0
    · exact ⟨c, by omega, by rw [xLTot_z q1]; exact e⟩
    · obtain ⟨d, hd, e2⟩ := h m (by omega) q1
      by_cases q2 : lv m = q
      · exact ⟨c + d, by omega, by rw [xLTot_q q1 q2, e, e2, lN_add]⟩
      · exact ⟨c, by omega, by rw [xLTot_o q1 q2]; exact e⟩
theorem xTot_ge {lv : Nat → Int32} {f : Nat → Int64} {B : Nat} : ∀ m : Nat, (∀ k, k < m → ¬ lv k = 0 → NL B (f k)) → ∀ k x, k < m → ¬ lv k = 0 → f k = lN x → x < 2 ^ 63 → m * B < 2 ^ 63 → ∃ c : Nat, x ≤ c ∧ c ≤ m * B ∧ xTot lv f m = lN c
  | 0, _, k, _, hk, _, _, _, _ => absurd hk (Nat.not_lt_zero k)
  | m + 1, h, k, x, hk, hl, hx, hx2, hb => by
    have e3 : (m + 1) * B = m * B + B := Nat.succ_mul m B
    by_cases e : k = m
    · subst e
      obtain ⟨c, hc, e1⟩ := xTot_small k (fun i hi => h i (by omega))
      obtain ⟨d, hd, e2⟩ := h k (by omega) hl
      have e4 : d = x := by
        have h1 := pk_lT (n := d) (by omega)
        have h2 := pk_lT (n := x) hx2
        rw [← e2, hx, h2] at h1
        omega
      exact ⟨c + d, by omega, by omega, by rw [xTot_n hl, e1, e2, lN_add]⟩
    · obtain ⟨c, hc1, hc2, e1⟩ := xTot_ge m (fun i hi => h i (by omega)) k x (by omega) hl hx hx2 (by omega)
      by_cases q : lv m = 0
      · exact ⟨c, hc1, by omega, by rw [xTot_z q]; exact e1⟩
      · obtain ⟨d, hd, e2⟩ := h m (by omega) q
        exact ⟨c + d, by omega, by omega, by rw [xTot_n q, e1, e2, lN_add]⟩
theorem ln_exp (h : LN n T) {k : Nat} (hk : k < n) : NL 1000 (xLng T 0 k) := by
  obtain ⟨x, h1, h2, e⟩ := (h.2.2.2.1 k hk).2.1
  exact ⟨x, h2, e⟩
theorem lN_le0 {c : Nat} (hc : c < 2 ^ 31) : lN c ≤ 0 ↔ c = 0 := by
  have := lN_le (a := c) (b := 0) hc (by decide)
  constructor
  · intro q; have := this.mp q; omega
  · intro q; exact this.mpr (by omega)
theorem lN_z {c : Nat} (hc : c < 2 ^ 31) : lN c = 0 ↔ c = 0 := lN_eq (a := c) (b := 0) hc (by decide)
/-- the law's base: 0 at an exposure of 0, which isn't negative -/
theorem lr_b1 (h : LN n T) (hz : xTot (xIa T 1) (xLng T 0) n = 0) : (0 : Int64) = xBase1 T n := by
  unfold xBase1
  rw [hz, if_pos (by decide)]
theorem lr_b2 (h : LN n T) (hz : ¬ xTot (xIa T 1) (xLng T 0) n = 0) : xTot (xIa T 1) (xLng T 2) n * 10000 / xTot (xIa T 1) (xLng T 0) n = xBase1 T n := by
  obtain ⟨c, hc, e⟩ := xTot_small (lv := xIa T 1) (f := xLng T 0) (B := 1000) n (fun k hk _ => ln_exp h hk)
  have hn := h.2.1
  have hb : c ≤ 12000 := by have : n * 1000 ≤ 12 * 1000 := Nat.mul_le_mul_right _ hn; omega
  unfold xBase1
  rw [if_neg, Int64.mul_comm]
  intro q
  rw [e] at q hz
  exact hz ((lN_z (by omega)).mpr ((lN_le0 (by omega)).mp q))
theorem i64_100 (c : Nat) (h : c ≤ 1000) : (100 : Int64) + lN c = lN (100 + c) := by
  show lN 100 + lN c = _
  rw [lN_add]
/-- the law's bounds of a premium -/
theorem lcap_low {c o : Nat} (hc : c ≤ 1000) (ho : o ≤ 10000000) : (lN o * (mxI (100 - nI c) 0).toInt64 / 100) = if 100 < c then 0 else lN ((100 - c) * o / 100) := by
  have e : (100 - nI c).toInt = 100 - (c : Int) := by
    rw [Int32.toInt_sub, nI_toInt (by omega), show (100 : Int32).toInt = 100 from by decide]
    exact Int.bmod_eq_of_le (by omega) (by omega)
  have h1 : (100 - nI c) < 0 ↔ 100 < c := by
    rw [Int32.lt_iff_toInt_lt, e, show (0 : Int32).toInt = 0 from by decide]
    omega
  unfold mxI
  by_cases q : 100 < c
  · rw [if_pos (h1.mpr q), if_pos q]
    show lN o * lN 0 / lN 100 = lN 0
    rw [lN_mul, Nat.mul_zero, pk_lDiv (by decide) (by decide) (by decide)]
  · rw [if_neg (fun r => q (h1.mp r)), if_neg q]
    have e2 : (100 : Int32) - nI c = nI (100 - c) := pk_sub (a := 100) (b := c) (by omega)
    have hm : o * (100 - c) ≤ 10000000 * 100 := Nat.mul_le_mul ho (by omega)
    rw [e2, nI_l (by omega), lN_mul]
    show lN _ / lN 100 = _
    rw [pk_lDiv (by omega) (by decide) (by decide), Nat.mul_comm]
theorem lcap_high {c o : Nat} (hc : c ≤ 1000) (ho : o ≤ 10000000) : (lN o * (100 + nI c).toInt64 / 100) = lN ((100 + c) * o / 100) := by
  have e2 : (100 : Int32) + nI c = nI (100 + c) := nI_add 100 c
  have hm : o * (100 + c) ≤ 10000000 * 1100 := Nat.mul_le_mul ho (by omega)
  rw [e2, nI_l (by omega), lN_mul]
  show lN _ / lN 100 = _
  rw [pk_lDiv (by omega) (by decide) (by decide), Nat.mul_comm]
theorem mnmx {p a b : Int64} (h : a ≤ b) : xBnd p a b = if p < a then a else if b < p then b else p := by
  unfold xBnd mx64 mn64
  have hba : ¬ b < a := Int64.not_lt.mpr h
  by_cases c : p < a
  · have d : ¬ a < p := fun q => Int64.lt_irrefl (Int64.lt_trans c q)
    rw [if_neg d, if_neg hba, if_pos c]
  · rw [if_neg c]
    by_cases d : a < p
    · rw [if_pos d]
    · have e : a = p := Int64.le_antisymm (Int64.not_lt.mp c) (Int64.not_lt.mp d)
      rw [if_neg d, e]
def capLo (T : WS) (r : Nat) : Int64 := (xIa T 0 r).toInt64 * (mxI (100 - xSc T 3) 0).toInt64 / 100
def capHi (T : WS) (r : Nat) : Int64 := (xIa T 0 r).toInt64 * (100 + xSc T 3).toInt64 / 100
theorem lr_cap0 (h : LR n T S) (hm : ¬ lA S 7 2 < 0) : ∃ c : Nat, c ≤ 1000 ∧ xSc T 3 = nI c := by
  rcases h.1.2.2.2.2.2.1 with e | e
  · rw [lr_m2 h, e] at hm; exact absurd (by decide) hm
  · exact e
theorem lr_old0 (h : LR n T S) {r : Nat} (hr : r < n) (hm : ¬ lA S 4 r < 0) : ∃ c : Nat, c ≤ 10000000 ∧ xIa T 0 r = nI c := by
  rcases (h.1.2.2.2.1 r hr).2.2.2 with e | e
  · rw [lr_o h hr, e] at hm; exact absurd (by decide) hm
  · exact e
theorem lr_capA (h : LR n T S) {r : Nat} (hm : lA S 7 2 < 0) : xNewP T r = xCapP T r := by
  rw [lr_m2 h] at hm
  rcases h.1.2.2.2.2.2.1 with e | ⟨c, hc, e⟩
  · unfold xCapP; rw [if_pos e]
  · rw [e] at hm; exact absurd hm (nI_pos (by omega))
theorem lr_capB (h : LR n T S) {r : Nat} (hr : r < n) (hm : lA S 4 r < 0) : xNewP T r = xCapP T r := by
  rw [lr_o h hr] at hm
  rcases (h.1.2.2.2.1 r hr).2.2.2 with e | ⟨c, hc, e⟩
  · unfold xCapP
    by_cases q : xSc T 3 = -1
    · rw [if_pos q]
    · rw [if_neg q, if_pos e]
  · rw [e] at hm; exact absurd hm (nI_pos (by omega))
theorem lr_cLz (h : LR n T S) {r : Nat} (hr : r < n) (hm : ¬ lA S 7 2 < 0) (ho : ¬ lA S 4 r < 0) (hc : ¬ lA S 7 2 ≤ 100) : (0 : Int64) = capLo T r := by
  obtain ⟨c, hc1, e⟩ := lr_cap0 h hm
  obtain ⟨o, ho1, e2⟩ := lr_old0 h hr ho
  rw [lr_m2 h, e] at hc
  unfold capLo
  have q : 100 < c := Nat.lt_of_not_le (fun q => hc ((nI_leI (a := c) (b := 100) (by omega) (by decide)).mpr q))
  rw [e, e2, nI_l (by omega), lcap_low hc1 ho1, if_pos q]
theorem lr_cLe (h : LR n T S) {r : Nat} (hr : r < n) (hm : ¬ lA S 7 2 < 0) (ho : ¬ lA S 4 r < 0) (hc : lA S 7 2 ≤ 100) : (100 - (lA S 7 2).toInt64) * (lA S 4 r).toInt64 / 100 = capLo T r := by
  obtain ⟨c, hc1, e⟩ := lr_cap0 h hm
  obtain ⟨o, ho1, e2⟩ := lr_old0 h hr ho
  rw [lr_m2 h, e] at hc
  unfold capLo
  have q : c ≤ 100 := (nI_leI (a := c) (b := 100) (by omega) (by decide)).mp hc
  rw [lr_m2 h, lr_o h hr, e, e2, nI_l (n := o) (by omega), lcap_low hc1 ho1, if_neg (by omega), nI_l (by omega)]
  have hm2 : (100 - c) * o ≤ 100 * 10000000 := Nat.mul_le_mul (by omega) ho1
  show (lN 100 - lN c) * lN o / lN 100 = _
  rw [lN_sub q, lN_mul, pk_lDiv (by omega) (by decide) (by decide)]
theorem lr_cHi (h : LR n T S) {r : Nat} (hr : r < n) (hm : ¬ lA S 7 2 < 0) (ho : ¬ lA S 4 r < 0) : (100 + (lA S 7 2).toInt64) * (lA S 4 r).toInt64 / 100 = capHi T r := by
  obtain ⟨c, hc1, e⟩ := lr_cap0 h hm
  obtain ⟨o, ho1, e2⟩ := lr_old0 h hr ho
  unfold capHi
  rw [lr_m2 h, lr_o h hr, e, e2, nI_l (n := o) (by omega), lcap_high hc1 ho1, nI_l (by omega), i64_100 c hc1, lN_mul]
  have hm2 : (100 + c) * o ≤ 1100 * 10000000 := Nat.mul_le_mul (by omega) ho1
  show lN _ / lN 100 = _
  rw [pk_lDiv (by omega) (by decide) (by decide)]
theorem lr_capC (h : LR n T S) {r : Nat} (hr : r < n) (hm : ¬ lA S 7 2 < 0) (ho : ¬ lA S 4 r < 0) : xCapP T r = if xNewP T r < capLo T r then capLo T r else if capHi T r < xNewP T r then capHi T r else xNewP T r := by
  obtain ⟨c, hc1, e⟩ := lr_cap0 h hm
  obtain ⟨o, ho1, e2⟩ := lr_old0 h hr ho
  have h1 : ¬ xSc T 3 = -1 := by rw [e]; intro q; have := nI_pos (n := c) (by omega); rw [q] at this; exact absurd (by decide) this
  have h2 : ¬ xIa T 0 r = -1 := by rw [e2]; intro q; have := nI_pos (n := o) (by omega); rw [q] at this; exact absurd (by decide) this
  rw [← mnmx]
  · unfold xCapP; rw [if_neg h1, if_neg h2]; rfl
  · unfold capLo capHi
    rw [e, e2, nI_l (n := o) (by omega), lcap_low hc1 ho1, lcap_high hc1 ho1]
    have hm2 : (100 - c) * o ≤ (100 + c) * o := Nat.mul_le_mul_right _ (by omega)
    have hm3 : (100 + c) * o ≤ 1100 * 10000000 := Nat.mul_le_mul (by omega) ho1
    have hm4 := Nat.div_le_div_right (c := 100) hm2
    by_cases q : 100 < c
    · rw [if_pos q]; exact (pk_lLE (a := 0) (by decide) (by omega)).mpr (Nat.zero_le _)
    · rw [if_neg q]; exact (pk_lLE (by omega) (by omega)).mpr hm4
theorem lr_newp (h : LR n T S) {r : Nat} (hr : r < n) : xFit T r * (lA S 7 3).toInt64 / 10000 = xNewP T r := by
  unfold xNewP
  rw [lr_m3 h, lr_fit h hr]
end REL
