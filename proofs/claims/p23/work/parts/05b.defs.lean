theorem ne0_nle {y : Int64} (h : ¬ y ≤ 0) : ¬ y = 0 := fun q => h (by rw [q]; decide)
theorem ne0_lt {y : Int64} (h : 0 < y) : ¬ y = 0 := fun q => absurd h (by rw [q]; decide)
theorem XI_lev {n : Nat} {S : WS} (hI : XI n S) {t k : Nat} (ht : t < 3) (hk : k < n) : xLev S t k = nI (tN (xLev S t k)) ∧ tN (xLev S t k) < 4 := by
  obtain ⟨j, hj, e⟩ := hI.2.2.1 t k ht hk
  rw [e, tN_nI (by omega)]
  exact ⟨rfl, hj⟩
theorem XI_lng3 {n : Nat} {S : WS} (f : Nat → Int64) (h : XI n S) : XI n (xsLng S 3 f) := h
theorem XI_base {n : Nat} {S : WS} (v : Int64) (h : XI n S) : XI n (xsBase S v) := h
theorem XI_fac {n : Nat} {S : WS} (t : Nat) (f : Nat → Int32) (h : XI n S) : XI n (xsFac S t f) := h
theorem XI_ia {n : Nat} {S : WS} (t : Nat) (f : Nat → Int32) (h : XI n S) : XI n (xsIa S t f) := h
theorem XI_refit {n : Nat} {S : WS} (h : XI n S) : XI n (xRefit S n) := h
theorem XI_pass {n : Nat} {S : WS} (t : Nat) (h : XI n S) : XI n (xPass S n t) := h
theorem XI_round {n : Nat} {S : WS} (h : XI n S) : ∀ t : Nat, XI n (xRound S n t)
  | 0 => h
  | t + 1 => XI_pass t (XI_round h t)
theorem xFit_lng3 (S : WS) (f : Nat → Int64) (r : Nat) : xFit (xsLng S 3 f) r = xFit S r := rfl
theorem lng_twice (S : WS) (q : Nat) (a b : Nat → Int64) : xsLng (xsLng S q a) q b = xsLng S q b := by
  show ((_, _, va_up (va_up S.1.2.2.1 q a) q b, _), _) = _
  rw [bx_uu]
theorem lng_at (S : WS) (q : Nat) (a : Nat → Int64) : xLng (xsLng S q a) q = a := va_up_self _ _ _
theorem fac_twice (S : WS) (q : Nat) (a b : Nat → Int32) : xsFac (xsFac S q a) q b = xsFac S q b := by
  show ((va_up (va_up S.1.1 q a) q b, _), _) = _
  rw [bx_uu]
theorem fac_at (S : WS) (q : Nat) (a : Nat → Int32) : xFac (xsFac S q a) q = a := va_up_self _ _ _
theorem ia_twice (S : WS) (q : Nat) (a b : Nat → Int32) : xsIa (xsIa S q a) q b = xsIa S q b := by
  show ((_, _, _, va_up (va_up S.1.2.2.2.1 q a) q b, _), _) = _
  rw [bx_uu]
theorem ia_at (S : WS) (q : Nat) (a : Nat → Int32) : xIa (xsIa S q a) q = a := va_up_self _ _ _
theorem fac_self (S : WS) (t : Nat) : xsFac S t (xFac S t) = S := by
  have h : va_up S.1.1 t (S.1.1 t) = S.1.1 := by
    funext j
    unfold va_up
    by_cases hj : j = t
    · rw [if_pos hj, hj]
    · rw [if_neg hj]
  show ((va_up S.1.1 t (S.1.1 t), _), _) = S
  rw [h]
theorem lng_self (S : WS) (t : Nat) : xsLng S t (xLng S t) = S := by
  have h : va_up S.1.2.2.1 t (S.1.2.2.1 t) = S.1.2.2.1 := by
    funext j
    unfold va_up
    by_cases hj : j = t
    · rw [if_pos hj, hj]
    · rw [if_neg hj]
  show ((_, _, va_up S.1.2.2.1 t (S.1.2.2.1 t), _), _) = S
  rw [h]
theorem ia_self (S : WS) (t : Nat) : xsIa S t (xIa S t) = S := by
  have h : va_up S.1.2.2.2.1 t (S.1.2.2.2.1 t) = S.1.2.2.2.1 := by
    funext j
    unfold va_up
    by_cases hj : j = t
    · rw [if_pos hj, hj]
    · rw [if_neg hj]
  show ((_, _, _, va_up S.1.2.2.2.1 t (S.1.2.2.2.1 t), _), _) = S
  rw [h]
theorem refit_0 (S : WS) (n : Nat) : xsLng (xsBase S (xBase1 S n)) 3 (fil (xFit (xsBase S (xBase1 S n))) (xLng S 3) 0) = xsBase S (xBase1 S n) := by
  rw [fil_0]
  exact lng_self (xsBase S (xBase1 S n)) 3
theorem refit_step (S : WS) (F G : Nat → Int64) (i : Nat) : xsLng (xsLng S 3 (fil F G i)) 3 (vp_updL (xLng (xsLng S 3 (fil F G i)) 3) i (F i)) = xsLng S 3 (fil F G (i + 1)) := by
  rw [lng_twice, lng_at, fil_sL]
theorem xFound_fil (S : WS) (n t i : Nat) (F : Nat → Int32) : xFound (xsFac S t (fil F (xFac S t) i)) n t i = xFound S n t i := by
  have h : xFac (xsFac S t (fil F (xFac S t) i)) t i = xFac S t i := by rw [fac_at, fil_at]
  unfold xFound
  rw [h]
theorem passf_0 (S : WS) (t : Nat) (F : Nat → Int32) : xsFac S t (fil F (xFac S t) 0) = S := by
  rw [fil_0]
  exact fac_self S t
theorem passf_step (S : WS) (t i : Nat) (F : Nat → Int32) : xsFac (xsFac S t (fil F (xFac S t) i)) t (upd (xFac (xsFac S t (fil F (xFac S t) i)) t) i (F i)) = xsFac S t (fil F (xFac S t) (i + 1)) := by
  rw [fac_twice, fac_at, fil_sI]
theorem passf_keep (S : WS) (t i : Nat) (F : Nat → Int32) (h : F i = xFac S t i) : xsFac S t (fil F (xFac S t) (i + 1)) = xsFac S t (fil F (xFac S t) i) := by
  rw [fil_k h]
/-- a sum of small numbers -/
theorem xLTot_small {live lv : Nat → Int32} {q : Int32} {f : Nat → Int64} {B : Nat} : ∀ k : Nat, (∀ i, i < k → ∃ c : Nat, c ≤ B ∧ f i = lN c) → ∃ c : Nat, c ≤ k * B ∧ xLTot live lv q f k = lN c
  | 0, _ => ⟨0, Nat.zero_le _, rfl⟩
  | k + 1, h => by
    obtain ⟨c, hc, e⟩ := xLTot_small (live := live) (lv := lv) (q := q) k (fun i hi => h i (by omega))
    obtain ⟨d, hd, e2⟩ := h k (by omega)
    have e3 : (k + 1) * B = k * B + B := Nat.succ_mul k B
    by_cases h1 : live k = 0
    · exact ⟨c, by omega, by rw [xLTot_z h1]; exact e⟩
    · by_cases h2 : lv k = q
      · exact ⟨c + d, by omega, by rw [xLTot_q h1 h2, e, e2, lN_add]⟩
      · exact ⟨c, by omega, by rw [xLTot_o h1 h2]; exact e⟩
theorem lN_pos {c : Nat} (hc : c < 2 ^ 31) (h : (0 : Int64) < lN c) : 0 < c := (lN_lt (a := 0) (by decide) hc).mp h
theorem lN_ne0 {c : Nat} (hc : c < 2 ^ 31) (h : 0 < c) : ¬ lN c = 0 := fun q => by
  have := (lN_eq (a := c) (b := 0) hc (by decide)).mp q
  omega
theorem xFound_div {n : Nat} {S : WS} (hI : XI n S) {live lv : Nat → Int32} {q : Int32} (h : 0 < xLTot live lv q (xLng S 1) n) : ¬ xLTot live lv q (xLng S 1) n + (xSc S 2).toInt64 = 0 := by
  obtain ⟨hn, -, -, hc, d, hd, e2⟩ := hI
  obtain ⟨c, hc1, e⟩ := xLTot_small (live := live) (lv := lv) (q := q) (B := 1000) n hc
  have hb : c ≤ 40000 := by have : n * 1000 ≤ 40 * 1000 := Nat.mul_le_mul_right _ hn; omega
  rw [e] at h ⊢
  have hp := lN_pos (by omega) h
  rw [e2, nI_l (by omega), lN_add]
  exact lN_ne0 (by omega) (by omega)
def wsum (P : Nat → Bool) (h : Nat → Int64) : Nat → Int64
  | 0 => 0
  | k + 1 => if P k then wsum P h k + h k else wsum P h k
theorem wsum_t {P : Nat → Bool} {h : Nat → Int64} {k : Nat} (e : P k = true) : wsum P h (k + 1) = wsum P h k + h k := if_pos e
theorem wsum_f {P : Nat → Bool} {h : Nat → Int64} {k : Nat} (e : P k = false) : wsum P h (k + 1) = wsum P h k := if_neg (by rw [e]; decide)
theorem wsum_z {P : Nat → Bool} {h : Nat → Int64} : ∀ {k : Nat}, (∀ i, i < k → P i = false) → wsum P h k = 0
  | 0, _ => rfl
  | k + 1, e => by rw [wsum_f (e k (by omega))]; exact wsum_z (fun i hi => e i (by omega))
theorem xCnt_z {P : Nat → Bool} : ∀ {k : Nat}, (∀ i, i < k → P i = false) → xCnt P k = 0
  | 0, _ => rfl
  | k + 1, e => by rw [xCnt_f (e k (by omega))]; exact xCnt_z (fun i hi => e i (by omega))
/-- the levels of the group that starts at st -/
def xGP (S : WS) (st : Nat) : Nat → Bool := fun k => decide (st ≤ k) && decide (xIa S 2 k = nI st)
def xWt (S : WS) (n t k : Nat) : Int64 := xLTot (xIa S 1) (xLev S t) (nI k) (xLng S 0) n
def xMean (S : WS) (n t st : Nat) : Int32 :=
  (if wsum (xGP S st) (xWt S n t) (levN t) ≤ 0 then wsum (xGP S st) (fun k => (xFac S t k).toInt64) (levN t) / (mxI (nI (xCnt (xGP S st) (levN t))) 1).toInt64
   else wsum (xGP S st) (fun k => xWt S n t k * (xFac S t k).toInt64) (levN t) / wsum (xGP S st) (xWt S n t) (levN t)).toInt32
theorem mxI_ne0 {k : Nat} (h : k ≤ 40) : ¬ (mxI (nI k) 1).toInt64 = 0 := by
  unfold mxI
  by_cases h1 : k = 0
  · subst h1; decide
  · rw [if_neg (fun q => by have := (nI_ltI (a := k) (b := 1) (by omega) (by decide)).mp q; omega), nI_l (by omega)]
    exact lN_ne0 (by omega) (by omega)
/-- the first level from i on that falls behind the one ahead of it -/
def xLowF (f : Nat → Int32) : Nat → Nat → Int32
  | 0, _ => -1
  | d + 1, i => if f (i - 1) ≤ f i then xLowF f d (i + 1) else nI i
def xLow (S : WS) (t : Nat) : Int32 := xLowF (xFac S t) (levN t - 1) 1
def xJoinG (S : WS) (t fl st : Nat) (i : Nat) : Nat → Int32 := fun k => if fl ≤ k ∧ k < i ∧ xIa S 2 k = nI fl then nI st else xIa S 2 k
def xJoin1 (S : WS) (t fl st : Nat) : WS := xsIa S 2 (xJoinG S t fl st (levN t))
def xJoinF (S : WS) (t st : Nat) (v : Int32) (i : Nat) : Nat → Int32 := fun k => if st ≤ k ∧ k < i ∧ xIa S 2 k = nI st then v else xFac S t k
def xJoin (S : WS) (n t fl st : Nat) : WS := xsFac (xJoin1 S t fl st) t (xJoinF (xJoin1 S t fl st) t st (xMean (xJoin1 S t fl st) n t st) (levN t))
theorem jg_0 (S : WS) (t fl st : Nat) : xsIa S 2 (xJoinG S t fl st fl) = S := by
  have h : xJoinG S t fl st fl = xIa S 2 := funext fun k => if_neg (fun q => by omega)
  rw [h]; exact ia_self S 2
theorem jg_keep (S : WS) (t fl st i : Nat) (h : ¬ xIa S 2 i = nI fl) : xJoinG S t fl st (i + 1) = xJoinG S t fl st i := by
  funext k
  unfold xJoinG
  by_cases hk : k = i
  · subst hk
    rw [if_neg (fun q => h q.2.2), if_neg (fun q => by omega)]
  · by_cases h2 : fl ≤ k ∧ k < i ∧ xIa S 2 k = nI fl
    · rw [if_pos h2, if_pos ⟨h2.1, by omega, h2.2.2⟩]
    · rw [if_neg h2, if_neg (fun q => h2 ⟨q.1, by omega, q.2.2⟩)]
theorem jg_put (S : WS) (t fl st i : Nat) (h0 : fl ≤ i) (h : xIa S 2 i = nI fl) : upd (xJoinG S t fl st i) i (nI st) = xJoinG S t fl st (i + 1) := by
  funext k
  unfold upd
  by_cases hk : k = i
  · subst hk
    rw [if_pos rfl]
    exact (if_pos ⟨h0, by omega, h⟩).symm
  · rw [if_neg hk]
    unfold xJoinG
    by_cases h2 : fl ≤ k ∧ k < i ∧ xIa S 2 k = nI fl
    · rw [if_pos h2, if_pos ⟨h2.1, by omega, h2.2.2⟩]
    · rw [if_neg h2, if_neg (fun q => h2 ⟨q.1, by omega, q.2.2⟩)]
theorem jg_at (S : WS) (t fl st i : Nat) : xJoinG S t fl st i i = xIa S 2 i := if_neg (fun q => by omega)
theorem jg_step (S : WS) (t fl st i : Nat) (h0 : fl ≤ i) (h : xIa S 2 i = nI fl) : xsIa (xsIa S 2 (xJoinG S t fl st i)) 2 (upd (xIa (xsIa S 2 (xJoinG S t fl st i)) 2) i (nI st)) = xsIa S 2 (xJoinG S t fl st (i + 1)) := by
  rw [ia_twice, ia_at, jg_put S t fl st i h0 h]
theorem jf_0 (S : WS) (t st : Nat) (v : Int32) : xsFac S t (xJoinF S t st v st) = S := by
  have h : xJoinF S t st v st = xFac S t := funext fun k => if_neg (fun q => by omega)
  rw [h]; exact fac_self S t
theorem jf_keep (S : WS) (t st i : Nat) (v : Int32) (h : ¬ xIa S 2 i = nI st) : xJoinF S t st v (i + 1) = xJoinF S t st v i := by
  funext k
  unfold xJoinF
  by_cases hk : k = i
  · subst hk
    rw [if_neg (fun q => h q.2.2), if_neg (fun q => by omega)]
  · by_cases h2 : st ≤ k ∧ k < i ∧ xIa S 2 k = nI st
    · rw [if_pos h2, if_pos ⟨h2.1, by omega, h2.2.2⟩]
    · rw [if_neg h2, if_neg (fun q => h2 ⟨q.1, by omega, q.2.2⟩)]
theorem jf_put (S : WS) (t st i : Nat) (v : Int32) (h0 : st ≤ i) (h : xIa S 2 i = nI st) : upd (xJoinF S t st v i) i v = xJoinF S t st v (i + 1) := by
  funext k
  unfold upd
  by_cases hk : k = i
  · subst hk
    rw [if_pos rfl]
    exact (if_pos ⟨h0, by omega, h⟩).symm
  · rw [if_neg hk]
    unfold xJoinF
    by_cases h2 : st ≤ k ∧ k < i ∧ xIa S 2 k = nI st
    · rw [if_pos h2, if_pos ⟨h2.1, by omega, h2.2.2⟩]
    · rw [if_neg h2, if_neg (fun q => h2 ⟨q.1, by omega, q.2.2⟩)]
theorem jf_step (S : WS) (t st i : Nat) (v : Int32) (h0 : st ≤ i) (h : xIa S 2 i = nI st) : xsFac (xsFac S t (xJoinF S t st v i)) t (upd (xFac (xsFac S t (xJoinF S t st v i)) t) i v) = xsFac S t (xJoinF S t st v (i + 1)) := by
  rw [fac_twice, fac_at, jf_put S t st i v h0 h]
def xChP (S : WS) (t : Nat) : Nat → Bool := fun k => !decide (xFac S t k = xIa S 3 k)
