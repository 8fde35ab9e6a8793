/-! the order of the rows, and the law's choosing of it one by one -/
theorem xCnt_cong {P Q : Nat → Bool} : ∀ n : Nat, (∀ k, k < n → P k = Q k) → xCnt P n = xCnt Q n
  | 0, _ => rfl
  | n + 1, h1 => by
    have ih := xCnt_cong n (fun k hk => h1 k (by omega))
    have e1 := h1 n (by omega)
    cases hp : P n
    · rw [xCnt_f hp, xCnt_f (e1.symm.trans hp), ih]
    · rw [xCnt_t hp, xCnt_t (e1.symm.trans hp), ih]
theorem xCnt_rem {P Q : Nat → Bool} {r : Nat} : ∀ n : Nat, r < n → P r = true → Q r = false → (∀ k, k ≠ r → Q k = P k) → xCnt P n = xCnt Q n + 1
  | 0, h, _, _, _ => absurd h (Nat.not_lt_zero r)
  | n + 1, h, hp, hq, he => by
    by_cases c : r = n
    · subst c
      rw [xCnt_t hp, xCnt_f hq, xCnt_cong r (fun k hk => (he k (by omega)).symm)]
    · have ih := xCnt_rem n (by omega) hp hq he
      have e := he n (fun q => c q.symm)
      cases hn : P n
      · rw [xCnt_f hn, xCnt_f (e.trans hn), ih]
      · rw [xCnt_t hn, xCnt_t (e.trans hn), ih]
theorem lN_cl {c : Nat} (h : c < 2 ^ 63) : (lN c).toNatClampNeg = c := by
  show (lN c).toInt.toNat = c
  rw [pk_lT h]
  rfl
def rD (T : WS) (k : Nat) : Nat := (xLng T 2 k).toNatClampNeg
def rF (T : WS) (k : Nat) : Nat := (xLng T 3 k).toNatClampNeg
/-- row a is ahead of row b -/
def aN (T : WS) (a b : Nat) : Prop := rD T b * (1 + rF T a) < rD T a * (1 + rF T b) ∨ (rD T a * (1 + rF T b) = rD T b * (1 + rF T a) ∧ a < b)
section RANK
variable {n : Nat} {T S : WS}
theorem rD_ok (h : LN n T) {k : Nat} (hk : k < n) : xLng T 2 k = lN (rD T k) ∧ rD T k ≤ 1000000 := by
  obtain ⟨c, hc, e⟩ := ln_loss h hk
  unfold rD
  rw [e, lN_cl (by omega)]
  exact ⟨rfl, hc⟩
theorem rF_ok (h : LN n T) {k : Nat} (hk : k < n) (hv : xLiv T k = true) : xLng T 3 k = lN (rF T k) ∧ rF T k ≤ 12000000000 := by
  obtain ⟨c, hc, e⟩ := ln_fit h hk (by simpa [xLiv] using hv)
  unfold rF
  rw [e, lN_cl (by omega)]
  exact ⟨rfl, hc⟩
theorem prodB {d f : Nat} (hd : d ≤ 1000000) (hf : f ≤ 12000000000) : d * (1 + f) < 2 ^ 63 := by
  have : d * (1 + f) ≤ 1000000 * 12000000001 := Nat.mul_le_mul hd (by omega)
  omega
theorem ah_iff (h : LN n T) {a b : Nat} (ha : a < n) (hb : b < n) (va : xLiv T a = true) (vb : xLiv T b = true) : xAhead T a b = true ↔ aN T a b := by
  obtain ⟨e1, h1⟩ := rD_ok h ha
  obtain ⟨e2, h2⟩ := rD_ok h hb
  obtain ⟨e3, h3⟩ := rF_ok h ha va
  obtain ⟨e4, h4⟩ := rF_ok h hb vb
  have hn := ln_n h
  have o1 : ∀ c : Nat, (1 : Int64) + lN c = lN (1 + c) := fun c => lN_add 1 c
  unfold xAhead aN
  rw [e1, e2, e3, e4, o1, o1, lN_mul, lN_mul, Bool.or_eq_true, Bool.and_eq_true, decide_eq_true_eq, decide_eq_true_eq, Bool.not_eq_true', decide_eq_false_iff_not,
    pk_lLT (prodB h2 h3) (prodB h1 h4), pk_lEQ (prodB h1 h4) (prodB h2 h3), nI_leI (by omega) (by omega)]
  omega
theorem aN_irr (a : Nat) : ¬ aN T a a := by
  unfold aN
  omega
theorem aN_tot {a b : Nat} (h : a ≠ b) : aN T a b ∨ aN T b a := by
  unfold aN
  omega
theorem aN_asy {a b : Nat} (h : aN T a b) : ¬ aN T b a := by
  unfold aN at *
  omega
theorem aN_tr {a b c : Nat} (h1 : aN T a b) (h2 : aN T b c) : aN T a c := by
  unfold aN at *
  generalize rD T a = da at *
  generalize rD T b = db at *
  generalize rD T c = dc at *
  generalize hwa : 1 + rF T a = wa at *
  generalize hwb : 1 + rF T b = wb at *
  generalize hwc : 1 + rF T c = wc at *
  have pa : 0 < wa := by omega
  have pb : 0 < wb := by omega
  have pc : 0 < wc := by omega
  have k1 : da * wc * wb = da * wb * wc := Nat.mul_right_comm _ _ _
  have k2 : dc * wa * wb = dc * wb * wa := Nat.mul_right_comm _ _ _
  have k3 : db * wa * wc = db * wc * wa := Nat.mul_right_comm _ _ _
  rcases h1 with h1 | ⟨h1, g1⟩
  · left
    have m1 : db * wa * wc < da * wb * wc := Nat.mul_lt_mul_of_pos_right h1 pc
    rcases h2 with h2 | ⟨h2, g2⟩
    · have m2 : dc * wb * wa < db * wc * wa := Nat.mul_lt_mul_of_pos_right h2 pa
      exact Nat.lt_of_mul_lt_mul_right (a := wb) (by omega)
    · have m2 : db * wc * wa = dc * wb * wa := by rw [h2]
      exact Nat.lt_of_mul_lt_mul_right (a := wb) (by omega)
  · have m1 : da * wb * wc = db * wa * wc := by rw [h1]
    rcases h2 with h2 | ⟨h2, g2⟩
    · left
      have m2 : dc * wb * wa < db * wc * wa := Nat.mul_lt_mul_of_pos_right h2 pa
      exact Nat.lt_of_mul_lt_mul_right (a := wb) (by omega)
    · right
      have m2 : db * wc * wa = dc * wb * wa := by rw [h2]
      exact ⟨Nat.eq_of_mul_eq_mul_right pb (by omega), by omega⟩
theorem pl_t (h : LN n T) {r k : Nat} (hr : r < n) (hk : k < n) (vr : xLiv T r = true) : xPlP T r k = true ↔ xLiv T k = true ∧ aN T k r := by
  unfold xPlP
  rw [Bool.and_eq_true]
  constructor
  · rintro ⟨q1, q2⟩
    exact ⟨q1, (ah_iff h hk hr q1 vr).mp q2⟩
  · rintro ⟨q1, q2⟩
    exact ⟨q1, (ah_iff h hk hr q1 vr).mpr q2⟩
theorem pl_f (h : LN n T) {r k : Nat} (hr : r < n) (hk : k < n) (vr : xLiv T r = true) (q : ¬ (xLiv T k = true ∧ aN T k r)) : xPlP T r k = false := by
  cases e : xPlP T r k
  · rfl
  · exact absurd ((pl_t h hr hk vr).mp e) q
theorem pl_lt (h : LN n T) {a b : Nat} (ha : a < n) (hb : b < n) (va : xLiv T a = true) (vb : xLiv T b = true) (hab : aN T a b) : xPlace T a n < xPlace T b n := by
  refine xCnt_lt2 n (fun k hk q => ?_) a ha (pl_f h ha ha va (fun q => aN_irr a q.2)) ((pl_t h hb ha vb).mpr ⟨va, hab⟩)
  obtain ⟨q1, q2⟩ := (pl_t h ha hk va).mp q
  exact (pl_t h hb hk vb).mpr ⟨q1, aN_tr q2 hab⟩
theorem rankF_of (h : LN n T) {b p : Nat} (hb : b < n) (vb : xLiv T b = true) (hp : xPlace T b n = p) : ∀ d i : Nat, i + d = n → i ≤ b → xRankF T n (nI p) d i = some b
  | 0, i, h1, h2 => absurd h1 (by omega)
  | d + 1, i, h1, h2 => by
    have ih := rankF_of h hb vb hp d (i + 1) (by omega)
    have hn := ln_n h
    by_cases e : i = b
    · subst e
      have hv : ¬ xIa T 1 i = 0 := by simpa [xLiv] using vb
      exact (if_neg hv).trans (if_pos (by rw [hp]))
    · by_cases c : xIa T 1 i = 0
      · exact (if_pos c).trans (ih (by omega))
      · have vi : xLiv T i = true := by simp [xLiv, c]
        have hne : ¬ nI (xPlace T i n) = nI p := by
          intro q
          have l1 : xPlace T i n ≤ n := xCnt_le _ _
          have l2 : xPlace T b n ≤ n := xCnt_le _ _
          have q2 := (nI_eq (by omega) (by omega)).mp q
          rcases aN_tot (T := T) e with g | g
          · have := pl_lt h (by omega) hb vi vb g; omega
          · have := pl_lt h hb (by omega) vb vi g; omega
        exact (if_neg c).trans ((if_neg hne).trans (ih (by omega)))
theorem rank_of (h : LN n T) {b p : Nat} (hb : b < n) (vb : xLiv T b = true) (hp : xPlace T b n = p) : xRank T n (nI p) = some b := rankF_of h hb vb hp n 0 (by omega) (by omega)
/-- p rows were chosen: those of the bits of M -/
def RkO (T : WS) (n p M : Nat) : Prop := M < 2 ^ 12 ∧ (∀ k, k < n → M.testBit k = true → xLiv T k = true) ∧ (∀ a b, a < n → b < n → M.testBit a = true → xLiv T b = true → M.testBit b = false → aN T a b) ∧ xCnt (fun k => M.testBit k) n = p
def RkI (T : WS) (M i : Nat) (best : Int32) : Prop := (best = -1 ∧ ∀ u, u < i → xLiv T u = true → M.testBit u = true) ∨ ∃ b, b < i ∧ best = nI b ∧ xLiv T b = true ∧ M.testBit b = false ∧ ∀ u, u < i → xLiv T u = true → M.testBit u = false → u ≠ b → aN T b u
theorem rko_0 : RkO T n 0 0 := by
  refine ⟨by decide, fun k _ h => ?_, fun a b _ _ h => ?_, ?_⟩
  · rw [Nat.zero_testBit] at h; cases h
  · rw [Nat.zero_testBit] at h; cases h
  · refine xCnt_z (fun i _ => Nat.zero_testBit i)
theorem rki_0 {M : Nat} : RkI T M 0 (-1) := Or.inl ⟨rfl, fun u h => absurd h (Nat.not_lt_zero u)⟩
theorem rki_skip {M i : Nat} {best : Int32} (h : RkI T M i best) (hi : ¬ (xLiv T i = true ∧ M.testBit i = false)) : RkI T M (i + 1) best := by
  have key : ∀ u, u < i + 1 → xLiv T u = true → M.testBit u = false → u < i := fun u h1 h2 h3 => by
    by_cases e : u = i
    · subst e; exact absurd ⟨h2, h3⟩ hi
    · omega
  rcases h with ⟨e, h⟩ | ⟨b, h1, e, h2, h3, h4⟩
  · refine Or.inl ⟨e, fun u hu hv => ?_⟩
    cases c : M.testBit u
    · have := h u (key u hu hv c) hv
      rw [c] at this; exact this
    · rfl
  · exact Or.inr ⟨b, by omega, e, h2, h3, fun u hu hv hm hne => h4 u (key u hu hv hm) hv hm hne⟩
theorem rki_neg {M i : Nat} {best : Int32} (h : RkI T M i best) (hb : best < 0) (hi : i ≤ 12) (vi : xLiv T i = true) (mi : M.testBit i = false) : RkI T M (i + 1) (nI i) := by
  rcases h with ⟨e, h⟩ | ⟨b, h1, e, h2, h3, h4⟩
  · refine Or.inr ⟨i, by omega, rfl, vi, mi, fun u hu hv hm hne => ?_⟩
    have := h u (by omega) hv
    rw [hm] at this; cases this
  · rw [e] at hb
    exact absurd hb (nI_pos (by omega))
theorem rki_pos {M i : Nat} {best : Int32} (h : RkI T M i best) (hb : ¬ best < 0) : ∃ b, b < i ∧ best = nI b ∧ xLiv T b = true ∧ M.testBit b = false ∧ ∀ u, u < i → xLiv T u = true → M.testBit u = false → u ≠ b → aN T b u := by
  rcases h with ⟨e, h⟩ | h
  · rw [e] at hb; exact absurd (by decide) hb
  · exact h
theorem rk_cmp (h : LR n T S) {k b : Nat} (hk : k < n) (hb : b < n) (vk : xLiv T k = true) (vb : xLiv T b = true) : (lA S 3 k).toInt64 * (xFit T b + 1) ≤ (lA S 3 b).toInt64 * (xFit T k + 1) ↔ rD T k * (1 + rF T b) ≤ rD T b * (1 + rF T k) := by
  obtain ⟨e1, h1⟩ := rD_ok h.1 hk
  obtain ⟨e2, h2⟩ := rD_ok h.1 hb
  obtain ⟨e3, h3⟩ := rF_ok h.1 hk vk
  obtain ⟨e4, h4⟩ := rF_ok h.1 hb vb
  rw [lr_d h hk, lr_d h hb, ← lr_fit h hk, ← lr_fit h hb, e1, e2, e3, e4, lN_1, lN_1, lN_mul, lN_mul, Nat.add_comm (rF T b), Nat.add_comm (rF T k)]
  exact pk_lLE (prodB h1 h4) (prodB h2 h3)
theorem rki_less (h : LR n T S) {M i b : Nat} (hi : i < n) (hb : b < i) (vb : xLiv T b = true) (mb : M.testBit b = false) (hx : ∀ u, u < i → xLiv T u = true → M.testBit u = false → u ≠ b → aN T b u) (vi : xLiv T i = true)
    (c : (lA S 3 i).toInt64 * (xFit T b + 1) ≤ (lA S 3 b).toInt64 * (xFit T i + 1)) : RkI T M (i + 1) (nI b) := by
  have c2 := (rk_cmp h hi (by omega) vi vb).mp c
  refine Or.inr ⟨b, by omega, rfl, vb, mb, fun u hu hv hm hne => ?_⟩
  by_cases e : u = i
  · subst e
    unfold aN
    omega
  · exact hx u (by omega) hv hm hne
theorem rki_more (h : LR n T S) {M i b : Nat} (hi : i < n) (hb : b < i) (vb : xLiv T b = true) (mb : M.testBit b = false) (hx : ∀ u, u < i → xLiv T u = true → M.testBit u = false → u ≠ b → aN T b u) (vi : xLiv T i = true) (mi : M.testBit i = false)
    (c : ¬ (lA S 3 i).toInt64 * (xFit T b + 1) ≤ (lA S 3 b).toInt64 * (xFit T i + 1)) : RkI T M (i + 1) (nI i) := by
  have c2 : ¬ rD T i * (1 + rF T b) ≤ rD T b * (1 + rF T i) := fun q => c ((rk_cmp h hi (by omega) vi vb).mpr q)
  have g : aN T i b := by unfold aN; omega
  refine Or.inr ⟨i, by omega, rfl, vi, mi, fun u hu hv hm hne => ?_⟩
  by_cases e : u = b
  · subst e; exact g
  · exact aN_tr g (hx u (by omega) hv hm e)
theorem rk_end (h : LN n T) {p M : Nat} {best : Int32} (hO : RkO T n p M) (hI : RkI T M n best) (hp : p < xCnt (xLiv T) n) : ∃ b, b < n ∧ best = nI b ∧ xRank T n (nI p) = some b ∧ RkO T n (p + 1) (M ||| 2 ^ b) := by
  have hn := ln_n h
  obtain ⟨o1, o2, o3, o4⟩ := hO
  rcases hI with ⟨e, h1⟩ | ⟨b, h1, e, vb, mb, h4⟩
  · have := xCnt_le2 (p := xLiv T) (q := fun k => M.testBit k) n (fun k hk q => h1 k hk q)
    omega
  · have hpl : xPlace T b n = p := by
      rw [← o4]
      refine xCnt_cong n (fun k hk => ?_)
      cases c : M.testBit k
      · refine pl_f h h1 hk vb ?_
        rintro ⟨q1, q2⟩
        by_cases ek : k = b
        · subst ek; exact aN_irr _ q2
        · exact aN_asy q2 (h4 k hk q1 c ek)
      · exact (pl_t h h1 hk vb).mpr ⟨o2 k hk c, o3 k b hk h1 c vb mb⟩
    have tb : ∀ k, (M ||| 2 ^ b).testBit k = true → k ≠ b → M.testBit k = true := fun k q hne => by
      rw [Nat.testBit_or, Nat.testBit_two_pow_of_ne (Ne.symm hne), Bool.or_false] at q
      exact q
    refine ⟨b, h1, e, rank_of h h1 vb hpl, Nat.or_lt_two_pow o1 (Nat.pow_lt_pow_right (by decide) (by omega)), fun k hk q => ?_, fun x y hx hy q1 q2 q3 => ?_, ?_⟩
    · by_cases ek : k = b
      · rw [ek]; exact vb
      · exact o2 k hk (tb k q ek)
    · rw [Nat.testBit_or, Bool.or_eq_false_iff] at q3
      have hyb : y ≠ b := by
        intro ey
        rw [ey, Nat.testBit_two_pow_self] at q3
        cases q3.2
      by_cases ex : x = b
      · rw [ex]; exact h4 y hy q2 q3.1 hyb
      · exact o3 x y hx hy (tb x q1 ex) q2 q3.1
    · rw [← o4]
      refine xCnt_rem (r := b) n h1 ?_ mb (fun k hk => ?_)
      · show (M ||| 2 ^ b).testBit b = true
        rw [Nat.testBit_or, Nat.testBit_two_pow_self, Bool.or_true]
      · show M.testBit k = (M ||| 2 ^ b).testBit k
        rw [Nat.testBit_or, Nat.testBit_two_pow_of_ne (Ne.symm hk), Bool.or_false]
end RANK
theorem rk_or (a b : Nat) : nI a ||| nI b = nI (a ||| b) := by
  apply Int32.toBitVec_inj.1
  show BitVec.ofNat 32 a ||| BitVec.ofNat 32 b = BitVec.ofNat 32 (a ||| b)
  apply BitVec.eq_of_getLsbD_eq
  intro i hi
  simp [hi]
theorem sh12 : ∀ k : Fin 12, ((nI k.val &&& 31).toBitVec.smod 32).toNat = k.val := by decide +kernel
theorem shl12 : ∀ k : Fin 12, (1 : Int32) <<< (nI k.val &&& 31) = nI (2 ^ k.val) := by decide +kernel
theorem rk_shl {k : Nat} (h : k < 12) : (1 : Int32) <<< (nI k &&& 31) = nI (2 ^ k) := shl12 ⟨k, h⟩
theorem rk_bit {M k : Nat} (hM : M < 2 ^ 12) (h : k < 12) : (nI M >>> (nI k &&& 31)) &&& 1 = nI (M / 2 ^ k % 2) := by
  rw [pk_shrN (by omega) _ k (sh12 ⟨k, h⟩)]
  have hle : M / 2 ^ k ≤ M := Nat.div_le_self _ _
  exact pk_andN (n := M / 2 ^ k) (by omega) (m := 1) 1 (by decide)
theorem rk_bt {M k : Nat} (h : ¬ nI (M / 2 ^ k % 2) = 0) : M.testBit k = true := by
  rw [Nat.testBit_eq_decide_div_mod_eq]
  refine decide_eq_true ?_
  rcases (show M / 2 ^ k % 2 = 0 ∨ M / 2 ^ k % 2 = 1 by omega) with e | e
  · rw [e] at h; exact absurd rfl h
  · exact e
theorem rk_bf {M k : Nat} (h : nI (M / 2 ^ k % 2) = 0) : M.testBit k = false := by
  rw [Nat.testBit_eq_decide_div_mod_eq]
  refine decide_eq_false (fun q => ?_)
  rw [q] at h; exact absurd h (by decide)
