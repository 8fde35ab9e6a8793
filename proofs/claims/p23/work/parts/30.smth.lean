/-! smoothing: the law's blocks against the class's groups -/
theorem wide_le (a b : Int32) : a.toInt64 ≤ b.toInt64 ↔ a ≤ b := by rw [Int64.le_iff_toInt_le, Int32.le_iff_toInt_le, Int32.toInt_toInt64, Int32.toInt_toInt64]
def stt (z : Nat → Nat) : Nat → Nat
  | 0 => 0
  | b + 1 => stt z b + z b
theorem stt_s (z : Nat → Nat) (b : Nat) : stt z (b + 1) = stt z b + z b := rfl
theorem stt_mono {z : Nat → Nat} {a : Nat} : ∀ b, a ≤ b → stt z a ≤ stt z b
  | 0, h => by rw [show a = 0 by omega]; exact Nat.le_refl _
  | b + 1, h => by
    by_cases e : a = b + 1
    · rw [e]; exact Nat.le_refl _
    · have := stt_mono (z := z) (a := a) b (by omega)
      rw [stt_s]; omega
theorem stt_lt {z : Nat → Nat} {B a b : Nat} (hz : ∀ b, b < B → 1 ≤ z b) (h : a < b) (hb : b ≤ B) : stt z a < stt z b := by
  have h1 : stt z (a + 1) ≤ stt z b := stt_mono b (by omega)
  have h2 := hz a (by omega)
  rw [stt_s] at h1
  omega
theorem stt_inj {z : Nat → Nat} {B a b : Nat} (hz : ∀ b, b < B → 1 ≤ z b) (ha : a ≤ B) (hb : b ≤ B) (h : stt z a = stt z b) : a = b := by
  rcases Nat.lt_trichotomy a b with g | g | g
  · have := stt_lt hz g hb; omega
  · exact g
  · have := stt_lt hz g ha; omega
theorem stt_cov {z : Nat → Nat} : ∀ (B v : Nat), v < stt z B → ∃ b, b < B ∧ ∃ i, i < z b ∧ v = stt z b + i
  | 0, v, h => absurd h (Nat.not_lt_zero v)
  | B + 1, v, h => by
    by_cases c : v < stt z B
    · obtain ⟨b, h1, h2⟩ := stt_cov B v c
      exact ⟨b, by omega, h2⟩
    · rw [stt_s] at h
      exact ⟨B, by omega, v - stt z B, by omega, by omega⟩
theorem stt_ge {z : Nat → Nat} : ∀ B, (∀ b, b < B → 1 ≤ z b) → B ≤ stt z B
  | 0, _ => Nat.le_refl 0
  | B + 1, h => by
    have h1 := stt_ge B (fun b hb => h b (by omega))
    have h2 := h B (by omega)
    rw [stt_s]; omega
def isum (f : Nat → Int64) (lo : Nat) : Nat → Int64
  | 0 => 0
  | c + 1 => isum f lo c + f (lo + c)
theorem isum_s (f : Nat → Int64) (lo c : Nat) : isum f lo (c + 1) = isum f lo c + f (lo + c) := rfl
theorem isum_split (f : Nat → Int64) (lo a : Nat) : ∀ b, isum f lo (a + b) = isum f lo a + isum f (lo + a) b
  | 0 => (Int64.add_zero _).symm
  | b + 1 => by
    show isum f lo (a + b) + f (lo + (a + b)) = isum f lo a + (isum f (lo + a) b + f (lo + a + b))
    rw [isum_split f lo a b, Int64.add_assoc, Nat.add_assoc]
theorem isum_const {f : Nat → Int64} {lo : Nat} {m : Int64} : ∀ c, (∀ i, i < c → f (lo + i) = m) → isum f lo c = m * lN c
  | 0, _ => Int64.mul_zero.symm
  | c + 1, h => by
    rw [isum_s, isum_const c (fun i hi => h i (by omega)), h c (by omega), ← lN_1, Int64.mul_add, Int64.mul_one]
theorem isum_mulc {f h : Nat → Int64} {lo : Nat} {m : Int64} : ∀ c, (∀ i, i < c → h (lo + i) = m) → isum (fun v => f v * h v) lo c = m * isum f lo c
  | 0, _ => Int64.mul_zero.symm
  | c + 1, hh => by
    have ih := isum_mulc (f := f) c (fun i hi => hh i (by omega))
    rw [isum_s, isum_s, ih, hh c (by omega), Int64.mul_add, Int64.mul_comm (f (lo + c)) m]
theorem isum_small {f : Nat → Int64} {lo A : Nat} : ∀ c, (∀ i, i < c → ∃ x : Nat, x ≤ A ∧ f (lo + i) = lN x) → ∃ x : Nat, x ≤ c * A ∧ isum f lo c = lN x
  | 0, _ => ⟨0, Nat.zero_le _, rfl⟩
  | c + 1, h => by
    obtain ⟨x, hx, e⟩ := isum_small c (fun i hi => h i (by omega))
    obtain ⟨y, hy, e2⟩ := h c (by omega)
    have e3 : (c + 1) * A = c * A + A := Nat.succ_mul c A
    exact ⟨x + y, by omega, by rw [isum_s, e, e2, lN_add]⟩
theorem wsum_int {P : Nat → Bool} {f : Nat → Int64} {lo c : Nat} : ∀ L, (∀ v, v < L → (P v = true ↔ lo ≤ v ∧ v < lo + c)) → wsum P f L = isum f lo (min (L - lo) c)
  | 0, _ => by rw [Nat.zero_sub, Nat.zero_min]; rfl
  | L + 1, h => by
    have ih := wsum_int (f := f) L (fun v hv => h v (by omega))
    have hL := h L (by omega)
    by_cases q : lo ≤ L ∧ L < lo + c
    · rw [wsum_t (hL.mpr q), ih, show min (L + 1 - lo) c = (L - lo) + 1 by omega, isum_s, show min (L - lo) c = L - lo by omega, show lo + (L - lo) = L by omega]
    · have hf : P L = false := by
        cases e : P L
        · rfl
        · exact absurd (hL.mp e) q
      rw [wsum_f hf, ih, show min (L + 1 - lo) c = min (L - lo) c by omega]
theorem xCnt_int {P : Nat → Bool} {lo c : Nat} : ∀ L, (∀ v, v < L → (P v = true ↔ lo ≤ v ∧ v < lo + c)) → xCnt P L = min (L - lo) c
  | 0, _ => by rw [Nat.zero_sub, Nat.zero_min]; rfl
  | L + 1, h => by
    have ih := xCnt_int L (fun v hv => h v (by omega))
    have hL := h L (by omega)
    by_cases q : lo ≤ L ∧ L < lo + c
    · rw [xCnt_t (hL.mpr q), ih]; omega
    · have hf : P L = false := by
        cases e : P L
        · rfl
        · exact absurd (hL.mp e) q
      rw [xCnt_f hf, ih]; omega
theorem xCnt_ge1 {k : Nat} (h : 0 < k) (h2 : k ≤ 40) : mxI (nI k) 1 = nI k := by
  unfold mxI
  rw [if_neg (fun q => by have := (nI_ltI (a := k) (b := 1) (by omega) (by decide)).mp q; omega)]
theorem lowF_at {f : Nat → Int32} {k : Nat} : ∀ d i, i ≤ k → k < i + d → (∀ j, i ≤ j → j < k → f (j - 1) ≤ f j) → ¬ f (k - 1) ≤ f k → xLowF f d i = nI k
  | 0, i, h1, h2, _, _ => absurd h2 (by omega)
  | d + 1, i, h1, h2, h3, h4 => by
    by_cases e : i = k
    · subst e; exact if_neg h4
    · exact (if_pos (h3 i (by omega) (by omega))).trans (lowF_at d (i + 1) (by omega) (by omega) (fun j hj => h3 j (by omega)) h4)
theorem lowF_no {f : Nat → Int32} : ∀ d i, (∀ j, i ≤ j → j < i + d → f (j - 1) ≤ f j) → xLowF f d i = -1
  | 0, _, _ => rfl
  | d + 1, i, h => (if_pos (h i (by omega) (by omega))).trans (lowF_no d (i + 1) (fun j h1 h2 => h j (by omega) (by omega)))
/-- block k joined to the one ahead of it -/
def mg {α : Type} (f : Nat → α) (k : Nat) (v : α) : Nat → α := fun b => if b + 1 < k then f b else if b + 1 = k then v else f (b + 1)
theorem mg_lo {α : Type} {f : Nat → α} {k : Nat} {v : α} {b : Nat} (h : b + 1 < k) : mg f k v b = f b := if_pos h
theorem mg_at {α : Type} {f : Nat → α} {k : Nat} {v : α} {b : Nat} (h : b + 1 = k) : mg f k v b = v := (if_neg (by omega)).trans (if_pos h)
theorem mg_hi {α : Type} {f : Nat → α} {k : Nat} {v : α} {b : Nat} (h : k ≤ b) : mg f k v b = f (b + 1) := (if_neg (by omega)).trans (if_neg (by omega))
theorem stt_mg (z : Nat → Nat) {k : Nat} (hk : 1 ≤ k) : ∀ b, stt (mg z k (z (k - 1) + z k)) b = if b < k then stt z b else stt z (b + 1)
  | 0 => by rw [if_pos (by omega)]; rfl
  | b + 1 => by
    have ih := stt_mg z hk b
    rw [stt_s, ih]
    by_cases h1 : b + 1 < k
    · rw [if_pos (by omega), if_pos h1, mg_lo h1]; rfl
    · rw [if_neg h1]
      by_cases h2 : b + 1 = k
      · rw [if_pos (by omega), mg_at h2, stt_s, stt_s, ← h2, Nat.add_sub_cancel, Nat.add_assoc]
      · rw [if_neg (by omega), mg_hi (by omega)]; rfl
def BI (n t : Nat) (T U : WS) (z : Nat → Nat) (B : Nat) (M V : Nat → Int64) (Z : Nat → Int32) : Prop := 1 ≤ B ∧ stt z B = levN t ∧
  (∀ b, b < B → 1 ≤ z b ∧ Z b = nI (z b) ∧ V b = isum (sExp T n t) (stt z b) (z b) ∧ (∃ m : Nat, 100 ≤ m ∧ m ≤ 100000 ∧ M b = lN m) ∧ ∀ i, i < z b → xIa U 2 (stt z b + i) = nI (stt z b) ∧ (xFac U t (stt z b + i)).toInt64 = M b) ∧
  (∀ v, v < levN t → xIa U 3 v = xFac T t v) ∧ xIa U 1 = xIa T 1 ∧ xLev U = xLev T ∧ xLng U = xLng T
theorem BI_cg {n t : Nat} {T U : WS} {z : Nat → Nat} {B : Nat} {M V M' V' : Nat → Int64} {Z Z' : Nat → Int32} (h : BI n t T U z B M V Z) (h1 : ∀ b, b < B → M' b = M b) (h2 : ∀ b, b < B → V' b = V b) (h3 : ∀ b, b < B → Z' b = Z b) : BI n t T U z B M' V' Z' := by
  obtain ⟨a1, a2, a3, a4⟩ := h
  refine ⟨a1, a2, fun b hb => ?_, a4⟩
  rw [h1 b hb, h2 b hb, h3 b hb]
  exact a3 b hb
/-- the mean of two blocks, as the law finds it -/
def lMean (M V : Nat → Int64) (Z : Nat → Int32) (k : Nat) : Int64 := if V (k - 1) + V k = 0 then (M (k - 1) * (Z (k - 1)).toInt64 + M k * (Z k).toInt64) / (Z (k - 1) + Z k).toInt64 else (M (k - 1) * V (k - 1) + M k * V k) / (V (k - 1) + V k)
theorem avg_rng {m1 m2 a b : Nat} (h1 : 100 ≤ m1) (h2 : m1 ≤ 100000) (h3 : 100 ≤ m2) (h4 : m2 ≤ 100000) (h5 : 0 < a + b) : 100 ≤ (m1 * a + m2 * b) / (a + b) ∧ (m1 * a + m2 * b) / (a + b) ≤ 100000 := by
  have q1 : 100 * a ≤ m1 * a := Nat.mul_le_mul_right _ h1
  have q2 : m1 * a ≤ 100000 * a := Nat.mul_le_mul_right _ h2
  have q3 : 100 * b ≤ m2 * b := Nat.mul_le_mul_right _ h3
  have q4 : m2 * b ≤ 100000 * b := Nat.mul_le_mul_right _ h4
  constructor
  · exact (Nat.le_div_iff_mul_le h5).mpr (by omega)
  · exact Nat.div_le_of_le_mul (by omega)
section SMTH
variable {n t B k : Nat} {T U : WS} {z : Nat → Nat} {M V : Nat → Int64} {Z : Nat → Int32}
theorem bi_z (h : BI n t T U z B M V Z) : ∀ b, b < B → 1 ≤ z b := fun b hb => (h.2.2.1 b hb).1
theorem bi_B (h : BI n t T U z B M V Z) : B ≤ levN t := by
  have := stt_ge B (bi_z h)
  rw [h.2.1] at this
  exact this
theorem bi_le (h : BI n t T U z B M V Z) {b : Nat} (hb : b < B) : stt z b + z b ≤ levN t := by
  have : stt z (b + 1) ≤ stt z B := stt_mono B (by omega)
  rw [h.2.1, stt_s] at this
  exact this
theorem bi_zz (h : BI n t T U z B M V Z) {b : Nat} (hb : b < B) : z b ≤ 4 := by
  have := bi_le h hb
  have := levN_4 t
  omega
/-- levels up to the start of block K don't fall -/
theorem bi_up (h : BI n t T U z B M V Z) {K : Nat} (hK : K ≤ B) (hs : ∀ j, 1 ≤ j → j < K → M (j - 1) ≤ M j) : ∀ v, 1 ≤ v → v < stt z K → xFac U t (v - 1) ≤ xFac U t v := by
  intro v h1 h2
  obtain ⟨b, hb, i, hi, e⟩ := stt_cov K v h2
  obtain ⟨-, -, -, -, q⟩ := h.2.2.1 b (by omega)
  by_cases c : i = 0
  · subst c
    obtain ⟨b', rfl⟩ : ∃ b', b = b' + 1 := ⟨b - 1, by
      have : b ≠ 0 := fun q => by
        subst q
        have e0 : stt z 0 = 0 := rfl
        omega
      omega⟩
    obtain ⟨z1, -, -, -, q1⟩ := h.2.2.1 b' (by omega)
    have e1 := (q 0 hi).2
    have e2 := (q1 (z b' - 1) (by omega)).2
    have e3 := hs (b' + 1) (by omega) hb
    rw [Nat.add_sub_cancel, ← e1, ← e2, wide_le] at e3
    rw [e, show stt z (b' + 1) + 0 - 1 = stt z b' + (z b' - 1) by rw [stt_s]; omega]
    exact e3
  · have e1 := (q i hi).2
    have e2 := (q (i - 1) (by omega)).2
    have e3 : xFac U t (v - 1) = xFac U t v := by
      rw [e, show stt z b + i - 1 = stt z b + (i - 1) by omega]
      exact i64_inj (e2.trans e1.symm)
    rw [e3]
    exact Int32.le_refl _
theorem bi_none (h : BI n t T U z B M V Z) (hs : ∀ j, 1 ≤ j → j < B → M (j - 1) ≤ M j) : xLow U t = -1 := by
  have h3 := levN_3 t
  have hu := bi_up h (Nat.le_refl B) hs
  rw [h.2.1] at hu
  exact lowF_no _ _ (fun j h1 h2 => hu j h1 (by omega))
theorem bi_fall (h : BI n t T U z B M V Z) (hk : 1 ≤ k) (hkB : k < B) (hf : ¬ M (k - 1) ≤ M k) : ¬ xFac U t (stt z k - 1) ≤ xFac U t (stt z k) := by
  obtain ⟨-, -, -, -, q⟩ := h.2.2.1 k hkB
  obtain ⟨z1, -, -, -, q1⟩ := h.2.2.1 (k - 1) (by omega)
  have hz := bi_z h k hkB
  have e1 := (q 0 (by omega)).2
  have e2 := (q1 (z (k - 1) - 1) (by omega)).2
  rw [Nat.add_zero] at e1
  have e4 : stt z (k - 1) + (z (k - 1) - 1) = stt z k - 1 := by
    obtain ⟨j, rfl⟩ : ∃ j, k = j + 1 := ⟨k - 1, by omega⟩
    rw [Nat.add_sub_cancel] at z1 ⊢
    rw [stt_s]; omega
  rw [e4] at e2
  rw [← e1, ← e2, wide_le] at hf
  exact hf
theorem bi_low (h : BI n t T U z B M V Z) (hk : 1 ≤ k) (hkB : k < B) (hs : ∀ j, 1 ≤ j → j < k → M (j - 1) ≤ M j) (hf : ¬ M (k - 1) ≤ M k) : xLow U t = nI (stt z k) := by
  have h3 := levN_3 t
  have hu := bi_up h (Nat.le_of_lt hkB) hs
  have h1 := stt_lt (bi_z h) (show 0 < k by omega) (Nat.le_of_lt hkB)
  have h2 := bi_le h hkB
  have h4 := bi_z h k hkB
  have e0 : stt z 0 = 0 := rfl
  exact lowF_at _ _ (by omega) (by omega) (fun j g1 g2 => hu j g1 g2) (bi_fall h hk hkB hf)
theorem bi_s1 (hk : 1 ≤ k) : stt z k = stt z (k - 1) + z (k - 1) := by
  obtain ⟨j, rfl⟩ : ∃ j, k = j + 1 := ⟨k - 1, by omega⟩
  rfl
theorem bi_jst (h : BI n t T U z B M V Z) (hk : 1 ≤ k) (hkB : k < B) (hl : xLow U t = nI (stt z k)) : tN (xLow U t) = stt z k ∧ xJst U t = stt z (k - 1) := by
  have h4 := levN_4 t
  have h2 := bi_le h hkB
  obtain ⟨z1, -, -, -, q1⟩ := h.2.2.1 (k - 1) (by omega)
  have e := bi_s1 (z := z) hk
  have e1 : tN (xLow U t) = stt z k := by rw [hl, tN_nI (by omega)]
  refine ⟨e1, ?_⟩
  unfold xJst
  rw [e1, show stt z k - 1 = stt z (k - 1) + (z (k - 1) - 1) by omega, (q1 _ (by omega)).1, tN_nI (by omega)]
/-- whose levels are joined -/
theorem bi_P (h : BI n t T U z B M V Z) (hk : 1 ≤ k) (hkB : k < B) {v : Nat} (hv : v < levN t) : (xIa U 2 v = nI (stt z (k - 1)) ∨ xIa U 2 v = nI (stt z k)) ↔ stt z (k - 1) ≤ v ∧ v < stt z (k - 1) + (z (k - 1) + z k) := by
  have h4 := levN_4 t
  have e := bi_s1 (z := z) hk
  constructor
  · intro q
    obtain ⟨b, hb, i, hi, ev⟩ := stt_cov B v (by rw [h.2.1]; exact hv)
    have e1 := ((h.2.2.1 b hb).2.2.2.2 i hi).1
    rw [← ev] at e1
    have hb2 := bi_le h hb
    have hb3 := bi_le h hkB
    rcases q with q | q
    · have q2 := (nI_eq (by omega) (by omega)).mp (e1.symm.trans q)
      have := stt_inj (bi_z h) (by omega) (by omega) q2
      subst this
      omega
    · have q2 := (nI_eq (by omega) (by omega)).mp (e1.symm.trans q)
      have := stt_inj (bi_z h) (by omega) (by omega) q2
      subst this
      omega
  · rintro ⟨q1, q2⟩
    by_cases c : v < stt z k
    · left
      have e1 := ((h.2.2.1 (k - 1) (by omega)).2.2.2.2 (v - stt z (k - 1)) (by omega)).1
      rw [show stt z (k - 1) + (v - stt z (k - 1)) = v by omega] at e1
      exact e1
    · right
      have e1 := ((h.2.2.1 k hkB).2.2.2.2 (v - stt z k) (by omega)).1
      rw [show stt z k + (v - stt z k) = v by omega] at e1
      exact e1
theorem bi_V (h : BI n t T U z B M V Z) (hN : LN n T) {b : Nat} (hb : b < B) : ∃ w : Nat, w ≤ 48000 ∧ V b = lN w := by
  obtain ⟨w, hw, e⟩ := isum_small (f := sExp T n t) (lo := stt z b) (A := 12000) (z b) (fun i _ => s_exp hN t _)
  have := bi_zz h hb
  have : z b * 12000 ≤ 4 * 12000 := Nat.mul_le_mul_right _ this
  exact ⟨w, by omega, (h.2.2.1 b hb).2.2.1.trans e⟩
theorem bi_zdiv (h : BI n t T U z B M V Z) (hk : 1 ≤ k) (hkB : k < B) : (Z (k - 1) + Z k).toInt64 = lN (z (k - 1) + z k) ∧ 0 < z (k - 1) + z k ∧ z (k - 1) + z k ≤ 8 := by
  obtain ⟨z1, e1, -⟩ := h.2.2.1 (k - 1) (by omega)
  obtain ⟨z2, e2, -⟩ := h.2.2.1 k hkB
  have a1 := bi_zz h (show k - 1 < B by omega)
  have a2 := bi_zz h hkB
  rw [e1, e2, nI_add, nI_l (by omega)]
  exact ⟨rfl, by omega, by omega⟩
theorem bi_zne (h : BI n t T U z B M V Z) (hk : 1 ≤ k) (hkB : k < B) : ¬ (Z (k - 1) + Z k).toInt64 = 0 := by
  obtain ⟨e, h1, h2⟩ := bi_zdiv h hk hkB
  rw [e]
  exact lN_ne0 (by omega) h1
theorem bi_mean (h : BI n t T U z B M V Z) (hN : LN n T) (hk : 1 ≤ k) (hkB : k < B) : ∃ q : Nat, 100 ≤ q ∧ q ≤ 100000 ∧ lMean M V Z k = lN q := by
  obtain ⟨-, ez1, -, ⟨m1, a1, a2, e1⟩, -⟩ := h.2.2.1 (k - 1) (by omega)
  obtain ⟨-, ez2, -, ⟨m2, a3, a4, e2⟩, -⟩ := h.2.2.1 k hkB
  obtain ⟨w1, hw1, e3⟩ := bi_V h hN (show k - 1 < B by omega)
  obtain ⟨w2, hw2, e4⟩ := bi_V h hN hkB
  obtain ⟨e5, z0, z8⟩ := bi_zdiv h hk hkB
  unfold lMean
  by_cases c : V (k - 1) + V k = 0
  · rw [if_pos c, e5, ez1, ez2, e1, e2, nI_l (n := z (k - 1)) (by omega), nI_l (n := z k) (by omega), lN_mul, lN_mul, lN_add]
    have q1 : m1 * z (k - 1) ≤ 100000 * 8 := Nat.mul_le_mul a2 (by omega)
    have q2 : m2 * z k ≤ 100000 * 8 := Nat.mul_le_mul a4 (by omega)
    obtain ⟨r1, r2⟩ := avg_rng a1 a2 a3 a4 z0
    rw [pk_lDiv (by omega) z0 (by omega)]
    exact ⟨_, r1, r2, rfl⟩
  · rw [if_neg c]
    rw [e3, e4, lN_add] at c ⊢
    have hp : 0 < w1 + w2 := Nat.pos_of_ne_zero fun q => c (by rw [q]; rfl)
    have q1 : m1 * w1 ≤ 100000 * 48000 := Nat.mul_le_mul a2 hw1
    have q2 : m2 * w2 ≤ 100000 * 48000 := Nat.mul_le_mul a4 hw2
    obtain ⟨r1, r2⟩ := avg_rng a1 a2 a3 a4 hp
    rw [e1, e2, lN_mul, lN_mul, lN_add, pk_lDiv (by omega) hp (by omega)]
    exact ⟨_, r1, r2, rfl⟩
theorem bi_xmean (h : BI n t T U z B M V Z) (hN : LN n T) (hJ : xJI U t) (hk : 1 ≤ k) (hkB : k < B) : xMean (xJoin1 U t (stt z k) (stt z (k - 1))) n t (stt z (k - 1)) = (lMean M V Z k).toInt32 := by
  have h4 := levN_4 t
  have e := bi_s1 (z := z) hk
  have hle := bi_le h hkB
  have hzk := bi_z h k hkB
  have hzk1 := bi_z h (k - 1) (by omega)
  obtain ⟨-, ez1, eV1, -, q1⟩ := h.2.2.1 (k - 1) (by omega)
  obtain ⟨-, ez2, eV2, -, q2⟩ := h.2.2.1 k hkB
  obtain ⟨-, -, -, -, u1, u2, u3⟩ := id h
  obtain ⟨w1, hw1, e3⟩ := bi_V h hN (show k - 1 < B by omega)
  obtain ⟨w2, hw2, e4⟩ := bi_V h hN hkB
  obtain ⟨e5, z0, z8⟩ := bi_zdiv h hk hkB
  have hP : ∀ v, v < levN t → (xGP (xJoin1 U t (stt z k) (stt z (k - 1))) (stt z (k - 1)) v = true ↔ stt z (k - 1) ≤ v ∧ v < stt z (k - 1) + (z (k - 1) + z k)) := by
    intro v hv
    have e6 : xIa (xJoin1 U t (stt z k) (stt z (k - 1))) 2 v = if xIa U 2 v = nI (stt z (k - 1)) ∨ xIa U 2 v = nI (stt z k) then nI (stt z (k - 1)) else xIa U 2 v := xJoin_J (n := n) hJ (by omega) hv
    have e7 := bi_P h hk hkB hv
    unfold xGP
    rw [Bool.and_eq_true, decide_eq_true_eq, decide_eq_true_eq, e6]
    constructor
    · rintro ⟨g1, g2⟩
      by_cases c : xIa U 2 v = nI (stt z (k - 1)) ∨ xIa U 2 v = nI (stt z k)
      · exact e7.mp c
      · rw [if_neg c] at g2; exact absurd (Or.inl g2) c
    · intro g
      rw [if_pos (e7.mpr g)]
      exact ⟨g.1, rfl⟩
  have hmin : min (levN t - stt z (k - 1)) (z (k - 1) + z k) = z (k - 1) + z k := by omega
  have sW : wsum (xGP (xJoin1 U t (stt z k) (stt z (k - 1))) (stt z (k - 1))) (xWt (xJoin1 U t (stt z k) (stt z (k - 1))) n t) (levN t) = V (k - 1) + V k := by
    rw [wsum_int _ hP, hmin, isum_split, eV1, eV2, e]
    have ew : xWt (xJoin1 U t (stt z (k - 1) + z (k - 1)) (stt z (k - 1))) n t = sExp T n t := by
      funext v
      show xLTot (xIa U 1) (xLev U t) (nI v) (xLng U 0) n = xLTot (xIa T 1) (xLev T t) (nI v) (xLng T 0) n
      rw [u1, u2, u3]
    rw [ew]
  have sF : wsum (xGP (xJoin1 U t (stt z k) (stt z (k - 1))) (stt z (k - 1))) (fun v => (xFac (xJoin1 U t (stt z k) (stt z (k - 1))) t v).toInt64) (levN t) = M (k - 1) * lN (z (k - 1)) + M k * lN (z k) := by
    rw [wsum_int _ hP, hmin, isum_split, isum_const (m := M (k - 1)) _ (fun i hi => (q1 i hi).2), isum_const (m := M k) _ (fun i hi => by rw [← e]; exact (q2 i hi).2)]
  have sX : wsum (xGP (xJoin1 U t (stt z k) (stt z (k - 1))) (stt z (k - 1))) (fun v => xWt (xJoin1 U t (stt z k) (stt z (k - 1))) n t v * (xFac (xJoin1 U t (stt z k) (stt z (k - 1))) t v).toInt64) (levN t) = M (k - 1) * V (k - 1) + M k * V k := by
    have ew : xWt (xJoin1 U t (stt z k) (stt z (k - 1))) n t = sExp T n t := by
      funext v
      show xLTot (xIa U 1) (xLev U t) (nI v) (xLng U 0) n = xLTot (xIa T 1) (xLev T t) (nI v) (xLng T 0) n
      rw [u1, u2, u3]
    rw [wsum_int _ hP, hmin, isum_split, ew, isum_mulc (f := sExp T n t) (m := M (k - 1)) _ (fun i hi => (q1 i hi).2), isum_mulc (f := sExp T n t) (m := M k) _ (fun i hi => by rw [← e]; exact (q2 i hi).2), eV1, eV2, e]
  have sC : xCnt (xGP (xJoin1 U t (stt z k) (stt z (k - 1))) (stt z (k - 1))) (levN t) = z (k - 1) + z k := by rw [xCnt_int _ hP, hmin]
  unfold xMean lMean
  rw [sW, sF, sX, sC, xCnt_ge1 z0 (by omega), e5, ez1, ez2, nI_l (n := z (k - 1)) (by omega), nI_l (n := z k) (by omega), nI_l (n := z (k - 1) + z k) (by omega)]
  rw [e3, e4, lN_add]
  by_cases c : w1 + w2 = 0
  · rw [if_pos ((lN_le0 (by omega)).mpr c), if_pos ((lN_z (by omega)).mpr c)]
  · rw [if_neg (fun r => c ((lN_le0 (by omega)).mp r)), if_neg (fun r => c ((lN_z (by omega)).mp r))]
theorem bi_step (h : BI n t T U z B M V Z) (hN : LN n T) (hJ : xJI U t) (hk : 1 ≤ k) (hkB : k < B) (hs : ∀ j, 1 ≤ j → j < k → M (j - 1) ≤ M j) (hf : ¬ M (k - 1) ≤ M k) :
    ¬ xLow U t = -1 ∧ BI n t T (xJoin U n t (tN (xLow U t)) (xJst U t)) (mg z k (z (k - 1) + z k)) (B - 1) (mg M k (lMean M V Z k)) (mg V k (V (k - 1) + V k)) (mg Z k (Z (k - 1) + Z k)) ∧ xJI (xJoin U n t (tN (xLow U t)) (xJst U t)) t := by
  have h4 := levN_4 t
  have e := bi_s1 (z := z) hk
  have hle := bi_le h hkB
  have hzk := bi_z h k hkB
  have hzk1 := bi_z h (k - 1) (by omega)
  have hl := bi_low h hk hkB hs hf
  have hne : ¬ xLow U t = -1 := by
    rw [hl]
    intro q
    have := nI_pos (n := stt z k) (by omega)
    rw [q] at this
    exact absurd (by decide) this
  obtain ⟨j1, j2⟩ := bi_jst h hk hkB hl
  have hJ2 := xJI_join (n := n) hJ hne
  have hm := bi_xmean h hN hJ hk hkB
  refine ⟨hne, ?_, hJ2⟩
  rw [j1, j2]
  obtain ⟨q, r1, r2, eq⟩ := bi_mean h hN hk hkB
  have hq : (lMean M V Z k).toInt32.toInt64 = lMean M V Z k := by rw [eq, lN_i, nI_l (by omega)]
  obtain ⟨a1, a2, a3, a4, a5, a6, a7⟩ := id h
  have hsm := stt_mg z hk
  have hst : stt z (k - 1) < stt z k := by omega
  have fJ : ∀ v, v < levN t → xIa (xJoin U n t (stt z k) (stt z (k - 1))) 2 v = if xIa U 2 v = nI (stt z (k - 1)) ∨ xIa U 2 v = nI (stt z k) then nI (stt z (k - 1)) else xIa U 2 v := fun v hv => xJoin_J hJ (by omega) hv
  have fF : ∀ v, v < levN t → xFac (xJoin U n t (stt z k) (stt z (k - 1))) t v = if xIa U 2 v = nI (stt z (k - 1)) ∨ xIa U 2 v = nI (stt z k) then (lMean M V Z k).toInt32 else xFac U t v := fun v hv => by
    rw [← hm]
    exact xJoin_F hJ (by omega) hst hv
  -- a block that isn't joined
  have other : ∀ b, b < B → b ≠ k - 1 → b ≠ k → ∀ i, i < z b → xIa (xJoin U n t (stt z k) (stt z (k - 1))) 2 (stt z b + i) = nI (stt z b) ∧ (xFac (xJoin U n t (stt z k) (stt z (k - 1))) t (stt z b + i)).toInt64 = M b := by
    intro b hb n1 n2 i hi
    obtain ⟨-, -, -, -, g⟩ := a3 b hb
    have hb2 := bi_le h hb
    have hno : ¬ (xIa U 2 (stt z b + i) = nI (stt z (k - 1)) ∨ xIa U 2 (stt z b + i) = nI (stt z k)) := by
      rw [(g i hi).1]
      rintro (c | c)
      · exact n1 (stt_inj (bi_z h) (by omega) (by omega) ((nI_eq (by omega) (by omega)).mp c))
      · exact n2 (stt_inj (bi_z h) (by omega) (by omega) ((nI_eq (by omega) (by omega)).mp c))
    rw [fJ _ (by omega), fF _ (by omega), if_neg hno, if_neg hno]
    exact g i hi
  refine ⟨by omega, ?_, fun b hb => ?_, ?_, a5, a6, a7⟩
  · rw [hsm, if_neg (by omega), show B - 1 + 1 = B by omega]
    exact a2
  · rw [hsm]
    by_cases c1 : b + 1 < k
    · rw [if_pos (by omega), mg_lo c1, mg_lo c1, mg_lo c1, mg_lo c1]
      obtain ⟨g1, g2, g3, g4, -⟩ := a3 b (by omega)
      exact ⟨g1, g2, g3, g4, other b (by omega) (by omega) (by omega)⟩
    · by_cases c2 : b + 1 = k
      · rw [if_pos (by omega), mg_at c2, mg_at c2, mg_at c2, mg_at c2]
        have eb : b = k - 1 := by omega
        obtain ⟨-, ez1, eV1, -⟩ := a3 (k - 1) (by omega)
        obtain ⟨-, ez2, eV2, -⟩ := a3 k hkB
        refine ⟨by omega, by rw [ez1, ez2, nI_add], ?_, ⟨q, r1, r2, eq⟩, fun i hi => ?_⟩
        · rw [eb, isum_split, eV1, eV2, e]
        · rw [eb]
          have hin := (bi_P h hk hkB (v := stt z (k - 1) + i) (by omega)).mpr ⟨by omega, by omega⟩
          rw [fJ _ (by omega), fF _ (by omega), if_pos hin, if_pos hin]
          exact ⟨rfl, hq⟩
      · rw [if_neg (by omega), mg_hi (by omega), mg_hi (by omega), mg_hi (by omega), mg_hi (by omega)]
        obtain ⟨g1, g2, g3, g4, -⟩ := a3 (b + 1) (by omega)
        exact ⟨g1, g2, g3, g4, other (b + 1) (by omega) (by omega) (by omega)⟩
  · intro v hv
    exact a4 v hv
/-- the law's rows of blocks as they are shifted -/
def shf {α : Type} (f : Nat → α) (k j : Nat) : Nat → α := fun b => if k ≤ b ∧ b < j then f (b + 1) else f b
theorem shf_0 {α : Type} (f : Nat → α) (k : Nat) : shf f k k = f := funext fun b => if_neg (by omega)
theorem shf_at {α : Type} (f : Nat → α) (k j : Nat) : shf f k j (j + 1) = f (j + 1) := if_neg (by omega)
theorem shf_sL (f : Nat → Int64) {k j : Nat} (h : k ≤ j) : vp_updL (shf f k j) j (f (j + 1)) = shf f k (j + 1) := by
  funext b
  unfold vp_updL
  by_cases e : b = j
  · subst e; rw [if_pos rfl]; exact (if_pos ⟨h, by omega⟩).symm
  · rw [if_neg e]
    unfold shf
    by_cases c : k ≤ b ∧ b < j
    · rw [if_pos c, if_pos ⟨c.1, by omega⟩]
    · rw [if_neg c, if_neg (by omega)]
theorem shf_sI (f : Nat → Int32) {k j : Nat} (h : k ≤ j) : upd (shf f k j) j (f (j + 1)) = shf f k (j + 1) := by
  funext b
  unfold upd
  by_cases e : b = j
  · subst e; rw [if_pos rfl]; exact (if_pos ⟨h, by omega⟩).symm
  · rw [if_neg e]
    unfold shf
    by_cases c : k ≤ b ∧ b < j
    · rw [if_pos c, if_pos ⟨c.1, by omega⟩]
    · rw [if_neg c, if_neg (by omega)]
theorem shf_mgL (f : Nat → Int64) {v : Int64} (hk : 1 ≤ k) : ∀ b, b < B - 1 → shf (vp_updL f (k - 1) v) k (B - 1) b = mg f k v b := by
  intro b hb
  unfold shf vp_updL mg
  by_cases c : k ≤ b
  · rw [if_pos ⟨c, hb⟩, if_neg (by omega), if_neg (by omega), if_neg (by omega)]
  · rw [if_neg (fun q => c q.1)]
    by_cases d : b = k - 1
    · rw [if_pos d, if_neg (by omega), if_pos (by omega)]
    · rw [if_neg d, if_pos (by omega)]
theorem shf_mgI (f : Nat → Int32) {v : Int32} (hk : 1 ≤ k) : ∀ b, b < B - 1 → shf (upd f (k - 1) v) k (B - 1) b = mg f k v b := by
  intro b hb
  unfold shf upd mg
  by_cases c : k ≤ b
  · rw [if_pos ⟨c, hb⟩, if_neg (by omega), if_neg (by omega), if_neg (by omega)]
  · rw [if_neg (fun q => c q.1)]
    by_cases d : b = k - 1
    · rw [if_pos d, if_neg (by omega), if_pos (by omega)]
    · rw [if_neg d, if_pos (by omega)]
/-- the blocks at first: a level each -/
theorem stt_1 : ∀ b, stt (fun _ => 1) b = b
  | 0 => rfl
  | b + 1 => by rw [stt_s, stt_1 b]
theorem bi_0 (hN : LN n T) (ht : t < 3) : BI n t T (xSm0 T t (levN t)) (fun _ => 1) (levN t) (fil (fun v => (xFac T t v).toInt64) (fun _ => 0) (levN t)) (fil (sExp T n t) (fun _ => 0) (levN t)) (fil (fun _ => 1) (fun _ => 0) (levN t)) := by
  have h3 := levN_3 t
  have h4 := levN_4 t
  refine ⟨by omega, stt_1 _, fun b hb => ⟨Nat.le_refl 1, fil_lo hb, ?_, ?_, fun i hi => ?_⟩, fun v hv => ?_, rfl, rfl, rfl⟩
  · rw [fil_lo hb, stt_1, isum_s]
    show _ = (0 : Int64) + sExp T n t (b + 0)
    rw [Int64.zero_add, Nat.add_zero]
  · obtain ⟨f, f1, f2, e⟩ := ln_fac hN ht hb
    rw [fil_lo hb, e]
    exact ⟨f, f1, f2, nI_l (by omega)⟩
  · have hi1 : i < 1 := hi
    obtain rfl : i = 0 := by omega
    rw [stt_1, Nat.add_zero, fil_lo hb]
    have e1 : xIa (xSm0 T t (levN t)) 2 = fil nI (xIa T 2) (levN t) := ia_at _ 2 _
    rw [e1, fil_lo hb]
    exact ⟨rfl, rfl⟩
  · have e2 : xIa (xSm0 T t (levN t)) 3 = fil (xFac T t) (xIa T 3) (levN t) := ia_at T 3 _
    rw [e2, fil_lo hv]
end SMTH
theorem smF_none {n t : Nat} {U : WS} (h : xLow U t = -1) : ∀ d, xSmF n t d U = U
  | 0 => rfl
  | _ + 1 => if_pos h
theorem nI_m1 {B : Nat} (h : 1 ≤ B) : nI B + (-1) = nI (B - 1) := by
  obtain ⟨b, rfl⟩ : ∃ b, B = b + 1 := ⟨B - 1, by omega⟩
  exact pk_m1 b
theorem ch_eq {n t : Nat} {T U : WS} (hU : U = xSmF n t (levN t) (xSm0 T t (levN t))) {v : Nat} (h3 : xIa U 3 v = xFac T t v) : xChP (xSmS T n t) t v = !decide (xFac U t v = xFac T t v) := by
  show (!decide (xFac (xSmF n t (levN t) (xSm0 T t (levN t))) t v = xIa (xSmF n t (levN t) (xSm0 T t (levN t))) 3 v)) = _
  rw [← hU, h3]
