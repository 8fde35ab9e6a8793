/-! smoothing: groups of levels, each told by its first level -/
def JI (J F : Nat → Int32) (L : Nat) : Prop := ∀ k : Nat, k < L → J k = nI k ∨ (0 < k ∧ J k = J (k - 1) ∧ F k = F (k - 1))
theorem JI_st {J F : Nat → Int32} {L : Nat} (h : JI J F L) : ∀ k : Nat, k < L → ∃ s : Nat, s ≤ k ∧ J k = nI s ∧ J s = nI s
  | 0, hk => by
    rcases h 0 hk with e | e
    · exact ⟨0, Nat.le_refl 0, e, e⟩
    · exact absurd e.1 (Nat.lt_irrefl 0)
  | k + 1, hk => by
    rcases h (k + 1) hk with e | ⟨-, e, -⟩
    · exact ⟨k + 1, Nat.le_refl _, e, e⟩
    · obtain ⟨s, h1, h2, h3⟩ := JI_st h k (by omega)
      exact ⟨s, by omega, e.trans h2, h3⟩
theorem JI_fall {J F : Nat → Int32} {L k : Nat} (h : JI J F L) (hk : k < L) (hf : ¬ F (k - 1) ≤ F k) : J k = nI k := by
  rcases h k hk with e | ⟨-, -, e2⟩
  · exact e
  · exact absurd (by rw [e2]; exact Int32.le_refl _) hf
theorem JI_new {J F J' F' : Nat → Int32} {L fl s : Nat} {v : Int32} (hL : L ≤ 40) (h : JI J F L) (h0 : 0 < fl) (h1 : fl < L) (hfl : J fl = nI fl) (hs : J (fl - 1) = nI s) (hss : s < fl)
    (hJ : ∀ k, k < L → J' k = if J k = nI s ∨ J k = nI fl then nI s else J k) (hF : ∀ k, k < L → F' k = if J k = nI s ∨ J k = nI fl then v else F k) : JI J' F' L := by
  intro k hk
  rcases h k hk with e | ⟨e0, e1, e2⟩
  · by_cases hks : k = s
    · left
      rw [hJ k hk, if_pos (Or.inl (by rw [e, hks])), hks]
    · by_cases hkf : k = fl
      · right
        subst hkf
        refine ⟨h0, ?_, ?_⟩
        · rw [hJ k hk, hJ (k - 1) (by omega), if_pos (Or.inr hfl), if_pos (Or.inl hs)]
        · rw [hF k hk, hF (k - 1) (by omega), if_pos (Or.inr hfl), if_pos (Or.inl hs)]
      · left
        rw [hJ k hk, if_neg, e]
        rintro (q | q)
        · rw [e] at q
          exact hks ((nI_eq (by omega) (by omega)).mp q)
        · rw [e] at q
          exact hkf ((nI_eq (by omega) (by omega)).mp q)
  · right
    refine ⟨e0, ?_, ?_⟩
    · rw [hJ k hk, hJ (k - 1) (by omega), e1]
    · rw [hF k hk, hF (k - 1) (by omega), e1, e2]
theorem xCnt_le2 {p q : Nat → Bool} : ∀ L : Nat, (∀ k, k < L → p k = true → q k = true) → xCnt p L ≤ xCnt q L
  | 0, _ => Nat.le_refl 0
  | k + 1, h => by
    have ih := xCnt_le2 k (fun i hi => h i (by omega))
    have hk := h k (by omega)
    cases hp : p k
    · rw [xCnt_f hp]
      cases hq : q k
      · rw [xCnt_f hq]; exact ih
      · rw [xCnt_t hq]; omega
    · rw [xCnt_t hp, xCnt_t (hk hp)]; omega
theorem xCnt_lt2 {p q : Nat → Bool} : ∀ L : Nat, (∀ k, k < L → p k = true → q k = true) → ∀ f, f < L → p f = false → q f = true → xCnt p L < xCnt q L
  | 0, _, f, hf, _, _ => absurd hf (Nat.not_lt_zero f)
  | k + 1, h, f, hf, h1, h2 => by
    by_cases e : f = k
    · subst e
      have ih := xCnt_le2 f (fun i hi => h i (by omega))
      rw [xCnt_f h1, xCnt_t h2]
      omega
    · have ih := xCnt_lt2 k (fun i hi => h i (by omega)) f (by omega) h1 h2
      have hk := h k (by omega)
      cases hp : p k
      · rw [xCnt_f hp]
        cases hq : q k
        · rw [xCnt_f hq]; exact ih
        · rw [xCnt_t hq]; omega
      · rw [xCnt_t hp, xCnt_t (hk hp)]; omega
theorem xCnt_pos {p : Nat → Bool} (h : p 0 = true) : ∀ L : Nat, 0 < L → 0 < xCnt p L
  | 0, h => absurd h (Nat.lt_irrefl 0)
  | 1, _ => by rw [xCnt_t h]; omega
  | k + 2, _ => by
    have ih := xCnt_pos h (k + 1) (by omega)
    cases hp : p (k + 1)
    · rw [xCnt_f hp]; exact ih
    · rw [xCnt_t hp]; omega
theorem xCnt_some {p : Nat → Bool} : ∀ (L f : Nat), f < L → p f = true → 0 < xCnt p L
  | 0, f, h, _ => absurd h (Nat.not_lt_zero f)
  | k + 1, f, h, hp => by
    by_cases e : f = k
    · subst e; rw [xCnt_t hp]; omega
    · have ih := xCnt_some k f (by omega) hp
      cases hq : p k
      · rw [xCnt_f hq]; exact ih
      · rw [xCnt_t hq]; omega
def jCnt (J : Nat → Int32) (L : Nat) : Nat := xCnt (fun k => decide (J k = nI k)) L
theorem jCnt_new {J J' F : Nat → Int32} {L fl s : Nat} (hL : L ≤ 40) (h : JI J F L) (h1 : fl < L) (hfl : J fl = nI fl) (hs : J (fl - 1) = nI s) (hs2 : J s = nI s) (hss : s < fl)
    (hJ : ∀ k, k < L → J' k = if J k = nI s ∨ J k = nI fl then nI s else J k) : jCnt J' L < jCnt J L := by
  refine xCnt_lt2 L (fun k hk q => ?_) fl h1 ?_ (decide_eq_true hfl)
  · have q2 := of_decide_eq_true q
    rw [hJ k hk] at q2
    by_cases c : J k = nI s ∨ J k = nI fl
    · rw [if_pos c] at q2
      have e : s = k := (nI_eq (by omega) (by omega)).mp q2
      exact decide_eq_true (by rw [← e]; exact hs2)
    · rw [if_neg c] at q2
      exact decide_eq_true q2
  · refine decide_eq_false (fun q => ?_)
    rw [hJ fl h1, if_pos (Or.inr hfl)] at q
    have e : s = fl := (nI_eq (by omega) (by omega)).mp q
    omega
theorem JI_0 {J F : Nat → Int32} {L : Nat} (h : JI J F L) (hL : 0 < L) : J 0 = nI 0 := by
  rcases h 0 hL with e | e
  · exact e
  · exact absurd e.1 (Nat.lt_irrefl 0)
theorem jCnt_pos {J F : Nat → Int32} {L : Nat} (h : JI J F L) (hL : 0 < L) : 0 < jCnt J L := xCnt_pos (decide_eq_true (JI_0 h hL)) L hL
theorem JI_init (G F : Nat → Int32) (L : Nat) : JI (fil nI G L) F L := fun _ hk => Or.inl (fil_lo hk)
theorem xLowF_cases (F : Nat → Int32) : ∀ d i : Nat, xLowF F d i = -1 ∨ ∃ k : Nat, i ≤ k ∧ k < i + d ∧ xLowF F d i = nI k ∧ ¬ F (k - 1) ≤ F k
  | 0, _ => Or.inl rfl
  | d + 1, i => by
    by_cases c : F (i - 1) ≤ F i
    · have e : xLowF F (d + 1) i = xLowF F d (i + 1) := if_pos c
      rw [e]
      rcases xLowF_cases F d (i + 1) with h | ⟨k, h1, h2, h3⟩
      · exact Or.inl h
      · exact Or.inr ⟨k, by omega, by omega, h3⟩
    · exact Or.inr ⟨i, Nat.le_refl i, by omega, if_neg c, c⟩
theorem nI_ne_m1 {k : Nat} (h : k < 2 ^ 31) : ¬ nI k = -1 := fun q => by
  have := nI_pos h
  rw [q] at this
  exact this (by decide)
/-- the class's -/
theorem xLow_cases {S : WS} {t : Nat} (h : ¬ xLow S t = -1) : xLow S t = nI (tN (xLow S t)) ∧ 1 ≤ tN (xLow S t) ∧ tN (xLow S t) < levN t ∧ ¬ xFac S t (tN (xLow S t) - 1) ≤ xFac S t (tN (xLow S t)) := by
  have h3 := levN_3 t
  have h4 := levN_4 t
  rcases xLowF_cases (xFac S t) (levN t - 1) 1 with e | ⟨k, h1, h2, e, h5⟩
  · exact absurd e h
  · have e2 : xLow S t = nI k := e
    rw [e2, tN_nI (by omega)]
    exact ⟨rfl, h1, by omega, h5⟩
def xJst (S : WS) (t : Nat) : Nat := tN (xIa S 2 (tN (xLow S t) - 1))
def xSmF (n t : Nat) : Nat → WS → WS
  | 0, S => S
  | d + 1, S => if xLow S t = -1 then S else xSmF n t d (xJoin S n t (tN (xLow S t)) (xJst S t))
def xJI (S : WS) (t : Nat) : Prop := JI (xIa S 2) (xFac S t) (levN t)
theorem xJst_ok {S : WS} {t : Nat} (h : xJI S t) (hl : ¬ xLow S t = -1) : xIa S 2 (tN (xLow S t) - 1) = nI (xJst S t) ∧ xJst S t < tN (xLow S t) ∧ xIa S 2 (xJst S t) = nI (xJst S t) := by
  obtain ⟨h1, h2, h3, h4⟩ := xLow_cases hl
  have q4 := levN_4 t
  obtain ⟨s, e1, e2, e3⟩ := JI_st h (tN (xLow S t) - 1) (by omega)
  have e : xJst S t = s := by
    unfold xJst
    rw [e2, tN_nI (by omega)]
  rw [e]
  exact ⟨e2, by omega, e3⟩
theorem xJoin_J {S : WS} {n t fl st k : Nat} (h : xJI S t) (hfl : fl < levN t) (hk : k < levN t) : xIa (xJoin S n t fl st) 2 k = if xIa S 2 k = nI st ∨ xIa S 2 k = nI fl then nI st else xIa S 2 k := by
  have q4 := levN_4 t
  have e : xIa (xJoin S n t fl st) 2 k = xJoinG S t fl st (levN t) k := congrFun (ia_at S 2 (xJoinG S t fl st (levN t))) k
  rw [e]
  unfold xJoinG
  obtain ⟨s, e1, e2, -⟩ := JI_st h k hk
  by_cases c : xIa S 2 k = nI fl
  · have hs : s = fl := (nI_eq (by omega) (by omega)).mp (e2.symm.trans c)
    rw [if_pos ⟨by omega, hk, c⟩, if_pos (Or.inr c)]
  · rw [if_neg (fun q => c q.2.2)]
    by_cases c2 : xIa S 2 k = nI st
    · rw [if_pos (Or.inl c2), c2]
    · rw [if_neg (fun q => q.elim c2 c)]
theorem xJoin_F {S : WS} {n t fl st k : Nat} (h : xJI S t) (hfl : fl < levN t) (hst : st < fl) (hk : k < levN t) : xFac (xJoin S n t fl st) t k = if xIa S 2 k = nI st ∨ xIa S 2 k = nI fl then xMean (xJoin1 S t fl st) n t st else xFac S t k := by
  have q4 := levN_4 t
  have e : xFac (xJoin S n t fl st) t k = xJoinF (xJoin1 S t fl st) t st (xMean (xJoin1 S t fl st) n t st) (levN t) k := congrFun (fac_at (xJoin1 S t fl st) t _) k
  have e5 : xIa (xJoin1 S t fl st) 2 k = if xIa S 2 k = nI st ∨ xIa S 2 k = nI fl then nI st else xIa S 2 k := xJoin_J (n := n) h hfl hk
  rw [e]
  unfold xJoinF
  obtain ⟨s, e1, e2, -⟩ := JI_st h k hk
  by_cases c : xIa S 2 k = nI st ∨ xIa S 2 k = nI fl
  · rw [if_pos c] at e5
    have hsk : st ≤ k := by
      rcases c with c | c
      · have hs : s = st := (nI_eq (by omega) (by omega)).mp (e2.symm.trans c)
        omega
      · have hs : s = fl := (nI_eq (by omega) (by omega)).mp (e2.symm.trans c)
        omega
    rw [if_pos ⟨hsk, hk, e5⟩, if_pos c]
  · rw [if_neg c] at e5
    rw [if_neg (fun q => c (Or.inl (e5.symm.trans q.2.2))), if_neg c]
    rfl
theorem xJI_join {S : WS} {n t : Nat} (h : xJI S t) (hl : ¬ xLow S t = -1) : xJI (xJoin S n t (tN (xLow S t)) (xJst S t)) t := by
  obtain ⟨h1, h2, h3, h4⟩ := xLow_cases hl
  obtain ⟨g1, g2, g3⟩ := xJst_ok h hl
  have q4 := levN_4 t
  exact JI_new (by omega) h (by omega) h3 (JI_fall h h3 h4) g1 g2 (fun k hk => xJoin_J h h3 hk) (fun k hk => xJoin_F h h3 g2 hk)
theorem xJc_join {S : WS} {n t : Nat} (h : xJI S t) (hl : ¬ xLow S t = -1) : jCnt (xIa (xJoin S n t (tN (xLow S t)) (xJst S t)) 2) (levN t) < jCnt (xIa S 2) (levN t) := by
  obtain ⟨h1, h2, h3, h4⟩ := xLow_cases hl
  obtain ⟨g1, g2, g3⟩ := xJst_ok h hl
  have q4 := levN_4 t
  exact jCnt_new (by omega) h h3 (JI_fall h h3 h4) g1 g3 g2 (fun k hk => xJoin_J h h3 hk)
theorem XI_join {n : Nat} {S : WS} (t fl st : Nat) (h : XI n S) : XI n (xJoin S n t fl st) := h
theorem ia_32 (S : WS) (A B A' B' : Nat → Int32) : xsIa (xsIa (xsIa (xsIa S 3 A) 2 B) 3 A') 2 B' = xsIa (xsIa S 3 A') 2 B' := by
  have h : va_up (va_up (va_up (va_up S.1.2.2.2.1 3 A) 2 B) 3 A') 2 B' = va_up (va_up S.1.2.2.2.1 3 A') 2 B' := by
    funext j
    unfold va_up
    by_cases h2 : j = 2
    · rw [if_pos h2, if_pos h2]
    · rw [if_neg h2, if_neg h2]
      by_cases h3 : j = 3
      · rw [if_pos h3, if_pos h3, if_neg h2]
      · rw [if_neg h3, if_neg h2, if_neg h3, if_neg h3]
  show ((_, _, _, va_up (va_up (va_up (va_up S.1.2.2.2.1 3 A) 2 B) 3 A') 2 B', _), _) = _
  rw [h]
def xSm0 (S : WS) (t i : Nat) : WS := xsIa (xsIa S 3 (fil (xFac S t) (xIa S 3) i)) 2 (fil nI (xIa S 2) i)
theorem xSm0_0 (S : WS) (t : Nat) : xSm0 S t 0 = S := by
  unfold xSm0
  rw [fil_0, fil_0, ia_self]
  exact ia_self S 2
theorem xSm0_s (S : WS) (t i : Nat) : xsIa (xsIa (xSm0 S t i) 3 (upd (xIa (xSm0 S t i) 3) i (xFac S t i))) 2 (upd (xIa (xsIa (xSm0 S t i) 3 (upd (xIa (xSm0 S t i) 3) i (xFac S t i))) 2) i (nI i)) = xSm0 S t (i + 1) := by
  have e1 : xIa (xSm0 S t i) 3 = fil (xFac S t) (xIa S 3) i := ia_at S 3 _
  have e2 : xIa (xsIa (xSm0 S t i) 3 (upd (fil (xFac S t) (xIa S 3) i) i (xFac S t i))) 2 = fil nI (xIa S 2) i := ia_at (xsIa S 3 (fil (xFac S t) (xIa S 3) i)) 2 (fil nI (xIa S 2) i)
  rw [e1, e2, fil_sI, fil_sI]
  exact ia_32 S _ _ _ _
theorem xJI_0 (S : WS) (t : Nat) : xJI (xSm0 S t (levN t)) t := by
  unfold xJI
  have e : xIa (xSm0 S t (levN t)) 2 = fil nI (xIa S 2) (levN t) := ia_at _ 2 _
  rw [e]
  exact JI_init _ _ _
theorem XI_sm0 {n : Nat} {S : WS} (t i : Nat) (h : XI n S) : XI n (xSm0 S t i) := h
def xSmS (S : WS) (n t : Nat) : WS := xRefit (xSmF n t (levN t) (xSm0 S t (levN t))) n
def xR_smooth (S : WS) (n : Nat) (t : Int32) : WS := if xHasTrait t then xSmS S n (tN t) else S
def xV_smooth (S : WS) (n : Nat) (t : Nat) : Nat := xCnt (xChP (xSmS S n t) t) (levN t)
/-- the reference's -/
def mLowS (S : WS) (t : Nat) : Int32 := xLowF (mF S t) (levN t - 1) 1
theorem mLow_cases {S : WS} {t : Nat} (h : ¬ mLowS S t = -1) : mLowS S t = nI (tN (mLowS S t)) ∧ 1 ≤ tN (mLowS S t) ∧ tN (mLowS S t) < levN t ∧ ¬ mF S t (tN (mLowS S t) - 1) ≤ mF S t (tN (mLowS S t)) := by
  have h3 := levN_3 t
  have h4 := levN_4 t
  rcases xLowF_cases (mF S t) (levN t - 1) 1 with e | ⟨k, h1, h2, e, h5⟩
  · exact absurd e h
  · have e2 : mLowS S t = nI k := e
    rw [e2, tN_nI (by omega)]
    exact ⟨rfl, h1, by omega, h5⟩
def mMP (S : WS) (a b : Int32) : Nat → Bool := fun k => decide (mIa S 8 k = a) || decide (mIa S 8 k = b)
def mEx (S : WS) (n t k : Nat) : Int64 := mSumL S n t (nI k) 1
def mMean (S : WS) (n t : Nat) (a b : Int32) : Int64 :=
  if wsum (mMP S a b) (mEx S n t) (levN t) = 0 then wsum (mMP S a b) (fun k => (mIa S 6 (4 * t + k)).toInt64) (levN t) / (nI (xCnt (mMP S a b) (levN t))).toInt64
  else wsum (mMP S a b) (fun k => mEx S n t k * (mIa S 6 (4 * t + k)).toInt64) (levN t) / wsum (mMP S a b) (mEx S n t) (levN t)
def mMJ (S : WS) (a b : Int32) (i : Nat) : Nat → Int32 := fun k => if k < i ∧ mMP S a b k = true then a else mIa S 8 k
def mMF (S : WS) (t : Nat) (a b v : Int32) (i : Nat) : Nat → Int32 := fun j => if 4 * t ≤ j ∧ j < 4 * t + i ∧ mMP S a b (j - 4 * t) = true then v else mIa S 6 j
def mMs (S : WS) (t : Nat) (a b v : Int32) (i : Nat) : WS := msIa (msIa S 8 (mMJ S a b i)) 6 (mMF S t a b v i)
def mMeans (S : WS) (n t : Nat) (a b : Int32) : WS := mMs S t a b (mMean S n t a b).toInt32 (levN t)
theorem mMs_0 (S : WS) (t : Nat) (a b v : Int32) : mMs S t a b v 0 = S := by
  have h1 : mMJ S a b 0 = mIa S 8 := funext fun k => if_neg (fun q => Nat.not_lt_zero k q.1)
  have h2 : mMF S t a b v 0 = mIa S 6 := funext fun k => if_neg (fun q => by omega)
  unfold mMs
  rw [h1, h2, mia_self]
  exact mia_self S 6
theorem mia_comm (S : WS) (a b : Nat) (hab : a ≠ b) (A B A' B' : Nat → Int32) : msIa (msIa (msIa (msIa S a A) b B) a A') b B' = msIa (msIa S a A') b B' := by
  have h : va_up (va_up (va_up (va_up S.2.1.1 a A) b B) a A') b B' = va_up (va_up S.2.1.1 a A') b B' := by
    funext j
    unfold va_up
    by_cases h2 : j = b
    · rw [if_pos h2, if_pos h2]
    · rw [if_neg h2, if_neg h2]
      by_cases h3 : j = a
      · rw [if_pos h3, if_pos h3, if_neg h2]
      · rw [if_neg h3, if_neg h2, if_neg h3, if_neg h3]
  show (_, (va_up (va_up (va_up (va_up S.2.1.1 a A) b B) a A') b B', _), _) = _
  rw [h]
theorem mMJ_at (S : WS) (a b : Int32) (i : Nat) : mMJ S a b i i = mIa S 8 i := if_neg (fun q => Nat.lt_irrefl i q.1)
theorem mMs_keep (S : WS) (t : Nat) (a b v : Int32) (i : Nat) (h : mMP S a b i = false) : mMs S t a b v (i + 1) = mMs S t a b v i := by
  have h1 : mMJ S a b (i + 1) = mMJ S a b i := by
    funext k
    unfold mMJ
    by_cases c : k < i ∧ mMP S a b k = true
    · rw [if_pos c, if_pos ⟨by omega, c.2⟩]
    · rw [if_neg c, if_neg]
      rintro ⟨q1, q2⟩
      by_cases e : k = i
      · subst e; rw [h] at q2; cases q2
      · exact c ⟨by omega, q2⟩
  have h2 : mMF S t a b v (i + 1) = mMF S t a b v i := by
    funext j
    unfold mMF
    by_cases c : 4 * t ≤ j ∧ j < 4 * t + i ∧ mMP S a b (j - 4 * t) = true
    · rw [if_pos c, if_pos ⟨c.1, by omega, c.2.2⟩]
    · rw [if_neg c, if_neg]
      rintro ⟨q1, q2, q3⟩
      by_cases e : j = 4 * t + i
      · subst e
        rw [show 4 * t + i - 4 * t = i by omega, h] at q3
        cases q3
      · exact c ⟨q1, by omega, q3⟩
  unfold mMs
  rw [h1, h2]
theorem mMs_put (S : WS) (t : Nat) (a b v : Int32) (i : Nat) (h : mMP S a b i = true) : msIa (msIa (mMs S t a b v i) 8 (upd (mIa (mMs S t a b v i) 8) i a)) 6 (upd (mIa (msIa (mMs S t a b v i) 8 (upd (mIa (mMs S t a b v i) 8) i a)) 6) (4 * t + i) v) = mMs S t a b v (i + 1) := by
  have e1 : mIa (mMs S t a b v i) 8 = mMJ S a b i := mia_at S 8 _
  have e2 : mIa (msIa (mMs S t a b v i) 8 (upd (mMJ S a b i) i a)) 6 = mMF S t a b v i := mia_at (msIa S 8 (mMJ S a b i)) 6 (mMF S t a b v i)
  rw [e1, e2]
  have h1 : upd (mMJ S a b i) i a = mMJ S a b (i + 1) := by
    funext k
    unfold upd
    by_cases e : k = i
    · subst e; rw [if_pos rfl]; exact (if_pos ⟨by omega, h⟩).symm
    · rw [if_neg e]
      unfold mMJ
      by_cases c : k < i ∧ mMP S a b k = true
      · rw [if_pos c, if_pos ⟨by omega, c.2⟩]
      · rw [if_neg c, if_neg (fun q => c ⟨by omega, q.2⟩)]
  have h2 : upd (mMF S t a b v i) (4 * t + i) v = mMF S t a b v (i + 1) := by
    funext j
    unfold upd
    by_cases e : j = 4 * t + i
    · subst e
      rw [if_pos rfl]
      exact (if_pos ⟨by omega, by omega, by rw [show 4 * t + i - 4 * t = i by omega]; exact h⟩).symm
    · rw [if_neg e]
      unfold mMF
      by_cases c : 4 * t ≤ j ∧ j < 4 * t + i ∧ mMP S a b (j - 4 * t) = true
      · rw [if_pos c, if_pos ⟨c.1, by omega, c.2.2⟩]
      · rw [if_neg c, if_neg (fun q => c ⟨q.1, by omega, q.2.2⟩)]
  rw [h1, h2]
  exact mia_comm S 8 6 (by decide) _ _ _ _
def mSm0 (S : WS) (t i : Nat) : WS := msIa (msIa S 8 (fil nI (mIa S 8) i)) 7 (fil (mF S t) (mIa S 7) i)
theorem mSm0_0 (S : WS) (t : Nat) : mSm0 S t 0 = S := by
  unfold mSm0
  rw [fil_0, fil_0, mia_self]
  exact mia_self S 7
theorem mSm0_s (S : WS) (t i : Nat) : msIa (msIa (mSm0 S t i) 8 (upd (mIa (mSm0 S t i) 8) i (nI i))) 7 (upd (mIa (msIa (mSm0 S t i) 8 (upd (mIa (mSm0 S t i) 8) i (nI i))) 7) i (mF S t i)) = mSm0 S t (i + 1) := by
  have e1 : mIa (mSm0 S t i) 8 = fil nI (mIa S 8) i := mia_at S 8 _
  have e2 : mIa (msIa (mSm0 S t i) 8 (upd (fil nI (mIa S 8) i) i (nI i))) 7 = fil (mF S t) (mIa S 7) i := mia_at (msIa S 8 (fil nI (mIa S 8) i)) 7 (fil (mF S t) (mIa S 7) i)
  rw [e1, e2, fil_sI, fil_sI]
  exact mia_comm S 8 7 (by decide) _ _ _ _
def mJI (S : WS) (t : Nat) : Prop := JI (mIa S 8) (mF S t) (levN t)
theorem mJI_0 (S : WS) (t : Nat) : mJI (mSm0 S t (levN t)) t := by
  unfold mJI
  have e : mIa (mSm0 S t (levN t)) 8 = fil nI (mIa S 8) (levN t) := mia_at S 8 _
  rw [e]
  exact JI_init _ _ _
def mStep (S : WS) (n t : Nat) : WS := mMeans S n t (mIa S 8 (tN (mLowS S t) - 1)) (mIa S 8 (tN (mLowS S t)))
def mSmF (n t : Nat) : Nat → WS → WS
  | 0, S => S
  | d + 1, S => if mLowS S t = -1 then S else mSmF n t d (mStep S n t)
theorem mStep_ok {S : WS} {t : Nat} (h : mJI S t) (hl : ¬ mLowS S t = -1) : ∃ s : Nat, s < tN (mLowS S t) ∧ mIa S 8 (tN (mLowS S t) - 1) = nI s ∧ mIa S 8 s = nI s ∧ mIa S 8 (tN (mLowS S t)) = nI (tN (mLowS S t)) := by
  obtain ⟨h1, h2, h3, h4⟩ := mLow_cases hl
  obtain ⟨s, e1, e2, e3⟩ := JI_st h (tN (mLowS S t) - 1) (by omega)
  exact ⟨s, by omega, e2, e3, JI_fall h h3 h4⟩
theorem mMeans_J (S : WS) (n t : Nat) (a b : Int32) {k : Nat} (hk : k < levN t) : mIa (mMeans S n t a b) 8 k = if mIa S 8 k = a ∨ mIa S 8 k = b then a else mIa S 8 k := by
  have e : mIa (mMeans S n t a b) 8 k = mMJ S a b (levN t) k := congrFun (mia_at S 8 _) k
  rw [e]
  unfold mMJ
  by_cases c : mIa S 8 k = a ∨ mIa S 8 k = b
  · rw [if_pos c, if_pos ⟨hk, by simpa [mMP] using c⟩]
  · rw [if_neg c, if_neg]
    rintro ⟨-, q⟩
    exact c (by simpa [mMP] using q)
theorem mMeans_F (S : WS) (n t : Nat) (a b : Int32) {k : Nat} (hk : k < levN t) : mF (mMeans S n t a b) t k = if mIa S 8 k = a ∨ mIa S 8 k = b then (mMean S n t a b).toInt32 else mF S t k := by
  have e : mF (mMeans S n t a b) t k = mMF S t a b (mMean S n t a b).toInt32 (levN t) (4 * t + k) := congrFun (mia_at (msIa S 8 _) 6 _) (4 * t + k)
  rw [e]
  unfold mMF
  rw [show 4 * t + k - 4 * t = k by omega]
  by_cases c : mIa S 8 k = a ∨ mIa S 8 k = b
  · rw [if_pos c, if_pos ⟨by omega, by omega, by simpa [mMP] using c⟩]
  · rw [if_neg c, if_neg]
    · rfl
    · rintro ⟨-, -, q⟩
      exact c (by simpa [mMP] using q)
theorem mJI_step {S : WS} {n t : Nat} (h : mJI S t) (hl : ¬ mLowS S t = -1) : mJI (mStep S n t) t := by
  obtain ⟨h1, h2, h3, h4⟩ := mLow_cases hl
  obtain ⟨s, g1, g2, g3, g4⟩ := mStep_ok h hl
  have q4 := levN_4 t
  exact JI_new (by omega) h (by omega) h3 g4 g2 g1 (fun k hk => by have := mMeans_J S n t (mIa S 8 (tN (mLowS S t) - 1)) (mIa S 8 (tN (mLowS S t))) hk; rw [g2, g4] at this; unfold mStep; rw [g2, g4]; exact this)
    (fun k hk => by have := mMeans_F S n t (mIa S 8 (tN (mLowS S t) - 1)) (mIa S 8 (tN (mLowS S t))) hk; rw [g2, g4] at this; unfold mStep; rw [g2, g4]; exact this)
theorem mJc_step {S : WS} {n t : Nat} (h : mJI S t) (hl : ¬ mLowS S t = -1) : jCnt (mIa (mStep S n t) 8) (levN t) < jCnt (mIa S 8) (levN t) := by
  obtain ⟨h1, h2, h3, h4⟩ := mLow_cases hl
  obtain ⟨s, g1, g2, g3, g4⟩ := mStep_ok h hl
  have q4 := levN_4 t
  exact jCnt_new (by omega) h h3 g4 g2 g3 g1 (fun k hk => by have := mMeans_J S n t (mIa S 8 (tN (mLowS S t) - 1)) (mIa S 8 (tN (mLowS S t))) hk; rw [g2, g4] at this; unfold mStep; rw [g2, g4]; exact this)
theorem mMP_some {S : WS} {t : Nat} (hl : ¬ mLowS S t = -1) : 0 < xCnt (mMP S (mIa S 8 (tN (mLowS S t) - 1)) (mIa S 8 (tN (mLowS S t)))) (levN t) := by
  obtain ⟨h1, h2, h3, h4⟩ := mLow_cases hl
  exact xCnt_some (levN t) (tN (mLowS S t)) h3 (by simp [mMP])
theorem MI_means {n : Nat} {S : WS} (t : Nat) (a b : Int32) (h : MI n S) : MI n (mMeans S n t a b) := h
theorem MI_sm0 {n : Nat} {S : WS} (t i : Nat) (h : MI n S) : MI n (mSm0 S t i) := h
def mChP (S : WS) (t : Nat) : Nat → Bool := fun k => !decide (mIa S 6 (4 * t + k) = mIa S 7 k)
def mSmS (S : WS) (n t : Nat) : WS := mSmF n t (levN t) (mSm0 S t (levN t))
def mR_smooth (S : WS) (n : Nat) (t : Int32) : WS := if xHasTrait t then mSmS (mGo S true true true) n (tN t) else mGo S false true true
def mV_smooth (S : WS) (n : Nat) (t : Int32) : Int32 := if xHasTrait t then nI (xCnt (mChP (mSmS (mGo S true true true) n (tN t)) (tN t)) (levN (tN t))) else 0
theorem nI_cnt_ne0 {k : Nat} (h : k ≤ 40) (h0 : 0 < k) : ¬ (nI k).toInt64 = 0 := by
  rw [nI_l (by omega)]
  exact lN_ne0 (by omega) h0
