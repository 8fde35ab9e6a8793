/-! smoothing: groups of levels, each told by its first level -/
def JI (J F : Nat → Int32) (L : Nat) : Prop := ∀ k : Nat, k < L → J k = nI k ∨ (0 < k ∧ J k = J (k - 1) ∧ F k = F (k - 1))
theorem JI_st {J F : Nat → Int32} {L : Nat} (h : JI J F L) : ∀ k : Nat, k < L → ∃ s : Nat, s ≤ k ∧ J k = nI s ∧ J s = nI s
  | 0, hk => by
    rcases h 0 hk with e | e
    · exact ⟨0, Nat.le_refl 0, e, e⟩
    · exact absurd e.1 (Nat.lt_irrefl 0)
  | k + 1, hk => by
    rcases h (k + 1) hk with e | ⟨-, e, -⟩
    · exact ⟨k + 1, Nat.le_refl _, e, e⟩
    · obtain ⟨s, h1, h2, h3⟩ := JI_st h k (by omega)
      exact ⟨s, by omega, e.trans h2, h3⟩
theorem JI_fall {J F : Nat → Int32} {L k : Nat} (h : JI J F L) (hk : k < L) (hf : ¬ F (k - 1) ≤ F k) : J k = nI k := by
  rcases h k hk with e | ⟨-, -, e2⟩
  · exact e
  · exact absurd (by rw [e2]; exact Int32.le_refl _) hf
theorem JI_new {J F J' F' : Nat → Int32} {L fl s : Nat} {v : Int32} (hL : L ≤ 40) (h : JI J F L) (h0 : 0 < fl) (h1 : fl < L) (hfl : J fl = nI fl) (hs : J (fl - 1) = nI s) (hss : s < fl)
    (hJ : ∀ k, k < L → J' k = if J k = nI s ∨ J k = nI fl then nI s else J k) (hF : ∀ k, k < L → F' k = if J k = nI s ∨ J k = nI fl then v else F k) : JI J' F' L := by
  intro k hk
  rcases h k hk with e | ⟨e0, e1, e2⟩
  · by_cases hks : k = s
    · left
      rw [hJ k hk, if_pos (Or.inl (by rw [e, hks])), hks]
    · by_cases hkf : k = fl
      · right
        subst hkf
        refine ⟨h0, ?_, ?_⟩
        · rw [hJ k hk, hJ (k - 1) (by omega), if_pos (Or.inr hfl), if_pos (Or.inl hs)]
        · rw [hF k hk, hF (k - 1) (by omega), if_pos (Or.inr hfl), if_pos (Or.inl hs)]
      · left
        rw [hJ k hk, if_neg, e]
        rintro (q | q)
        · rw [e] at q
          exact hks ((nI_eq (by omega) (by omega)).mp q)
        · rw [e] at q
          exact hkf ((nI_eq (by omega) (by omega)).mp q)
  · right
    refine ⟨e0, ?_, ?_⟩
    · rw [hJ k hk, hJ (k - 1) (by omega), e1]
    · rw [hF k hk, hF (k - 1) (by omega), e1, e2]
theorem xCnt_le2 {p q : Nat → Bool} : ∀ L : Nat, (∀ k, k < L → p k = true → q k = true) → xCnt p L ≤ xCnt q L
  | 0, _ => Nat.le_refl 0
  | k + 1, h => by
    have ih := xCnt_le2 k (fun i hi => h i (by omega))
    have hk := h k (by omega)
    cases hp : p k
    · rw [xCnt_f hp]
      cases hq : q k
      · rw [xCnt_f hq]; exact ih
      · rw [xCnt_t hq]; omega
    · rw [xCnt_t hp, xCnt_t (hk hp)]; omega
theorem xCnt_lt2 {p q : Nat → Bool} : ∀ L : Nat, (∀ k, k < L → p k = true → q k = true) → ∀ f, f < L → p f = false → q f = true → xCnt p L < xCnt q L
  | 0, _, f, hf, _, _ => absurd hf (Nat.not_lt_zero f)
  | k + 1, h, f, hf, h1, h2 => by
    by_cases e : f = k
    · subst e
      have ih := xCnt_le2 f (fun i hi => h i (by omega))
      rw [xCnt_f h1, xCnt_t h2]
      omega
    · have ih := xCnt_lt2 k (fun i hi => h i (by omega)) f (by omega) h1 h2
      have hk := h k (by omega)
      cases hp : p k
      · rw [xCnt_f hp]
        cases hq : q k
        · rw [xCnt_f hq]; exact ih
        · rw [xCnt_t hq]; omega
      · rw [xCnt_t hp, xCnt_t (hk hp)]; omega
theorem xCnt_pos {p : Nat → Bool} (h : p 0 = true) : ∀ L : Nat, 0 < L → 0 < xCnt p L
  | 0, h => absurd h (Nat.lt_irrefl 0)
  | 1, _ => by rw [xCnt_t h]; omega
  | k + 2, _ => by
    have ih := xCnt_pos h (k + 1) (by omega)
    cases hp : p (k + 1)
    · rw [xCnt_f hp]; exact ih
    · rw [xCnt_t hp]; omega
theorem xCnt_some {p : Nat → Bool} : ∀ (L f : Nat), f < L → p f = true → 0 < xCnt p L
  | 0, f, h, _ => absurd h (Nat.not_lt_zero f)
  | k + 1, f, h, hp => by
    by_cases e : f = k
    · subst e; rw [xCnt_t hp]; omega
    · have ih := xCnt_some k f (by omega) hp
      cases hq : p k
      · rw [xCnt_f hq]; exact ih
      · rw [xCnt_t hq]; omega
def jCnt (J : Nat → Int32) (L : Nat) : Nat := xCnt (fun k => decide (J k = nI k)) L
theorem jCnt_new {J J' F : Nat → Int32} {L fl s : Nat} (hL : L ≤ 40) (h : JI J F L) (h1 : fl < L) (hfl : J fl = nI fl) (hs : J (fl - 1) = nI s) (hs2 : J s = nI s) (hss : s < fl)
    (hJ : ∀ k, k < L → J' k = if J k = nI s ∨ J k = nI fl then nI s else J k) : jCnt J' L < jCnt J L := by
  refine xCnt_lt2 L (fun k hk q => ?_) fl h1 ?_ (decide_eq_true hfl)
  · have q2 := of_decide_eq_true q
    rw [hJ k hk] at q2
    by_cases c : J k = nI s ∨ J k = nI fl
    · rw [if_pos c] at q2
      have e : s = k := (nI_eq (by omega) (by omega)).mp q2
      exact decide_eq_true (by rw [← e]; exact hs2)
    · rw [if_neg c] at q2
      exact decide_eq_true q2
  · refine decide_eq_false (fun q => ?_)
    rw [hJ fl h1, if_pos (Or.inr hfl)] at q
    have e : s = fl := (nI_eq (by omega) (by omega)).mp q
    omega
theorem JI_0 {J F : Nat → Int32} {L : Nat} (h : JI J F L) (hL : 0 < L) : J 0 = nI 0 := by
  rcases h 0 hL with e | e
  · exact e
  · exact absurd e.1 (Nat.lt_irrefl 0)
theorem jCnt_pos {J F : Nat → Int32} {L : Nat} (h : JI J F L) (hL : 0 < L) : 0 < jCnt J L := xCnt_pos (decide_eq_true (JI_0 h hL)) L hL
theorem JI_init (G F : Nat → Int32) (L : Nat) : JI (fil nI G L) F L := fun _ hk => Or.inl (fil_lo hk)
theorem xLowF_cases (F : Nat → Int32) : ∀ d i : Nat, xLowF F d i = -1 ∨ ∃ k : Nat, i ≤ k ∧ k < i + d ∧ xLowF F d i = nI k ∧ ¬ F (k - 1) ≤ F k
  | 0, _ => Or.inl rfl
  | d + 1, i => by
    by_cases c : F (i - 1) ≤ F i
    · have e : xLowF F (d + 1) i = xLowF F d (i + 1) := if_pos c
      rw [e]
      rcases xLowF_cases F d (i + 1) with h | ⟨k, h1, h2, h3⟩
      · exact Or.inl h
      · exact Or.inr ⟨k, by omega, by omega, h3⟩
    · exact Or.inr ⟨i, Nat.le_refl i, by omega, if_neg c, c⟩
theorem nI_ne_m1 {k : Nat} (h : k < 2 ^ 31) : ¬ nI k = -1 := fun q => by
  have := nI_pos h
  rw [q] at this
  exact this (by decide)
/-- the class's -/
theorem xLow_cases {S : WS} {t : Nat} (h : ¬ xLow S t = -1) : xLow S t = nI (tN (xLow S t)) ∧ 1 ≤ tN (xLow S t) ∧ tN (xLow S t) < levN t ∧ ¬ xFac S t (tN (xLow S t) - 1) ≤ xFac S t (tN (xLow S t)) := by
  have h3 := levN_3 t
  have h4 := levN_4 t
  rcases xLowF_cases (xFac S t) (levN t - 1) 1 with e | ⟨k, h1, h2, e, h5⟩
  · exact absurd e h
  · have e2 : xLow S t = nI k := e
    rw [e2, tN_nI (by omega)]
    exact ⟨rfl, h1, by omega, h5⟩
def xJst (S : WS) (t : Nat) : Nat := tN (xIa S 2 (tN (xLow S t) - 1))
def xSmF (n t : Nat) : Nat → WS → WS
  | 0, S => S
  | d + 1, S => if xLow S t = -1 then S else xSmF n t d (xJoin S n t (tN (xLow S t)) (xJst S t))
def xJI (S : WS) (t : Nat) : Prop := JI (xIa S 2) (xFac S t) (levN t)
theorem xJst_ok {S : WS} {t : Nat} (h : xJI S t) (hl : ¬ xLow S t = -1) : xIa S 2 (tN (xLow S t) - 1) = nI (xJst S t) ∧ xJst S t < tN (xLow S t) ∧ xIa S 2 (xJst S t) = nI (xJst S t) := by
  obtain ⟨h1, h2, h3, h4⟩ := xLow_cases hl
  have q4 := levN_4 t
  obtain ⟨s, e1, e2, e3⟩ := JI_st h (tN (xLow S t) - 1) (by omega)
  have e : xJst S t = s := by
    unfold xJst
    rw [e2, tN_nI (by omega)]
  rw [e]
  exact ⟨e2, by omega, e3⟩
theorem xJoin_J {S : WS} {n t fl st k : Nat} (h : xJI S t) (hfl : fl < levN t) (hk : k < levN t) : xIa (xJoin S n t fl st) 2 k = if xIa S 2 k = nI st ∨ xIa S 2 k = nI fl then nI st else xIa S 2 k := by
  have q4 := levN_4 t
  have e : xIa (xJoin S n t fl st) 2 k = xJoinG S t fl st (levN t) k := congrFun (ia_at S 2 (xJoinG S t fl st (levN t))) k
  rw [e]
  unfold xJoinG
  obtain ⟨s, e1, e2, -⟩ := JI_st h k hk
  by_cases c : xIa S 2 k = nI fl
  · have hs : s = fl := (nI_eq (by omega) (by omega)).mp (e2.symm.trans c)
    rw [if_pos ⟨by omega, hk, c⟩, if_pos (Or.inr c)]
  · rw [if_neg (fun q => c q.2.2)]
    by_cases c2 : xIa S 2 k = nI st
    · rw [if_pos (Or.inl c2), c2]
    · rw [if_neg (fun q => q.elim c2 c)]
theorem xJoin_F {S : WS} {n t fl st k : Nat} (h : xJI S t) (hfl : fl < levN t) (hst : st < fl) (hk : k < levN t) : xFac (xJoin S n t fl st) t k = if xIa S 2 k = nI st ∨ xIa S 2 k = nI fl then xMean (xJoin1 S t fl st) n t st else xFac S t k := by
  have q4 := levN_4 t
  have e : xFac (xJoin S n t fl st) t k = xJoinF (xJoin1 S t fl st) t st (xMean (xJoin1 S t fl st) n t st) (levN t) k := congrFun (fac_at (xJoin1 S t fl st) t _) k
  have e5 : xIa (xJoin1 S t fl st) 2 k = if xIa S 2 k = nI st ∨ xIa S 2 k = nI fl then nI st else xIa S 2 k := xJoin_J (n := n) h hfl hk
  rw [e]
  unfold xJoinF
  obtain ⟨s, e1, e2, -⟩ := JI_st h k hk
  by_cases c : xIa S 2 k = nI st ∨ xIa S 2 k = nI fl
  · rw [if_pos c] at e5
    have hsk : st ≤ k := by
      rcases c with c | c
      · have hs : s = st := (nI_eq (by omega) (by omega)).mp (e2.symm.trans c)
        omega
      · have hs : s = fl := (nI_eq (by omega) (by omega)).mp (e2.symm.trans c)
        omega
    rw [if_pos ⟨hsk, hk, e5⟩, if_pos c]
  · rw [if_neg c] at e5
    rw [if_neg (fun q => c (Or.inl (e5.symm.trans q.2.2))), if_neg c]
    rfl
theorem xJI_join {S : WS} {n t : Nat} (h : xJI S t) (hl : ¬ xLow S t = -1) : xJI (xJoin S n t (tN (xLow S t)) (xJst S t)) t := by
  obtain ⟨h1, h2, h3, h4⟩ := xLow_cases hl
  obtain ⟨g1, g2, g3⟩ := xJst_ok h hl
  have q4 := levN_4 t
  exact JI_new (by omega) h (by omega) h3 (JI_fall h h3 h4) g1 g2 (fun k hk => xJoin_J h h3 hk) (fun k hk => xJoin_F h h3 g2 hk)
theorem xJc_join {S : WS} {n t : Nat} (h : xJI S t) (hl : ¬ xLow S t = -1) : jCnt (xIa (xJoin S n t (tN (xLow S t)) (xJst S t)) 2) (levN t) < jCnt (xIa S 2) (levN t) := by
  obtain ⟨h1, h2, h3, h4⟩ := xLow_cases hl
  obtain ⟨g1, g2, g3⟩ := xJst_ok h hl
  have q4 := levN_4 t
  exact jCnt_new (by omega) h h3 (JI_fall h h3 h4) g1 g3 g2 (fun k hk => xJoin_J h h3 hk)
theorem XI_join {n : Nat} {S : WS} (t fl st : Nat) (h : XI n S) : XI n (xJoin S n t fl st) := h
theorem ia_32 (S : WS) (A B A' B' : Nat → Int32) : xsIa (xsIa (xsIa (xsIa S 3 A) 2 B) 3 A') 2 B' = xsIa (xsIa S 3 A') 2 B' := by
  have h : va_up (va_up (va_up (va_up S.1.2.2.2.1 3 A) 2 B) 3 A') 2 B' = va_up (va_up S.1.2.2.2.1 3 A') 2 B' := by
    funext j
    unfold va_up
    by_cases h2 : j = 2
    · rw [if_pos h2, if_pos h2]
    · rw [if_neg h2, if_neg h2]
      by_cases h3 : j = 3
      · rw [if_pos h3, if_pos h3, if_neg h2]
      · rw [if_neg h3, if_neg h2, if_neg h3, if_neg h3]
  show ((_, _, _, va_up (va_up (va_up (va_up S.1.2.2.2.1 3 A) 2 B) 3 A') 2 B', _), _) = _
  rw [h]
def xSm0 (S : WS) (t i : Nat) : WS := xsIa (xsIa S 3 (fil (xFac S t) (xIa S 3) i)) 2 (fil nI (xIa S 2) i)
theorem xSm0_0 (S : WS) (t : Nat) : xSm0 S t 0 = S := by
  unfold xSm0
  rw [fil_0, fil_0, ia_self]
  exact ia_self S 2
theorem xSm0_s (S : WS) (t i : Nat) : xsIa (xsIa (xSm0 S t i) 3 (upd (xIa (xSm0 S t i) 3) i (xFac S t i))) 2 (upd (xIa (xsIa (xSm0 S t i) 3 (upd (xIa (xSm0 S t i) 3) i (xFac S t i))) 2) i (nI i)) = xSm0 S t (i + 1) := by
  have e1 : xIa (xSm0 S t i) 3 = fil (xFac S t) (xIa S 3) i := ia_at S 3 _
  have e2 : xIa (xsIa (xSm0 S t i) 3 (upd (fil (xFac S t) (xIa S 3) i) i (xFac S t i))) 2 = fil nI (xIa S 2) i := ia_at (xsIa S 3 (fil (xFac S t) (xIa S 3) i)) 2 (fil nI (xIa S 2) i)
  rw [e1, e2, fil_sI, fil_sI]
  exact ia_32 S _ _ _ _
theorem xJI_0 (S : WS) (t : Nat) : xJI (xSm0 S t (levN t)) t := by
  unfold xJI
  have e : xIa (xSm0 S t (levN t)) 2 = fil nI (xIa S 2) (levN t) := ia_at _ 2 _
  rw [e]
  exact JI_init _ _ _
theorem XI_sm0 {n : Nat} {S : WS} (t i : Nat) (h : XI n S) : XI n (xSm0 S t i) := h
def xSmS (S : WS) (n t : Nat) : WS := xRefit (xSmF n t (levN t) (xSm0 S t (levN t))) n
def xR_smooth (S : WS) (n : Nat) (t : Int32) : WS := if xHasTrait t then xSmS S n (tN t) else S
def xV_smooth (S : WS) (n : Nat) (t : Nat) : Nat := xCnt (xChP (xSmS S n t) t) (levN t)
