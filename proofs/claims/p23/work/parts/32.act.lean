/-! what each act leaves: the law's arrays and the class's numbers still agree -/
theorem lr_self {n : Nat} {T S S' : WS} (h : LR n T S) (h1 : S'.1 = T.1) (h2 : S'.2.1 = S.2.1) : LR n S' S' := by
  obtain ⟨X', L', E'⟩ := S'
  obtain ⟨X, A⟩ := T
  obtain ⟨Y, L, E⟩ := S
  cases h1
  cases h2
  exact h
theorem ln_refit {n : Nat} {U : WS} (h1 : XI n U) (h2 : n ≤ 12) (h3 : ∀ t k, t < 3 → k < n → ∃ j : Nat, j < levN t ∧ xLev U t k = nI j)
    (h4 : ∀ k, k < n → (xIa U 1 k = 0 ∨ xIa U 1 k = 1) ∧ (∃ x : Nat, 1 ≤ x ∧ x ≤ 1000 ∧ xLng U 0 k = lN x) ∧ NL 1000000 (xLng U 2 k) ∧ (xIa U 0 k = -1 ∨ NB 10000000 (xIa U 0 k)))
    (h5 : ∀ t k, t < 3 → k < levN t → ∃ f : Nat, 100 ≤ f ∧ f ≤ 100000 ∧ xFac U t k = nI f) (h6 : xSc U 3 = -1 ∨ NB 1000 (xSc U 3)) (h7 : ∃ s : Nat, 1 ≤ s ∧ s ≤ 1000000 ∧ xSc U 4 = nI s)
    (h8 : xSc U 1 = nI (xCnt (xLiv U) n)) : LN n (xRefit U n) := by
  refine ⟨h1, h2, h3, h4, h5, h6, h7, h8, rfl, fun k hk => ?_⟩
  have e : xLng (xRefit U n) 3 k = xFit (xsBase U (xBase1 U n)) k := (congrFun (lng_at (xsBase U (xBase1 U n)) 3 _) k).trans (fil_lo hk)
  rw [e]
  rfl
theorem ll_refit {n : Nat} {U S : WS} (h : LL n U S) : LL n (xRefit U n) S := h
theorem within_ok {x lo hi : Nat} (h1 : lo ≤ x) (h2 : x ≤ hi) (h3 : hi < 2 ^ 31) : xIsWithin (nI x) (nI lo) (nI hi) = true := by
  unfold xIsWithin
  rw [decide_eq_false (fun q => by have := (nI_ltI (a := x) (b := lo) (by omega) (by omega)).mp q; omega), decide_eq_false (fun q => by have := (nI_ltI (a := hi) (b := x) (by omega) (by omega)).mp q; omega)]
  rfl
section ADD
variable {n : Nat} {X : XS} {L : LAr}
def lA1 (L : LAr) (n : Nat) (a : Int32) : LAr := va_up L 0 (upd (L 0) (3 * n) a)
def lA2 (L : LAr) (n : Nat) (a b : Int32) : LAr := va_up (lA1 L n a) 0 (upd (lA1 L n a 0) (3 * n + 1) b)
def lA3 (L : LAr) (n : Nat) (a b q : Int32) : LAr := va_up (lA2 L n a b) 0 (upd (lA2 L n a b 0) (3 * n + 2) q)
def lA4 (L : LAr) (n : Nat) (a b q x : Int32) : LAr := va_up (lA3 L n a b q) 1 (upd (lA3 L n a b q 1) n x)
def lA5 (L : LAr) (n : Nat) (a b q x c : Int32) : LAr := va_up (lA4 L n a b q x) 2 (upd (lA4 L n a b q x 2) n c)
def lA6 (L : LAr) (n : Nat) (a b q x c d : Int32) : LAr := va_up (lA5 L n a b q x c) 3 (upd (lA5 L n a b q x c 3) n d)
def lA7 (L : LAr) (n : Nat) (a b q x c d : Int32) : LAr := va_up (lA6 L n a b q x c d) 4 (upd (lA6 L n a b q x c d 4) n (-1))
def lA8 (L : LAr) (n : Nat) (a b q x c d : Int32) : LAr := va_up (lA7 L n a b q x c d) 5 (upd (lA7 L n a b q x c d 5) n 0)
def lAd (L : LAr) (n : Nat) (a b q x c d : Int32) : LAr := va_up (lA8 L n a b q x c d) 7 (upd (lA8 L n a b q x c d 7) 0 (nI (n + 1)))
variable {a b q x c d : Int32}
theorem lAd_0 : lAd L n a b q x c d 0 = upd (upd (upd (L 0) (3 * n) a) (3 * n + 1) b) (3 * n + 2) q := rfl
theorem lAd_1 : lAd L n a b q x c d 1 = upd (L 1) n x := rfl
theorem lAd_2 : lAd L n a b q x c d 2 = upd (L 2) n c := rfl
theorem lAd_3 : lAd L n a b q x c d 3 = upd (L 3) n d := rfl
theorem lAd_4 : lAd L n a b q x c d 4 = upd (L 4) n (-1) := rfl
theorem lAd_5 : lAd L n a b q x c d 5 = upd (L 5) n 0 := rfl
theorem lAd_6 : lAd L n a b q x c d 6 = L 6 := rfl
theorem lAd_7 : lAd L n a b q x c d 7 = upd (L 7) 0 (nI (n + 1)) := rfl
theorem lAd_a : lAd L n a b q x c d 0 (3 * n) = a := by rw [lAd_0, pk_un (by omega), pk_un (by omega), pk_us]
theorem lAd_b : lAd L n a b q x c d 0 (3 * n + 1) = b := by rw [lAd_0, pk_un (by omega), pk_us]
theorem lAd_q : lAd L n a b q x c d 0 (3 * n + 2) = q := by rw [lAd_0, pk_us]
theorem lAd_x : lAd L n a b q x c d 1 n = x := pk_us
theorem lAd_c : lAd L n a b q x c d 2 n = c := pk_us
theorem lAd_d : lAd L n a b q x c d 3 n = d := pk_us
end ADD
section ACT
variable {n : Nat} {X : XS} {L : LAr}
theorem addok {a b q x c d : Nat} (ha : a < 4) (hb : b < 3) (hq : q < 4) (hx1 : 1 ≤ x) (hx2 : x ≤ 1000) (hc : c ≤ 1000) (hd : d ≤ 1000000) : xAddOk (nI a) (nI b) (nI q) (nI x) (nI c) (nI d) = true := by
  have e1 : xHasLevel 0 (nI a) = true := has_lev (t := 0) (by decide) ha
  have e2 : xHasLevel 1 (nI b) = true := has_lev (t := 1) (by decide) hb
  have e3 : xHasLevel 2 (nI q) = true := has_lev (t := 2) (by decide) hq
  have e4 : xIsWithin (nI x) 1 1000 = true := within_ok hx1 hx2 (by decide)
  have e5 : xIsWithin (nI c) 0 1000 = true := within_ok (lo := 0) (Nat.zero_le _) hc (by decide)
  have e6 : xIsWithin (nI d) 0 1000000 = true := within_ok (lo := 0) (Nat.zero_le _) hd (by decide)
  unfold xAddOk
  rw [e1, e2, e3, e4, e5, e6]
  rfl
theorem lt40 (hI : XI n (X, L, [])) {L' : LAr} (hn : n < 12) : xSc (X, L', []) 0 < 40 := by
  have e : xSc (X, L', []) 0 = nI n := hI.2.1
  rw [e]
  exact (nI_ltI (a := n) (b := 40) (by omega) (by decide)).mpr (by omega)
theorem a_add (h : LR n (X, L, []) (X, L, [])) (hn : n < 12) {a b q x c d : Nat} (ha : a < 4) (hb : b < 3) (hq : q < 4) (hx1 : 1 ≤ x) (hx2 : x ≤ 1000) (hc : c ≤ 1000) (hd : d ≤ 1000000) :
    xE_add (X, lAd L n (nI a) (nI b) (nI q) (nI x) (nI c) (nI d), []) (nI a) (nI b) (nI q) (nI x) (nI c) (nI d) = none ∧
    LR (n + 1) (xR_add (X, lAd L n (nI a) (nI b) (nI q) (nI x) (nI c) (nI d), []) n (nI a) (nI b) (nI q) (nI x) (nI c) (nI d)) (xR_add (X, lAd L n (nI a) (nI b) (nI q) (nI x) (nI c) (nI d), []) n (nI a) (nI b) (nI q) (nI x) (nI c) (nI d)) ∧
    (xR_add (X, lAd L n (nI a) (nI b) (nI q) (nI x) (nI c) (nI d), []) n (nI a) (nI b) (nI q) (nI x) (nI c) (nI d)).2.2 = [] := by
  have hok := addok ha hb hq hx1 hx2 hc hd
  have h40 := lt40 h.1.1 (L' := lAd L n (nI a) (nI b) (nI q) (nI x) (nI c) (nI d)) hn
  have er : xR_add (X, lAd L n (nI a) (nI b) (nI q) (nI x) (nI c) (nI d), []) n (nI a) (nI b) (nI q) (nI x) (nI c) (nI d) = xRefit (xAd (X, lAd L n (nI a) (nI b) (nI q) (nI x) (nI c) (nI d), []) n (nI a) (nI b) (nI q) (nI x) (nI c) (nI d)) (n + 1) := by
    unfold xR_add
    rw [if_pos hok, if_pos h40]
  have ee : xE_add (X, lAd L n (nI a) (nI b) (nI q) (nI x) (nI c) (nI d), []) (nI a) (nI b) (nI q) (nI x) (nI c) (nI d) = none := by
    unfold xE_add
    rw [if_pos hok, if_pos h40]
  rw [er]
  refine ⟨ee, ?_, rfl⟩
  obtain ⟨⟨g1, g2, g3, g4, g5, g6, g7, g8, g9, g10⟩, k1, k2, k3, k4, k5, k6, k7, k8⟩ := h
  have hXI : XI (n + 1) (xAd (X, lAd L n (nI a) (nI b) (nI q) (nI x) (nI c) (nI d), []) n (nI a) (nI b) (nI q) (nI x) (nI c) (nI d)) := xAd_XI (n := n) (S := (X, lAd L n (nI a) (nI b) (nI q) (nI x) (nI c) (nI d), [])) g1 (by omega) hok
  have i1 : xIa (xAd (X, lAd L n (nI a) (nI b) (nI q) (nI x) (nI c) (nI d), []) n (nI a) (nI b) (nI q) (nI x) (nI c) (nI d)) 1 = upd (xIa (X, L, []) 1) n 1 := rfl
  have i0 : xIa (xAd (X, lAd L n (nI a) (nI b) (nI q) (nI x) (nI c) (nI d), []) n (nI a) (nI b) (nI q) (nI x) (nI c) (nI d)) 0 = upd (xIa (X, L, []) 0) n (-1) := rfl
  have v0 : xLng (xAd (X, lAd L n (nI a) (nI b) (nI q) (nI x) (nI c) (nI d), []) n (nI a) (nI b) (nI q) (nI x) (nI c) (nI d)) 0 = vp_updL (xLng (X, L, []) 0) n (nI x).toInt64 := rfl
  have v1 : xLng (xAd (X, lAd L n (nI a) (nI b) (nI q) (nI x) (nI c) (nI d), []) n (nI a) (nI b) (nI q) (nI x) (nI c) (nI d)) 1 = vp_updL (xLng (X, L, []) 1) n (nI c).toInt64 := rfl
  have v2 : xLng (xAd (X, lAd L n (nI a) (nI b) (nI q) (nI x) (nI c) (nI d), []) n (nI a) (nI b) (nI q) (nI x) (nI c) (nI d)) 2 = vp_updL (xLng (X, L, []) 2) n (nI d).toInt64 := rfl
  have w0 : xLev (xAd (X, lAd L n (nI a) (nI b) (nI q) (nI x) (nI c) (nI d), []) n (nI a) (nI b) (nI q) (nI x) (nI c) (nI d)) 0 = upd (xLev (X, L, []) 0) n (nI a) := rfl
  have w1 : xLev (xAd (X, lAd L n (nI a) (nI b) (nI q) (nI x) (nI c) (nI d), []) n (nI a) (nI b) (nI q) (nI x) (nI c) (nI d)) 1 = upd (xLev (X, L, []) 1) n (nI b) := rfl
  have w2 : xLev (xAd (X, lAd L n (nI a) (nI b) (nI q) (nI x) (nI c) (nI d), []) n (nI a) (nI b) (nI q) (nI x) (nI c) (nI d)) 2 = upd (xLev (X, L, []) 2) n (nI q) := rfl
  have m1 : xSc (xAd (X, lAd L n (nI a) (nI b) (nI q) (nI x) (nI c) (nI d), []) n (nI a) (nI b) (nI q) (nI x) (nI c) (nI d)) 1 = xSc (X, L, []) 1 + 1 := rfl
  have m2 : xSc (xAd (X, lAd L n (nI a) (nI b) (nI q) (nI x) (nI c) (nI d), []) n (nI a) (nI b) (nI q) (nI x) (nI c) (nI d)) 2 = xSc (X, L, []) 2 := rfl
  have m3 : xSc (xAd (X, lAd L n (nI a) (nI b) (nI q) (nI x) (nI c) (nI d), []) n (nI a) (nI b) (nI q) (nI x) (nI c) (nI d)) 3 = xSc (X, L, []) 3 := rfl
  have m4 : xSc (xAd (X, lAd L n (nI a) (nI b) (nI q) (nI x) (nI c) (nI d), []) n (nI a) (nI b) (nI q) (nI x) (nI c) (nI d)) 4 = xSc (X, L, []) 4 := rfl
  have ff : xFac (xAd (X, lAd L n (nI a) (nI b) (nI q) (nI x) (nI c) (nI d), []) n (nI a) (nI b) (nI q) (nI x) (nI c) (nI d)) = xFac (X, L, []) := rfl
  have aL : lA (xAd (X, lAd L n (nI a) (nI b) (nI q) (nI x) (nI c) (nI d), []) n (nI a) (nI b) (nI q) (nI x) (nI c) (nI d)) = lAd L n (nI a) (nI b) (nI q) (nI x) (nI c) (nI d) := rfl
  generalize xAd (X, lAd L n (nI a) (nI b) (nI q) (nI x) (nI c) (nI d), []) n (nI a) (nI b) (nI q) (nI x) (nI c) (nI d) = U at *
  have hx64 : (nI x).toInt64 = lN x := nI_l (by omega)
  have hc64 : (nI c).toInt64 = lN c := nI_l (by omega)
  have hd64 : (nI d).toInt64 = lN d := nI_l (by omega)
  refine ⟨ln_refit hXI (by omega) (fun t k ht hk => ?_) (fun k hk => ?_) (by rw [ff]; exact g5) (by rw [m3]; exact g6) (by rw [m4]; exact g7) ?_, ll_refit (S := xRefit U (n + 1)) ⟨?_, fun k hk => ?_, fun t k ht hk => ?_, fun k hk => ?_, fun t k ht hk => ?_, ?_, ?_, ?_⟩⟩
  · by_cases e : k = n
    · subst e
      rcases (show t = 0 ∨ t = 1 ∨ t = 2 by omega) with rfl | rfl | rfl
      · exact ⟨a, ha, by rw [w0, pk_us]⟩
      · exact ⟨b, hb, by rw [w1, pk_us]⟩
      · exact ⟨q, hq, by rw [w2, pk_us]⟩
    · obtain ⟨j, hj, ej⟩ := g3 t k ht (by omega)
      rcases (show t = 0 ∨ t = 1 ∨ t = 2 by omega) with rfl | rfl | rfl
      · exact ⟨j, hj, by rw [w0, pk_un e]; exact ej⟩
      · exact ⟨j, hj, by rw [w1, pk_un e]; exact ej⟩
      · exact ⟨j, hj, by rw [w2, pk_un e]; exact ej⟩
  · rw [i1, i0, v0, v2]
    by_cases e : k = n
    · subst e
      rw [pk_us, pk_us, pk_uLs, pk_uLs]
      exact ⟨Or.inr rfl, ⟨x, hx1, hx2, hx64⟩, ⟨d, hd, hd64⟩, Or.inl rfl⟩
    · rw [pk_un e, pk_un e, pk_uLn e, pk_uLn e]
      exact g4 k (by omega)
  · have e1 : xCnt (xLiv U) (n + 1) = xCnt (xLiv (X, L, [])) n + 1 := by
      rw [xCnt_t (by show (!decide (xIa U 1 n = 0)) = true; rw [i1, pk_us]; rfl)]
      refine congrArg (· + 1) (xCnt_cong n (fun k hk => ?_))
      show (!decide (xIa U 1 k = 0)) = !decide (xIa (X, L, []) 1 k = 0)
      rw [i1, pk_un (by omega)]
    rw [m1, g8, e1, nI_1]
  · show lA U 7 0 = _
    rw [aL, lAd_7, pk_us]
  · show lA U 5 k = _
    rw [aL, lAd_5, i1]
    by_cases e : k = n
    · subst e; rw [pk_us, pk_us]; rfl
    · rw [pk_un e, pk_un e]; exact k2 k (by omega)
  · show lA U 0 (3 * k + t) = _
    rw [aL, lAd_0]
    by_cases e : k = n
    · subst e
      rcases (show t = 0 ∨ t = 1 ∨ t = 2 by omega) with rfl | rfl | rfl
      · rw [w0, pk_us, pk_un (by omega), pk_un (by omega), show 3 * k + 0 = 3 * k by omega, pk_us]
      · rw [w1, pk_us, pk_un (by omega), pk_us]
      · rw [w2, pk_us, pk_us]
    · have e0 := k3 t k ht (by omega)
      rw [pk_un (by omega), pk_un (by omega), pk_un (by omega)]
      rcases (show t = 0 ∨ t = 1 ∨ t = 2 by omega) with rfl | rfl | rfl
      · rw [w0, pk_un e]; exact e0
      · rw [w1, pk_un e]; exact e0
      · rw [w2, pk_un e]; exact e0
  · show (lA U 1 k).toInt64 = _ ∧ (lA U 2 k).toInt64 = _ ∧ (lA U 3 k).toInt64 = _ ∧ lA U 4 k = _
    rw [aL, lAd_1, lAd_2, lAd_3, lAd_4, v0, v1, v2, i0]
    by_cases e : k = n
    · subst e
      rw [pk_us, pk_us, pk_us, pk_us, pk_uLs, pk_uLs, pk_uLs, pk_us]
      exact ⟨rfl, rfl, rfl, rfl⟩
    · rw [pk_un e, pk_un e, pk_un e, pk_un e, pk_uLn e, pk_uLn e, pk_uLn e, pk_un e]
      exact k4 k (by omega)
  · show lA U 6 (4 * t + k) = _
    rw [aL, lAd_6, ff]
    exact k5 t k ht hk
  · show lA U 7 1 = _
    rw [aL, lAd_7, pk_un (by decide), m2]
    exact k6
  · show lA U 7 2 = _
    rw [aL, lAd_7, pk_un (by decide), m3]
    exact k7
  · show lA U 7 3 = _
    rw [aL, lAd_7, pk_un (by decide), m4]
    exact k8
/-- withdrawing -/
def lG (L : LAr) (r : Nat) : LAr := va_up L 5 (upd (L 5) r 1)
theorem a_wd (h : LR n (X, L, []) (X, L, [])) {r : Nat} (hr : r < n) (hv : ¬ xIa (X, L, []) 1 r = 0) :
    xE_row (X, lG L r, []) (nI r) = none ∧ LR n (xR_wd (X, lG L r, []) n (nI r)) (xR_wd (X, lG L r, []) n (nI r)) ∧ (xR_wd (X, lG L r, []) n (nI r)).2.2 = [] := by
  have hN : LN n (X, lG L r, []) := h.1
  have hrow := row_live hN hr hv
  have hn := lr_n h
  have er : xR_wd (X, lG L r, []) n (nI r) = xRefit (xWd (X, lG L r, []) r) n := by
    unfold xR_wd
    rw [if_pos hrow, tN_nI (by omega)]
  have ee : xE_row (X, lG L r, []) (nI r) = none := by
    unfold xE_row
    rw [if_pos hrow]
  rw [er]
  refine ⟨ee, ?_, rfl⟩
  obtain ⟨⟨g1, g2, g3, g4, g5, g6, g7, g8, g9, g10⟩, k1, k2, k3, k4, k5, k6, k7, k8⟩ := h
  have i1 : xIa (xWd (X, lG L r, []) r) 1 = upd (xIa (X, L, []) 1) r 0 := rfl
  have m1 : xSc (xWd (X, lG L r, []) r) 1 = xSc (X, L, []) 1 - 1 := rfl
  refine ⟨ln_refit (U := xWd (X, lG L r, []) r) g1 g2 g3 (fun k hk => ?_) g5 g6 g7 ?_, ll_refit (U := xWd (X, lG L r, []) r) (S := xRefit (xWd (X, lG L r, []) r) n) ⟨k1, fun k hk => ?_, k3, k4, k5, k6, k7, k8⟩⟩
  · obtain ⟨q1, q2⟩ := g4 k hk
    refine ⟨?_, q2⟩
    rw [i1]
    by_cases e : k = r
    · subst e; rw [pk_us]; exact Or.inl rfl
    · rw [pk_un e]; exact q1
  · have e1 : xCnt (xLiv (X, L, [])) n = xCnt (xLiv (xWd (X, lG L r, []) r)) n + 1 := by
      refine xCnt_rem (r := r) n hr ?_ ?_ (fun k hk => ?_)
      · show (!decide (xIa (X, L, []) 1 r = 0)) = true
        rw [decide_eq_false hv]; rfl
      · show (!decide (xIa (xWd (X, lG L r, []) r) 1 r = 0)) = false
        rw [i1, pk_us]; rfl
      · show (!decide (xIa (xWd (X, lG L r, []) r) 1 k = 0)) = !decide (xIa (X, L, []) 1 k = 0)
        rw [i1, pk_un hk]
    rw [m1, g8, e1, nI_pred]
  · show upd (L 5) r 1 k = if xIa (xWd (X, lG L r, []) r) 1 k = 0 then 1 else 0
    rw [i1]
    by_cases e : k = r
    · subst e; rw [pk_us, pk_us]; rfl
    · rw [pk_un e, pk_un e]; exact k2 k hk
/-- an old premium -/
def lO (L : LAr) (r : Nat) (v : Int32) : LAr := va_up L 4 (upd (L 4) r v)
theorem a_old (h : LR n (X, L, []) (X, L, [])) {r : Nat} (hr : r < n) (hv : ¬ xIa (X, L, []) 1 r = 0) {v : Int32} (hvo : v = -1 ∨ NB 10000000 v) :
    xE_old (X, lO L r v, []) (nI r) v = none ∧ LR n (xR_old (X, lO L r v, []) (nI r) v) (xR_old (X, lO L r v, []) (nI r) v) ∧ (xR_old (X, lO L r v, []) (nI r) v).2.2 = [] := by
  have hN : LN n (X, lO L r v, []) := h.1
  have hrow := row_live hN hr hv
  have hn := lr_n h
  have ho : xOldOk v = true := by
    unfold xOldOk
    rcases hvo with e | ⟨c, hc, e⟩
    · rw [decide_eq_true e]; rfl
    · have e2 : xIsWithin v 0 10000000 = true := by rw [e]; exact within_ok (lo := 0) (Nat.zero_le _) hc (by decide)
      rw [e2, Bool.or_true]
  have er : xR_old (X, lO L r v, []) (nI r) v = xsIa (X, lO L r v, []) 0 (upd (xIa (X, L, []) 0) r v) := by
    unfold xR_old
    rw [if_pos hrow, if_pos ho, tN_nI (by omega)]
  have ee : xE_old (X, lO L r v, []) (nI r) v = none := by
    unfold xE_old
    rw [if_pos hrow, if_pos ho]
  rw [er]
  refine ⟨ee, ?_, rfl⟩
  obtain ⟨⟨g1, g2, g3, g4, g5, g6, g7, g8, g9, g10⟩, k1, k2, k3, k4, k5, k6, k7, k8⟩ := h
  have i0 : xIa (xsIa (X, lO L r v, []) 0 (upd (xIa (X, L, []) 0) r v)) 0 = upd (xIa (X, L, []) 0) r v := rfl
  refine ⟨⟨g1, g2, g3, fun k hk => ?_, g5, g6, g7, g8, g9, g10⟩, k1, k2, k3, fun k hk => ?_, k5, k6, k7, k8⟩
  · obtain ⟨q1, q2, q3, q4⟩ := g4 k hk
    refine ⟨q1, q2, q3, ?_⟩
    rw [i0]
    by_cases e : k = r
    · subst e; rw [pk_us]; exact hvo
    · rw [pk_un e]; exact q4
  · obtain ⟨q1, q2, q3, q4⟩ := k4 k hk
    refine ⟨q1, q2, q3, ?_⟩
    rw [i0]
    show upd (L 4) r v k = _
    by_cases e : k = r
    · subst e; rw [pk_us, pk_us]
    · rw [pk_un e, pk_un e]; exact q4
/-- the rules -/
def lM (L : LAr) (i : Nat) (v : Int32) : LAr := va_up L 7 (upd (L 7) i v)
theorem a_rules (h : LR n (X, L, []) (X, L, [])) {c : Nat} {k : Int32} (hc : c ≤ 1000) (hk : k = -1 ∨ NB 1000 k) :
    xE_rules (nI c) k = none ∧ LR n (xR_rules (X, lM (lM L 1 (nI c)) 2 k, []) (nI c) k) (xR_rules (X, lM (lM L 1 (nI c)) 2 k, []) (nI c) k) ∧ (xR_rules (X, lM (lM L 1 (nI c)) 2 k, []) (nI c) k).2.2 = [] := by
  have e1 : xIsWithin (nI c) 0 1000 = true := within_ok (lo := 0) (Nat.zero_le _) hc (by decide)
  have e2 : xCapOk k = true := by
    unfold xCapOk
    rcases hk with e | ⟨c, hc, e⟩
    · rw [decide_eq_true e]; rfl
    · have e2 : xIsWithin k 0 1000 = true := by rw [e]; exact within_ok (lo := 0) (Nat.zero_le _) hc (by decide)
      rw [e2, Bool.or_true]
  have er : xR_rules (X, lM (lM L 1 (nI c)) 2 k, []) (nI c) k = xsSc (xsSc (X, lM (lM L 1 (nI c)) 2 k, []) 2 (nI c)) 3 k := by
    unfold xR_rules
    rw [if_pos e1, if_pos e2]
  have ee : xE_rules (nI c) k = none := by
    unfold xE_rules
    rw [if_pos e1, if_pos e2]
  rw [er]
  refine ⟨ee, ?_, rfl⟩
  obtain ⟨⟨g1, g2, g3, g4, g5, g6, g7, g8, g9, g10⟩, k1, k2, k3, k4, k5, k6, k7, k8⟩ := h
  exact ⟨⟨⟨g1.1, g1.2.1, g1.2.2.1, g1.2.2.2.1, c, hc, rfl⟩, g2, g3, g4, g5, hk, g7, g8, g9, g10⟩, k1, k2, k3, k4, k5, rfl, rfl, k8⟩
/-- a factor -/
def lF (L : LAr) (t k : Nat) (v : Int32) : LAr := va_up L 6 (upd (L 6) (4 * t + k) v)
theorem a_fac (h : LR n (X, L, []) (X, L, [])) {t k v : Nat} (ht : t < 3) (hk : k < levN t) (hv1 : 100 ≤ v) (hv2 : v ≤ 100000) :
    xE_fac (nI t) (nI k) (nI v) = none ∧ LR n (xR_fac (X, lF L t k (nI v), []) n (nI t) (nI k) (nI v)) (xR_fac (X, lF L t k (nI v), []) n (nI t) (nI k) (nI v)) ∧ (xR_fac (X, lF L t k (nI v), []) n (nI t) (nI k) (nI v)).2.2 = [] := by
  have h4 := levN_4 t
  have e1 := has_lev ht hk
  have e2 : xIsWithin (nI v) 100 100000 = true := within_ok hv1 hv2 (by decide)
  have er : xR_fac (X, lF L t k (nI v), []) n (nI t) (nI k) (nI v) = xRefit (xSetF (X, lF L t k (nI v), []) t k (nI v)) n := by
    unfold xR_fac
    rw [if_pos e1, if_pos e2, tN_nI (by omega), tN_nI (by omega)]
  have ee : xE_fac (nI t) (nI k) (nI v) = none := by
    unfold xE_fac
    rw [if_pos e1, if_pos e2]
  rw [er]
  refine ⟨ee, ?_, rfl⟩
  obtain ⟨⟨g1, g2, g3, g4, g5, g6, g7, g8, g9, g10⟩, k1, k2, k3, k4, k5, k6, k7, k8⟩ := h
  have ff : xFac (xSetF (X, lF L t k (nI v), []) t k (nI v)) = va_up (xFac (X, L, [])) t (upd (xFac (X, L, []) t) k (nI v)) := rfl
  refine ⟨ln_refit (U := xSetF (X, lF L t k (nI v), []) t k (nI v)) g1 g2 g3 g4 (fun u j hu hj => ?_) g6 g7 g8, ll_refit (U := xSetF (X, lF L t k (nI v), []) t k (nI v)) (S := xRefit (xSetF (X, lF L t k (nI v), []) t k (nI v)) n) ⟨k1, k2, k3, k4, fun u j hu hj => ?_, k6, k7, k8⟩⟩
  · rw [ff]
    by_cases e : u = t
    · subst e
      rw [va_up_self]
      by_cases e2 : j = k
      · subst e2; rw [pk_us]; exact ⟨v, hv1, hv2, rfl⟩
      · rw [pk_un e2]; exact g5 u j hu hj
    · rw [va_up_ne _ _ e]; exact g5 u j hu hj
  · show upd (L 6) (4 * t + k) (nI v) (4 * u + j) = _
    have h4u := levN_4 u
    rw [ff]
    by_cases e : u = t
    · subst e
      rw [va_up_self]
      by_cases e2 : j = k
      · subst e2; rw [pk_us, pk_us]
      · rw [pk_un e2, pk_un (by omega)]; exact k5 u j hu hj
    · rw [va_up_ne _ _ e, pk_un (by omega)]; exact k5 u j hu hj
end ACT
/-- new factors of one trait on both sides -/
theorem a_put {n : Nat} {T S : WS} (h : LR n T S) {t : Nat} (ht : t < 3) {U : WS} {F : Nat → Int32} (eLev : xLev U = xLev T) (eLng : xLng U = xLng T) (eI0 : xIa U 0 = xIa T 0) (eI1 : xIa U 1 = xIa T 1) (eSc : xSc U = xSc T) (e2 : ∀ u k, u < 3 → k < levN u → xFac U u k = if u = t then F k else xFac T u k)
    (hF : ∀ k, k < levN t → ∃ f : Nat, 100 ≤ f ∧ f ≤ 100000 ∧ F k = nI f) {Y : XS} {L' : LAr} {E : va_W} (hL : L' = lPut S.2.1 t F (levN t)) : LR n (xRefit U n) (Y, L', E) := by
  obtain ⟨⟨g1, g2, g3, g4, g5, g6, g7, g8, g9, g10⟩, k1, k2, k3, k4, k5, k6, k7, k8⟩ := h
  subst hL
  have ne : ∀ i, i ≠ 6 → lPut S.2.1 t F (levN t) i = S.2.1 i := fun i hi => va_up_ne _ _ hi
  have eLiv : xLiv U = xLiv T := by unfold xLiv; rw [eI1]
  refine ⟨ln_refit (U := U) ⟨g1.1, by rw [eSc]; exact g1.2.1, by rw [eLev]; exact g1.2.2.1, by rw [eLng]; exact g1.2.2.2.1, by rw [eSc]; exact g1.2.2.2.2⟩ g2 (by rw [eLev]; exact g3) (by rw [eLng, eI0, eI1]; exact g4) (fun u k hu hk => ?_) (by rw [eSc]; exact g6) (by rw [eSc]; exact g7) (by rw [eSc, eLiv]; exact g8), ll_refit (U := U) (S := (Y, lPut S.2.1 t F (levN t), E)) ⟨?_, fun k hk => ?_, fun u k hu hk => ?_, fun k hk => ?_, fun u k hu hk => ?_, ?_, ?_, ?_⟩⟩
  · rw [e2 u k hu hk]
    by_cases e : u = t
    · subst e; rw [if_pos rfl]; exact hF k hk
    · rw [if_neg e]; exact g5 u k hu hk
  · show lPut S.2.1 t F (levN t) 7 0 = _
    rw [ne 7 (by decide)]; exact k1
  · show lPut S.2.1 t F (levN t) 5 k = _
    rw [ne 5 (by decide), eI1]; exact k2 k hk
  · show lPut S.2.1 t F (levN t) 0 (3 * k + u) = _
    rw [ne 0 (by decide), eLev]; exact k3 u k hu hk
  · show (lPut S.2.1 t F (levN t) 1 k).toInt64 = _ ∧ (lPut S.2.1 t F (levN t) 2 k).toInt64 = _ ∧ (lPut S.2.1 t F (levN t) 3 k).toInt64 = _ ∧ lPut S.2.1 t F (levN t) 4 k = _
    rw [ne 1 (by decide), ne 2 (by decide), ne 3 (by decide), ne 4 (by decide), eLng, eI0]; exact k4 k hk
  · show lPut S.2.1 t F (levN t) 6 (4 * u + k) = xFac U u k
    have h4 := levN_4 u
    have h4t := levN_4 t
    rw [e2 u k hu hk, lPut_6]
    unfold mPut
    by_cases e : u = t
    · subst e
      rw [if_pos rfl, if_pos (by omega), show 4 * u + k - 4 * u = k by omega]
    · rw [if_neg e, if_neg (by omega)]; exact k5 u k hu hk
  · show lPut S.2.1 t F (levN t) 7 1 = _
    rw [ne 7 (by decide), eSc]; exact k6
  · show lPut S.2.1 t F (levN t) 7 2 = _
    rw [ne 7 (by decide), eSc]; exact k7
  · show lPut S.2.1 t F (levN t) 7 3 = _
    rw [ne 7 (by decide), eSc]; exact k8
theorem found_rng {n : Nat} {T : WS} (h : LN n T) {t k : Nat} (ht : t < 3) (hk : k < levN t) : ∃ f : Nat, 100 ≤ f ∧ f ≤ 100000 ∧ xFound T n t k = nI f := by
  unfold xFound
  by_cases c : xLTot (xIa T 1) (xLev T t) (nI k) (xLng T 3) n ≤ 0
  · rw [if_pos c]; exact ln_fac h ht hk
  · rw [if_neg c]
    by_cases d : 0 < xLTot (xIa T 1) (xLev T t) (nI k) (xLng T 1) n
    · rw [if_pos d]
      obtain ⟨r1, r2⟩ := bnd_rng ((xFac T t k).toInt64 + ((xFac T t k).toInt64 * xLTot (xIa T 1) (xLev T t) (nI k) (xLng T 2) n / xLTot (xIa T 1) (xLev T t) (nI k) (xLng T 3) n - (xFac T t k).toInt64) * xLTot (xIa T 1) (xLev T t) (nI k) (xLng T 1) n / (xLTot (xIa T 1) (xLev T t) (nI k) (xLng T 1) n + (xSc T 2).toInt64))
      generalize xBnd _ 100 100000 = y at r1 r2 ⊢
      rw [Int64.le_iff_toInt_le] at r1 r2
      rw [show (100 : Int64).toInt = 100 from by decide] at r1
      rw [show (100000 : Int64).toInt = 100000 from by decide] at r2
      refine ⟨y.toInt.toNat, by omega, by omega, ?_⟩
      have e : y = lN y.toInt.toNat := Int64.toInt_inj.mp (by rw [lN_toInt (by omega)]; omega)
      exact (congrArg Int64.toInt32 e).trans (lN_i _)
    · rw [if_neg d]; exact ln_fac h ht hk
theorem a_pass {n : Nat} {T S : WS} (h : LR n T S) {t : Nat} (ht : t < 3) {Y : XS} {E : va_W} : LR n (xPass T n t) (Y, lPut S.2.1 t (xFound T n t) (levN t), E) := by
  refine a_put h ht (U := xPassF T n t) (F := xFound T n t) rfl rfl rfl rfl rfl (fun u k hu hk => ?_) (fun k hk => found_rng h.1 ht hk) rfl
  show va_up (xFac T) t (fil (xFound T n t) (xFac T t) (levN t)) u k = _
  by_cases e : u = t
  · subst e; rw [va_up_self, if_pos rfl, fil_lo hk]
  · rw [va_up_ne _ _ e, if_neg e]
theorem a_round {n : Nat} {T : WS} {X Y : XS} {L : LAr} (h : LR n T (X, L, [])) : LR n (xRound T n 3) (Y, lPut (lPut (lPut L 0 (xFound T n 0) (levN 0)) 1 (xFound (xPass T n 0) n 1) (levN 1)) 2 (xFound (xPass (xPass T n 0) n 1) n 2) (levN 2), []) :=
  a_pass (S := (X, lPut (lPut L 0 (xFound T n 0) (levN 0)) 1 (xFound (xPass T n 0) n 1) (levN 1), [])) (a_pass (S := (X, lPut L 0 (xFound T n 0) (levN 0), [])) (a_pass h (by decide)) (by decide)) (by decide)
theorem settle_cg (n : Nat) (A B : LAr × va_W) : ∀ (d r : Nat) (X : XS), xSettle n d r (X, A) = ((xSettle n d r (X, B)).1, ((xSettle n d r (X, B)).2.1, A))
  | 0, _, _ => rfl
  | d + 1, r, X => by
    have e1 : xRoundC (X, A) n 3 = xRoundC (X, B) n 3 := rfl
    have e2 : xRound (X, A) n 3 = ((xRound (X, B) n 3).1, A) := rfl
    have e3 : xRound (X, B) n 3 = ((xRound (X, B) n 3).1, B) := rfl
    by_cases c : xRoundC (X, B) n 3 = 0
    · have a1 : xSettle n (d + 1) r (X, A) = (r, xRound (X, A) n 3) := if_pos (e1.trans c)
      have a2 : xSettle n (d + 1) r (X, B) = (r, xRound (X, B) n 3) := if_pos c
      rw [a1, a2, e2]
    · have a1 : xSettle n (d + 1) r (X, A) = xSettle n d (r + 1) (xRound (X, A) n 3) := if_neg (fun q => c (e1.symm.trans q))
      have a2 : xSettle n (d + 1) r (X, B) = xSettle n d (r + 1) (xRound (X, B) n 3) := if_neg c
      rw [a1, a2, e2, settle_cg n A B d (r + 1) (xRound (X, B) n 3).1, ← e3]
/-- a state that smoothing leaves -/
theorem smF_keep (n t : Nat) : ∀ (d : Nat) (S : WS), (∀ u, u ≠ t → xFac (xSmF n t d S) u = xFac S u) ∧ xLev (xSmF n t d S) = xLev S ∧ xLng (xSmF n t d S) = xLng S ∧ xIa (xSmF n t d S) 0 = xIa S 0 ∧ xIa (xSmF n t d S) 1 = xIa S 1 ∧ (xSmF n t d S).1.2.2.2.2 = S.1.2.2.2.2 ∧ (xSmF n t d S).2 = S.2
  | 0, S => ⟨fun _ _ => rfl, rfl, rfl, rfl, rfl, rfl, rfl⟩
  | d + 1, S => by
    by_cases c : xLow S t = -1
    · have e : xSmF n t (d + 1) S = S := if_pos c
      rw [e]
      exact ⟨fun _ _ => rfl, rfl, rfl, rfl, rfl, rfl, rfl⟩
    · have e : xSmF n t (d + 1) S = xSmF n t d (xJoin S n t (tN (xLow S t)) (xJst S t)) := if_neg c
      obtain ⟨h1, h2, h3, h4, h5, h6, h7⟩ := smF_keep n t d (xJoin S n t (tN (xLow S t)) (xJst S t))
      rw [e, h2, h3, h4, h5, h6, h7]
      exact ⟨fun u hu => (h1 u hu).trans (va_up_ne _ _ hu), rfl, rfl, rfl, rfl, rfl, rfl⟩
theorem bi_run {n t : Nat} {T : WS} (hN : LN n T) : ∀ (B : Nat) (U : WS) (z : Nat → Nat) (M V : Nat → Int64) (Z : Nat → Int32), BI n t T U z B M V Z → xJI U t → ∃ (z' : Nat → Nat) (B' : Nat) (M' V' : Nat → Int64) (Z' : Nat → Int32), BI n t T (xSmF n t B U) z' B' M' V' Z'
  | 0, _, _, _, _, _, h, _ => absurd h.1 (by decide)
  | B + 1, U, z, M, V, Z, h, hJ => by
    by_cases hex : ∃ k, 1 ≤ k ∧ k < B + 1 ∧ ¬ M (k - 1) ≤ M k
    · obtain ⟨k, ⟨k1, k2, k3⟩, hl⟩ := pk_least (fun k => 1 ≤ k ∧ k < B + 1 ∧ ¬ M (k - 1) ≤ M k) hex
      have hs : ∀ j, 1 ≤ j → j < k → M (j - 1) ≤ M j := fun j h1 h2 => by
        by_cases c : M (j - 1) ≤ M j
        · exact c
        · exact absurd ⟨h1, by omega, c⟩ (hl j h2)
      obtain ⟨hne, hB2, hJ2⟩ := bi_step h hN hJ k1 k2 hs k3
      have e : xSmF n t (B + 1) U = xSmF n t B (xJoin U n t (tN (xLow U t)) (xJst U t)) := if_neg hne
      rw [e]
      exact bi_run hN B _ _ _ _ _ hB2 hJ2
    · have hs : ∀ j, 1 ≤ j → j < B + 1 → M (j - 1) ≤ M j := fun j h1 h2 => by
        by_cases c : M (j - 1) ≤ M j
        · exact c
        · exact absurd ⟨j, h1, h2, c⟩ hex
      rw [smF_none (bi_none h hs)]
      exact ⟨z, B + 1, M, V, Z, h⟩
theorem smF_rng {n t : Nat} {T : WS} (hN : LN n T) (ht : t < 3) {k : Nat} (hk : k < levN t) : ∃ f : Nat, 100 ≤ f ∧ f ≤ 100000 ∧ xFac (xSmF n t (levN t) (xSm0 T t (levN t))) t k = nI f := by
  obtain ⟨z, B, M, V, Z, h⟩ := bi_run hN (levN t) _ _ _ _ _ (bi_0 hN ht) (xJI_0 T t)
  obtain ⟨b, hb, i, hi, e⟩ := stt_cov B k (by rw [h.2.1]; exact hk)
  obtain ⟨-, -, -, ⟨m, m1, m2, em⟩, g⟩ := h.2.2.1 b hb
  refine ⟨m, m1, m2, ?_⟩
  have e2 := (g i hi).2
  rw [← e, em] at e2
  have e3 := congrArg Int64.toInt32 e2
  rw [Int32.toInt32_toInt64, lN_i] at e3
  exact e3
theorem a_smooth {n : Nat} {T S : WS} (h : LR n T S) {t : Nat} (ht : t < 3) {Y : XS} {E : va_W} : LR n (xSmS T n t) (Y, lPut S.2.1 t (xFac (xSmF n t (levN t) (xSm0 T t (levN t))) t) (levN t), E) := by
  obtain ⟨h1, h2, h3, h4, h5, h6, h7⟩ := smF_keep n t (levN t) (xSm0 T t (levN t))
  refine a_put h ht (U := xSmF n t (levN t) (xSm0 T t (levN t))) (F := xFac (xSmF n t (levN t) (xSm0 T t (levN t))) t) h2 h3 h4 h5 (congrArg (fun x => x.1) h6) (fun u k hu hk => ?_) (fun k hk => smF_rng h.1 ht hk) rfl
  by_cases e : u = t
  · subst e; rw [if_pos rfl]
  · rw [if_neg e, h1 u e]; rfl
theorem NL_mono {A B : Nat} {x : Int64} (h : A ≤ B) (hx : NL A x) : NL B x := by
  obtain ⟨c, hc, e⟩ := hx
  exact ⟨c, by omega, e⟩
theorem NL_bnd {B : Nat} {v lo hi : Int64} (h1 : NL B v) (h2 : NL B lo) (h3 : NL B hi) : NL B (xBnd v lo hi) := by
  unfold xBnd mn64 mx64
  by_cases c : lo < v
  · rw [if_pos c]
    by_cases d : hi < v
    · rw [if_pos d]; exact h3
    · rw [if_neg d]; exact h1
  · rw [if_neg c]
    by_cases d : hi < lo
    · rw [if_pos d]; exact h3
    · rw [if_neg d]; exact h2
section SPR
variable {n : Nat} {S : WS}
theorem ln_newp (h : LN n S) {k : Nat} (hk : k < n) (hv : ¬ xIa S 1 k = 0) : NL 1200000000000 (xNewP S k) := by
  obtain ⟨F, hF, e⟩ := ln_fit h hk hv
  obtain ⟨s, s1, s2, e2⟩ := h.2.2.2.2.2.2.1
  have hm : F * s ≤ 12000000000 * 1000000 := Nat.mul_le_mul hF s2
  unfold xNewP
  rw [e, e2, nI_l (by omega), lN_mul]
  refine ⟨F * s / 10000, by omega, ?_⟩
  show lN _ / lN 10000 = _
  rw [pk_lDiv (by omega) (by decide) (by decide)]
theorem ln_capp (h : LN n S) {k : Nat} (hk : k < n) (hv : ¬ xIa S 1 k = 0) : NL 1200000000000 (xCapP S k) := by
  have hp := ln_newp h hk hv
  unfold xCapP
  by_cases c : xSc S 3 = -1
  · rw [if_pos c]; exact hp
  · rw [if_neg c]
    by_cases d : xIa S 0 k = -1
    · rw [if_pos d]; exact hp
    · rw [if_neg d]
      rcases h.2.2.2.2.2.1 with e | ⟨q, hq, e⟩
      · exact absurd e c
      · rcases (h.2.2.2.1 k hk).2.2.2 with e2 | ⟨o, ho, e2⟩
        · exact absurd e2 d
        · rw [e, e2, nI_l (n := o) (by omega), lcap_low hq ho, lcap_high hq ho]
          have hm3 : (100 + q) * o ≤ 1100 * 10000000 := Nat.mul_le_mul (by omega) ho
          have hm4 : (100 - q) * o ≤ 100 * 10000000 := Nat.mul_le_mul (by omega) ho
          refine NL_bnd hp ?_ ⟨_, by omega, rfl⟩
          by_cases g : 100 < q
          · rw [if_pos g]; exact ⟨0, by omega, rfl⟩
          · rw [if_neg g]; exact ⟨_, by omega, rfl⟩
theorem tot_cap (h : LN n S) : ∃ c : Nat, c < 2 ^ 63 ∧ xTot (xIa S 1) (xCapP S) n = lN c := by
  obtain ⟨c, hc, e⟩ := xTot_small (lv := xIa S 1) (f := xCapP S) (B := 1200000000000) n (fun k hk hv => ln_capp h hk hv)
  have hn := ln_n h
  have : n * 1200000000000 ≤ 12 * 1200000000000 := Nat.mul_le_mul_right _ hn
  exact ⟨c, by omega, e⟩
theorem cap_pos (h : LN n S) (c : ¬ xTot (xIa S 1) (xCapP S) n = 0) : ¬ xTot (xIa S 1) (xCapP S) n ≤ 0 := by
  obtain ⟨q, hq, e⟩ := tot_cap h
  rw [e] at c ⊢
  exact fun r => c ((lN_z' hq).mpr ((lN_le0' hq).mp r))
def sprV (S : WS) (n : Nat) : Int64 := (xSc S 4).toInt64 * mn64 (10000 * xTot (xIa S 1) (xLng S 3) n / xTot (xIa S 1) (xCapP S) n) 1000000 / 10000
theorem spr_eq (S : WS) (n : Nat) : xSpr1 S n = if sprV S n < 1 then 1 else if 1000000 < sprV S n then 1000000 else (sprV S n).toInt32 := by
  have e : xSpr1 S n = (xBnd (sprV S n) 1 1000000).toInt32 := rfl
  rw [e, mnmx (by decide)]
  by_cases c : sprV S n < 1
  · rw [if_pos c, if_pos c]; rfl
  · rw [if_neg c, if_neg c]
    by_cases d : 1000000 < sprV S n
    · rw [if_pos d, if_pos d]; rfl
    · rw [if_neg d, if_neg d]
theorem spr_rng (S : WS) (n : Nat) : ∃ s : Nat, 1 ≤ s ∧ s ≤ 1000000 ∧ xSpr1 S n = nI s := by
  have e : xSpr1 S n = (xBnd (sprV S n) 1 1000000).toInt32 := rfl
  have hr : 1 ≤ xBnd (sprV S n) 1 1000000 ∧ xBnd (sprV S n) 1 1000000 ≤ 1000000 := by
    rw [mnmx (by decide)]
    by_cases c : sprV S n < 1
    · rw [if_pos c]; decide
    · rw [if_neg c]
      by_cases d : 1000000 < sprV S n
      · rw [if_pos d]; decide
      · rw [if_neg d]; exact ⟨Int64.not_lt.mp c, Int64.not_lt.mp d⟩
  rw [e]
  generalize xBnd _ 1 1000000 = y at hr ⊢
  obtain ⟨r1, r2⟩ := hr
  rw [Int64.le_iff_toInt_le] at r1 r2
  rw [show (1 : Int64).toInt = 1 from by decide] at r1
  rw [show (1000000 : Int64).toInt = 1000000 from by decide] at r2
  refine ⟨y.toInt.toNat, by omega, by omega, ?_⟩
  have e : y = lN y.toInt.toNat := Int64.toInt_inj.mp (by rw [lN_toInt (by omega)]; omega)
  exact (congrArg Int64.toInt32 e).trans (lN_i _)
theorem spr_ge {a b : Int64} (c : 1000000 ≤ b) : a * 1000000 / 10000 = a * mn64 b 1000000 / 10000 := by
  unfold mn64
  by_cases d : 1000000 < b
  · rw [if_pos d]
  · rw [if_neg d, Int64.le_antisymm c (Int64.not_lt.mp d)]
theorem spr_lt {a b : Int64} (c : ¬ 1000000 ≤ b) : a * b / 10000 = a * mn64 b 1000000 / 10000 := by
  unfold mn64
  rw [if_neg (fun q => c (Int64.le_of_lt q))]
end SPR
theorem a_spread0 {n : Nat} {X : XS} {L : LAr} (h : LR n (X, L, []) (X, L, [])) (c : xTot (xIa (X, L, []) 1) (xCapP (X, L, [])) n = 0) : xSpread (X, L, []) n = (X, L, []) := by
  unfold xSpread
  rw [c, if_pos (by decide)]
theorem a_spread1 {n : Nat} {X : XS} {L : LAr} (h : LR n (X, L, []) (X, L, [])) (c : ¬ xTot (xIa (X, L, []) 1) (xCapP (X, L, [])) n = 0) :
    xSc (xSpread (X, lM L 3 (xSpr1 (X, L, []) n), []) n) 4 = xSpr1 (X, L, []) n ∧ LR n (xSpread (X, lM L 3 (xSpr1 (X, L, []) n), []) n) (xSpread (X, lM L 3 (xSpr1 (X, L, []) n), []) n) ∧ (xSpread (X, lM L 3 (xSpr1 (X, L, []) n), []) n).2.2 = [] := by
  have c2 : ¬ xTot (xIa (X, lM L 3 (xSpr1 (X, L, []) n), []) 1) (xCapP (X, lM L 3 (xSpr1 (X, L, []) n), [])) n ≤ 0 := cap_pos h.1 c
  have er : xSpread (X, lM L 3 (xSpr1 (X, L, []) n), []) n = xsSc (X, lM L 3 (xSpr1 (X, L, []) n), []) 4 (xSpr1 (X, L, []) n) := by
    unfold xSpread
    rw [if_neg c2]
    rfl
  obtain ⟨s, s1, s2, es⟩ := spr_rng (X, L, []) n
  rw [er]
  generalize xSpr1 (X, L, []) n = v at *
  refine ⟨rfl, ?_, rfl⟩
  obtain ⟨⟨g1, g2, g3, g4, g5, g6, g7, g8, g9, g10⟩, k1, k2, k3, k4, k5, k6, k7, k8⟩ := h
  exact ⟨⟨g1, g2, g3, g4, g5, g6, ⟨s, s1, s2, es⟩, g8, g9, g10⟩, k1, k2, k3, k4, k5, k6, k7, rfl⟩
