def xWd (S : WS) (r : Nat) : WS := xsSc (xsIa S 1 (upd (xIa S 1) r 0)) 1 (xSc S 1 - 1)
theorem XI_wd {n : Nat} {S : WS} (r : Nat) (h : XI n S) : XI n (xWd S r) := h
def xOldOk (v : Int32) : Bool := decide (v = -1) || xIsWithin v 0 10000000
def xCapOk (v : Int32) : Bool := decide (v = -1) || xIsWithin v 0 1000
def xE_row (S : WS) (r : Int32) : Option String := if xHasRow S r then none else some eIOB
def xE_old (S : WS) (r v : Int32) : Option String := if xHasRow S r then (if xOldOk v then none else some eIAE) else some eIOB
def xR_old (S : WS) (r v : Int32) : WS := if xHasRow S r then (if xOldOk v then xsIa S 0 (upd (xIa S 0) (tN r) v) else S) else S
def xR_wd (S : WS) (n : Nat) (r : Int32) : WS := if xHasRow S r then xRefit (xWd S (tN r)) n else S
def xE_rules (c k : Int32) : Option String := if xIsWithin c 0 1000 then (if xCapOk k then none else some eIAE) else some eIAE
def xR_rules (S : WS) (c k : Int32) : WS := if xIsWithin c 0 1000 then (if xCapOk k then xsSc (xsSc S 2 c) 3 k else S) else S
def xE_fac (t k v : Int32) : Option String := if xHasLevel t k then (if xIsWithin v 100 100000 then none else some eIAE) else some eIOB
def xSetF (S : WS) (t k : Nat) (v : Int32) : WS := xsFac S t (upd (xFac S t) k v)
theorem XI_setF {n : Nat} {S : WS} (t k : Nat) (v : Int32) (h : XI n S) : XI n (xSetF S t k v) := h
def xR_fac (S : WS) (n : Nat) (t k v : Int32) : WS := if xHasLevel t k then (if xIsWithin v 100 100000 then xRefit (xSetF S (tN t) (tN k) v) n else S) else S
def xE_trait (t : Int32) : Option String := if xHasTrait t then none else some eIOB
def xE_level (t k : Int32) : Option String := if xHasLevel t k then none else some eIOB
def xR_pass (S : WS) (n : Nat) (t : Int32) : WS := if xHasTrait t then xPass S n (tN t) else S
def xWorst (S : WS) (n t : Nat) : Nat → Int64
  | 0 => 0
  | k + 1 => mx64 (xWorst S n t k) (ab64 (xLTot (xIa S 1) (xLev S t) (nI k) (xLng S 2) n - xLTot (xIa S 1) (xLev S t) (nI k) (xLng S 3) n))
def xRankF (S : WS) (n : Nat) (q : Int32) : Nat → Nat → Option Nat
  | 0, _ => none
  | d + 1, i => if xIa S 1 i = 0 then xRankF S n q d (i + 1) else if nI (xPlace S i n) = q then some i else xRankF S n q d (i + 1)
def xRank (S : WS) (n : Nat) (q : Int32) : Option Nat := xRankF S n q n 0
def xE_rank (S : WS) (n : Nat) (q : Int32) : Option String := match xRank S n q with
  | none => some eIOB
  | some _ => none
def xAd1 (S : WS) (n : Nat) (a : Int32) : WS := xsLev S 0 (upd (xLev S 0) n a)
def xAd2 (S : WS) (n : Nat) (a b : Int32) : WS := xsLev (xAd1 S n a) 1 (upd (xLev (xAd1 S n a) 1) n b)
def xAd3 (S : WS) (n : Nat) (a b c : Int32) : WS := xsLev (xAd2 S n a b) 2 (upd (xLev (xAd2 S n a b) 2) n c)
def xAd4 (S : WS) (n : Nat) (a b c ex : Int32) : WS := xsLng (xAd3 S n a b c) 0 (vp_updL (xLng (xAd3 S n a b c) 0) n ex.toInt64)
def xAd5 (S : WS) (n : Nat) (a b c ex cl : Int32) : WS := xsLng (xAd4 S n a b c ex) 1 (vp_updL (xLng (xAd4 S n a b c ex) 1) n cl.toInt64)
def xAd6 (S : WS) (n : Nat) (a b c ex cl lo : Int32) : WS := xsLng (xAd5 S n a b c ex cl) 2 (vp_updL (xLng (xAd5 S n a b c ex cl) 2) n lo.toInt64)
def xAd7 (S : WS) (n : Nat) (a b c ex cl lo : Int32) : WS := xsIa (xAd6 S n a b c ex cl lo) 0 (upd (xIa (xAd6 S n a b c ex cl lo) 0) n (-1))
def xAd8 (S : WS) (n : Nat) (a b c ex cl lo : Int32) : WS := xsIa (xAd7 S n a b c ex cl lo) 1 (upd (xIa (xAd7 S n a b c ex cl lo) 1) n 1)
def xAd9 (S : WS) (n : Nat) (a b c ex cl lo : Int32) : WS := xsSc (xAd8 S n a b c ex cl lo) 0 (nI (n + 1))
def xAd (S : WS) (n : Nat) (a b c ex cl lo : Int32) : WS := xsSc (xAd9 S n a b c ex cl lo) 1 (xSc S 1 + 1)
def xAddOk (a b c ex cl lo : Int32) : Bool := xHasLevel 0 a && (xHasLevel 1 b && (xHasLevel 2 c && (xIsWithin ex 1 1000 && (xIsWithin cl 0 1000 && xIsWithin lo 0 1000000))))
def xE_add (S : WS) (a b c ex cl lo : Int32) : Option String := if xAddOk a b c ex cl lo then (if xSc S 0 < 40 then none else some eISE) else some eIAE
def xR_add (S : WS) (n : Nat) (a b c ex cl lo : Int32) : WS := if xAddOk a b c ex cl lo then (if xSc S 0 < 40 then xRefit (xAd S n a b c ex cl lo) (n + 1) else S) else S
theorem xWithin_nI {v : Int32} {hi : Nat} (hh : hi < 2 ^ 31) (h : xIsWithin v 0 (nI hi) = true) : ∃ c : Nat, c ≤ hi ∧ v = nI c := by
  simp only [xIsWithin, Bool.and_eq_true, Bool.not_eq_true', decide_eq_false_iff_not] at h
  obtain ⟨j, hj, e⟩ := nI_of2 (M := nI hi) (nI_toInt hh) h.1 (Int32.not_lt.mp h.2)
  exact ⟨j, hj, e⟩
theorem xAd_XI {n : Nat} {S : WS} (h : XI n S) {a b c ex cl lo : Int32} (hn : n < 40) (hok : xAddOk a b c ex cl lo = true) : XI (n + 1) (xAd S n a b c ex cl lo) := by
  simp only [xAddOk, Bool.and_eq_true] at hok
  obtain ⟨h1, h2, h3, h4, h5, h6⟩ := hok
  have l1 := xHasLevel_ix h1
  have l2 := xHasLevel_ix h2
  have l3 := xHasLevel_ix h3
  obtain ⟨c5, hc5, e5⟩ := xWithin_nI (hi := 1000) (by decide) h5
  obtain ⟨i1, i2, i3, i4, i5⟩ := h
  refine ⟨by omega, rfl, fun t k ht hk => ?_, fun k hk => ?_, i5⟩
  · have q1 := levN_4 (tN 0)
    have q2 := levN_4 (tN 1)
    have q3 := levN_4 (tN 2)
    by_cases e : k = n
    · subst e
      rcases (show t = 0 ∨ t = 1 ∨ t = 2 by omega) with rfl | rfl | rfl
      · exact ⟨tN a, by omega, (pk_us (f := xLev S 0)).trans l1.2.1⟩
      · exact ⟨tN b, by omega, (pk_us (f := xLev S 1)).trans l2.2.1⟩
      · exact ⟨tN c, by omega, (pk_us (f := xLev S 2)).trans l3.2.1⟩
    · obtain ⟨j, hj, ej⟩ := i3 t k ht (by omega)
      rcases (show t = 0 ∨ t = 1 ∨ t = 2 by omega) with rfl | rfl | rfl
      · exact ⟨j, hj, (pk_un (f := xLev S 0) e).trans ej⟩
      · exact ⟨j, hj, (pk_un (f := xLev S 1) e).trans ej⟩
      · exact ⟨j, hj, (pk_un (f := xLev S 2) e).trans ej⟩
  · by_cases e : k = n
    · subst e
      exact ⟨c5, hc5, (pk_uLs (f := xLng S 1)).trans (by rw [e5, nI_l (by omega)])⟩
    · obtain ⟨j, hj, ej⟩ := i4 k (by omega)
      exact ⟨j, hj, (pk_uLn (f := xLng S 1) e).trans ej⟩
