/-! what the statement gives of the start -/
abbrev nvF : List Cond := flatC (Jvm.Cond.and given_1 narrow_1)
theorem nv_1 : Cond.arrayOf (.static "RateFitter" "LEVELS" "[I") .int ∈ nvF := by decide +kernel
theorem nv_2 : Cond.eq (.length (.static "RateFitter" "LEVELS" "[I")) (.int 3) ∈ nvF := by decide +kernel
theorem nv_3 : Cond.eq (.elem (.static "RateFitter" "LEVELS" "[I") (.int 0)) (.int 4) ∈ nvF := by decide +kernel
theorem nv_4 : Cond.eq (.elem (.static "RateFitter" "LEVELS" "[I") (.int 1)) (.int 3) ∈ nvF := by decide +kernel
theorem nv_5 : Cond.eq (.elem (.static "RateFitter" "LEVELS" "[I") (.int 2)) (.int 4) ∈ nvF := by decide +kernel
theorem nv_6 : Cond.isRef (.static Bundle.tN "UNASSIGNED_STACK" Bundle.steD) ∈ nvF := by decide +kernel
theorem nv_7 : Cond.isRef (.static Bundle.tN "SUPPRESSED_SENTINEL" Bundle.listD) ∈ nvF := by decide +kernel
theorem nv_10 : ∀ q ∈ strsX, Cond.exactly (.string RX0 q.1) "java/lang/String" ∈ nvF := by decide +kernel
theorem tb_1 : Cond.laysStatic "RateFitter" "LEVELS" "[I" ∈ lw_tbl := by decide +kernel
theorem tb_2 : Cond.laysStatic Bundle.tN "UNASSIGNED_STACK" Bundle.steD ∈ lw_tbl := by decide +kernel
theorem tb_3 : Cond.laysStatic Bundle.tN "SUPPRESSED_SENTINEL" Bundle.listD ∈ lw_tbl := by decide +kernel
theorem tb_4 : Cond.initialized Bundle.tN ∈ lw_tbl := by decide +kernel
theorem tb_5 : ∀ q ∈ strsX, Cond.stringRef RX0 q.1 q.2 ∈ lw_tbl := by decide +kernel
theorem tb_6 : ∀ E ∈ exsX, Cond.castable E E ∈ lw_tbl := by decide +kernel
theorem tb_7 : ∀ y ∈ decX, Cond.declares (Bundle.initS y) ∈ lw_tbl := by decide +kernel
theorem tb_8 : Cond.arrayOver (.array .int) ∈ lw_tbl := by decide +kernel
theorem arr_cls {args : Array Value} {s : State} {ty : FieldType} (h : (Cond.arrayClass ty).before args s = true) : ∃ c : ClassId, ArrOfT s c ty ∧ s.vm.findClass ("[" ++ ty.toString) = some c := by
  obtain ⟨c, k, comp, f1, f2, f3⟩ := Cond.arrayClass_spec (args := args) (first := s) (o := none) (s := s) (idx := []) h
  exact ⟨c, fun n z => ⟨(fun q hq => by cases hq), k, f2, comp, f3⟩, f1⟩
theorem arr_over {args : Array Value} {s : State} {t : FieldType} (h : (Cond.arrayOver (.array t)).before args s = true) : ∃ c : ClassId, ArrOfT s c (.array t) ∧ s.vm.findClass ("[" ++ (FieldType.array t).toString) = some c := by
  obtain ⟨comp, c, k, f1, -, f2, f3, f4⟩ := arrayOver_specB (args := args) (first := s) (o := none) (s := s) (idx := []) h
  exact ⟨c, fun n z => ⟨(fun q hq => by cases hq), k, f2, comp, f3⟩, f4⟩
/-- the classes, the arrays' classes and all else that the tables and the statement tell -/
theorem known {args : Array Value} {s : State} (hts : ∀ w ∈ lw_tbl, w.before args s = true) (hgv : (Jvm.Cond.and given_1 narrow_1).before args s = true) (hA : ∀ (A : Nat → Prop), (A = fun q => s.heap.size ≤ q) → ∀ a : Nat, a < s.heap.size → ¬ A a) :
    ∃ (D : va_G) (T : Nat → ClassId) (tL : Nat), va_K D vwCl (tysT T) s ∧ va_Z "RateFitter" "LEVELS" "[I" (.ref tL) (fun q => s.heap.size ≤ q) s s.heap ∧ va_T .int tL 3 (fun j => .int (nI (levN j))) (fun q => s.heap.size ≤ q) s s.heap := by
  have hW : ∀ w ∈ WA, w.before args s = true := fun w h => hts w (WA_tbl w h)
  have hn := flat_of_before _ hgv
  obtain ⟨c0, i0, hK0⟩ := u_known (C := RX0) (T := TX0) (N := 16) (n := 16) hW inlX0 (hW _ wm_11)
  obtain ⟨tI, hI1, hI2⟩ := arr_cls (hW _ wm_13)
  obtain ⟨tJ, hJ1, hJ2⟩ := arr_cls (hW _ wm_24)
  obtain ⟨tB, hB1, hB2⟩ := arr_cls (hW _ wm_29)
  obtain ⟨tA, hA1, hA2⟩ := arr_over (hts _ tb_8)
  obtain ⟨tL, hL1, hL2⟩ := va_Tof (tm := .static "RateFitter" "LEVELS" "[I") (ty := .int) (N := 3) (f := fun j => .int (nI (levN j))) (A := fun q => s.heap.size ≤ q) (by decide) (hn _ nv_1) (va_eqt (hn _ nv_2)) (fun j hj => by
    rcases (show j = 0 ∨ j = 1 ∨ j = 2 by omega) with rfl | rfl | rfl
    · exact va_eqt (hn _ nv_3)
    · exact va_eqt (hn _ nv_4)
    · exact va_eqt (hn _ nv_5)) (hA _ rfl)
  refine ⟨(fun _ => c0, fun _ => i0), fun k => if k = 0 then tI else if k = 1 then tJ else if k = 2 then tB else tA, tL, ⟨fun k q hq => ?_, fun k q hq => ?_⟩, va_Zof (hts _ tb_1) (hW _ wm_12) hL1 (hA _ rfl), hL2⟩
  · match k, hq with
    | 0, hq => cases hq; exact hK0
    | k + 1, hq => simp [vwCl] at hq
  · match k, hq with
    | 0, hq => cases hq; exact ⟨hI1, hI2⟩
    | 1, hq => cases hq; exact ⟨hJ1, hJ2⟩
    | 2, hq => cases hq; exact ⟨hB1, hB2⟩
    | 3, hq => cases hq; exact ⟨hA1, hA2⟩
    | k + 4, hq => simp [tysT] at hq
theorem known2 {args : Array Value} {s : State} (hts : ∀ w ∈ lw_tbl, w.before args s = true) (hgv : (Jvm.Cond.and given_1 narrow_1).before args s = true) :
    (∀ q ∈ strsX, ∃ sa : Nat, vk_R RX0 q.1 q.2 sa s) ∧ (∀ E ∈ exsX, va_Nw (.castable E E) s) ∧ ∀ y ∈ decX, va_Nw (.declares (Bundle.initS y)) s := by
  have hn := flat_of_before _ hgv
  refine ⟨fun q hq => ?_, fun E hE => va_Nw.of rfl (hts _ (tb_6 E hE)), fun y hy => va_Nw.of rfl (hts _ (tb_7 y hy))⟩
  obtain ⟨a, c, cell, k, q1, -⟩ := Cond.exactly_spec (args := args) (first := s) (o := none) (s := s) (idx := []) (hn _ (nv_10 q hq))
  exact ⟨a, vk_R.of (hts _ (tb_5 q hq)) q1⟩
theorem known3 {args : Array Value} {s : State} (hts : ∀ w ∈ lw_tbl, w.before args s = true) (hgv : (Jvm.Cond.and given_1 narrow_1).before args s = true) {A : Nat → Prop} (hA : ∀ a : Nat, a < s.heap.size → ¬ A a) :
    vx_Zq Bundle.tN "UNASSIGNED_STACK" Bundle.steD A s s.heap ∧ vx_Zq Bundle.tN "SUPPRESSED_SENTINEL" Bundle.listD A s s.heap := by
  have hn := flat_of_before _ hgv
  exact ⟨vx_Zqof (hts _ tb_2) (hts _ tb_4) (hn _ nv_6) hA, vx_Zqof (hts _ tb_3) (hts _ tb_4) (hn _ nv_7) hA⟩
