/-! what the constructors make -/
theorem va_AOA.moved {ty : FieldType} {u U : State} (hvm : u.vm.Alike U.vm) (h : va_AOA ty u) : va_AOA ty U := arrayOver_alikeB hvm h
abbrev tysT (T : Nat → ClassId) : List (ClassId × FieldType) := [(T 0, .int), (T 1, .long), (T 2, .boolean), (T 3, .array .int)]
/-- the cells of a new object of the class -/
def xCells (T : Nat → ClassId) (a : Nat → Nat) (S : WS) : va_W := [
  (a 0, .inr (0, [.ref (a 1), .ref (a 2), .ref (a 9), .ref (a 10), .ref (a 11), .ref (a 12), .ref (a 13), .int (xSc S 0), .int (xSc S 1), .int (xSc S 2), .int (xSc S 3), .int (xSc S 4), .long (xBase S), .ref (a 14), .ref (a 15), .ref (a 16)])),
  (a 1, .inl (T 3, 3, .inr (.inr (.inr (.inr (fun i => some (a (3 + i)))))))),
  (a 2, .inl (T 3, 3, .inr (.inr (.inr (.inr (fun i => some (a (6 + i)))))))),
  (a 3, .inl (T 0, 4, .inl (xFac S 0))), (a 4, .inl (T 0, 4, .inl (xFac S 1))), (a 5, .inl (T 0, 4, .inl (xFac S 2))),
  (a 6, .inl (T 0, 40, .inl (xLev S 0))), (a 7, .inl (T 0, 40, .inl (xLev S 1))), (a 8, .inl (T 0, 40, .inl (xLev S 2))),
  (a 9, .inl (T 1, 40, .inr (.inl (xLng S 0)))), (a 10, .inl (T 1, 40, .inr (.inl (xLng S 1)))), (a 11, .inl (T 1, 40, .inr (.inl (xLng S 2)))),
  (a 12, .inl (T 0, 40, .inl (xIa S 0))), (a 13, .inl (T 2, 40, .inl (xIa S 1))), (a 14, .inl (T 1, 40, .inr (.inl (xLng S 3)))),
  (a 15, .inl (T 0, 4, .inl (xIa S 2))), (a 16, .inl (T 0, 4, .inl (xIa S 3)))]
/-- the numbers at the start -/
def XS0 : XS := (fun _ => fil (fun _ => 10000) (fun _ => 0) 4, fun _ _ => 0, fun _ _ => 0, fun _ _ => 0, fun k => if k = 3 then -1 else if k = 4 then 10000 else 0, 0)
def WS0 : WS := (XS0, fun _ _ => 0, [])
theorem inner_new (c : ClassId) (K : Nat) : Jvm.Free.Multi.innerC c K (defaultValue .int) = vp_cell c (K, .inl (fun _ => 0)) := arrV_new c K (.int 0)
