abbrev hz_X : Type := MethodName × ByteArray × Nat × Option FieldType
/-- a table of decoded instructions -/
def hz_tab (c : ByteArray) (l : List (Nat × Instr × Nat)) : Bool := l.all fun q => decide (decode c q.1 = .ok q.2)
theorem hz_dec {c : ByteArray} {l : List (Nat × Instr × Nat)} (h : hz_tab c l = true) (i : Nat) {pc n : Nat} {ins : Instr} (hi : l[i]? = some (pc, ins, n)) : decode c pc = .ok (ins, n) := by
  have h1 : decide (decode c pc = .ok (ins, n)) = true := List.all_eq_true.mp h (pc, ins, n) (List.mem_of_getElem? hi)
  exact of_decide_eq_true h1
