/-! Which state is next; numbers of exceptions. -/
def kS : Nat → gS → gS → gS
  | 0, _, b => b
  | _ + 1, a, _ => a
/-- the law's numbers of the exceptions: index, argument, state .. -/
def cdI : Nat → Nat := fun k => k
/-- .. argument, state -/
def cdA : Nat → Nat
  | 2 => 1
  | 3 => 2
  | _ => 0
/-- .. state alone -/
def cdS : Nat → Nat
  | 3 => 1
  | _ => 0
