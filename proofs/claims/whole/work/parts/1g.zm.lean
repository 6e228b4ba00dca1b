/-- the reference's table when it is made -/
def zM0 : Nat → Nat → Int32 := zu (zu (zu (zu (zu (fun _ _ => 0) 0 0 40) 0 1 25) 0 2 3) 0 3 5) 0 4 4
def zM : Nat → Nat → Nat → Int32 | 0 => zM0 | k + 1 => zu (zu (zM k) 0 (54 + 6 * k + 0) 5) 0 (54 + 6 * k + 4) (-6)
