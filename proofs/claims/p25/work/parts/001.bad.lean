/-! A start that the Statement allows, at which the law does not end: USUAL's array is of a class of arrays of int that isn't the one called [I, and that class has a method clone of its own -/
def zbadC : Class := { start1.cArr "[W" 20 .int with methods := #[Lib.HandJ.method "clone" "()Ljava/lang/Object;" [] (some (.object "java/lang/Object")) 0x1 1 ⟨#[]⟩] }
def zbad : State := { start1.about with vm := { start1.about.vm with classes := start1.about.vm.classes.push zbadC }, heap := start1.about.heap.setIfInBounds 5 { cls := 26, slots := #[.int (10), .int (200), .int (1), .int (100), .int (20), .int (1), .int (3)], vm := .none } }
/-- the machine goes on, the law's frames stay, until it halts -/
def zgo (tb : Tables) (e : Env) (k : Nat) : Nat → State → Bool
  | 0, _ => false
  | n + 1, s => match s.status, s.curStatus?, s.alone with
    | .running, some .runnable, true => decide (k < s.frames.length) && zgo tb e k n (stepThread tb e s).1
    | .running, _, _ => false
    | _, _, _ => true
theorem zbad_size : start1.about.vm.classes.size = 26 := by decide +kernel
set_option maxRecDepth 16384 in
theorem zbad_halts : zgo start1.p0.tables start1.e0 1 200 zbad = true := by decide +kernel
