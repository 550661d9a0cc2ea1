/-! what the reference's cells say: a law, a THING's way -/
def mLaw (f : Nat → Int32) (k : Int32) : Int32 := if f k.toNatClampNeg = -4 then (if k = 0 then 10 else if k = 1 then 200 else if k = 2 then 1 else if k = 3 then 100 else if k = 4 then 20 else if k = 5 then 1 else 3) else f k.toNatClampNeg
abbrev mHas (f : Nat → Int32) (t : Nat) (k : Int32) : Prop := (f t >>> (k &&& 31)) &&& 1 = 1
def mSent (σ : Cn) (t : Nat) : Int32 := if mHas (σ 8) t 2 then mLaw (σ 2) 6 else if mHas (σ 8) t 1 then mLaw (σ 2) 5 else if mHas (σ 8) t 0 ∧ σ 7 t ≤ mLaw (σ 2) 0 then 4 else if mHas (σ 8) t 3 then 0 else -4
/-- is it wanted by one of the first n HEIRS -/
def mWant (f : Nat → Int32) (t : Nat) : Nat → Bool
  | 0 => false
  | n + 1 => mWant f t n || decide (0 < f (10 * n + t))
def mWay (σ : Cn) (t : Nat) : Int32 := if mSent σ t = -4 then (if mLaw (σ 2) 1 ≤ σ 5 t then 1 else if mWant (σ 9) t (σ 0 10).toInt.toNat = true then 0 else if mLaw (σ 2) 2 ≤ σ 5 t then 2 else 3) else mSent σ t
