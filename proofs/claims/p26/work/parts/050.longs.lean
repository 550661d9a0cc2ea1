theorem zi2l {x : Int32} {a : Int} (h : x.toInt = a) : x.toInt64.toInt = a := by rw [Int32.toInt_toInt64, h]
theorem zlcmp {x y : Int64} {v : Int32} {a b : Int} (hx : x.toInt = a) (hy : y.toInt = b) (h : v = lg_cmp x y) : (a < b ∧ v.toInt = -1) ∨ (a = b ∧ v.toInt = 0) ∨ (b < a ∧ v.toInt = 1) := by
  rw [h, ← hx, ← hy]
  unfold lg_cmp
  split
  · rename_i q; exact Or.inr (Or.inr ⟨Int64.lt_iff_toInt_lt.mp q, by decide⟩)
  · rename_i q
    have q1 : ¬ y.toInt < x.toInt := fun z => q (Int64.lt_iff_toInt_lt.mpr z)
    split
    · rename_i q2; exact Or.inr (Or.inl ⟨by rw [q2], by decide⟩)
    · rename_i q2
      have q3 : x.toInt ≠ y.toInt := fun z => q2 (Int64.toInt_inj.mp z)
      exact Or.inl ⟨by omega, by decide⟩
theorem zladd (x y : Int64) : (x + y).toInt = (x.toInt + y.toInt + 9223372036854775808) % 18446744073709551616 - 9223372036854775808 := by
  rw [Int64.toInt_add, Int.bmod_def]; omega
theorem zl2i (x : Int64) : x.toInt32.toInt = (x.toInt + 2147483648) % 4294967296 - 2147483648 := by
  rw [Int64.toInt_toInt32, Int.bmod_def]; omega
