/-! the packings that were gone through, as one number -/
def zv (f : Nat → Int32) : Nat → Nat
  | 0 => 0
  | p + 1 => 12 * zv f p + (f p).toInt.toNat
def zM (f : Nat → Int32) (p t : Nat) : Nat := 12 ^ 11 - (12 * zv f p + t) * 12 ^ (10 - p)
theorem zv_upd {f : Nat → Int32} {k : Nat} {v : Int32} : ∀ {p : Nat}, p ≤ k → zv (upd f k v) p = zv f p
  | 0, _ => rfl
  | p + 1, h => by rw [zv, zv, zv_upd (Nat.le_of_succ_le h), pk_un (by omega)]
theorem zv_lt {f : Nat → Int32} : ∀ {p : Nat}, (∀ i, i < p → (f i).toInt.toNat ≤ 11) → zv f p < 12 ^ p
  | 0, _ => Nat.one_pos
  | p + 1, h => by
    have h1 := zv_lt (f := f) (p := p) (fun i hi => h i (by omega))
    have h2 := h p (by omega)
    rw [zv, Nat.pow_succ]
    omega
theorem zM_place {f : Nat → Int32} {p : Nat} {v : Int32} (hp : p < 10) : zM (upd f p v) (p + 1) 0 = zM f p v.toInt.toNat := by
  unfold zM
  rw [zv, zv_upd (Nat.le_refl p), pk_us, show 12 ^ (10 - p) = 12 ^ (10 - (p + 1)) * 12 from by rw [← Nat.pow_succ]; congr 1; omega, Nat.add_zero]
  generalize 12 * zv f p + v.toInt.toNat = X
  generalize 12 ^ (10 - (p + 1)) = Y
  rw [Nat.mul_comm Y 12, ← Nat.mul_assoc, Nat.mul_comm X 12]
theorem zM_mono {f : Nat → Int32} {p t t2 : Nat} (h : t ≤ t2) : zM f p t2 ≤ zM f p t := Nat.sub_le_sub_left (Nat.mul_le_mul_right _ (by omega)) _
theorem zM_back {f : Nat → Int32} {q t : Nat} (hd : ∀ i, i < q + 1 → (f i).toInt.toNat ≤ 11) (ht : t ≤ 11) (hq : q + 1 ≤ 10) : zM f q ((f q).toInt.toNat + 1) < zM f (q + 1) t := by
  have h1 := zv_lt (f := f) (p := q + 1) hd
  unfold zM
  have e1 : zv f (q + 1) = 12 * zv f q + (f q).toInt.toNat := rfl
  rw [show 12 * zv f q + ((f q).toInt.toNat + 1) = zv f (q + 1) + 1 from by rw [e1]; omega, show 12 ^ (10 - q) = 12 ^ (10 - (q + 1)) * 12 from by rw [← Nat.pow_succ]; congr 1; omega]
  have hY : 0 < 12 ^ (10 - (q + 1)) := Nat.pow_pos (by decide)
  have hT : 12 ^ (q + 1) * 12 * 12 ^ (10 - (q + 1)) = 12 ^ 11 := by rw [← Nat.pow_succ, ← Nat.pow_add]; congr 1; omega
  generalize zv f (q + 1) = X at h1 ⊢
  generalize 12 ^ (10 - (q + 1)) = Y at hY hT ⊢
  generalize 12 ^ (q + 1) = Z at h1 hT
  have h2 : (12 * X + t) * Y < (X + 1) * (Y * 12) := by
    rw [Nat.mul_comm Y 12, ← Nat.mul_assoc]
    exact Nat.mul_lt_mul_of_pos_right (by omega) hY
  have h3 : (12 * X + t) * Y < 12 ^ 11 := by
    rw [← hT]
    exact Nat.mul_lt_mul_of_pos_right (by omega) hY
  exact Nat.sub_lt_sub_left h3 h2
