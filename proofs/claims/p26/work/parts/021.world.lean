/-! the cells of the two sides -/
def zro (f : Nat → Nat) (n : Nat) : Nat → Option Nat := fun i => if i < n then some (f i) else none
theorem zro_in {f : Nat → Nat} {n i : Nat} (h : i < n) : zro f n i = some (f i) := if_pos h
def wX (a : Nat → Nat) (cB cI cS cII : ClassId) (σ : Cn) : va_W := [(a 0, .inr (8, [.ref (a 1), .ref (a 2), .ref (a 4), .ref (a 5), .ref (a 6), .ref (a 7), .ref (a 37)])), (a 1, .inr (5, [.ref (a 12), .int (σ 1 1)])), (a 2, .inr (2, [.ref (a 13), .int (σ 2 1), .int (σ 2 2), .ref (a 3), .ref (a 14), .int (σ 2 5)])), (a 3, .inr (6, [.ref (a 1), .int (σ 3 1), .int (σ 3 2), .int (σ 3 3), .int (σ 3 4)])), (a 4, .inr (1, [.ref (a 2), .int (σ 4 1), .int (σ 4 2), .ref (a 15), .ref (a 16), .ref (a 17), .ref (a 18), .ref (a 19), .ref (a 20)])), (a 5, .inr (3, [.ref (a 4), .ref (a 25), .int (σ 5 2), .ref (a 26)])), (a 6, .inr (0, [.ref (a 4), .ref (a 5), .ref (a 27), .ref (a 28), .ref (a 33), .int (σ 6 5), .int (σ 6 6), .int (σ 6 7)])), (a 7, .inr (7, [.ref (a 4), .ref (a 2), .ref (a 34), .int (σ 7 3), .ref (a 35), .ref (a 36)])), (a 8, .inr (4, [.int (σ 8 0), .int (σ 8 1), .ref (a 38)])), (a 9, .inr (4, [.int (σ 9 0), .int (σ 9 1), .ref (a 39)])), (a 10, .inr (4, [.int (σ 10 0), .int (σ 10 1), .ref (a 40)])), (a 11, .inr (4, [.int (σ 11 0), .int (σ 11 1), .ref (a 41)])), (a 12, .inl (cB, 160, .inl (σ 12))), (a 13, .inl (cI, 7, .inl (σ 13))), (a 14, .inl (cI, 7, .inl (σ 14))), (a 15, .inl (cI, 10, .inl (σ 15))), (a 16, .inl (cI, 10, .inl (σ 16))), (a 17, .inl (cI, 10, .inl (σ 17))), (a 18, .inl (cI, 10, .inl (σ 18))), (a 19, .inl (cI, 10, .inl (σ 19))), (a 20, .inl (cII, 4, .inr (.inr (.inr (.inr (zro (fun i => a (21 + i)) 4)))))), (a 21, .inl (cI, 10, .inl (σ 21))), (a 22, .inl (cI, 10, .inl (σ 22))), (a 23, .inl (cI, 10, .inl (σ 23))), (a 24, .inl (cI, 10, .inl (σ 24))), (a 25, .inl (cI, 10, .inl (σ 25))), (a 26, .inl (cI, 10, .inl (σ 26))), (a 27, .inl (cI, 4, .inl (σ 27))), (a 28, .inl (cII, 4, .inr (.inr (.inr (.inr (zro (fun i => a (29 + i)) 4)))))), (a 29, .inl (cI, 11, .inl (σ 29))), (a 30, .inl (cI, 11, .inl (σ 30))), (a 31, .inl (cI, 11, .inl (σ 31))), (a 32, .inl (cI, 11, .inl (σ 32))), (a 33, .inl (cI, 11, .inl (σ 33))), (a 34, .inl (cI, 10, .inl (σ 34))), (a 35, .inl (cI, 10, .inl (σ 35))), (a 36, .inl (cI, 10, .inl (σ 36))), (a 37, .inl (cS, 4, .inr (.inr (.inr (.inr (zro (fun i => a (8 + i)) 4)))))), (a 38, .inl (cI, 60, .inl (σ 38))), (a 39, .inl (cI, 60, .inl (σ 39))), (a 40, .inl (cI, 60, .inl (σ 40))), (a 41, .inl (cI, 60, .inl (σ 41)))]
def wM (a : Nat → Nat) (cI : ClassId) (σ : Cn) : va_W := [(a 0, .inr (9, [.ref (a 1), .int (σ 0 1), .int (σ 0 2), .int (σ 0 3), .int (σ 0 4), .int (σ 0 5), .int (σ 0 6), .int (σ 0 7), .ref (a 2), .ref (a 3), .int (σ 0 10), .int (σ 0 11), .ref (a 4), .ref (a 5), .ref (a 6), .ref (a 7), .ref (a 8), .ref (a 9), .int (σ 0 18), .ref (a 10), .ref (a 11), .int (σ 0 21), .ref (a 12), .ref (a 13), .ref (a 14), .ref (a 15), .ref (a 16), .ref (a 17)])), (a 1, .inl (cI, 160, .inl (σ 1))), (a 2, .inl (cI, 7, .inl (σ 2))), (a 3, .inl (cI, 7, .inl (σ 3))), (a 4, .inl (cI, 10, .inl (σ 4))), (a 5, .inl (cI, 10, .inl (σ 5))), (a 6, .inl (cI, 10, .inl (σ 6))), (a 7, .inl (cI, 10, .inl (σ 7))), (a 8, .inl (cI, 10, .inl (σ 8))), (a 9, .inl (cI, 40, .inl (σ 9))), (a 10, .inl (cI, 10, .inl (σ 10))), (a 11, .inl (cI, 10, .inl (σ 11))), (a 12, .inl (cI, 10, .inl (σ 12))), (a 13, .inl (cI, 10, .inl (σ 13))), (a 14, .inl (cI, 11, .inl (σ 14))), (a 15, .inl (cI, 4, .inl (σ 15))), (a 16, .inl (cI, 4, .inl (σ 16))), (a 17, .inl (cI, 240, .inl (σ 17)))]
abbrev zT (cB cI cS cII : ClassId) : List (ClassId × FieldType) := [(cB, .byte), (cI, .int), (cS, .object "HouseSorted$Sheet"), (cII, .array .int)]
def upR (σ : Cn) (b n : Nat) (g : Nat → Nat → Int32) : Cn := fun j => if b ≤ j ∧ j < b + n then g (j - b) else σ j
theorem wX_row21 {a : Nat → Nat} {cB cI cS cII : ClassId} {σ : Cn} {j : Nat} (h : j < 4) : (wX a cB cI cS cII σ)[21 + j]? = some (a (21 + j), .inl (cI, 10, .inl (σ (21 + j)))) := by
  match j, h with
  | 0, _ => rfl
  | 1, _ => rfl
  | 2, _ => rfl
  | 3, _ => rfl
theorem wX_row29 {a : Nat → Nat} {cB cI cS cII : ClassId} {σ : Cn} {j : Nat} (h : j < 4) : (wX a cB cI cS cII σ)[29 + j]? = some (a (29 + j), .inl (cI, 11, .inl (σ (29 + j)))) := by
  match j, h with
  | 0, _ => rfl
  | 1, _ => rfl
  | 2, _ => rfl
  | 3, _ => rfl
theorem wX_set21 {a : Nat → Nat} {cB cI cS cII : ClassId} {σ : Cn} {j : Nat} {f : Nat → Int32} (h : j < 4) : (wX a cB cI cS cII σ).set (21 + j) (a (21 + j), .inl (cI, 10, .inl f)) = wX a cB cI cS cII (upR σ 21 4 (fun i => if i = j then f else σ (21 + i))) := by
  match j, h with
  | 0, _ => rfl
  | 1, _ => rfl
  | 2, _ => rfl
  | 3, _ => rfl
theorem wX_set29 {a : Nat → Nat} {cB cI cS cII : ClassId} {σ : Cn} {j : Nat} {f : Nat → Int32} (h : j < 4) : (wX a cB cI cS cII σ).set (29 + j) (a (29 + j), .inl (cI, 11, .inl f)) = wX a cB cI cS cII (upR σ 29 4 (fun i => if i = j then f else σ (29 + i))) := by
  match j, h with
  | 0, _ => rfl
  | 1, _ => rfl
  | 2, _ => rfl
  | 3, _ => rfl
theorem zmax {x y v : Int32} {a b : Int} (hx : x.toInt = a) (hy : y.toInt = b) (h : v = if x < y then y else x) : v.toInt = max a b := by
  rw [h, ← hx, ← hy]; split
  · rename_i q; have := Int32.lt_iff_toInt_lt.mp q; omega
  · rename_i q; have := Int.not_lt.mp (fun z => q (Int32.lt_iff_toInt_lt.mpr z)); omega
theorem zmin {x y v : Int32} {a b : Int} (hx : x.toInt = a) (hy : y.toInt = b) (h : v = if y < x then y else x) : v.toInt = min a b := by
  rw [h, ← hx, ← hy]; split
  · rename_i q; have := Int32.lt_iff_toInt_lt.mp q; omega
  · rename_i q; have := Int.not_lt.mp (fun z => q (Int32.lt_iff_toInt_lt.mpr z)); omega
section ZL2
variable {p : Program} {l : Launch} {e : Env} {R : Room} {s : State} {m : MethodId} {args : Array Value} {below : List Frame} {meth : Method} {c : Code} {H : Heap} {locs : List Loc} {cells slots : Nat} {Q : State → Prop}
variable {pc : Nat} {ls : Array Slot} {rest : List Value} {D : va_G} {tys : List (ClassId × FieldType)}
/-- an object out of an array of them -/
theorem zaldO {cc : ByteArray} {a : Nat} {cl : List vw_C} {ws : va_W} (hexec : p.tables.exec = Jvm.exec) (hb : c.code = cc) (hK : va_K D cl tys s) (hP : va_P D cl ws H) (q0 t0 : Nat) {cA : ClassId} {C : String} {n : Nat} {f : Nat → Option Nat} (ha : ws[q0]? = some (a, .inl (cA, n, .inr (.inr (.inr (.inr f)))))) (ht : tys[t0]? = some (cA, .object C)) {i : Int32} (hin : vp_in i n) {b : Nat} (hf : f i.toNatClampNeg = some b) (hdg : decode cc pc = .ok (.aaload, 1))
    (kk : W p l e R s m args below meth c H locs cells slots Q (F0 m (pc + 1) ls (.ref b :: rest))) : W p l e R s m args below meth c H locs cells slots Q (F0 m pc ls (.int i :: .ref a :: rest)) :=
  va_aldq hexec hb hK hP q0 t0 ha ht hin hdg (by rw [hf]; exact kk)
end ZL2
theorem zbool {v : Int32} (h : v.toInt = 0 ∨ v.toInt = 1) : narrow .boolean (.int v) = .int v := by
  rcases h with h | h
  · rw [show v = 0 from Int32.toInt_inj.mp (h.trans (by decide))]; decide +kernel
  · rw [show v = 1 from Int32.toInt_inj.mp (h.trans (by decide))]; decide +kernel
theorem zrem {x y w : Int32} (hx : 0 ≤ x.toInt) (hy : 0 < y.toInt) (h : w = x - x / y * y) : 0 ≤ w.toInt ∧ w.toInt < y.toInt ∧ w.toInt = x.toInt % y.toInt := by
  obtain ⟨i, hi, rfl⟩ := nI_of (x := x) (fun q => by have := zlt (a := x.toInt) (b := 0) rfl (by decide) q; omega)
  obtain ⟨j, hj, rfl⟩ := nI_of (x := y) (fun q => by have := zlt (a := y.toInt) (b := 0) rfl (by decide) q; omega)
  rw [nI_toInt hj] at hy
  have h0 : 0 < j := by omega
  rw [h, pk_rem hi h0 hj, nI_toInt (Nat.lt_of_le_of_lt (Nat.mod_le _ _) hi), nI_toInt hj, nI_toInt hi]
  have := Nat.mod_lt i h0
  omega
theorem zdiv {x y w : Int32} (hx : 0 ≤ x.toInt) (hy : 0 < y.toInt) (h : w = x / y) : 0 ≤ w.toInt ∧ w.toInt ≤ x.toInt ∧ w.toInt = x.toInt / y.toInt := by
  obtain ⟨i, hi, rfl⟩ := nI_of (x := x) (fun q => by have := zlt (a := x.toInt) (b := 0) rfl (by decide) q; omega)
  obtain ⟨j, hj, rfl⟩ := nI_of (x := y) (fun q => by have := zlt (a := y.toInt) (b := 0) rfl (by decide) q; omega)
  rw [nI_toInt hj] at hy
  have h0 : 0 < j := by omega
  rw [h, pk_div hi h0 hj, nI_toInt (Nat.lt_of_le_of_lt (Nat.div_le_self _ _) hi), nI_toInt hj, nI_toInt hi]
  exact ⟨Int.natCast_nonneg _, Int.ofNat_le.mpr (Nat.div_le_self i j), by first | exact Int.natCast_ediv i j | exact Int.ofNat_ediv i j | rfl⟩
theorem upC_id (S : Cn) (k : Nat) : S = upC S k (S k) := funext fun j => by
  unfold upC; split
  · rename_i q; rw [q]
  · rfl
