/-! the layer: the contents of a side's cells as one function; contracts and calls over a whole side -/
abbrev Cn : Type := Nat → Nat → Int32
def upC (σ : Cn) (k : Nat) (f : Nat → Int32) : Cn := fun j => if j = k then f else σ j
abbrev zQi (D : va_G) (tys : List (ClassId × FieldType)) (wf : Cn → va_W) (A : Nat → Prop) (post : Int32 → Cn → Prop) : Array Value → State → Outcome → State → Prop := va_Qi post (fun (σ' : Cn) (t : State) => va_P D vwCl (wf σ') t.heap ∧ va_K D vwCl tys t ∧ va_D A (wf σ')) A
abbrev zQv (D : va_G) (tys : List (ClassId × FieldType)) (wf : Cn → va_W) (A : Nat → Prop) (post : Cn → Prop) : Array Value → State → Outcome → State → Prop := va_Qv post (fun (σ' : Cn) (t : State) => va_P D vwCl (wf σ') t.heap ∧ va_K D vwCl tys t ∧ va_D A (wf σ')) A
/-- what is said of the machine's tables and of the cells that nobody writes: it stays -/
def zNok (N : (Nat → Prop) → State → Prop) : Prop := (∀ (A : Nat → Prop) (u U : State), u.vm = U.vm → u.heap = U.heap → N A u → N A U) ∧ ∀ (A B : Nat → Prop) (s U : State), s.WarmedH U.vm → (∀ q, B q → A q) → s.heap.size ≤ U.heap.size → (∀ q : Nat, q < s.heap.size → ¬ A q → U.heap[q]? = s.heap[q]?) → N A s → N B U
abbrev zPc (D : va_G) (tys : List (ClassId × FieldType)) (N : (Nat → Prop) → State → Prop) (wf : Cn → va_W) (σ : Cn) (sz : Nat) (av : List Value) : Array Value → State → Prop := va_Pc av (fun U => U.heap.size = sz ∧ va_P D vwCl (wf σ) U.heap ∧ va_K D vwCl tys U ∧ va_D (fun _ => True) (wf σ) ∧ N (va_A (wf σ) sz) U)
def zNw : List Cond := [.methodLinkNest RX2 90 yX8_isWithin RX8, .methodLinkNest RX4 26 yX8_isWithin RX8, .methodLinkNest RX8 9 yX5_init RX8, .methodLinkNest RX8 67 yX4_init RX8, .fieldLinkNest RX2 9 RX8 "USUAL" "[I" RX8, .fieldLinkNest RX2 84 RX8 "LEAST" "[I" RX8, .fieldLinkNest RX2 87 RX8 "MOST" "[I" RX8, .fieldLinkNest RX2 94 RX8 "WAY_OF_NAME" "[I" RX8]
/-- the links among the nested classes -/
def zN (U : State) : Prop := ∀ w ∈ zNw, va_Nw w U
theorem zN_same {u U : State} (h : u.vm = U.vm) (hN : zN u) : zN U := fun w hw => va_Nw.same (by revert w; decide) h (hN w hw)
theorem zN_warm {s U : State} (h : s.WarmedH U.vm) (hN : zN s) : zN U := by
  intro w hw
  have q := hN w hw
  simp only [zNw, List.mem_cons, List.not_mem_nil, or_false] at hw
  rcases hw with rfl | rfl | rfl | rfl | rfl | rfl | rfl | rfl
  · exact va_Nw.warmM h q
  · exact va_Nw.warmM h q
  · exact va_Nw.warmM h q
  · exact va_Nw.warmM h q
  · exact va_Nw.warmF h q
  · exact va_Nw.warmF h q
  · exact va_Nw.warmF h q
  · exact va_Nw.warmF h q
section ZL
variable {p : Program} {l : Launch} {e : Env} {R : Room} {s : State} {m : MethodId} {args : Array Value} {below : List Frame} {meth : Method} {c : Code} {H H0 : Heap} {locs : List Loc} {cells slots : Nat} {Q : State → Prop}
variable {pc : Nat} {ls : Array Slot} {rest st0 : List Value} {a0 : Array Value} {A : Nat → Prop} {D : va_G} {tys : List (ClassId × FieldType)} {wf : Cn → va_W} {σ : Cn}
theorem zfree (hD : va_D A (wf σ)) (hS : va_S A H0 H locs) (hA : ∀ q, H0.size ≤ q → A q) : ∀ q, va_A (wf σ) H.size q → A q := by
  intro q h
  rcases h with ⟨k, e, h⟩ | h
  · exact hD.2 k (q, e) h
  · exact hA q (Nat.le_trans hS.1 h)
theorem zcalli {post : Int32 → Cn → Prop} (hr : va_Run p l e R s m args below meth c H locs cells slots 0 0 (F0 m pc ls st0) rest (zQi D tys wf (va_A (wf σ) H.size) post a0) (va_A (wf σ) H.size)) (hD : va_D A (wf σ)) (hS : va_S A H0 H locs) (hA : ∀ q, H0.size ≤ q → A q)
    (kk : ∀ (r : Int32) (σ' : Cn) (H1 : Heap) (locs1 : List Loc), post r σ' → va_P D vwCl (wf σ') H1 → va_D A (wf σ') → va_S A H0 H1 locs1 → W p l e R s m args below meth c H1 locs1 cells slots Q (F0 m (pc + 3) ls (.int r :: rest))) : W p l e R s m args below meth c H locs cells slots Q (F0 m pc ls st0) := by
  have hF := zfree hD hS hA
  refine va_calli hr hS (fun q _ h => hF q h) hF (fun r u t H1 locs1 ht hvm hw hB hz1 hk1 hS1 => ?_)
  obtain ⟨hP1, hK1, hD1⟩ := hB
  rw [ht] at hP1
  exact kk r u H1 locs1 hw hP1 (hD1.weaken (fun _ _ _ h => hF _ h)) hS1
theorem zcallv {post : Cn → Prop} (hr : va_Run p l e R s m args below meth c H locs cells slots 0 0 (F0 m pc ls st0) rest (zQv D tys wf (va_A (wf σ) H.size) post a0) (va_A (wf σ) H.size)) (hD : va_D A (wf σ)) (hS : va_S A H0 H locs) (hA : ∀ q, H0.size ≤ q → A q)
    (kk : ∀ (σ' : Cn) (H1 : Heap) (locs1 : List Loc), post σ' → va_P D vwCl (wf σ') H1 → va_D A (wf σ') → va_S A H0 H1 locs1 → W p l e R s m args below meth c H1 locs1 cells slots Q (F0 m (pc + 3) ls rest)) : W p l e R s m args below meth c H locs cells slots Q (F0 m pc ls st0) := by
  have hF := zfree hD hS hA
  refine va_callv hr hS (fun q _ h => hF q h) hF (fun u t H1 locs1 ht hvm hw hB hz1 hk1 hS1 => ?_)
  obtain ⟨hP1, hK1, hD1⟩ := hB
  rw [ht] at hP1
  exact kk u H1 locs1 hw hP1 (hD1.weaken (fun _ _ _ h => hF _ h)) hS1
theorem zpreV {N : (Nat → Prop) → State → Prop} {b q0 ci : Nat} {C : String} {T : u_T} {n : Nat} {fs : List Value} {As : List Value} (hok : zNok N) (hN : N A s) (hS : va_S A s.heap H locs) (hA : ∀ q, s.heap.size ≤ q → A q) (hK : va_K D vwCl tys s) (hP : va_P D vwCl (wf σ) H) (hD : va_D A (wf σ)) (he : (wf σ)[q0]? = some (b, .inr (ci, fs))) (hc : vwCl[ci]? = some (C, T, n)) : PreV s H C b (zPc D tys N wf σ H.size (.ref b :: As)) As :=
  ⟨fun a U g mk q => by obtain ⟨x0, x1, xP, xK, xD, xN⟩ := q; exact ⟨x0, x1, xP, va_K.moved (u := U) (U := U.calling g mk a) (Vm.Alike.refl U.vm) xK, xD, hok.1 _ U (U.calling g mk a) rfl rfl xN⟩, va_recv hK hP hc he, fun U hU hW => ⟨rfl, by rw [hU], by rw [hU]; exact hP, va_K.moved hW.alike hK, hD.weaken (fun _ _ _ _ => trivial), hok.2 A _ s U hW (zfree hD hS hA) (by rw [hU]; exact hS.1) (by rw [hU]; exact hS.2.1) hN⟩⟩
theorem zpreS {N : (Nat → Prop) → State → Prop} {As : List Value} (hok : zNok N) (hN : N A s) (hS : va_S A s.heap H locs) (hA : ∀ q, s.heap.size ≤ q → A q) (hK : va_K D vwCl tys s) (hP : va_P D vwCl (wf σ) H) (hD : va_D A (wf σ)) : PreS s H (zPc D tys N wf σ H.size As) As :=
  ⟨fun a U g mk q => by obtain ⟨x0, x1, xP, xK, xD, xN⟩ := q; exact ⟨x0, x1, xP, va_K.moved (u := U) (U := U.calling g mk a) (Vm.Alike.refl U.vm) xK, xD, hok.1 _ U (U.calling g mk a) rfl rfl xN⟩, fun U hU hW => ⟨rfl, by rw [hU], by rw [hU]; exact hP, va_K.moved hW.alike hK, hD.weaken (fun _ _ _ _ => trivial), hok.2 A _ s U hW (zfree hD hS hA) (by rw [hU]; exact hS.1) (by rw [hU]; exact hS.2.1) hN⟩⟩
/-- a row out of an array of arrays -/
theorem zald {cc : ByteArray} {a : Nat} {cl : List vw_C} {ws : va_W} (hexec : p.tables.exec = Jvm.exec) (hb : c.code = cc) (hK : va_K D cl tys s) (hP : va_P D cl ws H) (q0 t0 : Nat) {cA : ClassId} {ty : FieldType} {n : Nat} {f : Nat → Option Nat} (ha : ws[q0]? = some (a, .inl (cA, n, .inr (.inr (.inr (.inr f)))))) (ht : tys[t0]? = some (cA, .array ty)) {i : Int32} (hin : vp_in i n) {b : Nat} (hf : f i.toNatClampNeg = some b) (hdg : decode cc pc = .ok (.aaload, 1))
    (kk : W p l e R s m args below meth c H locs cells slots Q (F0 m (pc + 1) ls (.ref b :: rest))) : W p l e R s m args below meth c H locs cells slots Q (F0 m pc ls (.int i :: .ref a :: rest)) := by
  have hlt : i.toNatClampNeg < n := Nat.not_le.mp fun q => hin (Or.inr q)
  exact W.aald (v := .ref b) (ty := .array ty) hexec hb (hP q0 _ ha) ((hK.2 t0 _ ht).1 n (fun j => va_rf (f j))) rfl (fun q => by cases q) (by show ¬ (i < 0 ∨ (arrV _ _ _).slots.size ≤ _); rw [arrV_size]; exact hin) (by show (arrV _ _ _).slots[_]? = _; rw [arrV_read _ _ hlt, hf]; rfl) rfl rfl hdg kk
end ZL
/-! whole numbers: an Int32 by its Int -/
theorem zadd (x y : Int32) : (x + y).toInt = (x.toInt + y.toInt + 2147483648) % 4294967296 - 2147483648 := by
  rw [Int32.toInt_add, Int.bmod_def]; omega
theorem zsub (x y : Int32) : (x - y).toInt = (x.toInt - y.toInt + 2147483648) % 4294967296 - 2147483648 := by
  rw [Int32.toInt_sub, Int.bmod_def]; omega
theorem zmul (x y : Int32) : (x * y).toInt = (x.toInt * y.toInt + 2147483648) % 4294967296 - 2147483648 := by
  rw [Int32.toInt_mul, Int.bmod_def]; generalize x.toInt * y.toInt = z; omega
theorem zrng (x : Int32) : -2147483648 ≤ x.toInt ∧ x.toInt < 2147483648 := by
  have h1 := x.le_toInt; have h2 := x.toInt_lt; omega
theorem zlt {x y : Int32} {a b : Int} (hx : x.toInt = a) (hy : y.toInt = b) (h : x < y) : a < b := by rw [← hx, ← hy]; exact Int32.lt_iff_toInt_lt.mp h
theorem znlt {x y : Int32} {a b : Int} (hx : x.toInt = a) (hy : y.toInt = b) (h : ¬ x < y) : b ≤ a := by rw [← hx, ← hy]; exact Int.not_lt.mp (fun q => h (Int32.lt_iff_toInt_lt.mpr q))
theorem zle {x y : Int32} {a b : Int} (hx : x.toInt = a) (hy : y.toInt = b) (h : x ≤ y) : a ≤ b := by rw [← hx, ← hy]; exact Int32.le_iff_toInt_le.mp h
theorem znle {x y : Int32} {a b : Int} (hx : x.toInt = a) (hy : y.toInt = b) (h : ¬ x ≤ y) : b < a := by rw [← hx, ← hy]; exact Int.not_le.mp (fun q => h (Int32.le_iff_toInt_le.mpr q))
theorem zeq {x y : Int32} {a b : Int} (hx : x.toInt = a) (hy : y.toInt = b) (h : x = y) : a = b := by rw [← hx, ← hy, h]
theorem zneq {x y : Int32} {a b : Int} (hx : x.toInt = a) (hy : y.toInt = b) (h : ¬ x = y) : a ≠ b := by rw [← hx, ← hy]; exact fun q => h (Int32.toInt_inj.mp q)
theorem zin {x : Int32} {n : Nat} (h1 : 0 ≤ x.toInt) (h2 : x.toInt < n) : vp_in x n := vp_in_iff.mpr ⟨h1, h2⟩
theorem zcl {x : Int32} (h : 0 ≤ x.toInt) : (x.toNatClampNeg : Int) = x.toInt := by
  show ((x.toInt.toNat : Nat) : Int) = x.toInt
  omega
