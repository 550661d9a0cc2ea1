/-! what the house's cells say of a THING -/
def xMark (σ : Cn) (t : Nat) (k : Int32) : Prop := ¬ (σ 19 t &&& k) = 0
def xKept (σ : Cn) (t : Nat) : Prop := xMark σ t 1 ∧ σ 18 t ≤ σ 13 0
def xWant (σ : Cn) (t : Nat) : Prop := ∃ h : Nat, (h : Int) < (σ 4 1).toInt ∧ 0 < σ (21 + h) t
/-- the WAY of a THING -/
def xWay (σ : Cn) (t : Nat) (r : Int32) : Prop :=
  (xMark σ t 4 ∧ r = σ 13 6) ∨ (¬ xMark σ t 4 ∧ xMark σ t 2 ∧ r = σ 13 5) ∨ (¬ xMark σ t 4 ∧ ¬ xMark σ t 2 ∧ xKept σ t ∧ r = 4) ∨ (¬ xMark σ t 4 ∧ ¬ xMark σ t 2 ∧ ¬ xKept σ t ∧ xMark σ t 8 ∧ r = 0) ∨
  (¬ xMark σ t 4 ∧ ¬ xMark σ t 2 ∧ ¬ xKept σ t ∧ ¬ xMark σ t 8 ∧ ¬ σ 16 t < σ 13 1 ∧ r = 1) ∨ (¬ xMark σ t 4 ∧ ¬ xMark σ t 2 ∧ ¬ xKept σ t ∧ ¬ xMark σ t 8 ∧ σ 16 t < σ 13 1 ∧ xWant σ t ∧ r = 0) ∨
  (¬ xMark σ t 4 ∧ ¬ xMark σ t 2 ∧ ¬ xKept σ t ∧ ¬ xMark σ t 8 ∧ σ 16 t < σ 13 1 ∧ ¬ xWant σ t ∧ ¬ σ 16 t < σ 13 2 ∧ r = 2) ∨ (¬ xMark σ t 4 ∧ ¬ xMark σ t 2 ∧ ¬ xKept σ t ∧ ¬ xMark σ t 8 ∧ σ 16 t < σ 13 1 ∧ ¬ xWant σ t ∧ σ 16 t < σ 13 2 ∧ r = 3)

abbrev RM_X1_hasHeir : Room := { frames := 0, cells := 0, slots := 0, locals := 0 }
set_option maxHeartbeats 4000000 in
set_option maxRecDepth 100000 in
theorem c_X1_hasHeir (l : Launch) (dC : Nat → ClassId) (dI : Nat → Nat → Nat) (cB cI cS cII : ClassId) (a : Nat → Nat) (N : (Nat → Prop) → State → Prop) (hok : zNok N) (hn : ∀ A U, N A U → zN U) (σ : Cn) (sz : Nat) (x1 : Int32)  : Met l yX1_hasHeir wsX1_hasHeir RM_X1_hasHeir (zPc (dC, dI) (zT cB cI cS cII) N (wX a cB cI cS cII) σ sz [.ref (a 4), .int x1]) (zQi (dC, dI) (zT cB cI cS cII) (wX a cB cI cS cII) (va_A (wX a cB cI cS cII σ) sz) (fun (r : Int32) (σ1 : Cn) => σ1 = σ ∧ ((r : Int32).toInt = 1 ∧ 0 ≤ x1.toInt ∧ x1.toInt < (σ 4 1).toInt ∨ (r : Int32).toInt = 0 ∧ ¬ (0 ≤ x1.toInt ∧ x1.toInt < (σ 4 1).toInt)))) 0 0 (va_A (wX a cB cI cS cII σ) sz) := by
  refine Met.ofW (cc := cX1_hasHeir) (maxL := 2) (ret := (some .boolean)) (by decide) rfl ?_
  intro p e s m args below meth c s₁ B hml hv
  obtain ⟨rfl, hsz, hP, hK, hD0, hN⟩ := hv
  have hx := B.exec
  have hb := B.bytes
  have hr := B.returns
  have hts := atoms_spec (ws := wsX1_hasHeir) B.pre
  have hown : s.vm.findClass RX1 = some m.cls := findClass_of_methodNamed B.named
  have hlocks := B.notSynchronized
  subst hsz
  have hD := hD0.self (sz := s.heap.size)
  generalize hAe : va_A (wX a cB cI cS cII σ) s.heap.size = A at hD hN ⊢
  have hA : ∀ q : Nat, s.heap.size ≤ q → A q := fun q h => by rw [← hAe]; exact Or.inr h
  clear hAe hD0
  have hS : va_S A s.heap s.heap [] := va_S.rf
  have in1 : ∀ w ∈ u_ws RX1 TX1 9, w ∈ wsX1_hasHeir := by decide +kernel
  have k36 := hts (.fieldLink RX1 36 "HouseSorted$House" "heirs" "I") (by decide +kernel)
  have hl := lv_entry ([.ref (a 4), .int x1]) (n := 2) (Nat.le_of_ble_eq_true rfl)
  rw [lg_entry_eq]
  generalize (lg_sl ([.ref (a 4), .int x1]) ++ List.replicate (2 - (lg_sl ([.ref (a 4), .int x1])).length) Slot.unset).toArray = ls at hl ⊢
  have hl : lv_has ls 2 [(0, .ref (a 4)), (1, .int x1)] := hl
  suffices main : ∀ (H : Heap) (locs : List Loc), va_P (dC, dI) vwCl (wX a cB cI cS cII σ) H → va_D A (wX a cB cI cS cII σ) → va_S A s.heap H locs → W p l e (headSpec wsX1_hasHeir RM_X1_hasHeir).room s m ([.ref (a 4), .int x1] : List Value).toArray below meth c H locs 0 0 (MQ below (zQi (dC, dI) (zT cB cI cS cII) (wX a cB cI cS cII) A (fun (r : Int32) (σ1 : Cn) => σ1 = σ ∧ ((r : Int32).toInt = 1 ∧ 0 ≤ x1.toInt ∧ x1.toInt < (σ 4 1).toInt ∨ (r : Int32).toInt = 0 ∧ ¬ (0 ≤ x1.toInt ∧ x1.toInt < (σ 4 1).toInt)))) ([.ref (a 4), .int x1] : List Value).toArray s 0 0 A) (F0 m 0 ls []) from main s.heap [] hP hD hS
  intro H locs hP hD hS
  refine lv_iload_n hx hb dX1_hasHeir_0 rfl (lv_at hl 1 rfl) ?_
  refine lv_if_lt (tgt := 16) hx hb dX1_hasHeir_1 (by decide) (fun c1 => ?_) (fun c1 => ?_)
  · skip
    have ic1 := zlt (a := x1.toInt) (b := 0) rfl (by decide) c1
    refine lv_iconst (v := 0) hx hb dX1_hasHeir_16 (by decide) ?_
    have hpost : σ = σ ∧ ((0 : Int32).toInt = 1 ∧ 0 ≤ x1.toInt ∧ x1.toInt < (σ 4 1).toInt ∨ (0 : Int32).toInt = 0 ∧ ¬ (0 ≤ x1.toInt ∧ x1.toInt < (σ 4 1).toInt)) := by exact ⟨rfl, by first | (left; exact ⟨by decide, by omega⟩) | (right; exact ⟨by decide, by omega⟩)⟩
    exact W.zret (v := 0) hx hb hr (by decide +kernel) (fun t9 ht hW => ⟨⟨0, σ, rfl, hpost, by rw [ht]; exact hP, va_K.moved hW.alike hK, hD⟩, hS.F ht⟩) hS.2.2 dX1_hasHeir_17
  · skip
    have ic1 := znlt (a := x1.toInt) (b := 0) rfl (by decide) c1
    refine lv_iload_n hx hb dX1_hasHeir_4 rfl (lv_at hl 1 rfl) ?_
    refine lv_aload_n hx hb dX1_hasHeir_5 rfl (lv_at hl 0 rfl) ?_
    refine va_get (D := (dC, dI)) (ci := 1) (v := .int (σ 4 1)) (C := RX1) (T := TX1) (N := 9) hx hb hts in1 hown hK hP 4 rfl rfl 1 (by decide) k36 (fun _ h9 => h9) rfl dX1_hasHeir_6 ?_
    refine lv_icmp_ge (tgt := 16) hx hb dX1_hasHeir_9 (by decide) (fun c9 => ?_) (fun c9 => ?_)
    · skip
      have ic9 := zle (a := (σ 4 1).toInt) (b := x1.toInt) rfl rfl c9
      refine lv_iconst (v := 0) hx hb dX1_hasHeir_16 (by decide) ?_
      have hpost : σ = σ ∧ ((0 : Int32).toInt = 1 ∧ 0 ≤ x1.toInt ∧ x1.toInt < (σ 4 1).toInt ∨ (0 : Int32).toInt = 0 ∧ ¬ (0 ≤ x1.toInt ∧ x1.toInt < (σ 4 1).toInt)) := by exact ⟨rfl, by first | (left; exact ⟨by decide, by omega⟩) | (right; exact ⟨by decide, by omega⟩)⟩
      exact W.zret (v := 0) hx hb hr (by decide +kernel) (fun t9 ht hW => ⟨⟨0, σ, rfl, hpost, by rw [ht]; exact hP, va_K.moved hW.alike hK, hD⟩, hS.F ht⟩) hS.2.2 dX1_hasHeir_17
    · skip
      have ic9 := znle (a := (σ 4 1).toInt) (b := x1.toInt) rfl rfl c9
      refine lv_iconst (v := 1) hx hb dX1_hasHeir_12 (by decide) ?_
      refine lv_goto (tgt := 17) hx hb dX1_hasHeir_13 (by decide) ?_
      have hpost : σ = σ ∧ ((1 : Int32).toInt = 1 ∧ 0 ≤ x1.toInt ∧ x1.toInt < (σ 4 1).toInt ∨ (1 : Int32).toInt = 0 ∧ ¬ (0 ≤ x1.toInt ∧ x1.toInt < (σ 4 1).toInt)) := by exact ⟨rfl, by first | (left; exact ⟨by decide, by omega⟩) | (right; exact ⟨by decide, by omega⟩)⟩
      exact W.zret (v := 1) hx hb hr (by decide +kernel) (fun t9 ht hW => ⟨⟨1, σ, rfl, hpost, by rw [ht]; exact hP, va_K.moved hW.alike hK, hD⟩, hS.F ht⟩) hS.2.2 dX1_hasHeir_17

abbrev RM_X1_hasThing : Room := { frames := 0, cells := 0, slots := 0, locals := 0 }
set_option maxHeartbeats 4000000 in
set_option maxRecDepth 100000 in
theorem c_X1_hasThing (l : Launch) (dC : Nat → ClassId) (dI : Nat → Nat → Nat) (cB cI cS cII : ClassId) (a : Nat → Nat) (N : (Nat → Prop) → State → Prop) (hok : zNok N) (hn : ∀ A U, N A U → zN U) (σ : Cn) (sz : Nat) (x1 : Int32)  : Met l yX1_hasThing wsX1_hasThing RM_X1_hasThing (zPc (dC, dI) (zT cB cI cS cII) N (wX a cB cI cS cII) σ sz [.ref (a 4), .int x1]) (zQi (dC, dI) (zT cB cI cS cII) (wX a cB cI cS cII) (va_A (wX a cB cI cS cII σ) sz) (fun (r : Int32) (σ1 : Cn) => σ1 = σ ∧ ((r : Int32).toInt = 1 ∧ 0 ≤ x1.toInt ∧ x1.toInt < (σ 4 2).toInt ∨ (r : Int32).toInt = 0 ∧ ¬ (0 ≤ x1.toInt ∧ x1.toInt < (σ 4 2).toInt)))) 0 0 (va_A (wX a cB cI cS cII σ) sz) := by
  refine Met.ofW (cc := cX1_hasThing) (maxL := 2) (ret := (some .boolean)) (by decide) rfl ?_
  intro p e s m args below meth c s₁ B hml hv
  obtain ⟨rfl, hsz, hP, hK, hD0, hN⟩ := hv
  have hx := B.exec
  have hb := B.bytes
  have hr := B.returns
  have hts := atoms_spec (ws := wsX1_hasThing) B.pre
  have hown : s.vm.findClass RX1 = some m.cls := findClass_of_methodNamed B.named
  have hlocks := B.notSynchronized
  subst hsz
  have hD := hD0.self (sz := s.heap.size)
  generalize hAe : va_A (wX a cB cI cS cII σ) s.heap.size = A at hD hN ⊢
  have hA : ∀ q : Nat, s.heap.size ≤ q → A q := fun q h => by rw [← hAe]; exact Or.inr h
  clear hAe hD0
  have hS : va_S A s.heap s.heap [] := va_S.rf
  have in1 : ∀ w ∈ u_ws RX1 TX1 9, w ∈ wsX1_hasThing := by decide +kernel
  have k40 := hts (.fieldLink RX1 40 "HouseSorted$House" "things" "I") (by decide +kernel)
  have hl := lv_entry ([.ref (a 4), .int x1]) (n := 2) (Nat.le_of_ble_eq_true rfl)
  rw [lg_entry_eq]
  generalize (lg_sl ([.ref (a 4), .int x1]) ++ List.replicate (2 - (lg_sl ([.ref (a 4), .int x1])).length) Slot.unset).toArray = ls at hl ⊢
  have hl : lv_has ls 2 [(0, .ref (a 4)), (1, .int x1)] := hl
  suffices main : ∀ (H : Heap) (locs : List Loc), va_P (dC, dI) vwCl (wX a cB cI cS cII σ) H → va_D A (wX a cB cI cS cII σ) → va_S A s.heap H locs → W p l e (headSpec wsX1_hasThing RM_X1_hasThing).room s m ([.ref (a 4), .int x1] : List Value).toArray below meth c H locs 0 0 (MQ below (zQi (dC, dI) (zT cB cI cS cII) (wX a cB cI cS cII) A (fun (r : Int32) (σ1 : Cn) => σ1 = σ ∧ ((r : Int32).toInt = 1 ∧ 0 ≤ x1.toInt ∧ x1.toInt < (σ 4 2).toInt ∨ (r : Int32).toInt = 0 ∧ ¬ (0 ≤ x1.toInt ∧ x1.toInt < (σ 4 2).toInt)))) ([.ref (a 4), .int x1] : List Value).toArray s 0 0 A) (F0 m 0 ls []) from main s.heap [] hP hD hS
  intro H locs hP hD hS
  refine lv_iload_n hx hb dX1_hasThing_0 rfl (lv_at hl 1 rfl) ?_
  refine lv_if_lt (tgt := 16) hx hb dX1_hasThing_1 (by decide) (fun c1 => ?_) (fun c1 => ?_)
  · skip
    have ic1 := zlt (a := x1.toInt) (b := 0) rfl (by decide) c1
    refine lv_iconst (v := 0) hx hb dX1_hasThing_16 (by decide) ?_
    have hpost : σ = σ ∧ ((0 : Int32).toInt = 1 ∧ 0 ≤ x1.toInt ∧ x1.toInt < (σ 4 2).toInt ∨ (0 : Int32).toInt = 0 ∧ ¬ (0 ≤ x1.toInt ∧ x1.toInt < (σ 4 2).toInt)) := by exact ⟨rfl, by first | (left; exact ⟨by decide, by omega⟩) | (right; exact ⟨by decide, by omega⟩)⟩
    exact W.zret (v := 0) hx hb hr (by decide +kernel) (fun t9 ht hW => ⟨⟨0, σ, rfl, hpost, by rw [ht]; exact hP, va_K.moved hW.alike hK, hD⟩, hS.F ht⟩) hS.2.2 dX1_hasThing_17
  · skip
    have ic1 := znlt (a := x1.toInt) (b := 0) rfl (by decide) c1
    refine lv_iload_n hx hb dX1_hasThing_4 rfl (lv_at hl 1 rfl) ?_
    refine lv_aload_n hx hb dX1_hasThing_5 rfl (lv_at hl 0 rfl) ?_
    refine va_get (D := (dC, dI)) (ci := 1) (v := .int (σ 4 2)) (C := RX1) (T := TX1) (N := 9) hx hb hts in1 hown hK hP 4 rfl rfl 2 (by decide) k40 (fun _ h9 => h9) rfl dX1_hasThing_6 ?_
    refine lv_icmp_ge (tgt := 16) hx hb dX1_hasThing_9 (by decide) (fun c9 => ?_) (fun c9 => ?_)
    · skip
      have ic9 := zle (a := (σ 4 2).toInt) (b := x1.toInt) rfl rfl c9
      refine lv_iconst (v := 0) hx hb dX1_hasThing_16 (by decide) ?_
      have hpost : σ = σ ∧ ((0 : Int32).toInt = 1 ∧ 0 ≤ x1.toInt ∧ x1.toInt < (σ 4 2).toInt ∨ (0 : Int32).toInt = 0 ∧ ¬ (0 ≤ x1.toInt ∧ x1.toInt < (σ 4 2).toInt)) := by exact ⟨rfl, by first | (left; exact ⟨by decide, by omega⟩) | (right; exact ⟨by decide, by omega⟩)⟩
      exact W.zret (v := 0) hx hb hr (by decide +kernel) (fun t9 ht hW => ⟨⟨0, σ, rfl, hpost, by rw [ht]; exact hP, va_K.moved hW.alike hK, hD⟩, hS.F ht⟩) hS.2.2 dX1_hasThing_17
    · skip
      have ic9 := znle (a := (σ 4 2).toInt) (b := x1.toInt) rfl rfl c9
      refine lv_iconst (v := 1) hx hb dX1_hasThing_12 (by decide) ?_
      refine lv_goto (tgt := 17) hx hb dX1_hasThing_13 (by decide) ?_
      have hpost : σ = σ ∧ ((1 : Int32).toInt = 1 ∧ 0 ≤ x1.toInt ∧ x1.toInt < (σ 4 2).toInt ∨ (1 : Int32).toInt = 0 ∧ ¬ (0 ≤ x1.toInt ∧ x1.toInt < (σ 4 2).toInt)) := by exact ⟨rfl, by first | (left; exact ⟨by decide, by omega⟩) | (right; exact ⟨by decide, by omega⟩)⟩
      exact W.zret (v := 1) hx hb hr (by decide +kernel) (fun t9 ht hW => ⟨⟨1, σ, rfl, hpost, by rw [ht]; exact hP, va_K.moved hW.alike hK, hD⟩, hS.F ht⟩) hS.2.2 dX1_hasThing_17

abbrev RM_X1_hasMark : Room := { frames := 0, cells := 0, slots := 0, locals := 0 }
set_option maxHeartbeats 4000000 in
set_option maxRecDepth 100000 in
theorem c_X1_hasMark (l : Launch) (dC : Nat → ClassId) (dI : Nat → Nat → Nat) (cB cI cS cII : ClassId) (a : Nat → Nat) (N : (Nat → Prop) → State → Prop) (hok : zNok N) (hn : ∀ A U, N A U → zN U) (σ : Cn) (sz : Nat) (x1 : Int32) (x2 : Int32) (h1 : 0 ≤ x1.toInt ∧ x1.toInt < 10) : Met l yX1_hasMark wsX1_hasMark RM_X1_hasMark (zPc (dC, dI) (zT cB cI cS cII) N (wX a cB cI cS cII) σ sz [.ref (a 4), .int x1, .int x2]) (zQi (dC, dI) (zT cB cI cS cII) (wX a cB cI cS cII) (va_A (wX a cB cI cS cII σ) sz) (fun (r : Int32) (σ1 : Cn) => σ1 = σ ∧ ((r : Int32).toInt = 1 ∧ xMark σ x1.toNatClampNeg x2 ∨ (r : Int32).toInt = 0 ∧ ¬ (xMark σ x1.toNatClampNeg x2)))) 0 0 (va_A (wX a cB cI cS cII σ) sz) := by
  refine Met.ofW (cc := cX1_hasMark) (maxL := 3) (ret := (some .boolean)) (by decide) rfl ?_
  intro p e s m args below meth c s₁ B hml hv
  obtain ⟨rfl, hsz, hP, hK, hD0, hN⟩ := hv
  have hx := B.exec
  have hb := B.bytes
  have hr := B.returns
  have hts := atoms_spec (ws := wsX1_hasMark) B.pre
  have hown : s.vm.findClass RX1 = some m.cls := findClass_of_methodNamed B.named
  have hlocks := B.notSynchronized
  subst hsz
  have hD := hD0.self (sz := s.heap.size)
  generalize hAe : va_A (wX a cB cI cS cII σ) s.heap.size = A at hD hN ⊢
  have hA : ∀ q : Nat, s.heap.size ≤ q → A q := fun q h => by rw [← hAe]; exact Or.inr h
  clear hAe hD0
  have hS : va_S A s.heap s.heap [] := va_S.rf
  have in1 : ∀ w ∈ u_ws RX1 TX1 9, w ∈ wsX1_hasMark := by decide +kernel
  have k24 := hts (.fieldLink RX1 24 "HouseSorted$House" "marks" "[I") (by decide +kernel)
  have hl := lv_entry ([.ref (a 4), .int x1, .int x2]) (n := 3) (Nat.le_of_ble_eq_true rfl)
  rw [lg_entry_eq]
  generalize (lg_sl ([.ref (a 4), .int x1, .int x2]) ++ List.replicate (3 - (lg_sl ([.ref (a 4), .int x1, .int x2])).length) Slot.unset).toArray = ls at hl ⊢
  have hl : lv_has ls 3 [(0, .ref (a 4)), (1, .int x1), (2, .int x2)] := hl
  suffices main : ∀ (H : Heap) (locs : List Loc), va_P (dC, dI) vwCl (wX a cB cI cS cII σ) H → va_D A (wX a cB cI cS cII σ) → va_S A s.heap H locs → W p l e (headSpec wsX1_hasMark RM_X1_hasMark).room s m ([.ref (a 4), .int x1, .int x2] : List Value).toArray below meth c H locs 0 0 (MQ below (zQi (dC, dI) (zT cB cI cS cII) (wX a cB cI cS cII) A (fun (r : Int32) (σ1 : Cn) => σ1 = σ ∧ ((r : Int32).toInt = 1 ∧ xMark σ x1.toNatClampNeg x2 ∨ (r : Int32).toInt = 0 ∧ ¬ (xMark σ x1.toNatClampNeg x2)))) ([.ref (a 4), .int x1, .int x2] : List Value).toArray s 0 0 A) (F0 m 0 ls []) from main s.heap [] hP hD hS
  intro H locs hP hD hS
  refine lv_aload_n hx hb dX1_hasMark_0 rfl (lv_at hl 0 rfl) ?_
  refine va_get (D := (dC, dI)) (ci := 1) (v := .ref (a 19)) (C := RX1) (T := TX1) (N := 9) hx hb hts in1 hown hK hP 4 rfl rfl 7 (by decide) k24 (fun _ h9 => h9) rfl dX1_hasMark_1 ?_
  refine lv_iload_n hx hb dX1_hasMark_4 rfl (lv_at hl 1 rfl) ?_
  refine va_iald (D := (dC, dI)) (f := σ 19) hx hb hK hP 19 1 rfl rfl (i := x1) (n := 10) (zin (by omega) (by omega)) dX1_hasMark_5 ?_
  refine lv_topi (fun v5 ev5 => ?_)
  have tv5 := congrArg Int32.toInt ev5
  refine lv_iload_n hx hb dX1_hasMark_6 rfl (lv_at hl 2 rfl) ?_
  refine lv_iand hx hb dX1_hasMark_7 ?_
  refine lv_topi (fun v7 ev7 => ?_)
  refine lv_if_eq (tgt := 15) hx hb dX1_hasMark_8 (by decide) (fun c8 => ?_) (fun c8 => ?_)
  · skip
    have ic8 := zeq (a := v7.toInt) (b := 0) rfl (by decide) c8
    refine lv_iconst (v := 0) hx hb dX1_hasMark_15 (by decide) ?_
    have hpost : σ = σ ∧ ((0 : Int32).toInt = 1 ∧ xMark σ x1.toNatClampNeg x2 ∨ (0 : Int32).toInt = 0 ∧ ¬ (xMark σ x1.toNatClampNeg x2)) := by refine ⟨rfl, ?_⟩; unfold xMark; simp_all
    exact W.zret (v := 0) hx hb hr (by decide +kernel) (fun t9 ht hW => ⟨⟨0, σ, rfl, hpost, by rw [ht]; exact hP, va_K.moved hW.alike hK, hD⟩, hS.F ht⟩) hS.2.2 dX1_hasMark_16
  · skip
    have ic8 := zneq (a := v7.toInt) (b := 0) rfl (by decide) c8
    refine lv_iconst (v := 1) hx hb dX1_hasMark_11 (by decide) ?_
    refine lv_goto (tgt := 16) hx hb dX1_hasMark_12 (by decide) ?_
    have hpost : σ = σ ∧ ((1 : Int32).toInt = 1 ∧ xMark σ x1.toNatClampNeg x2 ∨ (1 : Int32).toInt = 0 ∧ ¬ (xMark σ x1.toNatClampNeg x2)) := by refine ⟨rfl, ?_⟩; unfold xMark; simp_all
    exact W.zret (v := 1) hx hb hr (by decide +kernel) (fun t9 ht hW => ⟨⟨1, σ, rfl, hpost, by rw [ht]; exact hP, va_K.moved hW.alike hK, hD⟩, hS.F ht⟩) hS.2.2 dX1_hasMark_16

abbrev RM_X1_isKeptPaper : Room := { frames := 1, cells := 0, slots := 0, locals := 22 }
set_option maxHeartbeats 4000000 in
set_option maxRecDepth 100000 in
theorem c_X1_isKeptPaper (l : Launch) (dC : Nat → ClassId) (dI : Nat → Nat → Nat) (cB cI cS cII : ClassId) (a : Nat → Nat) (N : (Nat → Prop) → State → Prop) (hok : zNok N) (hn : ∀ A U, N A U → zN U) (σ : Cn) (sz : Nat) (x1 : Int32) (h1 : 0 ≤ x1.toInt ∧ x1.toInt < 10) : Met l yX1_isKeptPaper wsX1_isKeptPaper RM_X1_isKeptPaper (zPc (dC, dI) (zT cB cI cS cII) N (wX a cB cI cS cII) σ sz [.ref (a 4), .int x1]) (zQi (dC, dI) (zT cB cI cS cII) (wX a cB cI cS cII) (va_A (wX a cB cI cS cII σ) sz) (fun (r : Int32) (σ1 : Cn) => σ1 = σ ∧ ((r : Int32).toInt = 1 ∧ xKept σ x1.toNatClampNeg ∨ (r : Int32).toInt = 0 ∧ ¬ (xKept σ x1.toNatClampNeg)))) 0 0 (va_A (wX a cB cI cS cII σ) sz) := by
  refine Met.ofW (cc := cX1_isKeptPaper) (maxL := 2) (ret := (some .boolean)) (by decide) rfl ?_
  intro p e s m args below meth c s₁ B hml hv
  obtain ⟨rfl, hsz, hP, hK, hD0, hN⟩ := hv
  have hx := B.exec
  have hb := B.bytes
  have hr := B.returns
  have hts := atoms_spec (ws := wsX1_isKeptPaper) B.pre
  have hown : s.vm.findClass RX1 = some m.cls := findClass_of_methodNamed B.named
  have hlocks := B.notSynchronized
  subst hsz
  have hD := hD0.self (sz := s.heap.size)
  generalize hAe : va_A (wX a cB cI cS cII σ) s.heap.size = A at hD hN ⊢
  have hA : ∀ q : Nat, s.heap.size ≤ q → A q := fun q h => by rw [← hAe]; exact Or.inr h
  clear hAe hD0
  have hS : va_S A s.heap s.heap [] := va_S.rf
  have in1 : ∀ w ∈ u_ws RX1 TX1 9, w ∈ wsX1_isKeptPaper := by decide +kernel
  have in2 : ∀ w ∈ u_ws RX2 TX2 6, w ∈ wsX1_isKeptPaper := by decide +kernel
  have k21 := hts (.fieldLink RX1 21 "HouseSorted$House" "age" "[I") (by decide +kernel)
  have k32 := hts (.fieldLink RX1 32 "HouseSorted$House" "book" "LHouseSorted$LawBook;") (by decide +kernel)
  have k47 := hts (.fieldLink RX1 47 "HouseSorted$LawBook" "value" "[I") (by decide +kernel)
  have hl := lv_entry ([.ref (a 4), .int x1]) (n := 2) (Nat.le_of_ble_eq_true rfl)
  rw [lg_entry_eq]
  generalize (lg_sl ([.ref (a 4), .int x1]) ++ List.replicate (2 - (lg_sl ([.ref (a 4), .int x1])).length) Slot.unset).toArray = ls at hl ⊢
  have hl : lv_has ls 2 [(0, .ref (a 4)), (1, .int x1)] := hl
  suffices main : ∀ (H : Heap) (locs : List Loc), va_P (dC, dI) vwCl (wX a cB cI cS cII σ) H → va_D A (wX a cB cI cS cII σ) → va_S A s.heap H locs → W p l e (headSpec wsX1_isKeptPaper RM_X1_isKeptPaper).room s m ([.ref (a 4), .int x1] : List Value).toArray below meth c H locs 0 0 (MQ below (zQi (dC, dI) (zT cB cI cS cII) (wX a cB cI cS cII) A (fun (r : Int32) (σ1 : Cn) => σ1 = σ ∧ ((r : Int32).toInt = 1 ∧ xKept σ x1.toNatClampNeg ∨ (r : Int32).toInt = 0 ∧ ¬ (xKept σ x1.toNatClampNeg)))) ([.ref (a 4), .int x1] : List Value).toArray s 0 0 A) (F0 m 0 ls []) from main s.heap [] hP hD hS
  intro H locs hP hD hS
  refine lv_aload_n hx hb dX1_isKeptPaper_0 rfl (lv_at hl 0 rfl) ?_
  refine lv_iload_n hx hb dX1_isKeptPaper_1 rfl (lv_at hl 1 rfl) ?_
  refine lv_iconst (v := 1) hx hb dX1_isKeptPaper_2 (by decide) ?_
  refine zcalli (va_runV (As := [.int x1, .int 1]) (rest := []) ⟨hx, hb, hml, hown, hts⟩ (c_X1_hasMark l dC dI cB cI cS cII a N hok hn σ H.size (x1) (1) (by omega)) (cwV 2 hts gX1_isKeptPaper_X1_hasMark rfl rfl rfl (by decide +kernel) ⟨Nat.le_of_ble_eq_true rfl, Nat.le_of_ble_eq_true rfl⟩) (zpreV (wf := wX a cB cI cS cII) (q0 := 4) (ci := 1) hok hN hS hA hK hP hD rfl rfl) rfl rfl hl.1 rfl (lv_room (Nat.le_of_ble_eq_true rfl)) dX1_isKeptPaper_3 ⟨Nat.zero_le _, Nat.zero_le _⟩) hD hS hA (fun v3 σ1 H locs hv3 hP hD hS => ?_)
  obtain ⟨es9, hv3⟩ := hv3
  subst σ1
  try simp only [show (1 : Int32).toInt = 1 from by decide] at hv3
  refine lv_if_eq (tgt := 31) hx hb dX1_isKeptPaper_6 (by decide) (fun c6 => ?_) (fun c6 => ?_)
  · skip
    have ic6 := zeq (a := v3.toInt) (b := 0) rfl (by decide) c6
    refine lv_iconst (v := 0) hx hb dX1_isKeptPaper_31 (by decide) ?_
    have hpost : σ = σ ∧ ((0 : Int32).toInt = 1 ∧ xKept σ x1.toNatClampNeg ∨ (0 : Int32).toInt = 0 ∧ ¬ (xKept σ x1.toNatClampNeg)) := by refine ⟨rfl, ?_⟩; unfold xKept; simp_all
    exact W.zret (v := 0) hx hb hr (by decide +kernel) (fun t9 ht hW => ⟨⟨0, σ, rfl, hpost, by rw [ht]; exact hP, va_K.moved hW.alike hK, hD⟩, hS.F ht⟩) hS.2.2 dX1_isKeptPaper_32
  · skip
    have ic6 := zneq (a := v3.toInt) (b := 0) rfl (by decide) c6
    refine lv_aload_n hx hb dX1_isKeptPaper_9 rfl (lv_at hl 0 rfl) ?_
    refine va_get (D := (dC, dI)) (ci := 1) (v := .ref (a 18)) (C := RX1) (T := TX1) (N := 9) hx hb hts in1 hown hK hP 4 rfl rfl 6 (by decide) k21 (fun _ h9 => h9) rfl dX1_isKeptPaper_10 ?_
    refine lv_iload_n hx hb dX1_isKeptPaper_13 rfl (lv_at hl 1 rfl) ?_
    refine va_iald (D := (dC, dI)) (f := σ 18) hx hb hK hP 18 1 rfl rfl (i := x1) (n := 10) (zin (by omega) (by omega)) dX1_isKeptPaper_14 ?_
    refine lv_topi (fun v14 ev14 => ?_)
    have tv14 := congrArg Int32.toInt ev14
    refine lv_aload_n hx hb dX1_isKeptPaper_15 rfl (lv_at hl 0 rfl) ?_
    refine va_get (D := (dC, dI)) (ci := 1) (v := .ref (a 2)) (C := RX1) (T := TX1) (N := 9) hx hb hts in1 hown hK hP 4 rfl rfl 0 (by decide) k32 (fun _ h9 => h9) rfl dX1_isKeptPaper_16 ?_
    refine va_get (D := (dC, dI)) (ci := 2) (v := .ref (a 13)) (C := RX2) (T := TX2) (N := 6) hx hb hts in2 hown hK hP 2 rfl rfl 0 (by decide) k47 (fun _ h9 => h9) rfl dX1_isKeptPaper_19 ?_
    refine lv_iconst (v := 0) hx hb dX1_isKeptPaper_22 (by decide) ?_
    refine va_iald (D := (dC, dI)) (f := σ 13) hx hb hK hP 13 1 rfl rfl (i := 0) (n := 7) (zin (by decide) (by decide)) dX1_isKeptPaper_23 ?_
    refine lv_topi (fun v23 ev23 => ?_)
    have tv23 := congrArg Int32.toInt ev23
    refine lv_icmp_gt (tgt := 31) hx hb dX1_isKeptPaper_24 (by decide) (fun c24 => ?_) (fun c24 => ?_)
    · skip
      have ic24 := zlt (a := v23.toInt) (b := v14.toInt) rfl rfl c24
      refine lv_iconst (v := 0) hx hb dX1_isKeptPaper_31 (by decide) ?_
      have hpost : σ = σ ∧ ((0 : Int32).toInt = 1 ∧ xKept σ x1.toNatClampNeg ∨ (0 : Int32).toInt = 0 ∧ ¬ (xKept σ x1.toNatClampNeg)) := by refine ⟨rfl, ?_⟩; unfold xKept; simp_all
      exact W.zret (v := 0) hx hb hr (by decide +kernel) (fun t9 ht hW => ⟨⟨0, σ, rfl, hpost, by rw [ht]; exact hP, va_K.moved hW.alike hK, hD⟩, hS.F ht⟩) hS.2.2 dX1_isKeptPaper_32
    · skip
      have ic24 := znlt (a := v23.toInt) (b := v14.toInt) rfl rfl c24
      refine lv_iconst (v := 1) hx hb dX1_isKeptPaper_27 (by decide) ?_
      refine lv_goto (tgt := 32) hx hb dX1_isKeptPaper_28 (by decide) ?_
      have hpost : σ = σ ∧ ((1 : Int32).toInt = 1 ∧ xKept σ x1.toNatClampNeg ∨ (1 : Int32).toInt = 0 ∧ ¬ (xKept σ x1.toNatClampNeg)) := by refine ⟨rfl, ?_⟩; unfold xKept; simp_all
      exact W.zret (v := 1) hx hb hr (by decide +kernel) (fun t9 ht hW => ⟨⟨1, σ, rfl, hpost, by rw [ht]; exact hP, va_K.moved hW.alike hK, hD⟩, hS.F ht⟩) hS.2.2 dX1_isKeptPaper_32

