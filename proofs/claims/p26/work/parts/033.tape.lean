abbrev RM_X8_isWithin : Room := { frames := 0, cells := 0, slots := 0, locals := 0 }
set_option maxHeartbeats 4000000 in
set_option maxRecDepth 100000 in
theorem c_X8_isWithin (l : Launch) (dC : Nat → ClassId) (dI : Nat → Nat → Nat) (cB cI cS cII : ClassId) (a : Nat → Nat) (N : (Nat → Prop) → State → Prop) (hok : zNok N) (hn : ∀ A U, N A U → zN U) (σ : Cn) (sz : Nat) (x0 : Int32) (x1 : Int32) (x2 : Int32)  : Met l yX8_isWithin wsX8_isWithin RM_X8_isWithin (zPc (dC, dI) (zT cB cI cS cII) N (wX a cB cI cS cII) σ sz [.int x0, .int x1, .int x2]) (zQi (dC, dI) (zT cB cI cS cII) (wX a cB cI cS cII) (va_A (wX a cB cI cS cII σ) sz) (fun (r : Int32) (σ1 : Cn) => σ1 = σ ∧ ((r : Int32).toInt = 1 ∧ x1.toInt ≤ x0.toInt ∧ x0.toInt ≤ x2.toInt ∨ (r : Int32).toInt = 0 ∧ ¬ (x1.toInt ≤ x0.toInt ∧ x0.toInt ≤ x2.toInt)))) 0 0 (va_A (wX a cB cI cS cII σ) sz) := by
  refine Met.ofW (cc := cX8_isWithin) (maxL := 3) (ret := (some .boolean)) (by decide) rfl ?_
  intro p e s m args below meth c s₁ B hml hv
  obtain ⟨rfl, hsz, hP, hK, hD0, hN⟩ := hv
  have hx := B.exec
  have hb := B.bytes
  have hr := B.returns
  have hts := atoms_spec (ws := wsX8_isWithin) B.pre
  have hown : s.vm.findClass RX8 = some m.cls := findClass_of_methodNamed B.named
  have hlocks := B.notSynchronized
  subst hsz
  have hD := hD0.self (sz := s.heap.size)
  generalize hAe : va_A (wX a cB cI cS cII σ) s.heap.size = A at hD hN ⊢
  have hA : ∀ q : Nat, s.heap.size ≤ q → A q := fun q h => by rw [← hAe]; exact Or.inr h
  clear hAe hD0
  have hS : va_S A s.heap s.heap [] := va_S.rf
  have hl := lv_entry ([.int x0, .int x1, .int x2]) (n := 3) (Nat.le_of_ble_eq_true rfl)
  rw [lg_entry_eq]
  generalize (lg_sl ([.int x0, .int x1, .int x2]) ++ List.replicate (3 - (lg_sl ([.int x0, .int x1, .int x2])).length) Slot.unset).toArray = ls at hl ⊢
  have hl : lv_has ls 3 [(0, .int x0), (1, .int x1), (2, .int x2)] := hl
  suffices main : ∀ (H : Heap) (locs : List Loc), va_P (dC, dI) vwCl (wX a cB cI cS cII σ) H → va_D A (wX a cB cI cS cII σ) → va_S A s.heap H locs → W p l e (headSpec wsX8_isWithin RM_X8_isWithin).room s m ([.int x0, .int x1, .int x2] : List Value).toArray below meth c H locs 0 0 (MQ below (zQi (dC, dI) (zT cB cI cS cII) (wX a cB cI cS cII) A (fun (r : Int32) (σ1 : Cn) => σ1 = σ ∧ ((r : Int32).toInt = 1 ∧ x1.toInt ≤ x0.toInt ∧ x0.toInt ≤ x2.toInt ∨ (r : Int32).toInt = 0 ∧ ¬ (x1.toInt ≤ x0.toInt ∧ x0.toInt ≤ x2.toInt)))) ([.int x0, .int x1, .int x2] : List Value).toArray s 0 0 A) (F0 m 0 ls []) from main s.heap [] hP hD hS
  intro H locs hP hD hS
  refine lv_iload_n hx hb dX8_isWithin_0 rfl (lv_at hl 0 rfl) ?_
  refine lv_iload_n hx hb dX8_isWithin_1 rfl (lv_at hl 1 rfl) ?_
  refine lv_icmp_lt (tgt := 14) hx hb dX8_isWithin_2 (by decide) (fun c2 => ?_) (fun c2 => ?_)
  · skip
    have ic2 := zlt (a := x0.toInt) (b := x1.toInt) rfl rfl c2
    refine lv_iconst (v := 0) hx hb dX8_isWithin_14 (by decide) ?_
    have hpost : σ = σ ∧ ((0 : Int32).toInt = 1 ∧ x1.toInt ≤ x0.toInt ∧ x0.toInt ≤ x2.toInt ∨ (0 : Int32).toInt = 0 ∧ ¬ (x1.toInt ≤ x0.toInt ∧ x0.toInt ≤ x2.toInt)) := by exact ⟨rfl, by first | (left; exact ⟨by decide, by omega⟩) | (right; exact ⟨by decide, by omega⟩)⟩
    exact W.zret (v := 0) hx hb hr (by decide +kernel) (fun t9 ht hW => ⟨⟨0, σ, rfl, hpost, by rw [ht]; exact hP, va_K.moved hW.alike hK, hD⟩, hS.F ht⟩) hS.2.2 dX8_isWithin_15
  · skip
    have ic2 := znlt (a := x0.toInt) (b := x1.toInt) rfl rfl c2
    refine lv_iload_n hx hb dX8_isWithin_5 rfl (lv_at hl 0 rfl) ?_
    refine lv_iload_n hx hb dX8_isWithin_6 rfl (lv_at hl 2 rfl) ?_
    refine lv_icmp_gt (tgt := 14) hx hb dX8_isWithin_7 (by decide) (fun c7 => ?_) (fun c7 => ?_)
    · skip
      have ic7 := zlt (a := x2.toInt) (b := x0.toInt) rfl rfl c7
      refine lv_iconst (v := 0) hx hb dX8_isWithin_14 (by decide) ?_
      have hpost : σ = σ ∧ ((0 : Int32).toInt = 1 ∧ x1.toInt ≤ x0.toInt ∧ x0.toInt ≤ x2.toInt ∨ (0 : Int32).toInt = 0 ∧ ¬ (x1.toInt ≤ x0.toInt ∧ x0.toInt ≤ x2.toInt)) := by exact ⟨rfl, by first | (left; exact ⟨by decide, by omega⟩) | (right; exact ⟨by decide, by omega⟩)⟩
      exact W.zret (v := 0) hx hb hr (by decide +kernel) (fun t9 ht hW => ⟨⟨0, σ, rfl, hpost, by rw [ht]; exact hP, va_K.moved hW.alike hK, hD⟩, hS.F ht⟩) hS.2.2 dX8_isWithin_15
    · skip
      have ic7 := znlt (a := x2.toInt) (b := x0.toInt) rfl rfl c7
      refine lv_iconst (v := 1) hx hb dX8_isWithin_10 (by decide) ?_
      refine lv_goto (tgt := 15) hx hb dX8_isWithin_11 (by decide) ?_
      have hpost : σ = σ ∧ ((1 : Int32).toInt = 1 ∧ x1.toInt ≤ x0.toInt ∧ x0.toInt ≤ x2.toInt ∨ (1 : Int32).toInt = 0 ∧ ¬ (x1.toInt ≤ x0.toInt ∧ x0.toInt ≤ x2.toInt)) := by exact ⟨rfl, by first | (left; exact ⟨by decide, by omega⟩) | (right; exact ⟨by decide, by omega⟩)⟩
      exact W.zret (v := 1) hx hb hr (by decide +kernel) (fun t9 ht hW => ⟨⟨1, σ, rfl, hpost, by rw [ht]; exact hP, va_K.moved hW.alike hK, hD⟩, hS.F ht⟩) hS.2.2 dX8_isWithin_15

abbrev RM_X8_isRule : Room := { frames := 0, cells := 0, slots := 0, locals := 0 }
set_option maxHeartbeats 4000000 in
set_option maxRecDepth 100000 in
theorem c_X8_isRule (l : Launch) (dC : Nat → ClassId) (dI : Nat → Nat → Nat) (cB cI cS cII : ClassId) (a : Nat → Nat) (N : (Nat → Prop) → State → Prop) (hok : zNok N) (hn : ∀ A U, N A U → zN U) (σ : Cn) (sz : Nat) (x0 : Int32)  : Met l yX8_isRule wsX8_isRule RM_X8_isRule (zPc (dC, dI) (zT cB cI cS cII) N (wX a cB cI cS cII) σ sz [.int x0]) (zQi (dC, dI) (zT cB cI cS cII) (wX a cB cI cS cII) (va_A (wX a cB cI cS cII σ) sz) (fun (r : Int32) (σ1 : Cn) => σ1 = σ ∧ ((r : Int32).toInt = 1 ∧ (x0.toInt = 0 ∨ x0.toInt = 1) ∨ (r : Int32).toInt = 0 ∧ ¬ ((x0.toInt = 0 ∨ x0.toInt = 1))))) 0 0 (va_A (wX a cB cI cS cII σ) sz) := by
  refine Met.ofW (cc := cX8_isRule) (maxL := 1) (ret := (some .boolean)) (by decide) rfl ?_
  intro p e s m args below meth c s₁ B hml hv
  obtain ⟨rfl, hsz, hP, hK, hD0, hN⟩ := hv
  have hx := B.exec
  have hb := B.bytes
  have hr := B.returns
  have hts := atoms_spec (ws := wsX8_isRule) B.pre
  have hown : s.vm.findClass RX8 = some m.cls := findClass_of_methodNamed B.named
  have hlocks := B.notSynchronized
  subst hsz
  have hD := hD0.self (sz := s.heap.size)
  generalize hAe : va_A (wX a cB cI cS cII σ) s.heap.size = A at hD hN ⊢
  have hA : ∀ q : Nat, s.heap.size ≤ q → A q := fun q h => by rw [← hAe]; exact Or.inr h
  clear hAe hD0
  have hS : va_S A s.heap s.heap [] := va_S.rf
  have hl := lv_entry ([.int x0]) (n := 1) (Nat.le_of_ble_eq_true rfl)
  rw [lg_entry_eq]
  generalize (lg_sl ([.int x0]) ++ List.replicate (1 - (lg_sl ([.int x0])).length) Slot.unset).toArray = ls at hl ⊢
  have hl : lv_has ls 1 [(0, .int x0)] := hl
  suffices main : ∀ (H : Heap) (locs : List Loc), va_P (dC, dI) vwCl (wX a cB cI cS cII σ) H → va_D A (wX a cB cI cS cII σ) → va_S A s.heap H locs → W p l e (headSpec wsX8_isRule RM_X8_isRule).room s m ([.int x0] : List Value).toArray below meth c H locs 0 0 (MQ below (zQi (dC, dI) (zT cB cI cS cII) (wX a cB cI cS cII) A (fun (r : Int32) (σ1 : Cn) => σ1 = σ ∧ ((r : Int32).toInt = 1 ∧ (x0.toInt = 0 ∨ x0.toInt = 1) ∨ (r : Int32).toInt = 0 ∧ ¬ ((x0.toInt = 0 ∨ x0.toInt = 1))))) ([.int x0] : List Value).toArray s 0 0 A) (F0 m 0 ls []) from main s.heap [] hP hD hS
  intro H locs hP hD hS
  refine lv_iload_n hx hb dX8_isRule_0 rfl (lv_at hl 0 rfl) ?_
  refine lv_if_eq (tgt := 9) hx hb dX8_isRule_1 (by decide) (fun c1 => ?_) (fun c1 => ?_)
  · skip
    have ic1 := zeq (a := x0.toInt) (b := 0) rfl (by decide) c1
    refine lv_iconst (v := 1) hx hb dX8_isRule_9 (by decide) ?_
    refine lv_goto (tgt := 14) hx hb dX8_isRule_10 (by decide) ?_
    have hpost : σ = σ ∧ ((1 : Int32).toInt = 1 ∧ (x0.toInt = 0 ∨ x0.toInt = 1) ∨ (1 : Int32).toInt = 0 ∧ ¬ ((x0.toInt = 0 ∨ x0.toInt = 1))) := by exact ⟨rfl, by first | (left; exact ⟨by decide, by omega⟩) | (right; exact ⟨by decide, by omega⟩)⟩
    exact W.zret (v := 1) hx hb hr (by decide +kernel) (fun t9 ht hW => ⟨⟨1, σ, rfl, hpost, by rw [ht]; exact hP, va_K.moved hW.alike hK, hD⟩, hS.F ht⟩) hS.2.2 dX8_isRule_14
  · skip
    have ic1 := zneq (a := x0.toInt) (b := 0) rfl (by decide) c1
    refine lv_iload_n hx hb dX8_isRule_4 rfl (lv_at hl 0 rfl) ?_
    refine lv_iconst (v := 1) hx hb dX8_isRule_5 (by decide) ?_
    refine lv_icmp_ne (tgt := 13) hx hb dX8_isRule_6 (by decide) (fun c6 => ?_) (fun c6 => ?_)
    · skip
      have ic6 := zneq (a := x0.toInt) (b := 1) rfl (by decide) c6
      refine lv_iconst (v := 0) hx hb dX8_isRule_13 (by decide) ?_
      have hpost : σ = σ ∧ ((0 : Int32).toInt = 1 ∧ (x0.toInt = 0 ∨ x0.toInt = 1) ∨ (0 : Int32).toInt = 0 ∧ ¬ ((x0.toInt = 0 ∨ x0.toInt = 1))) := by exact ⟨rfl, by first | (left; exact ⟨by decide, by omega⟩) | (right; exact ⟨by decide, by omega⟩)⟩
      exact W.zret (v := 0) hx hb hr (by decide +kernel) (fun t9 ht hW => ⟨⟨0, σ, rfl, hpost, by rw [ht]; exact hP, va_K.moved hW.alike hK, hD⟩, hS.F ht⟩) hS.2.2 dX8_isRule_14
    · skip
      have ic6 := zeq (a := x0.toInt) (b := 1) rfl (by decide) c6
      refine lv_iconst (v := 1) hx hb dX8_isRule_9 (by decide) ?_
      refine lv_goto (tgt := 14) hx hb dX8_isRule_10 (by decide) ?_
      have hpost : σ = σ ∧ ((1 : Int32).toInt = 1 ∧ (x0.toInt = 0 ∨ x0.toInt = 1) ∨ (1 : Int32).toInt = 0 ∧ ¬ ((x0.toInt = 0 ∨ x0.toInt = 1))) := by exact ⟨rfl, by first | (left; exact ⟨by decide, by omega⟩) | (right; exact ⟨by decide, by omega⟩)⟩
      exact W.zret (v := 1) hx hb hr (by decide +kernel) (fun t9 ht hW => ⟨⟨1, σ, rfl, hpost, by rw [ht]; exact hP, va_K.moved hW.alike hK, hD⟩, hS.F ht⟩) hS.2.2 dX8_isRule_14

abbrev RM_X8_isLane : Room := { frames := 1, cells := 0, slots := 0, locals := 22 }
set_option maxHeartbeats 4000000 in
set_option maxRecDepth 100000 in
theorem c_X8_isLane (l : Launch) (dC : Nat → ClassId) (dI : Nat → Nat → Nat) (cB cI cS cII : ClassId) (a : Nat → Nat) (N : (Nat → Prop) → State → Prop) (hok : zNok N) (hn : ∀ A U, N A U → zN U) (σ : Cn) (sz : Nat) (x0 : Int32)  : Met l yX8_isLane wsX8_isLane RM_X8_isLane (zPc (dC, dI) (zT cB cI cS cII) N (wX a cB cI cS cII) σ sz [.int x0]) (zQi (dC, dI) (zT cB cI cS cII) (wX a cB cI cS cII) (va_A (wX a cB cI cS cII σ) sz) (fun (r : Int32) (σ1 : Cn) => σ1 = σ ∧ ((r : Int32).toInt = 1 ∧ 0 ≤ x0.toInt ∧ x0.toInt ≤ 2 ∨ (r : Int32).toInt = 0 ∧ ¬ (0 ≤ x0.toInt ∧ x0.toInt ≤ 2)))) 0 0 (va_A (wX a cB cI cS cII σ) sz) := by
  refine Met.ofW (cc := cX8_isLane) (maxL := 1) (ret := (some .boolean)) (by decide) rfl ?_
  intro p e s m args below meth c s₁ B hml hv
  obtain ⟨rfl, hsz, hP, hK, hD0, hN⟩ := hv
  have hx := B.exec
  have hb := B.bytes
  have hr := B.returns
  have hts := atoms_spec (ws := wsX8_isLane) B.pre
  have hown : s.vm.findClass RX8 = some m.cls := findClass_of_methodNamed B.named
  have hlocks := B.notSynchronized
  subst hsz
  have hD := hD0.self (sz := s.heap.size)
  generalize hAe : va_A (wX a cB cI cS cII σ) s.heap.size = A at hD hN ⊢
  have hA : ∀ q : Nat, s.heap.size ≤ q → A q := fun q h => by rw [← hAe]; exact Or.inr h
  clear hAe hD0
  have hS : va_S A s.heap s.heap [] := va_S.rf
  have hl := lv_entry ([.int x0]) (n := 1) (Nat.le_of_ble_eq_true rfl)
  rw [lg_entry_eq]
  generalize (lg_sl ([.int x0]) ++ List.replicate (1 - (lg_sl ([.int x0])).length) Slot.unset).toArray = ls at hl ⊢
  have hl : lv_has ls 1 [(0, .int x0)] := hl
  suffices main : ∀ (H : Heap) (locs : List Loc), va_P (dC, dI) vwCl (wX a cB cI cS cII σ) H → va_D A (wX a cB cI cS cII σ) → va_S A s.heap H locs → W p l e (headSpec wsX8_isLane RM_X8_isLane).room s m ([.int x0] : List Value).toArray below meth c H locs 0 0 (MQ below (zQi (dC, dI) (zT cB cI cS cII) (wX a cB cI cS cII) A (fun (r : Int32) (σ1 : Cn) => σ1 = σ ∧ ((r : Int32).toInt = 1 ∧ 0 ≤ x0.toInt ∧ x0.toInt ≤ 2 ∨ (r : Int32).toInt = 0 ∧ ¬ (0 ≤ x0.toInt ∧ x0.toInt ≤ 2)))) ([.int x0] : List Value).toArray s 0 0 A) (F0 m 0 ls []) from main s.heap [] hP hD hS
  intro H locs hP hD hS
  refine lv_iload_n hx hb dX8_isLane_0 rfl (lv_at hl 0 rfl) ?_
  refine lv_iconst (v := 0) hx hb dX8_isLane_1 (by decide) ?_
  refine lv_iconst (v := 2) hx hb dX8_isLane_2 (by decide) ?_
  refine zcalli (va_runS (As := [.int x0, .int 0, .int 2]) (rest := []) ⟨hx, hb, hml, hown, hts⟩ (c_X8_isWithin l dC dI cB cI cS cII a N hok hn σ H.size (x0) (0) (2) ) (va_cwS 3 hts gX8_isLane_X8_isWithin rfl rfl rfl (by decide +kernel) ⟨Nat.le_of_ble_eq_true rfl, Nat.le_of_ble_eq_true rfl⟩) (zpreS (wf := wX a cB cI cS cII) hok hN hS hA hK hP hD) rfl rfl hl.1 rfl (lv_room (Nat.le_of_ble_eq_true rfl)) dX8_isLane_3 ⟨Nat.zero_le _, Nat.zero_le _⟩) hD hS hA (fun v3 σ1 H locs hv3 hP hD hS => ?_)
  obtain ⟨es9, hv3⟩ := hv3
  subst σ1
  try simp only [show (0 : Int32).toInt = 0 from by decide, show (2 : Int32).toInt = 2 from by decide] at hv3
  have hpost : σ = σ ∧ ((v3 : Int32).toInt = 1 ∧ 0 ≤ x0.toInt ∧ x0.toInt ≤ 2 ∨ (v3 : Int32).toInt = 0 ∧ ¬ (0 ≤ x0.toInt ∧ x0.toInt ≤ 2)) := by refine ⟨rfl, ?_⟩; omega
  exact W.zret (v := v3) hx hb hr (zbool (by omega)) (fun t9 ht hW => ⟨⟨v3, σ, rfl, hpost, by rw [ht]; exact hP, va_K.moved hW.alike hK, hD⟩, hS.F ht⟩) hS.2.2 dX8_isLane_6

abbrev RM_X5_append : Room := { frames := 0, cells := 0, slots := 0, locals := 0 }
set_option maxHeartbeats 4000000 in
set_option maxRecDepth 100000 in
theorem c_X5_append (l : Launch) (dC : Nat → ClassId) (dI : Nat → Nat → Nat) (cB cI cS cII : ClassId) (a : Nat → Nat) (N : (Nat → Prop) → State → Prop) (hok : zNok N) (hn : ∀ A U, N A U → zN U) (σ : Cn) (sz : Nat) (x1 : Int64) (h1 : 0 ≤ (σ 1 1).toInt ∧ (σ 1 1).toInt ≤ 160) : Met l yX5_append wsX5_append RM_X5_append (zPc (dC, dI) (zT cB cI cS cII) N (wX a cB cI cS cII) σ sz [.ref (a 1), .long x1]) (zQv (dC, dI) (zT cB cI cS cII) (wX a cB cI cS cII) (va_A (wX a cB cI cS cII σ) sz) (fun (σ1 : Cn) => ∃ u1 : Nat → Int32, ∃ u12 : Nat → Int32, σ1 = (upC (upC σ 1 u1) 12 u12) ∧ (0 ≤ (u1 1).toInt ∧ (u1 1).toInt ≤ 160) ∧ ((σ 1 1).toInt ≤ 152 → (u1 1).toInt = (σ 1 1).toInt + 8))) 0 0 (va_A (wX a cB cI cS cII σ) sz) := by
  refine Met.ofW (cc := cX5_append) (maxL := 4) (ret := none) (by decide) rfl ?_
  intro p e s m args below meth c s₁ B hml hv
  obtain ⟨rfl, hsz, hP, hK, hD0, hN⟩ := hv
  have hx := B.exec
  have hb := B.bytes
  have hr := B.returns
  have hts := atoms_spec (ws := wsX5_append) B.pre
  have hown : s.vm.findClass RX5 = some m.cls := findClass_of_methodNamed B.named
  have hlocks := B.notSynchronized
  subst hsz
  have hD := hD0.self (sz := s.heap.size)
  generalize hAe : va_A (wX a cB cI cS cII σ) s.heap.size = A at hD hN ⊢
  have hA : ∀ q : Nat, s.heap.size ≤ q → A q := fun q h => by rw [← hAe]; exact Or.inr h
  clear hAe hD0
  have hS : va_S A s.heap s.heap [] := va_S.rf
  have in5 : ∀ w ∈ u_ws RX5 TX5 2, w ∈ wsX5_append := by decide +kernel
  have k15 := hts (.fieldLink RX5 15 "HouseSorted$Tape" "length" "I") (by decide +kernel)
  have k9 := hts (.fieldLink RX5 9 "HouseSorted$Tape" "bytes" "[B") (by decide +kernel)
  have LP : ∀ n : Nat, (∀ (k : Int32) (w1 : Nat → Int32) (w12 : Nat → Int32) (H : Heap) (locs : List Loc) (ls : Array Slot), 0 ≤ (w1 1).toInt ∧ (w1 1).toInt ≤ 160 → -8 ≤ k.toInt ∧ k.toInt ≤ 56 ∧ k.toInt % 8 = 0 → ((σ 1 1).toInt ≤ 152 → 8 * (w1 1).toInt = 8 * (σ 1 1).toInt + 56 - k.toInt) → (k.toInt + 8).toNat < n → va_P (dC, dI) vwCl (wX a cB cI cS cII (upC (upC σ 1 w1) 12 w12)) H → va_D A (wX a cB cI cS cII (upC (upC σ 1 w1) 12 w12)) → va_S A s.heap H locs → lv_has ls 4 [(0, .ref (a 1)), (1, .long x1), (3, .int k)] → W p l e (headSpec wsX5_append RM_X5_append).room s m ([.ref (a 1), .long x1] : List Value).toArray below meth c H locs 0 0 (MQ below (zQv (dC, dI) (zT cB cI cS cII) (wX a cB cI cS cII) A (fun (σ1 : Cn) => ∃ u1 : Nat → Int32, ∃ u12 : Nat → Int32, σ1 = (upC (upC σ 1 u1) 12 u12) ∧ (0 ≤ (u1 1).toInt ∧ (u1 1).toInt ≤ 160) ∧ ((σ 1 1).toInt ≤ 152 → (u1 1).toInt = (σ 1 1).toInt + 8))) ([.ref (a 1), .long x1] : List Value).toArray s 0 0 A) (F0 m 3 ls [])) := by
    intro n
    induction n with
    | zero => exact by intros; omega
    | succ n ih =>
      · intro k w1 w12 H locs ls g1 g2 g3 hmu hP hD hS hl
        refine lv_iload_n hx hb dX5_append_3 rfl (lv_at hl 2 rfl) ?_
        refine lv_if_lt (tgt := 47) hx hb dX5_append_4 (by decide) (fun c4 => ?_) (fun c4 => ?_)
        · skip
          have ic4 := zlt (a := k.toInt) (b := 0) rfl (by decide) c4
          have hpost : ∃ u1 : Nat → Int32, ∃ u12 : Nat → Int32, (upC (upC σ 1 w1) 12 w12) = (upC (upC σ 1 u1) 12 u12) ∧ (0 ≤ (u1 1).toInt ∧ (u1 1).toInt ≤ 160) ∧ ((σ 1 1).toInt ≤ 152 → (u1 1).toInt = (σ 1 1).toInt + 8) := by refine ⟨_, _, rfl, ?_, ?_⟩ <;> omega
          exact W.vret hx hb hr (fun t9 ht hW => ⟨⟨(upC (upC σ 1 w1) 12 w12), rfl, hpost, by rw [ht]; exact hP, va_K.moved hW.alike hK, hD⟩, hS.F ht⟩) hS.2.2 dX5_append_47
        · skip
          have ic4 := znlt (a := k.toInt) (b := 0) rfl (by decide) c4
          refine lv_aload_n hx hb dX5_append_7 rfl (lv_at hl 0 rfl) ?_
          refine va_get (D := (dC, dI)) (ci := 5) (v := .int (w1 1)) (C := RX5) (T := TX5) (N := 2) hx hb hts in5 hown hK hP 1 rfl rfl 1 (by decide) k15 (fun _ h9 => h9) rfl dX5_append_8 ?_
          refine lv_sipush (v := 160) hx hb dX5_append_11 (by decide) ?_
          refine lv_icmp_ge (tgt := 47) hx hb dX5_append_14 (by decide) (fun c14 => ?_) (fun c14 => ?_)
          · skip
            have ic14 := zle (a := 160) (b := (w1 1).toInt) (by decide) rfl c14
            have hpost : ∃ u1 : Nat → Int32, ∃ u12 : Nat → Int32, (upC (upC σ 1 w1) 12 w12) = (upC (upC σ 1 u1) 12 u12) ∧ (0 ≤ (u1 1).toInt ∧ (u1 1).toInt ≤ 160) ∧ ((σ 1 1).toInt ≤ 152 → (u1 1).toInt = (σ 1 1).toInt + 8) := by refine ⟨_, _, rfl, ?_, ?_⟩ <;> omega
            exact W.vret hx hb hr (fun t9 ht hW => ⟨⟨(upC (upC σ 1 w1) 12 w12), rfl, hpost, by rw [ht]; exact hP, va_K.moved hW.alike hK, hD⟩, hS.F ht⟩) hS.2.2 dX5_append_47
          · skip
            have ic14 := znle (a := 160) (b := (w1 1).toInt) (by decide) rfl c14
            refine lv_aload_n hx hb dX5_append_17 rfl (lv_at hl 0 rfl) ?_
            refine va_get (D := (dC, dI)) (ci := 5) (v := .ref (a 12)) (C := RX5) (T := TX5) (N := 2) hx hb hts in5 hown hK hP 1 rfl rfl 0 (by decide) k9 (fun _ h9 => h9) rfl dX5_append_18 ?_
            refine lv_aload_n hx hb dX5_append_21 rfl (lv_at hl 0 rfl) ?_
            refine va_get (D := (dC, dI)) (ci := 5) (v := .int (w1 1)) (C := RX5) (T := TX5) (N := 2) hx hb hts in5 hown hK hP 1 rfl rfl 1 (by decide) k15 (fun _ h9 => h9) rfl dX5_append_22 ?_
            refine lv_lload_n hx hb dX5_append_25 rfl (lv_at hl 1 rfl) ?_
            refine lv_iload_n hx hb dX5_append_26 rfl (lv_at hl 2 rfl) ?_
            refine lv_lushr hx hb dX5_append_27 rfl ?_
            refine lv_topl (fun v27 ev27 => ?_)
            refine lv_l2i hx hb dX5_append_28 rfl ?_
            refine lv_topi (fun v28 ev28 => ?_)
            refine lv_i2b hx hb dX5_append_29 rfl ?_
            refine lv_topi (fun v29 ev29 => ?_)
            refine va_bast (D := (dC, dI)) (f := w12) hx hb hK hP hD hS 12 0 rfl rfl (i := w1 1) (n := 160) (zin (by omega) (by omega)) dX5_append_30 (fun H locs hP hD hS => ?_)
            have hP : va_P (dC, dI) vwCl (wX a cB cI cS cII (upC (upC σ 1 w1) 12 (upd (w12) (w1 1 : Int32).toNatClampNeg (vp_nar .byte v29)))) H := hP
            have hD : va_D A (wX a cB cI cS cII (upC (upC σ 1 w1) 12 (upd (w12) (w1 1 : Int32).toNatClampNeg (vp_nar .byte v29)))) := hD
            refine lv_aload_n hx hb dX5_append_31 rfl (lv_at hl 0 rfl) ?_
            refine lv_dup hx hb dX5_append_32 rfl ?_
            refine va_get (D := (dC, dI)) (ci := 5) (v := .int (w1 1)) (C := RX5) (T := TX5) (N := 2) hx hb hts in5 hown hK hP 1 rfl rfl 1 (by decide) k15 (fun _ h9 => h9) rfl dX5_append_33 ?_
            refine lv_iconst (v := 1) hx hb dX5_append_36 (by decide) ?_
            refine lv_iadd hx hb dX5_append_37 ?_
            refine lv_topi (fun v37 ev37 => ?_)
            have tv37 : v37.toInt = (w1 1).toInt + 1 := by rw [ev37, zadd, show (1 : Int32).toInt = 1 from by decide]; omega
            refine va_put (D := (dC, dI)) (ci := 5) (v := .int v37) (ty := .int) (C := RX5) (T := TX5) (N := 2) hx hb hts in5 tyX5 tyX5_ok nmX5 hown hK hP hD hS 1 rfl rfl 1 (by decide) k15 (fun _ h9 => h9) rfl (by decide +kernel) rfl rfl (Nat.le_of_ble_eq_true rfl) dX5_append_38 (fun H locs hP hD hS => ?_)
            have hP : va_P (dC, dI) vwCl (wX a cB cI cS cII (upC (upC σ 1 (upd (w1) 1 v37)) 12 (upd (w12) (w1 1 : Int32).toNatClampNeg (vp_nar .byte v29)))) H := hP
            have hD : va_D A (wX a cB cI cS cII (upC (upC σ 1 (upd (w1) 1 v37)) 12 (upd (w12) (w1 1 : Int32).toNatClampNeg (vp_nar .byte v29)))) := hD
            obtain ⟨v41, ev41⟩ : ∃ y : Int32, y = k + (-8) := ⟨_, rfl⟩
            refine lv_iinc (v := v41) (lv' := [(3, .int v41), (0, .ref (a 1)), (1, .long x1)]) hx hb dX5_append_41 hl (k := 2) rfl (by rw [ev41]; rfl) (by decide) rfl (fun ls hl => ?_)
            have tv41 : v41.toInt = k.toInt + (-8) := by rw [ev41, zadd, show ((-8) : Int32).toInt = (-8) from by decide]; omega
            refine lv_goto (tgt := 3) hx hb dX5_append_44 (by decide) ?_
            exact ih (v41) (upd (w1) 1 v37) (upd (w12) (w1 1 : Int32).toNatClampNeg (vp_nar .byte v29)) H locs ls (by show 0 ≤ v37.toInt ∧ v37.toInt ≤ 160; omega) (by omega) (by show (σ 1 1).toInt ≤ 152 → 8 * v37.toInt = 8 * (σ 1 1).toInt + 56 - v41.toInt; omega) (by omega) hP hD hS (lv_sub hl [1, 2, 0] rfl)
  have hl := lv_entry ([.ref (a 1), .long x1]) (n := 4) (Nat.le_of_ble_eq_true rfl)
  rw [lg_entry_eq]
  generalize (lg_sl ([.ref (a 1), .long x1]) ++ List.replicate (4 - (lg_sl ([.ref (a 1), .long x1])).length) Slot.unset).toArray = ls at hl ⊢
  have hl : lv_has ls 4 [(0, .ref (a 1)), (1, .long x1)] := hl
  suffices main : ∀ (H : Heap) (locs : List Loc), va_P (dC, dI) vwCl (wX a cB cI cS cII σ) H → va_D A (wX a cB cI cS cII σ) → va_S A s.heap H locs → W p l e (headSpec wsX5_append RM_X5_append).room s m ([.ref (a 1), .long x1] : List Value).toArray below meth c H locs 0 0 (MQ below (zQv (dC, dI) (zT cB cI cS cII) (wX a cB cI cS cII) A (fun (σ1 : Cn) => ∃ u1 : Nat → Int32, ∃ u12 : Nat → Int32, σ1 = (upC (upC σ 1 u1) 12 u12) ∧ (0 ≤ (u1 1).toInt ∧ (u1 1).toInt ≤ 160) ∧ ((σ 1 1).toInt ≤ 152 → (u1 1).toInt = (σ 1 1).toInt + 8))) ([.ref (a 1), .long x1] : List Value).toArray s 0 0 A) (F0 m 0 ls []) from main s.heap [] hP hD hS
  intro H locs hP hD hS
  refine lv_bipush (v := 56) hx hb dX5_append_0 (by decide) ?_
  refine lv_istore_n (lv' := [(3, .int 56), (0, .ref (a 1)), (1, .long x1)]) hx hb dX5_append_2 rfl hl (by decide) rfl (fun ls hl => ?_)
  exact (LP _) (56) (σ 1) (σ 12) H locs ls (h1) (by decide) (by rw [show (56 : Int32).toInt = 56 from by decide]; omega) (Nat.lt_succ_self _) hP hD hS (lv_sub hl [1, 2, 0] rfl)

abbrev RM_X5_hasBetween : Room := { frames := 0, cells := 0, slots := 0, locals := 0 }
set_option maxHeartbeats 4000000 in
set_option maxRecDepth 100000 in
theorem c_X5_hasBetween (l : Launch) (dC : Nat → ClassId) (dI : Nat → Nat → Nat) (cB cI cS cII : ClassId) (a : Nat → Nat) (N : (Nat → Prop) → State → Prop) (hok : zNok N) (hn : ∀ A U, N A U → zN U) (σ : Cn) (sz : Nat) (x1 : Int32) (x2 : Int32) (x3 : Int32) (h1 : 0 ≤ (σ 1 1).toInt ∧ (σ 1 1).toInt ≤ 160) (h2 : 0 ≤ x1.toInt) : Met l yX5_hasBetween wsX5_hasBetween RM_X5_hasBetween (zPc (dC, dI) (zT cB cI cS cII) N (wX a cB cI cS cII) σ sz [.ref (a 1), .int x1, .int x2, .int x3]) (zQi (dC, dI) (zT cB cI cS cII) (wX a cB cI cS cII) (va_A (wX a cB cI cS cII σ) sz) (fun (r : Int32) (σ1 : Cn) => σ1 = σ ∧ ((r : Int32).toInt = 1 ∧ x1.toInt < (σ 1 1).toInt ∧ x2.toInt ≤ (σ 12 x1.toNatClampNeg).toInt ∧ (σ 12 x1.toNatClampNeg).toInt ≤ x3.toInt ∨ (r : Int32).toInt = 0 ∧ ¬ (x1.toInt < (σ 1 1).toInt ∧ x2.toInt ≤ (σ 12 x1.toNatClampNeg).toInt ∧ (σ 12 x1.toNatClampNeg).toInt ≤ x3.toInt)))) 0 0 (va_A (wX a cB cI cS cII σ) sz) := by
  refine Met.ofW (cc := cX5_hasBetween) (maxL := 4) (ret := (some .boolean)) (by decide) rfl ?_
  intro p e s m args below meth c s₁ B hml hv
  obtain ⟨rfl, hsz, hP, hK, hD0, hN⟩ := hv
  have hx := B.exec
  have hb := B.bytes
  have hr := B.returns
  have hts := atoms_spec (ws := wsX5_hasBetween) B.pre
  have hown : s.vm.findClass RX5 = some m.cls := findClass_of_methodNamed B.named
  have hlocks := B.notSynchronized
  subst hsz
  have hD := hD0.self (sz := s.heap.size)
  generalize hAe : va_A (wX a cB cI cS cII σ) s.heap.size = A at hD hN ⊢
  have hA : ∀ q : Nat, s.heap.size ≤ q → A q := fun q h => by rw [← hAe]; exact Or.inr h
  clear hAe hD0
  have hS : va_S A s.heap s.heap [] := va_S.rf
  have in5 : ∀ w ∈ u_ws RX5 TX5 2, w ∈ wsX5_hasBetween := by decide +kernel
  have k15 := hts (.fieldLink RX5 15 "HouseSorted$Tape" "length" "I") (by decide +kernel)
  have k9 := hts (.fieldLink RX5 9 "HouseSorted$Tape" "bytes" "[B") (by decide +kernel)
  have hl := lv_entry ([.ref (a 1), .int x1, .int x2, .int x3]) (n := 4) (Nat.le_of_ble_eq_true rfl)
  rw [lg_entry_eq]
  generalize (lg_sl ([.ref (a 1), .int x1, .int x2, .int x3]) ++ List.replicate (4 - (lg_sl ([.ref (a 1), .int x1, .int x2, .int x3])).length) Slot.unset).toArray = ls at hl ⊢
  have hl : lv_has ls 4 [(0, .ref (a 1)), (1, .int x1), (2, .int x2), (3, .int x3)] := hl
  suffices main : ∀ (H : Heap) (locs : List Loc), va_P (dC, dI) vwCl (wX a cB cI cS cII σ) H → va_D A (wX a cB cI cS cII σ) → va_S A s.heap H locs → W p l e (headSpec wsX5_hasBetween RM_X5_hasBetween).room s m ([.ref (a 1), .int x1, .int x2, .int x3] : List Value).toArray below meth c H locs 0 0 (MQ below (zQi (dC, dI) (zT cB cI cS cII) (wX a cB cI cS cII) A (fun (r : Int32) (σ1 : Cn) => σ1 = σ ∧ ((r : Int32).toInt = 1 ∧ x1.toInt < (σ 1 1).toInt ∧ x2.toInt ≤ (σ 12 x1.toNatClampNeg).toInt ∧ (σ 12 x1.toNatClampNeg).toInt ≤ x3.toInt ∨ (r : Int32).toInt = 0 ∧ ¬ (x1.toInt < (σ 1 1).toInt ∧ x2.toInt ≤ (σ 12 x1.toNatClampNeg).toInt ∧ (σ 12 x1.toNatClampNeg).toInt ≤ x3.toInt)))) ([.ref (a 1), .int x1, .int x2, .int x3] : List Value).toArray s 0 0 A) (F0 m 0 ls []) from main s.heap [] hP hD hS
  intro H locs hP hD hS
  refine lv_iload_n hx hb dX5_hasBetween_0 rfl (lv_at hl 1 rfl) ?_
  refine lv_aload_n hx hb dX5_hasBetween_1 rfl (lv_at hl 0 rfl) ?_
  refine va_get (D := (dC, dI)) (ci := 5) (v := .int (σ 1 1)) (C := RX5) (T := TX5) (N := 2) hx hb hts in5 hown hK hP 1 rfl rfl 1 (by decide) k15 (fun _ h9 => h9) rfl dX5_hasBetween_2 ?_
  refine lv_icmp_ge (tgt := 32) hx hb dX5_hasBetween_5 (by decide) (fun c5 => ?_) (fun c5 => ?_)
  · skip
    have ic5 := zle (a := (σ 1 1).toInt) (b := x1.toInt) rfl rfl c5
    refine lv_iconst (v := 0) hx hb dX5_hasBetween_32 (by decide) ?_
    have hpost : σ = σ ∧ ((0 : Int32).toInt = 1 ∧ x1.toInt < (σ 1 1).toInt ∧ x2.toInt ≤ (σ 12 x1.toNatClampNeg).toInt ∧ (σ 12 x1.toNatClampNeg).toInt ≤ x3.toInt ∨ (0 : Int32).toInt = 0 ∧ ¬ (x1.toInt < (σ 1 1).toInt ∧ x2.toInt ≤ (σ 12 x1.toNatClampNeg).toInt ∧ (σ 12 x1.toNatClampNeg).toInt ≤ x3.toInt)) := by refine ⟨rfl, ?_⟩; first | (left; exact ⟨by decide, by omega⟩) | (right; exact ⟨by decide, by omega⟩)
    exact W.zret (v := 0) hx hb hr (by decide +kernel) (fun t9 ht hW => ⟨⟨0, σ, rfl, hpost, by rw [ht]; exact hP, va_K.moved hW.alike hK, hD⟩, hS.F ht⟩) hS.2.2 dX5_hasBetween_33
  · skip
    have ic5 := znle (a := (σ 1 1).toInt) (b := x1.toInt) rfl rfl c5
    refine lv_aload_n hx hb dX5_hasBetween_8 rfl (lv_at hl 0 rfl) ?_
    refine va_get (D := (dC, dI)) (ci := 5) (v := .ref (a 12)) (C := RX5) (T := TX5) (N := 2) hx hb hts in5 hown hK hP 1 rfl rfl 0 (by decide) k9 (fun _ h9 => h9) rfl dX5_hasBetween_9 ?_
    refine lv_iload_n hx hb dX5_hasBetween_12 rfl (lv_at hl 1 rfl) ?_
    refine va_bald (D := (dC, dI)) (f := σ 12) hx hb hK hP 12 0 rfl rfl (i := x1) (n := 160) (zin (by omega) (by omega)) dX5_hasBetween_13 ?_
    refine lv_topi (fun v13 ev13 => ?_)
    have tv13 := congrArg Int32.toInt ev13
    refine lv_iload_n hx hb dX5_hasBetween_14 rfl (lv_at hl 2 rfl) ?_
    refine lv_icmp_lt (tgt := 32) hx hb dX5_hasBetween_15 (by decide) (fun c15 => ?_) (fun c15 => ?_)
    · skip
      have ic15 := zlt (a := v13.toInt) (b := x2.toInt) rfl rfl c15
      refine lv_iconst (v := 0) hx hb dX5_hasBetween_32 (by decide) ?_
      have hpost : σ = σ ∧ ((0 : Int32).toInt = 1 ∧ x1.toInt < (σ 1 1).toInt ∧ x2.toInt ≤ (σ 12 x1.toNatClampNeg).toInt ∧ (σ 12 x1.toNatClampNeg).toInt ≤ x3.toInt ∨ (0 : Int32).toInt = 0 ∧ ¬ (x1.toInt < (σ 1 1).toInt ∧ x2.toInt ≤ (σ 12 x1.toNatClampNeg).toInt ∧ (σ 12 x1.toNatClampNeg).toInt ≤ x3.toInt)) := by refine ⟨rfl, ?_⟩; first | (left; exact ⟨by decide, by omega⟩) | (right; exact ⟨by decide, by omega⟩)
      exact W.zret (v := 0) hx hb hr (by decide +kernel) (fun t9 ht hW => ⟨⟨0, σ, rfl, hpost, by rw [ht]; exact hP, va_K.moved hW.alike hK, hD⟩, hS.F ht⟩) hS.2.2 dX5_hasBetween_33
    · skip
      have ic15 := znlt (a := v13.toInt) (b := x2.toInt) rfl rfl c15
      refine lv_aload_n hx hb dX5_hasBetween_18 rfl (lv_at hl 0 rfl) ?_
      refine va_get (D := (dC, dI)) (ci := 5) (v := .ref (a 12)) (C := RX5) (T := TX5) (N := 2) hx hb hts in5 hown hK hP 1 rfl rfl 0 (by decide) k9 (fun _ h9 => h9) rfl dX5_hasBetween_19 ?_
      refine lv_iload_n hx hb dX5_hasBetween_22 rfl (lv_at hl 1 rfl) ?_
      refine va_bald (D := (dC, dI)) (f := σ 12) hx hb hK hP 12 0 rfl rfl (i := x1) (n := 160) (zin (by omega) (by omega)) dX5_hasBetween_23 ?_
      refine lv_topi (fun v23 ev23 => ?_)
      have tv23 := congrArg Int32.toInt ev23
      refine lv_iload_n hx hb dX5_hasBetween_24 rfl (lv_at hl 3 rfl) ?_
      refine lv_icmp_gt (tgt := 32) hx hb dX5_hasBetween_25 (by decide) (fun c25 => ?_) (fun c25 => ?_)
      · skip
        have ic25 := zlt (a := x3.toInt) (b := v23.toInt) rfl rfl c25
        refine lv_iconst (v := 0) hx hb dX5_hasBetween_32 (by decide) ?_
        have hpost : σ = σ ∧ ((0 : Int32).toInt = 1 ∧ x1.toInt < (σ 1 1).toInt ∧ x2.toInt ≤ (σ 12 x1.toNatClampNeg).toInt ∧ (σ 12 x1.toNatClampNeg).toInt ≤ x3.toInt ∨ (0 : Int32).toInt = 0 ∧ ¬ (x1.toInt < (σ 1 1).toInt ∧ x2.toInt ≤ (σ 12 x1.toNatClampNeg).toInt ∧ (σ 12 x1.toNatClampNeg).toInt ≤ x3.toInt)) := by refine ⟨rfl, ?_⟩; first | (left; exact ⟨by decide, by omega⟩) | (right; exact ⟨by decide, by omega⟩)
        exact W.zret (v := 0) hx hb hr (by decide +kernel) (fun t9 ht hW => ⟨⟨0, σ, rfl, hpost, by rw [ht]; exact hP, va_K.moved hW.alike hK, hD⟩, hS.F ht⟩) hS.2.2 dX5_hasBetween_33
      · skip
        have ic25 := znlt (a := x3.toInt) (b := v23.toInt) rfl rfl c25
        refine lv_iconst (v := 1) hx hb dX5_hasBetween_28 (by decide) ?_
        refine lv_goto (tgt := 33) hx hb dX5_hasBetween_29 (by decide) ?_
        have hpost : σ = σ ∧ ((1 : Int32).toInt = 1 ∧ x1.toInt < (σ 1 1).toInt ∧ x2.toInt ≤ (σ 12 x1.toNatClampNeg).toInt ∧ (σ 12 x1.toNatClampNeg).toInt ≤ x3.toInt ∨ (1 : Int32).toInt = 0 ∧ ¬ (x1.toInt < (σ 1 1).toInt ∧ x2.toInt ≤ (σ 12 x1.toNatClampNeg).toInt ∧ (σ 12 x1.toNatClampNeg).toInt ≤ x3.toInt)) := by refine ⟨rfl, ?_⟩; first | (left; exact ⟨by decide, by omega⟩) | (right; exact ⟨by decide, by omega⟩)
        exact W.zret (v := 1) hx hb hr (by decide +kernel) (fun t9 ht hW => ⟨⟨1, σ, rfl, hpost, by rw [ht]; exact hP, va_K.moved hW.alike hK, hD⟩, hS.F ht⟩) hS.2.2 dX5_hasBetween_33

