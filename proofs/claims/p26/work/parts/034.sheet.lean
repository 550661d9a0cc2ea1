abbrev RM_X4_renew : Room := { frames := 0, cells := 0, slots := 0, locals := 0 }
set_option maxHeartbeats 4000000 in
set_option maxRecDepth 100000 in
theorem c_X4_renew_8 (l : Launch) (dC : Nat → ClassId) (dI : Nat → Nat → Nat) (cB cI cS cII : ClassId) (a : Nat → Nat) (N : (Nat → Prop) → State → Prop) (hok : zNok N) (hn : ∀ A U, N A U → zN U) (σ : Cn) (sz : Nat) (x1 : Int32) (x2 : Int32)  : Met l yX4_renew wsX4_renew RM_X4_renew (zPc (dC, dI) (zT cB cI cS cII) N (wX a cB cI cS cII) σ sz [.ref (a 8), .int x1, .int x2]) (zQv (dC, dI) (zT cB cI cS cII) (wX a cB cI cS cII) (va_A (wX a cB cI cS cII σ) sz) (fun (σ1 : Cn) => ∃ u8 : Nat → Int32, ∃ u38 : Nat → Int32, σ1 = (upC (upC σ 8 u8) 38 u38) ∧ u8 0 = x1 ∧ u8 1 = x2)) 0 0 (va_A (wX a cB cI cS cII σ) sz) := by
  refine Met.ofW (cc := cX4_renew) (maxL := 4) (ret := none) (by decide) rfl ?_
  intro p e s m args below meth c s₁ B hml hv
  obtain ⟨rfl, hsz, hP, hK, hD0, hN⟩ := hv
  have hx := B.exec
  have hb := B.bytes
  have hr := B.returns
  have hts := atoms_spec (ws := wsX4_renew) B.pre
  have hown : s.vm.findClass RX4 = some m.cls := findClass_of_methodNamed B.named
  have hlocks := B.notSynchronized
  subst hsz
  have hD := hD0.self (sz := s.heap.size)
  generalize hAe : va_A (wX a cB cI cS cII σ) s.heap.size = A at hD hN ⊢
  have hA : ∀ q : Nat, s.heap.size ≤ q → A q := fun q h => by rw [← hAe]; exact Or.inr h
  clear hAe hD0
  have hS : va_S A s.heap s.heap [] := va_S.rf
  have in4 : ∀ w ∈ u_ws RX4 TX4 3, w ∈ wsX4_renew := by decide +kernel
  have k15 := hts (.fieldLink RX4 15 "HouseSorted$Sheet" "cells" "[I") (by decide +kernel)
  have k19 := hts (.fieldLink RX4 19 "HouseSorted$Sheet" "size" "I") (by decide +kernel)
  have k9 := hts (.fieldLink RX4 9 "HouseSorted$Sheet" "lane" "I") (by decide +kernel)
  have LP : ∀ n : Nat, (∀ (j : Int32) (w8 : Nat → Int32) (w38 : Nat → Int32) (H : Heap) (locs : List Loc) (ls : Array Slot), 0 ≤ j.toInt ∧ j.toInt ≤ 60 → w8 0 = x1 ∧ w8 1 = x2 → (60 - j.toInt).toNat < n → va_P (dC, dI) vwCl (wX a cB cI cS cII (upC (upC σ 8 w8) 38 w38)) H → va_D A (wX a cB cI cS cII (upC (upC σ 8 w8) 38 w38)) → va_S A s.heap H locs → lv_has ls 4 [(0, .ref (a 8)), (3, .int j)] → W p l e (headSpec wsX4_renew RM_X4_renew).room s m ([.ref (a 8), .int x1, .int x2] : List Value).toArray below meth c H locs 0 0 (MQ below (zQv (dC, dI) (zT cB cI cS cII) (wX a cB cI cS cII) A (fun (σ1 : Cn) => ∃ u8 : Nat → Int32, ∃ u38 : Nat → Int32, σ1 = (upC (upC σ 8 u8) 38 u38) ∧ u8 0 = x1 ∧ u8 1 = x2)) ([.ref (a 8), .int x1, .int x2] : List Value).toArray s 0 0 A) (F0 m 12 ls [])) := by
    intro n
    induction n with
    | zero => exact by intros; omega
    | succ n ih =>
      · intro j w8 w38 H locs ls g1 g2 hmu hP hD hS hl
        refine lv_iload_n hx hb dX4_renew_12 rfl (lv_at hl 1 rfl) ?_
        refine lv_bipush (v := 60) hx hb dX4_renew_13 (by decide) ?_
        refine lv_icmp_ge (tgt := 31) hx hb dX4_renew_15 (by decide) (fun c15 => ?_) (fun c15 => ?_)
        · skip
          have ic15 := zle (a := 60) (b := j.toInt) (by decide) rfl c15
          have hpost : ∃ u8 : Nat → Int32, ∃ u38 : Nat → Int32, (upC (upC σ 8 w8) 38 w38) = (upC (upC σ 8 u8) 38 u38) ∧ u8 0 = x1 ∧ u8 1 = x2 := by exact ⟨_, _, rfl, g2⟩
          exact W.vret hx hb hr (fun t9 ht hW => ⟨⟨(upC (upC σ 8 w8) 38 w38), rfl, hpost, by rw [ht]; exact hP, va_K.moved hW.alike hK, hD⟩, hS.F ht⟩) hS.2.2 dX4_renew_31
        · skip
          have ic15 := znle (a := 60) (b := j.toInt) (by decide) rfl c15
          refine lv_aload_n hx hb dX4_renew_18 rfl (lv_at hl 0 rfl) ?_
          refine va_get (D := (dC, dI)) (ci := 4) (v := .ref (a 38)) (C := RX4) (T := TX4) (N := 3) hx hb hts in4 hown hK hP 8 rfl rfl 2 (by decide) k15 (fun _ h9 => h9) rfl dX4_renew_19 ?_
          refine lv_iload_n hx hb dX4_renew_22 rfl (lv_at hl 1 rfl) ?_
          refine lv_iconst (v := 0) hx hb dX4_renew_23 (by decide) ?_
          refine va_iast (D := (dC, dI)) (f := w38) hx hb hK hP hD hS 38 1 rfl rfl (i := j) (n := 60) (zin (by omega) (by omega)) dX4_renew_24 (fun H locs hP hD hS => ?_)
          have hP : va_P (dC, dI) vwCl (wX a cB cI cS cII (upC (upC σ 8 w8) 38 (upd (w38) (j).toNatClampNeg 0))) H := hP
          have hD : va_D A (wX a cB cI cS cII (upC (upC σ 8 w8) 38 (upd (w38) (j).toNatClampNeg 0))) := hD
          obtain ⟨v25, ev25⟩ : ∃ y : Int32, y = j + 1 := ⟨_, rfl⟩
          refine lv_iinc (v := v25) (lv' := [(3, .int v25), (0, .ref (a 8))]) hx hb dX4_renew_25 hl (k := 1) rfl (by rw [ev25]; rfl) (by decide) rfl (fun ls hl => ?_)
          have tv25 : v25.toInt = j.toInt + 1 := by rw [ev25, zadd, show (1 : Int32).toInt = 1 from by decide]; omega
          refine lv_goto (tgt := 12) hx hb dX4_renew_28 (by decide) ?_
          exact ih (v25) (w8) (upd (w38) (j).toNatClampNeg 0) H locs ls (by omega) (g2) (by omega) hP hD hS (lv_sub hl [1, 0] rfl)
  have hl := lv_entry ([.ref (a 8), .int x1, .int x2]) (n := 4) (Nat.le_of_ble_eq_true rfl)
  rw [lg_entry_eq]
  generalize (lg_sl ([.ref (a 8), .int x1, .int x2]) ++ List.replicate (4 - (lg_sl ([.ref (a 8), .int x1, .int x2])).length) Slot.unset).toArray = ls at hl ⊢
  have hl : lv_has ls 4 [(0, .ref (a 8)), (1, .int x1), (2, .int x2)] := hl
  suffices main : ∀ (H : Heap) (locs : List Loc), va_P (dC, dI) vwCl (wX a cB cI cS cII σ) H → va_D A (wX a cB cI cS cII σ) → va_S A s.heap H locs → W p l e (headSpec wsX4_renew RM_X4_renew).room s m ([.ref (a 8), .int x1, .int x2] : List Value).toArray below meth c H locs 0 0 (MQ below (zQv (dC, dI) (zT cB cI cS cII) (wX a cB cI cS cII) A (fun (σ1 : Cn) => ∃ u8 : Nat → Int32, ∃ u38 : Nat → Int32, σ1 = (upC (upC σ 8 u8) 38 u38) ∧ u8 0 = x1 ∧ u8 1 = x2)) ([.ref (a 8), .int x1, .int x2] : List Value).toArray s 0 0 A) (F0 m 0 ls []) from main s.heap [] hP hD hS
  intro H locs hP hD hS
  refine lv_aload_n hx hb dX4_renew_0 rfl (lv_at hl 0 rfl) ?_
  refine lv_iload_n hx hb dX4_renew_1 rfl (lv_at hl 1 rfl) ?_
  refine va_put (D := (dC, dI)) (ci := 4) (v := .int x1) (ty := .int) (C := RX4) (T := TX4) (N := 3) hx hb hts in4 tyX4 tyX4_ok nmX4 hown hK hP hD hS 8 rfl rfl 0 (by decide) k9 (fun _ h9 => h9) rfl (by decide +kernel) rfl rfl (Nat.le_of_ble_eq_true rfl) dX4_renew_2 (fun H locs hP hD hS => ?_)
  have hP : va_P (dC, dI) vwCl (wX a cB cI cS cII (upC σ 8 (upd (σ 8) 0 x1))) H := hP
  have hD : va_D A (wX a cB cI cS cII (upC σ 8 (upd (σ 8) 0 x1))) := hD
  refine lv_aload_n hx hb dX4_renew_5 rfl (lv_at hl 0 rfl) ?_
  refine lv_iload_n hx hb dX4_renew_6 rfl (lv_at hl 2 rfl) ?_
  refine va_put (D := (dC, dI)) (ci := 4) (v := .int x2) (ty := .int) (C := RX4) (T := TX4) (N := 3) hx hb hts in4 tyX4 tyX4_ok nmX4 hown hK hP hD hS 8 rfl rfl 1 (by decide) k19 (fun _ h9 => h9) rfl (by decide +kernel) rfl rfl (Nat.le_of_ble_eq_true rfl) dX4_renew_7 (fun H locs hP hD hS => ?_)
  have hP : va_P (dC, dI) vwCl (wX a cB cI cS cII (upC σ 8 (upd (upd (σ 8) 0 x1) 1 x2))) H := hP
  have hD : va_D A (wX a cB cI cS cII (upC σ 8 (upd (upd (σ 8) 0 x1) 1 x2))) := hD
  refine lv_iconst (v := 0) hx hb dX4_renew_10 (by decide) ?_
  refine lv_istore_n (lv' := [(3, .int 0), (0, .ref (a 8)), (1, .int x1), (2, .int x2)]) hx hb dX4_renew_11 rfl hl (by decide) rfl (fun ls hl => ?_)
  exact (LP _) (0) (upd (upd (σ 8) 0 x1) 1 x2) (σ 38) H locs ls (by decide) (⟨rfl, rfl⟩) (Nat.lt_succ_self _) hP hD hS (lv_sub hl [1, 0] rfl)

abbrev RM_X4_hasCell : Room := { frames := 0, cells := 0, slots := 0, locals := 0 }
set_option maxHeartbeats 4000000 in
set_option maxRecDepth 100000 in
theorem c_X4_hasCell_8 (l : Launch) (dC : Nat → ClassId) (dI : Nat → Nat → Nat) (cB cI cS cII : ClassId) (a : Nat → Nat) (N : (Nat → Prop) → State → Prop) (hok : zNok N) (hn : ∀ A U, N A U → zN U) (σ : Cn) (sz : Nat) (x1 : Int32)  : Met l yX4_hasCell wsX4_hasCell RM_X4_hasCell (zPc (dC, dI) (zT cB cI cS cII) N (wX a cB cI cS cII) σ sz [.ref (a 8), .int x1]) (zQi (dC, dI) (zT cB cI cS cII) (wX a cB cI cS cII) (va_A (wX a cB cI cS cII σ) sz) (fun (r : Int32) (σ1 : Cn) => σ1 = σ ∧ ((r : Int32).toInt = 1 ∧ 0 ≤ x1.toInt ∧ x1.toInt < (σ 8 1).toInt ∨ (r : Int32).toInt = 0 ∧ ¬ (0 ≤ x1.toInt ∧ x1.toInt < (σ 8 1).toInt)))) 0 0 (va_A (wX a cB cI cS cII σ) sz) := by
  refine Met.ofW (cc := cX4_hasCell) (maxL := 2) (ret := (some .boolean)) (by decide) rfl ?_
  intro p e s m args below meth c s₁ B hml hv
  obtain ⟨rfl, hsz, hP, hK, hD0, hN⟩ := hv
  have hx := B.exec
  have hb := B.bytes
  have hr := B.returns
  have hts := atoms_spec (ws := wsX4_hasCell) B.pre
  have hown : s.vm.findClass RX4 = some m.cls := findClass_of_methodNamed B.named
  have hlocks := B.notSynchronized
  subst hsz
  have hD := hD0.self (sz := s.heap.size)
  generalize hAe : va_A (wX a cB cI cS cII σ) s.heap.size = A at hD hN ⊢
  have hA : ∀ q : Nat, s.heap.size ≤ q → A q := fun q h => by rw [← hAe]; exact Or.inr h
  clear hAe hD0
  have hS : va_S A s.heap s.heap [] := va_S.rf
  have in4 : ∀ w ∈ u_ws RX4 TX4 3, w ∈ wsX4_hasCell := by decide +kernel
  have k19 := hts (.fieldLink RX4 19 "HouseSorted$Sheet" "size" "I") (by decide +kernel)
  have hl := lv_entry ([.ref (a 8), .int x1]) (n := 2) (Nat.le_of_ble_eq_true rfl)
  rw [lg_entry_eq]
  generalize (lg_sl ([.ref (a 8), .int x1]) ++ List.replicate (2 - (lg_sl ([.ref (a 8), .int x1])).length) Slot.unset).toArray = ls at hl ⊢
  have hl : lv_has ls 2 [(0, .ref (a 8)), (1, .int x1)] := hl
  suffices main : ∀ (H : Heap) (locs : List Loc), va_P (dC, dI) vwCl (wX a cB cI cS cII σ) H → va_D A (wX a cB cI cS cII σ) → va_S A s.heap H locs → W p l e (headSpec wsX4_hasCell RM_X4_hasCell).room s m ([.ref (a 8), .int x1] : List Value).toArray below meth c H locs 0 0 (MQ below (zQi (dC, dI) (zT cB cI cS cII) (wX a cB cI cS cII) A (fun (r : Int32) (σ1 : Cn) => σ1 = σ ∧ ((r : Int32).toInt = 1 ∧ 0 ≤ x1.toInt ∧ x1.toInt < (σ 8 1).toInt ∨ (r : Int32).toInt = 0 ∧ ¬ (0 ≤ x1.toInt ∧ x1.toInt < (σ 8 1).toInt)))) ([.ref (a 8), .int x1] : List Value).toArray s 0 0 A) (F0 m 0 ls []) from main s.heap [] hP hD hS
  intro H locs hP hD hS
  refine lv_iload_n hx hb dX4_hasCell_0 rfl (lv_at hl 1 rfl) ?_
  refine lv_if_lt (tgt := 16) hx hb dX4_hasCell_1 (by decide) (fun c1 => ?_) (fun c1 => ?_)
  · skip
    have ic1 := zlt (a := x1.toInt) (b := 0) rfl (by decide) c1
    refine lv_iconst (v := 0) hx hb dX4_hasCell_16 (by decide) ?_
    have hpost : σ = σ ∧ ((0 : Int32).toInt = 1 ∧ 0 ≤ x1.toInt ∧ x1.toInt < (σ 8 1).toInt ∨ (0 : Int32).toInt = 0 ∧ ¬ (0 ≤ x1.toInt ∧ x1.toInt < (σ 8 1).toInt)) := by exact ⟨rfl, by first | (left; exact ⟨by decide, by omega⟩) | (right; exact ⟨by decide, by omega⟩)⟩
    exact W.zret (v := 0) hx hb hr (by decide +kernel) (fun t9 ht hW => ⟨⟨0, σ, rfl, hpost, by rw [ht]; exact hP, va_K.moved hW.alike hK, hD⟩, hS.F ht⟩) hS.2.2 dX4_hasCell_17
  · skip
    have ic1 := znlt (a := x1.toInt) (b := 0) rfl (by decide) c1
    refine lv_iload_n hx hb dX4_hasCell_4 rfl (lv_at hl 1 rfl) ?_
    refine lv_aload_n hx hb dX4_hasCell_5 rfl (lv_at hl 0 rfl) ?_
    refine va_get (D := (dC, dI)) (ci := 4) (v := .int (σ 8 1)) (C := RX4) (T := TX4) (N := 3) hx hb hts in4 hown hK hP 8 rfl rfl 1 (by decide) k19 (fun _ h9 => h9) rfl dX4_hasCell_6 ?_
    refine lv_icmp_ge (tgt := 16) hx hb dX4_hasCell_9 (by decide) (fun c9 => ?_) (fun c9 => ?_)
    · skip
      have ic9 := zle (a := (σ 8 1).toInt) (b := x1.toInt) rfl rfl c9
      refine lv_iconst (v := 0) hx hb dX4_hasCell_16 (by decide) ?_
      have hpost : σ = σ ∧ ((0 : Int32).toInt = 1 ∧ 0 ≤ x1.toInt ∧ x1.toInt < (σ 8 1).toInt ∨ (0 : Int32).toInt = 0 ∧ ¬ (0 ≤ x1.toInt ∧ x1.toInt < (σ 8 1).toInt)) := by exact ⟨rfl, by first | (left; exact ⟨by decide, by omega⟩) | (right; exact ⟨by decide, by omega⟩)⟩
      exact W.zret (v := 0) hx hb hr (by decide +kernel) (fun t9 ht hW => ⟨⟨0, σ, rfl, hpost, by rw [ht]; exact hP, va_K.moved hW.alike hK, hD⟩, hS.F ht⟩) hS.2.2 dX4_hasCell_17
    · skip
      have ic9 := znle (a := (σ 8 1).toInt) (b := x1.toInt) rfl rfl c9
      refine lv_iconst (v := 1) hx hb dX4_hasCell_12 (by decide) ?_
      refine lv_goto (tgt := 17) hx hb dX4_hasCell_13 (by decide) ?_
      have hpost : σ = σ ∧ ((1 : Int32).toInt = 1 ∧ 0 ≤ x1.toInt ∧ x1.toInt < (σ 8 1).toInt ∨ (1 : Int32).toInt = 0 ∧ ¬ (0 ≤ x1.toInt ∧ x1.toInt < (σ 8 1).toInt)) := by exact ⟨rfl, by first | (left; exact ⟨by decide, by omega⟩) | (right; exact ⟨by decide, by omega⟩)⟩
      exact W.zret (v := 1) hx hb hr (by decide +kernel) (fun t9 ht hW => ⟨⟨1, σ, rfl, hpost, by rw [ht]; exact hP, va_K.moved hW.alike hK, hD⟩, hS.F ht⟩) hS.2.2 dX4_hasCell_17

abbrev RM_X4_put : Room := { frames := 0, cells := 0, slots := 0, locals := 0 }
set_option maxHeartbeats 4000000 in
set_option maxRecDepth 100000 in
theorem c_X4_put_8 (l : Launch) (dC : Nat → ClassId) (dI : Nat → Nat → Nat) (cB cI cS cII : ClassId) (a : Nat → Nat) (N : (Nat → Prop) → State → Prop) (hok : zNok N) (hn : ∀ A U, N A U → zN U) (σ : Cn) (sz : Nat) (x1 : Int32) (x2 : Int32) (h1 : 0 ≤ x1.toInt ∧ x1.toInt < 60) : Met l yX4_put wsX4_put RM_X4_put (zPc (dC, dI) (zT cB cI cS cII) N (wX a cB cI cS cII) σ sz [.ref (a 8), .int x1, .int x2]) (zQv (dC, dI) (zT cB cI cS cII) (wX a cB cI cS cII) (va_A (wX a cB cI cS cII σ) sz) (fun (σ1 : Cn) => ∃ u38 : Nat → Int32, σ1 = (upC σ 38 u38) ∧ True)) 0 0 (va_A (wX a cB cI cS cII σ) sz) := by
  refine Met.ofW (cc := cX4_put) (maxL := 3) (ret := none) (by decide) rfl ?_
  intro p e s m args below meth c s₁ B hml hv
  obtain ⟨rfl, hsz, hP, hK, hD0, hN⟩ := hv
  have hx := B.exec
  have hb := B.bytes
  have hr := B.returns
  have hts := atoms_spec (ws := wsX4_put) B.pre
  have hown : s.vm.findClass RX4 = some m.cls := findClass_of_methodNamed B.named
  have hlocks := B.notSynchronized
  subst hsz
  have hD := hD0.self (sz := s.heap.size)
  generalize hAe : va_A (wX a cB cI cS cII σ) s.heap.size = A at hD hN ⊢
  have hA : ∀ q : Nat, s.heap.size ≤ q → A q := fun q h => by rw [← hAe]; exact Or.inr h
  clear hAe hD0
  have hS : va_S A s.heap s.heap [] := va_S.rf
  have in4 : ∀ w ∈ u_ws RX4 TX4 3, w ∈ wsX4_put := by decide +kernel
  have k15 := hts (.fieldLink RX4 15 "HouseSorted$Sheet" "cells" "[I") (by decide +kernel)
  have k9 := hts (.fieldLink RX4 9 "HouseSorted$Sheet" "lane" "I") (by decide +kernel)
  have hl := lv_entry ([.ref (a 8), .int x1, .int x2]) (n := 3) (Nat.le_of_ble_eq_true rfl)
  rw [lg_entry_eq]
  generalize (lg_sl ([.ref (a 8), .int x1, .int x2]) ++ List.replicate (3 - (lg_sl ([.ref (a 8), .int x1, .int x2])).length) Slot.unset).toArray = ls at hl ⊢
  have hl : lv_has ls 3 [(0, .ref (a 8)), (1, .int x1), (2, .int x2)] := hl
  suffices main : ∀ (H : Heap) (locs : List Loc), va_P (dC, dI) vwCl (wX a cB cI cS cII σ) H → va_D A (wX a cB cI cS cII σ) → va_S A s.heap H locs → W p l e (headSpec wsX4_put RM_X4_put).room s m ([.ref (a 8), .int x1, .int x2] : List Value).toArray below meth c H locs 0 0 (MQ below (zQv (dC, dI) (zT cB cI cS cII) (wX a cB cI cS cII) A (fun (σ1 : Cn) => ∃ u38 : Nat → Int32, σ1 = (upC σ 38 u38) ∧ True)) ([.ref (a 8), .int x1, .int x2] : List Value).toArray s 0 0 A) (F0 m 0 ls []) from main s.heap [] hP hD hS
  intro H locs hP hD hS
  refine lv_aload_n hx hb dX4_put_0 rfl (lv_at hl 0 rfl) ?_
  refine va_get (D := (dC, dI)) (ci := 4) (v := .ref (a 38)) (C := RX4) (T := TX4) (N := 3) hx hb hts in4 hown hK hP 8 rfl rfl 2 (by decide) k15 (fun _ h9 => h9) rfl dX4_put_1 ?_
  refine lv_iload_n hx hb dX4_put_4 rfl (lv_at hl 1 rfl) ?_
  refine lv_aload_n hx hb dX4_put_5 rfl (lv_at hl 0 rfl) ?_
  refine va_get (D := (dC, dI)) (ci := 4) (v := .int (σ 8 0)) (C := RX4) (T := TX4) (N := 3) hx hb hts in4 hown hK hP 8 rfl rfl 0 (by decide) k9 (fun _ h9 => h9) rfl dX4_put_6 ?_
  refine lv_if_ne (tgt := 17) hx hb dX4_put_9 (by decide) (fun c9 => ?_) (fun c9 => ?_)
  · skip
    have ic9 := zneq (a := (σ 8 0).toInt) (b := 0) rfl (by decide) c9
    refine lv_aload_n hx hb dX4_put_17 rfl (lv_at hl 0 rfl) ?_
    refine va_get (D := (dC, dI)) (ci := 4) (v := .int (σ 8 0)) (C := RX4) (T := TX4) (N := 3) hx hb hts in4 hown hK hP 8 rfl rfl 0 (by decide) k9 (fun _ h9 => h9) rfl dX4_put_18 ?_
    refine lv_iconst (v := 1) hx hb dX4_put_21 (by decide) ?_
    refine lv_icmp_ne (tgt := 30) hx hb dX4_put_22 (by decide) (fun c22 => ?_) (fun c22 => ?_)
    · skip
      have ic22 := zneq (a := (σ 8 0).toInt) (b := 1) rfl (by decide) c22
      refine lv_iload_n hx hb dX4_put_30 rfl (lv_at hl 2 rfl) ?_
      refine va_iast (D := (dC, dI)) (f := σ 38) hx hb hK hP hD hS 38 1 rfl rfl (i := x1) (n := 60) (zin (by omega) (by omega)) dX4_put_31 (fun H locs hP hD hS => ?_)
      have hP : va_P (dC, dI) vwCl (wX a cB cI cS cII (upC σ 38 (upd (σ 38) (x1).toNatClampNeg x2))) H := hP
      have hD : va_D A (wX a cB cI cS cII (upC σ 38 (upd (σ 38) (x1).toNatClampNeg x2))) := hD
      have hpost : ∃ u38 : Nat → Int32, (upC σ 38 (upd (σ 38) (x1).toNatClampNeg x2)) = (upC σ 38 u38) ∧ True := by exact ⟨_, rfl, trivial⟩
      exact W.vret hx hb hr (fun t9 ht hW => ⟨⟨(upC σ 38 (upd (σ 38) (x1).toNatClampNeg x2)), rfl, hpost, by rw [ht]; exact hP, va_K.moved hW.alike hK, hD⟩, hS.F ht⟩) hS.2.2 dX4_put_32
    · skip
      have ic22 := zeq (a := (σ 8 0).toInt) (b := 1) rfl (by decide) c22
      refine lv_iload_n hx hb dX4_put_25 rfl (lv_at hl 2 rfl) ?_
      refine lv_i2s hx hb dX4_put_26 rfl ?_
      refine lv_topi (fun v26 ev26 => ?_)
      refine lv_goto (tgt := 31) hx hb dX4_put_27 (by decide) ?_
      refine va_iast (D := (dC, dI)) (f := σ 38) hx hb hK hP hD hS 38 1 rfl rfl (i := x1) (n := 60) (zin (by omega) (by omega)) dX4_put_31 (fun H locs hP hD hS => ?_)
      have hP : va_P (dC, dI) vwCl (wX a cB cI cS cII (upC σ 38 (upd (σ 38) (x1).toNatClampNeg v26))) H := hP
      have hD : va_D A (wX a cB cI cS cII (upC σ 38 (upd (σ 38) (x1).toNatClampNeg v26))) := hD
      have hpost : ∃ u38 : Nat → Int32, (upC σ 38 (upd (σ 38) (x1).toNatClampNeg v26)) = (upC σ 38 u38) ∧ True := by exact ⟨_, rfl, trivial⟩
      exact W.vret hx hb hr (fun t9 ht hW => ⟨⟨(upC σ 38 (upd (σ 38) (x1).toNatClampNeg v26)), rfl, hpost, by rw [ht]; exact hP, va_K.moved hW.alike hK, hD⟩, hS.F ht⟩) hS.2.2 dX4_put_32
  · skip
    have ic9 := zeq (a := (σ 8 0).toInt) (b := 0) rfl (by decide) c9
    refine lv_iload_n hx hb dX4_put_12 rfl (lv_at hl 2 rfl) ?_
    refine lv_i2b hx hb dX4_put_13 rfl ?_
    refine lv_topi (fun v13 ev13 => ?_)
    refine lv_goto (tgt := 31) hx hb dX4_put_14 (by decide) ?_
    refine va_iast (D := (dC, dI)) (f := σ 38) hx hb hK hP hD hS 38 1 rfl rfl (i := x1) (n := 60) (zin (by omega) (by omega)) dX4_put_31 (fun H locs hP hD hS => ?_)
    have hP : va_P (dC, dI) vwCl (wX a cB cI cS cII (upC σ 38 (upd (σ 38) (x1).toNatClampNeg v13))) H := hP
    have hD : va_D A (wX a cB cI cS cII (upC σ 38 (upd (σ 38) (x1).toNatClampNeg v13))) := hD
    have hpost : ∃ u38 : Nat → Int32, (upC σ 38 (upd (σ 38) (x1).toNatClampNeg v13)) = (upC σ 38 u38) ∧ True := by exact ⟨_, rfl, trivial⟩
    exact W.vret hx hb hr (fun t9 ht hW => ⟨⟨(upC σ 38 (upd (σ 38) (x1).toNatClampNeg v13)), rfl, hpost, by rw [ht]; exact hP, va_K.moved hW.alike hK, hD⟩, hS.F ht⟩) hS.2.2 dX4_put_32

abbrev RM_X4_refusal : Room := { frames := 1, cells := 0, slots := 0, locals := 22 }
set_option maxHeartbeats 4000000 in
set_option maxRecDepth 100000 in
theorem c_X4_refusal_8 (l : Launch) (dC : Nat → ClassId) (dI : Nat → Nat → Nat) (cB cI cS cII : ClassId) (a : Nat → Nat) (N : (Nat → Prop) → State → Prop) (hok : zNok N) (hn : ∀ A U, N A U → zN U) (σ : Cn) (sz : Nat) (x1 : Int32) (x2 : Int32) (x3 : Int32) (h1 : 0 ≤ (σ 8 1).toInt ∧ (σ 8 1).toInt ≤ 60) (h3 : 0 ≤ x3.toInt ∧ x3.toInt ≤ 10) : Met l yX4_refusal wsX4_refusal RM_X4_refusal (zPc (dC, dI) (zT cB cI cS cII) N (wX a cB cI cS cII) σ sz [.ref (a 8), .int x1, .int x2, .int x3]) (zQi (dC, dI) (zT cB cI cS cII) (wX a cB cI cS cII) (va_A (wX a cB cI cS cII σ) sz) (fun (r : Int32) (σ1 : Cn) => σ1 = σ ∧ ((r : Int32).toInt = 0 → ∀ t : Nat, (t : Int) < x3.toInt → 0 ≤ x2.toInt + t ∧ x2.toInt + t < 60))) 0 0 (va_A (wX a cB cI cS cII σ) sz) := by
  refine Met.ofW (cc := cX4_refusal) (maxL := 5) (ret := (some .int)) (by decide) rfl ?_
  intro p e s m args below meth c s₁ B hml hv
  obtain ⟨rfl, hsz, hP, hK, hD0, hN⟩ := hv
  have hx := B.exec
  have hb := B.bytes
  have hr := B.returns
  have hts := atoms_spec (ws := wsX4_refusal) B.pre
  have hown : s.vm.findClass RX4 = some m.cls := findClass_of_methodNamed B.named
  have hlocks := B.notSynchronized
  subst hsz
  have hD := hD0.self (sz := s.heap.size)
  generalize hAe : va_A (wX a cB cI cS cII σ) s.heap.size = A at hD hN ⊢
  have hA : ∀ q : Nat, s.heap.size ≤ q → A q := fun q h => by rw [← hAe]; exact Or.inr h
  clear hAe hD0
  have hS : va_S A s.heap s.heap [] := va_S.rf
  have in4 : ∀ w ∈ u_ws RX4 TX4 3, w ∈ wsX4_refusal := by decide +kernel
  have k15 := hts (.fieldLink RX4 15 "HouseSorted$Sheet" "cells" "[I") (by decide +kernel)
  have k9 := hts (.fieldLink RX4 9 "HouseSorted$Sheet" "lane" "I") (by decide +kernel)
  have kin8 := hts (.initialized RX8) (by decide +kernel)
  have kst := hts (.static yX8_isWithin) (by decide +kernel)
  have LP : ∀ n : Nat, (∀ (j : Int32) (H : Heap) (locs : List Loc) (ls : Array Slot), 0 ≤ j.toInt ∧ j.toInt ≤ 10 → (∀ t : Nat, (t : Int) < j.toInt → 0 ≤ x2.toInt + t ∧ x2.toInt + t < 60) → (10 - j.toInt).toNat < n → va_P (dC, dI) vwCl (wX a cB cI cS cII σ) H → va_D A (wX a cB cI cS cII σ) → va_S A s.heap H locs → lv_has ls 5 [(0, .ref (a 8)), (1, .int x1), (2, .int x2), (3, .int x3), (4, .int j)] → W p l e (headSpec wsX4_refusal RM_X4_refusal).room s m ([.ref (a 8), .int x1, .int x2, .int x3] : List Value).toArray below meth c H locs 0 0 (MQ below (zQi (dC, dI) (zT cB cI cS cII) (wX a cB cI cS cII) A (fun (r : Int32) (σ1 : Cn) => σ1 = σ ∧ ((r : Int32).toInt = 0 → ∀ t : Nat, (t : Int) < x3.toInt → 0 ≤ x2.toInt + t ∧ x2.toInt + t < 60))) ([.ref (a 8), .int x1, .int x2, .int x3] : List Value).toArray s 0 0 A) (F0 m 25 ls [])) := by
    intro n
    induction n with
    | zero => exact by intros; omega
    | succ n ih =>
      · intro j H locs ls g1 g2 hmu hP hD hS hl
        refine lv_iload hx hb dX4_refusal_25 (lv_at hl 4 rfl) ?_
        refine lv_iload_n hx hb dX4_refusal_27 rfl (lv_at hl 3 rfl) ?_
        refine lv_icmp_ge (tgt := 75) hx hb dX4_refusal_28 (by decide) (fun c28 => ?_) (fun c28 => ?_)
        · skip
          have ic28 := zle (a := x3.toInt) (b := j.toInt) rfl rfl c28
          refine lv_iconst (v := 0) hx hb dX4_refusal_75 (by decide) ?_
          have hpost : σ = σ ∧ ((0 : Int32).toInt = 0 → ∀ t : Nat, (t : Int) < x3.toInt → 0 ≤ x2.toInt + t ∧ x2.toInt + t < 60) := by exact ⟨rfl, fun _ t ht => g2 t (by omega)⟩
          exact W.iret (v := 0) hx hb hr (fun t9 ht hW => ⟨⟨0, σ, rfl, hpost, by rw [ht]; exact hP, va_K.moved hW.alike hK, hD⟩, hS.F ht⟩) hS.2.2 dX4_refusal_76
        · skip
          have ic28 := znle (a := x3.toInt) (b := j.toInt) rfl rfl c28
          refine lv_aload_n hx hb dX4_refusal_31 rfl (lv_at hl 0 rfl) ?_
          refine lv_iload_n hx hb dX4_refusal_32 rfl (lv_at hl 2 rfl) ?_
          refine lv_iload hx hb dX4_refusal_33 (lv_at hl 4 rfl) ?_
          refine lv_iadd hx hb dX4_refusal_35 ?_
          refine lv_topi (fun v35 ev35 => ?_)
          have tv35 : v35.toInt = (x2.toInt + j.toInt + 2147483648) % 4294967296 - 2147483648 := by rw [ev35, zadd]
          refine zcalli (va_runV (As := [.int v35]) (rest := []) ⟨hx, hb, hml, hown, hts⟩ (c_X4_hasCell_8 l dC dI cB cI cS cII a N hok hn σ H.size (v35) ) (cwV 1 hts gX4_refusal_X4_hasCell rfl rfl rfl (by decide +kernel) ⟨Nat.le_of_ble_eq_true rfl, Nat.le_of_ble_eq_true rfl⟩) (zpreV (wf := wX a cB cI cS cII) (q0 := 8) (ci := 4) hok hN hS hA hK hP hD rfl rfl) rfl rfl hl.1 rfl (lv_room (Nat.le_of_ble_eq_true rfl)) dX4_refusal_36 ⟨Nat.zero_le _, Nat.zero_le _⟩) hD hS hA (fun v36 σ1 H locs hv36 hP hD hS => ?_)
          obtain ⟨es9, hv36⟩ := hv36
          subst σ1
          refine lv_if_ne (tgt := 45) hx hb dX4_refusal_39 (by decide) (fun c39 => ?_) (fun c39 => ?_)
          · skip
            have ic39 := zneq (a := v36.toInt) (b := 0) rfl (by decide) c39
            refine lv_aload_n hx hb dX4_refusal_45 rfl (lv_at hl 0 rfl) ?_
            refine va_get (D := (dC, dI)) (ci := 4) (v := .ref (a 38)) (C := RX4) (T := TX4) (N := 3) hx hb hts in4 hown hK hP 8 rfl rfl 2 (by decide) k15 (fun _ h9 => h9) rfl dX4_refusal_46 ?_
            refine lv_iload_n hx hb dX4_refusal_49 rfl (lv_at hl 2 rfl) ?_
            refine lv_iload hx hb dX4_refusal_50 (lv_at hl 4 rfl) ?_
            refine lv_iadd hx hb dX4_refusal_52 ?_
            refine lv_topi (fun v52 ev52 => ?_)
            have tv52 : v52.toInt = (x2.toInt + j.toInt + 2147483648) % 4294967296 - 2147483648 := by rw [ev52, zadd]
            refine va_iald (D := (dC, dI)) (f := σ 38) hx hb hK hP 38 1 rfl rfl (i := v52) (n := 60) (zin (by omega) (by omega)) dX4_refusal_53 ?_
            refine lv_topi (fun v53 ev53 => ?_)
            have tv53 := congrArg Int32.toInt ev53
            refine lv_iconst (v := 0) hx hb dX4_refusal_54 (by decide) ?_
            refine lv_bipush (v := 100) hx hb dX4_refusal_55 (by decide) ?_
            refine zcalli (va_runSN (As := [.int v53, .int 0, .int 100]) (rest := []) ⟨hx, hb, hml, hown, hts⟩ (c_X8_isWithin l dC dI cB cI cS cII a N hok hn σ H.size (v53) (0) (100) ) ⟨va_cnB (host := RX8) 3 hts ggX4_refusal_X8_isWithin rfl rfl rfl (hn _ _ hN (.methodLinkNest RX4 26 yX8_isWithin RX8) (by decide)) kin8 (by decide +kernel) ⟨Nat.le_of_ble_eq_true rfl, Nat.le_of_ble_eq_true rfl⟩, kst, trivial⟩ (zpreS (wf := wX a cB cI cS cII) hok hN hS hA hK hP hD) rfl rfl hl.1 rfl (lv_room (Nat.le_of_ble_eq_true rfl)) dX4_refusal_57 ⟨Nat.zero_le _, Nat.zero_le _⟩) hD hS hA (fun v57 σ1 H locs hv57 hP hD hS => ?_)
            obtain ⟨es9, hv57⟩ := hv57
            subst σ1
            try simp only [show (0 : Int32).toInt = 0 from by decide, show (100 : Int32).toInt = 100 from by decide] at hv57
            refine lv_if_ne (tgt := 69) hx hb dX4_refusal_60 (by decide) (fun c60 => ?_) (fun c60 => ?_)
            · skip
              have ic60 := zneq (a := v57.toInt) (b := 0) rfl (by decide) c60
              obtain ⟨v69, ev69⟩ : ∃ y : Int32, y = j + 1 := ⟨_, rfl⟩
              refine lv_iinc (v := v69) (lv' := [(4, .int v69), (0, .ref (a 8)), (1, .int x1), (2, .int x2), (3, .int x3)]) hx hb dX4_refusal_69 hl (k := 4) rfl (by rw [ev69]; rfl) (by decide) rfl (fun ls hl => ?_)
              have tv69 : v69.toInt = j.toInt + 1 := by rw [ev69, zadd, show (1 : Int32).toInt = 1 from by decide]; omega
              refine lv_goto (tgt := 25) hx hb dX4_refusal_72 (by decide) ?_
              exact ih (v69)  H locs ls (by omega) (by intro t ht; rcases (show (t : Int) < j.toInt ∨ (t : Int) = j.toInt from by omega) with q9 | q9; exact g2 t q9; have r2 := zrng x2; omega) (by omega) hP hD hS (lv_sub hl [1, 2, 3, 4, 0] rfl)
            · skip
              have ic60 := zeq (a := v57.toInt) (b := 0) rfl (by decide) c60
              refine lv_bipush (v := (-20)) hx hb dX4_refusal_63 (by decide) ?_
              refine lv_iload hx hb dX4_refusal_65 (lv_at hl 4 rfl) ?_
              refine lv_isub hx hb dX4_refusal_67 ?_
              refine lv_topi (fun v67 ev67 => ?_)
              have tv67 : v67.toInt = (-20) - j.toInt := by rw [ev67, zsub, show ((-20) : Int32).toInt = (-20) from by decide]; omega
              have hpost : σ = σ ∧ ((v67 : Int32).toInt = 0 → ∀ t : Nat, (t : Int) < x3.toInt → 0 ≤ x2.toInt + t ∧ x2.toInt + t < 60) := by exact ⟨rfl, fun q9 => by omega⟩
              exact W.iret (v := v67) hx hb hr (fun t9 ht hW => ⟨⟨v67, σ, rfl, hpost, by rw [ht]; exact hP, va_K.moved hW.alike hK, hD⟩, hS.F ht⟩) hS.2.2 dX4_refusal_68
          · skip
            have ic39 := zeq (a := v36.toInt) (b := 0) rfl (by decide) c39
            refine lv_bipush (v := (-12)) hx hb dX4_refusal_42 (by decide) ?_
            have hpost : σ = σ ∧ (((-12) : Int32).toInt = 0 → ∀ t : Nat, (t : Int) < x3.toInt → 0 ≤ x2.toInt + t ∧ x2.toInt + t < 60) := by exact ⟨rfl, fun q9 => absurd q9 (by decide)⟩
            exact W.iret (v := (-12)) hx hb hr (fun t9 ht hW => ⟨⟨(-12), σ, rfl, hpost, by rw [ht]; exact hP, va_K.moved hW.alike hK, hD⟩, hS.F ht⟩) hS.2.2 dX4_refusal_44
  have hl := lv_entry ([.ref (a 8), .int x1, .int x2, .int x3]) (n := 5) (Nat.le_of_ble_eq_true rfl)
  rw [lg_entry_eq]
  generalize (lg_sl ([.ref (a 8), .int x1, .int x2, .int x3]) ++ List.replicate (5 - (lg_sl ([.ref (a 8), .int x1, .int x2, .int x3])).length) Slot.unset).toArray = ls at hl ⊢
  have hl : lv_has ls 5 [(0, .ref (a 8)), (1, .int x1), (2, .int x2), (3, .int x3)] := hl
  suffices main : ∀ (H : Heap) (locs : List Loc), va_P (dC, dI) vwCl (wX a cB cI cS cII σ) H → va_D A (wX a cB cI cS cII σ) → va_S A s.heap H locs → W p l e (headSpec wsX4_refusal RM_X4_refusal).room s m ([.ref (a 8), .int x1, .int x2, .int x3] : List Value).toArray below meth c H locs 0 0 (MQ below (zQi (dC, dI) (zT cB cI cS cII) (wX a cB cI cS cII) A (fun (r : Int32) (σ1 : Cn) => σ1 = σ ∧ ((r : Int32).toInt = 0 → ∀ t : Nat, (t : Int) < x3.toInt → 0 ≤ x2.toInt + t ∧ x2.toInt + t < 60))) ([.ref (a 8), .int x1, .int x2, .int x3] : List Value).toArray s 0 0 A) (F0 m 0 ls []) from main s.heap [] hP hD hS
  intro H locs hP hD hS
  refine lv_aload_n hx hb dX4_refusal_0 rfl (lv_at hl 0 rfl) ?_
  refine va_get (D := (dC, dI)) (ci := 4) (v := .int (σ 8 0)) (C := RX4) (T := TX4) (N := 3) hx hb hts in4 hown hK hP 8 rfl rfl 0 (by decide) k9 (fun _ h9 => h9) rfl dX4_refusal_1 ?_
  refine lv_iconst (v := (-1)) hx hb dX4_refusal_4 (by decide) ?_
  refine lv_icmp_ne (tgt := 11) hx hb dX4_refusal_5 (by decide) (fun c5 => ?_) (fun c5 => ?_)
  · skip
    have ic5 := zneq (a := (σ 8 0).toInt) (b := (-1)) rfl (by decide) c5
    refine lv_aload_n hx hb dX4_refusal_11 rfl (lv_at hl 0 rfl) ?_
    refine va_get (D := (dC, dI)) (ci := 4) (v := .int (σ 8 0)) (C := RX4) (T := TX4) (N := 3) hx hb hts in4 hown hK hP 8 rfl rfl 0 (by decide) k9 (fun _ h9 => h9) rfl dX4_refusal_12 ?_
    refine lv_iload_n hx hb dX4_refusal_15 rfl (lv_at hl 1 rfl) ?_
    refine lv_icmp_eq (tgt := 22) hx hb dX4_refusal_16 (by decide) (fun c16 => ?_) (fun c16 => ?_)
    · skip
      have ic16 := zeq (a := (σ 8 0).toInt) (b := x1.toInt) rfl rfl c16
      refine lv_iconst (v := 0) hx hb dX4_refusal_22 (by decide) ?_
      refine lv_istore (lv' := [(4, .int 0), (0, .ref (a 8)), (1, .int x1), (2, .int x2), (3, .int x3)]) hx hb dX4_refusal_23 hl (by decide) rfl (fun ls hl => ?_)
      exact (LP _) (0)  H locs ls (by decide) (by intro t ht; rw [show (0 : Int32).toInt = 0 from by decide] at ht; omega) (Nat.lt_succ_self _) hP hD hS (lv_sub hl [1, 2, 3, 4, 0] rfl)
    · skip
      have ic16 := zneq (a := (σ 8 0).toInt) (b := x1.toInt) rfl rfl c16
      refine lv_bipush (v := (-13)) hx hb dX4_refusal_19 (by decide) ?_
      have hpost : σ = σ ∧ (((-13) : Int32).toInt = 0 → ∀ t : Nat, (t : Int) < x3.toInt → 0 ≤ x2.toInt + t ∧ x2.toInt + t < 60) := by exact ⟨rfl, fun q9 => absurd q9 (by decide)⟩
      exact W.iret (v := (-13)) hx hb hr (fun t9 ht hW => ⟨⟨(-13), σ, rfl, hpost, by rw [ht]; exact hP, va_K.moved hW.alike hK, hD⟩, hS.F ht⟩) hS.2.2 dX4_refusal_21
  · skip
    have ic5 := zeq (a := (σ 8 0).toInt) (b := (-1)) rfl (by decide) c5
    refine lv_bipush (v := (-11)) hx hb dX4_refusal_8 (by decide) ?_
    have hpost : σ = σ ∧ (((-11) : Int32).toInt = 0 → ∀ t : Nat, (t : Int) < x3.toInt → 0 ≤ x2.toInt + t ∧ x2.toInt + t < 60) := by exact ⟨rfl, fun q9 => absurd q9 (by decide)⟩
    exact W.iret (v := (-11)) hx hb hr (fun t9 ht hW => ⟨⟨(-11), σ, rfl, hpost, by rw [ht]; exact hP, va_K.moved hW.alike hK, hD⟩, hS.F ht⟩) hS.2.2 dX4_refusal_10

set_option maxHeartbeats 4000000 in
set_option maxRecDepth 100000 in
theorem c_X4_renew_9 (l : Launch) (dC : Nat → ClassId) (dI : Nat → Nat → Nat) (cB cI cS cII : ClassId) (a : Nat → Nat) (N : (Nat → Prop) → State → Prop) (hok : zNok N) (hn : ∀ A U, N A U → zN U) (σ : Cn) (sz : Nat) (x1 : Int32) (x2 : Int32)  : Met l yX4_renew wsX4_renew RM_X4_renew (zPc (dC, dI) (zT cB cI cS cII) N (wX a cB cI cS cII) σ sz [.ref (a 9), .int x1, .int x2]) (zQv (dC, dI) (zT cB cI cS cII) (wX a cB cI cS cII) (va_A (wX a cB cI cS cII σ) sz) (fun (σ1 : Cn) => ∃ u9 : Nat → Int32, ∃ u39 : Nat → Int32, σ1 = (upC (upC σ 9 u9) 39 u39) ∧ u9 0 = x1 ∧ u9 1 = x2)) 0 0 (va_A (wX a cB cI cS cII σ) sz) := by
  refine Met.ofW (cc := cX4_renew) (maxL := 4) (ret := none) (by decide) rfl ?_
  intro p e s m args below meth c s₁ B hml hv
  obtain ⟨rfl, hsz, hP, hK, hD0, hN⟩ := hv
  have hx := B.exec
  have hb := B.bytes
  have hr := B.returns
  have hts := atoms_spec (ws := wsX4_renew) B.pre
  have hown : s.vm.findClass RX4 = some m.cls := findClass_of_methodNamed B.named
  have hlocks := B.notSynchronized
  subst hsz
  have hD := hD0.self (sz := s.heap.size)
  generalize hAe : va_A (wX a cB cI cS cII σ) s.heap.size = A at hD hN ⊢
  have hA : ∀ q : Nat, s.heap.size ≤ q → A q := fun q h => by rw [← hAe]; exact Or.inr h
  clear hAe hD0
  have hS : va_S A s.heap s.heap [] := va_S.rf
  have in4 : ∀ w ∈ u_ws RX4 TX4 3, w ∈ wsX4_renew := by decide +kernel
  have k15 := hts (.fieldLink RX4 15 "HouseSorted$Sheet" "cells" "[I") (by decide +kernel)
  have k19 := hts (.fieldLink RX4 19 "HouseSorted$Sheet" "size" "I") (by decide +kernel)
  have k9 := hts (.fieldLink RX4 9 "HouseSorted$Sheet" "lane" "I") (by decide +kernel)
  have LP : ∀ n : Nat, (∀ (j : Int32) (w9 : Nat → Int32) (w39 : Nat → Int32) (H : Heap) (locs : List Loc) (ls : Array Slot), 0 ≤ j.toInt ∧ j.toInt ≤ 60 → w9 0 = x1 ∧ w9 1 = x2 → (60 - j.toInt).toNat < n → va_P (dC, dI) vwCl (wX a cB cI cS cII (upC (upC σ 9 w9) 39 w39)) H → va_D A (wX a cB cI cS cII (upC (upC σ 9 w9) 39 w39)) → va_S A s.heap H locs → lv_has ls 4 [(0, .ref (a 9)), (3, .int j)] → W p l e (headSpec wsX4_renew RM_X4_renew).room s m ([.ref (a 9), .int x1, .int x2] : List Value).toArray below meth c H locs 0 0 (MQ below (zQv (dC, dI) (zT cB cI cS cII) (wX a cB cI cS cII) A (fun (σ1 : Cn) => ∃ u9 : Nat → Int32, ∃ u39 : Nat → Int32, σ1 = (upC (upC σ 9 u9) 39 u39) ∧ u9 0 = x1 ∧ u9 1 = x2)) ([.ref (a 9), .int x1, .int x2] : List Value).toArray s 0 0 A) (F0 m 12 ls [])) := by
    intro n
    induction n with
    | zero => exact by intros; omega
    | succ n ih =>
      · intro j w9 w39 H locs ls g1 g2 hmu hP hD hS hl
        refine lv_iload_n hx hb dX4_renew_12 rfl (lv_at hl 1 rfl) ?_
        refine lv_bipush (v := 60) hx hb dX4_renew_13 (by decide) ?_
        refine lv_icmp_ge (tgt := 31) hx hb dX4_renew_15 (by decide) (fun c15 => ?_) (fun c15 => ?_)
        · skip
          have ic15 := zle (a := 60) (b := j.toInt) (by decide) rfl c15
          have hpost : ∃ u9 : Nat → Int32, ∃ u39 : Nat → Int32, (upC (upC σ 9 w9) 39 w39) = (upC (upC σ 9 u9) 39 u39) ∧ u9 0 = x1 ∧ u9 1 = x2 := by exact ⟨_, _, rfl, g2⟩
          exact W.vret hx hb hr (fun t9 ht hW => ⟨⟨(upC (upC σ 9 w9) 39 w39), rfl, hpost, by rw [ht]; exact hP, va_K.moved hW.alike hK, hD⟩, hS.F ht⟩) hS.2.2 dX4_renew_31
        · skip
          have ic15 := znle (a := 60) (b := j.toInt) (by decide) rfl c15
          refine lv_aload_n hx hb dX4_renew_18 rfl (lv_at hl 0 rfl) ?_
          refine va_get (D := (dC, dI)) (ci := 4) (v := .ref (a 39)) (C := RX4) (T := TX4) (N := 3) hx hb hts in4 hown hK hP 9 rfl rfl 2 (by decide) k15 (fun _ h9 => h9) rfl dX4_renew_19 ?_
          refine lv_iload_n hx hb dX4_renew_22 rfl (lv_at hl 1 rfl) ?_
          refine lv_iconst (v := 0) hx hb dX4_renew_23 (by decide) ?_
          refine va_iast (D := (dC, dI)) (f := w39) hx hb hK hP hD hS 39 1 rfl rfl (i := j) (n := 60) (zin (by omega) (by omega)) dX4_renew_24 (fun H locs hP hD hS => ?_)
          have hP : va_P (dC, dI) vwCl (wX a cB cI cS cII (upC (upC σ 9 w9) 39 (upd (w39) (j).toNatClampNeg 0))) H := hP
          have hD : va_D A (wX a cB cI cS cII (upC (upC σ 9 w9) 39 (upd (w39) (j).toNatClampNeg 0))) := hD
          obtain ⟨v25, ev25⟩ : ∃ y : Int32, y = j + 1 := ⟨_, rfl⟩
          refine lv_iinc (v := v25) (lv' := [(3, .int v25), (0, .ref (a 9))]) hx hb dX4_renew_25 hl (k := 1) rfl (by rw [ev25]; rfl) (by decide) rfl (fun ls hl => ?_)
          have tv25 : v25.toInt = j.toInt + 1 := by rw [ev25, zadd, show (1 : Int32).toInt = 1 from by decide]; omega
          refine lv_goto (tgt := 12) hx hb dX4_renew_28 (by decide) ?_
          exact ih (v25) (w9) (upd (w39) (j).toNatClampNeg 0) H locs ls (by omega) (g2) (by omega) hP hD hS (lv_sub hl [1, 0] rfl)
  have hl := lv_entry ([.ref (a 9), .int x1, .int x2]) (n := 4) (Nat.le_of_ble_eq_true rfl)
  rw [lg_entry_eq]
  generalize (lg_sl ([.ref (a 9), .int x1, .int x2]) ++ List.replicate (4 - (lg_sl ([.ref (a 9), .int x1, .int x2])).length) Slot.unset).toArray = ls at hl ⊢
  have hl : lv_has ls 4 [(0, .ref (a 9)), (1, .int x1), (2, .int x2)] := hl
  suffices main : ∀ (H : Heap) (locs : List Loc), va_P (dC, dI) vwCl (wX a cB cI cS cII σ) H → va_D A (wX a cB cI cS cII σ) → va_S A s.heap H locs → W p l e (headSpec wsX4_renew RM_X4_renew).room s m ([.ref (a 9), .int x1, .int x2] : List Value).toArray below meth c H locs 0 0 (MQ below (zQv (dC, dI) (zT cB cI cS cII) (wX a cB cI cS cII) A (fun (σ1 : Cn) => ∃ u9 : Nat → Int32, ∃ u39 : Nat → Int32, σ1 = (upC (upC σ 9 u9) 39 u39) ∧ u9 0 = x1 ∧ u9 1 = x2)) ([.ref (a 9), .int x1, .int x2] : List Value).toArray s 0 0 A) (F0 m 0 ls []) from main s.heap [] hP hD hS
  intro H locs hP hD hS
  refine lv_aload_n hx hb dX4_renew_0 rfl (lv_at hl 0 rfl) ?_
  refine lv_iload_n hx hb dX4_renew_1 rfl (lv_at hl 1 rfl) ?_
  refine va_put (D := (dC, dI)) (ci := 4) (v := .int x1) (ty := .int) (C := RX4) (T := TX4) (N := 3) hx hb hts in4 tyX4 tyX4_ok nmX4 hown hK hP hD hS 9 rfl rfl 0 (by decide) k9 (fun _ h9 => h9) rfl (by decide +kernel) rfl rfl (Nat.le_of_ble_eq_true rfl) dX4_renew_2 (fun H locs hP hD hS => ?_)
  have hP : va_P (dC, dI) vwCl (wX a cB cI cS cII (upC σ 9 (upd (σ 9) 0 x1))) H := hP
  have hD : va_D A (wX a cB cI cS cII (upC σ 9 (upd (σ 9) 0 x1))) := hD
  refine lv_aload_n hx hb dX4_renew_5 rfl (lv_at hl 0 rfl) ?_
  refine lv_iload_n hx hb dX4_renew_6 rfl (lv_at hl 2 rfl) ?_
  refine va_put (D := (dC, dI)) (ci := 4) (v := .int x2) (ty := .int) (C := RX4) (T := TX4) (N := 3) hx hb hts in4 tyX4 tyX4_ok nmX4 hown hK hP hD hS 9 rfl rfl 1 (by decide) k19 (fun _ h9 => h9) rfl (by decide +kernel) rfl rfl (Nat.le_of_ble_eq_true rfl) dX4_renew_7 (fun H locs hP hD hS => ?_)
  have hP : va_P (dC, dI) vwCl (wX a cB cI cS cII (upC σ 9 (upd (upd (σ 9) 0 x1) 1 x2))) H := hP
  have hD : va_D A (wX a cB cI cS cII (upC σ 9 (upd (upd (σ 9) 0 x1) 1 x2))) := hD
  refine lv_iconst (v := 0) hx hb dX4_renew_10 (by decide) ?_
  refine lv_istore_n (lv' := [(3, .int 0), (0, .ref (a 9)), (1, .int x1), (2, .int x2)]) hx hb dX4_renew_11 rfl hl (by decide) rfl (fun ls hl => ?_)
  exact (LP _) (0) (upd (upd (σ 9) 0 x1) 1 x2) (σ 39) H locs ls (by decide) (⟨rfl, rfl⟩) (Nat.lt_succ_self _) hP hD hS (lv_sub hl [1, 0] rfl)

set_option maxHeartbeats 4000000 in
set_option maxRecDepth 100000 in
theorem c_X4_hasCell_9 (l : Launch) (dC : Nat → ClassId) (dI : Nat → Nat → Nat) (cB cI cS cII : ClassId) (a : Nat → Nat) (N : (Nat → Prop) → State → Prop) (hok : zNok N) (hn : ∀ A U, N A U → zN U) (σ : Cn) (sz : Nat) (x1 : Int32)  : Met l yX4_hasCell wsX4_hasCell RM_X4_hasCell (zPc (dC, dI) (zT cB cI cS cII) N (wX a cB cI cS cII) σ sz [.ref (a 9), .int x1]) (zQi (dC, dI) (zT cB cI cS cII) (wX a cB cI cS cII) (va_A (wX a cB cI cS cII σ) sz) (fun (r : Int32) (σ1 : Cn) => σ1 = σ ∧ ((r : Int32).toInt = 1 ∧ 0 ≤ x1.toInt ∧ x1.toInt < (σ 9 1).toInt ∨ (r : Int32).toInt = 0 ∧ ¬ (0 ≤ x1.toInt ∧ x1.toInt < (σ 9 1).toInt)))) 0 0 (va_A (wX a cB cI cS cII σ) sz) := by
  refine Met.ofW (cc := cX4_hasCell) (maxL := 2) (ret := (some .boolean)) (by decide) rfl ?_
  intro p e s m args below meth c s₁ B hml hv
  obtain ⟨rfl, hsz, hP, hK, hD0, hN⟩ := hv
  have hx := B.exec
  have hb := B.bytes
  have hr := B.returns
  have hts := atoms_spec (ws := wsX4_hasCell) B.pre
  have hown : s.vm.findClass RX4 = some m.cls := findClass_of_methodNamed B.named
  have hlocks := B.notSynchronized
  subst hsz
  have hD := hD0.self (sz := s.heap.size)
  generalize hAe : va_A (wX a cB cI cS cII σ) s.heap.size = A at hD hN ⊢
  have hA : ∀ q : Nat, s.heap.size ≤ q → A q := fun q h => by rw [← hAe]; exact Or.inr h
  clear hAe hD0
  have hS : va_S A s.heap s.heap [] := va_S.rf
  have in4 : ∀ w ∈ u_ws RX4 TX4 3, w ∈ wsX4_hasCell := by decide +kernel
  have k19 := hts (.fieldLink RX4 19 "HouseSorted$Sheet" "size" "I") (by decide +kernel)
  have hl := lv_entry ([.ref (a 9), .int x1]) (n := 2) (Nat.le_of_ble_eq_true rfl)
  rw [lg_entry_eq]
  generalize (lg_sl ([.ref (a 9), .int x1]) ++ List.replicate (2 - (lg_sl ([.ref (a 9), .int x1])).length) Slot.unset).toArray = ls at hl ⊢
  have hl : lv_has ls 2 [(0, .ref (a 9)), (1, .int x1)] := hl
  suffices main : ∀ (H : Heap) (locs : List Loc), va_P (dC, dI) vwCl (wX a cB cI cS cII σ) H → va_D A (wX a cB cI cS cII σ) → va_S A s.heap H locs → W p l e (headSpec wsX4_hasCell RM_X4_hasCell).room s m ([.ref (a 9), .int x1] : List Value).toArray below meth c H locs 0 0 (MQ below (zQi (dC, dI) (zT cB cI cS cII) (wX a cB cI cS cII) A (fun (r : Int32) (σ1 : Cn) => σ1 = σ ∧ ((r : Int32).toInt = 1 ∧ 0 ≤ x1.toInt ∧ x1.toInt < (σ 9 1).toInt ∨ (r : Int32).toInt = 0 ∧ ¬ (0 ≤ x1.toInt ∧ x1.toInt < (σ 9 1).toInt)))) ([.ref (a 9), .int x1] : List Value).toArray s 0 0 A) (F0 m 0 ls []) from main s.heap [] hP hD hS
  intro H locs hP hD hS
  refine lv_iload_n hx hb dX4_hasCell_0 rfl (lv_at hl 1 rfl) ?_
  refine lv_if_lt (tgt := 16) hx hb dX4_hasCell_1 (by decide) (fun c1 => ?_) (fun c1 => ?_)
  · skip
    have ic1 := zlt (a := x1.toInt) (b := 0) rfl (by decide) c1
    refine lv_iconst (v := 0) hx hb dX4_hasCell_16 (by decide) ?_
    have hpost : σ = σ ∧ ((0 : Int32).toInt = 1 ∧ 0 ≤ x1.toInt ∧ x1.toInt < (σ 9 1).toInt ∨ (0 : Int32).toInt = 0 ∧ ¬ (0 ≤ x1.toInt ∧ x1.toInt < (σ 9 1).toInt)) := by exact ⟨rfl, by first | (left; exact ⟨by decide, by omega⟩) | (right; exact ⟨by decide, by omega⟩)⟩
    exact W.zret (v := 0) hx hb hr (by decide +kernel) (fun t9 ht hW => ⟨⟨0, σ, rfl, hpost, by rw [ht]; exact hP, va_K.moved hW.alike hK, hD⟩, hS.F ht⟩) hS.2.2 dX4_hasCell_17
  · skip
    have ic1 := znlt (a := x1.toInt) (b := 0) rfl (by decide) c1
    refine lv_iload_n hx hb dX4_hasCell_4 rfl (lv_at hl 1 rfl) ?_
    refine lv_aload_n hx hb dX4_hasCell_5 rfl (lv_at hl 0 rfl) ?_
    refine va_get (D := (dC, dI)) (ci := 4) (v := .int (σ 9 1)) (C := RX4) (T := TX4) (N := 3) hx hb hts in4 hown hK hP 9 rfl rfl 1 (by decide) k19 (fun _ h9 => h9) rfl dX4_hasCell_6 ?_
    refine lv_icmp_ge (tgt := 16) hx hb dX4_hasCell_9 (by decide) (fun c9 => ?_) (fun c9 => ?_)
    · skip
      have ic9 := zle (a := (σ 9 1).toInt) (b := x1.toInt) rfl rfl c9
      refine lv_iconst (v := 0) hx hb dX4_hasCell_16 (by decide) ?_
      have hpost : σ = σ ∧ ((0 : Int32).toInt = 1 ∧ 0 ≤ x1.toInt ∧ x1.toInt < (σ 9 1).toInt ∨ (0 : Int32).toInt = 0 ∧ ¬ (0 ≤ x1.toInt ∧ x1.toInt < (σ 9 1).toInt)) := by exact ⟨rfl, by first | (left; exact ⟨by decide, by omega⟩) | (right; exact ⟨by decide, by omega⟩)⟩
      exact W.zret (v := 0) hx hb hr (by decide +kernel) (fun t9 ht hW => ⟨⟨0, σ, rfl, hpost, by rw [ht]; exact hP, va_K.moved hW.alike hK, hD⟩, hS.F ht⟩) hS.2.2 dX4_hasCell_17
    · skip
      have ic9 := znle (a := (σ 9 1).toInt) (b := x1.toInt) rfl rfl c9
      refine lv_iconst (v := 1) hx hb dX4_hasCell_12 (by decide) ?_
      refine lv_goto (tgt := 17) hx hb dX4_hasCell_13 (by decide) ?_
      have hpost : σ = σ ∧ ((1 : Int32).toInt = 1 ∧ 0 ≤ x1.toInt ∧ x1.toInt < (σ 9 1).toInt ∨ (1 : Int32).toInt = 0 ∧ ¬ (0 ≤ x1.toInt ∧ x1.toInt < (σ 9 1).toInt)) := by exact ⟨rfl, by first | (left; exact ⟨by decide, by omega⟩) | (right; exact ⟨by decide, by omega⟩)⟩
      exact W.zret (v := 1) hx hb hr (by decide +kernel) (fun t9 ht hW => ⟨⟨1, σ, rfl, hpost, by rw [ht]; exact hP, va_K.moved hW.alike hK, hD⟩, hS.F ht⟩) hS.2.2 dX4_hasCell_17

set_option maxHeartbeats 4000000 in
set_option maxRecDepth 100000 in
theorem c_X4_put_9 (l : Launch) (dC : Nat → ClassId) (dI : Nat → Nat → Nat) (cB cI cS cII : ClassId) (a : Nat → Nat) (N : (Nat → Prop) → State → Prop) (hok : zNok N) (hn : ∀ A U, N A U → zN U) (σ : Cn) (sz : Nat) (x1 : Int32) (x2 : Int32) (h1 : 0 ≤ x1.toInt ∧ x1.toInt < 60) : Met l yX4_put wsX4_put RM_X4_put (zPc (dC, dI) (zT cB cI cS cII) N (wX a cB cI cS cII) σ sz [.ref (a 9), .int x1, .int x2]) (zQv (dC, dI) (zT cB cI cS cII) (wX a cB cI cS cII) (va_A (wX a cB cI cS cII σ) sz) (fun (σ1 : Cn) => ∃ u39 : Nat → Int32, σ1 = (upC σ 39 u39) ∧ True)) 0 0 (va_A (wX a cB cI cS cII σ) sz) := by
  refine Met.ofW (cc := cX4_put) (maxL := 3) (ret := none) (by decide) rfl ?_
  intro p e s m args below meth c s₁ B hml hv
  obtain ⟨rfl, hsz, hP, hK, hD0, hN⟩ := hv
  have hx := B.exec
  have hb := B.bytes
  have hr := B.returns
  have hts := atoms_spec (ws := wsX4_put) B.pre
  have hown : s.vm.findClass RX4 = some m.cls := findClass_of_methodNamed B.named
  have hlocks := B.notSynchronized
  subst hsz
  have hD := hD0.self (sz := s.heap.size)
  generalize hAe : va_A (wX a cB cI cS cII σ) s.heap.size = A at hD hN ⊢
  have hA : ∀ q : Nat, s.heap.size ≤ q → A q := fun q h => by rw [← hAe]; exact Or.inr h
  clear hAe hD0
  have hS : va_S A s.heap s.heap [] := va_S.rf
  have in4 : ∀ w ∈ u_ws RX4 TX4 3, w ∈ wsX4_put := by decide +kernel
  have k15 := hts (.fieldLink RX4 15 "HouseSorted$Sheet" "cells" "[I") (by decide +kernel)
  have k9 := hts (.fieldLink RX4 9 "HouseSorted$Sheet" "lane" "I") (by decide +kernel)
  have hl := lv_entry ([.ref (a 9), .int x1, .int x2]) (n := 3) (Nat.le_of_ble_eq_true rfl)
  rw [lg_entry_eq]
  generalize (lg_sl ([.ref (a 9), .int x1, .int x2]) ++ List.replicate (3 - (lg_sl ([.ref (a 9), .int x1, .int x2])).length) Slot.unset).toArray = ls at hl ⊢
  have hl : lv_has ls 3 [(0, .ref (a 9)), (1, .int x1), (2, .int x2)] := hl
  suffices main : ∀ (H : Heap) (locs : List Loc), va_P (dC, dI) vwCl (wX a cB cI cS cII σ) H → va_D A (wX a cB cI cS cII σ) → va_S A s.heap H locs → W p l e (headSpec wsX4_put RM_X4_put).room s m ([.ref (a 9), .int x1, .int x2] : List Value).toArray below meth c H locs 0 0 (MQ below (zQv (dC, dI) (zT cB cI cS cII) (wX a cB cI cS cII) A (fun (σ1 : Cn) => ∃ u39 : Nat → Int32, σ1 = (upC σ 39 u39) ∧ True)) ([.ref (a 9), .int x1, .int x2] : List Value).toArray s 0 0 A) (F0 m 0 ls []) from main s.heap [] hP hD hS
  intro H locs hP hD hS
  refine lv_aload_n hx hb dX4_put_0 rfl (lv_at hl 0 rfl) ?_
  refine va_get (D := (dC, dI)) (ci := 4) (v := .ref (a 39)) (C := RX4) (T := TX4) (N := 3) hx hb hts in4 hown hK hP 9 rfl rfl 2 (by decide) k15 (fun _ h9 => h9) rfl dX4_put_1 ?_
  refine lv_iload_n hx hb dX4_put_4 rfl (lv_at hl 1 rfl) ?_
  refine lv_aload_n hx hb dX4_put_5 rfl (lv_at hl 0 rfl) ?_
  refine va_get (D := (dC, dI)) (ci := 4) (v := .int (σ 9 0)) (C := RX4) (T := TX4) (N := 3) hx hb hts in4 hown hK hP 9 rfl rfl 0 (by decide) k9 (fun _ h9 => h9) rfl dX4_put_6 ?_
  refine lv_if_ne (tgt := 17) hx hb dX4_put_9 (by decide) (fun c9 => ?_) (fun c9 => ?_)
  · skip
    have ic9 := zneq (a := (σ 9 0).toInt) (b := 0) rfl (by decide) c9
    refine lv_aload_n hx hb dX4_put_17 rfl (lv_at hl 0 rfl) ?_
    refine va_get (D := (dC, dI)) (ci := 4) (v := .int (σ 9 0)) (C := RX4) (T := TX4) (N := 3) hx hb hts in4 hown hK hP 9 rfl rfl 0 (by decide) k9 (fun _ h9 => h9) rfl dX4_put_18 ?_
    refine lv_iconst (v := 1) hx hb dX4_put_21 (by decide) ?_
    refine lv_icmp_ne (tgt := 30) hx hb dX4_put_22 (by decide) (fun c22 => ?_) (fun c22 => ?_)
    · skip
      have ic22 := zneq (a := (σ 9 0).toInt) (b := 1) rfl (by decide) c22
      refine lv_iload_n hx hb dX4_put_30 rfl (lv_at hl 2 rfl) ?_
      refine va_iast (D := (dC, dI)) (f := σ 39) hx hb hK hP hD hS 39 1 rfl rfl (i := x1) (n := 60) (zin (by omega) (by omega)) dX4_put_31 (fun H locs hP hD hS => ?_)
      have hP : va_P (dC, dI) vwCl (wX a cB cI cS cII (upC σ 39 (upd (σ 39) (x1).toNatClampNeg x2))) H := hP
      have hD : va_D A (wX a cB cI cS cII (upC σ 39 (upd (σ 39) (x1).toNatClampNeg x2))) := hD
      have hpost : ∃ u39 : Nat → Int32, (upC σ 39 (upd (σ 39) (x1).toNatClampNeg x2)) = (upC σ 39 u39) ∧ True := by exact ⟨_, rfl, trivial⟩
      exact W.vret hx hb hr (fun t9 ht hW => ⟨⟨(upC σ 39 (upd (σ 39) (x1).toNatClampNeg x2)), rfl, hpost, by rw [ht]; exact hP, va_K.moved hW.alike hK, hD⟩, hS.F ht⟩) hS.2.2 dX4_put_32
    · skip
      have ic22 := zeq (a := (σ 9 0).toInt) (b := 1) rfl (by decide) c22
      refine lv_iload_n hx hb dX4_put_25 rfl (lv_at hl 2 rfl) ?_
      refine lv_i2s hx hb dX4_put_26 rfl ?_
      refine lv_topi (fun v26 ev26 => ?_)
      refine lv_goto (tgt := 31) hx hb dX4_put_27 (by decide) ?_
      refine va_iast (D := (dC, dI)) (f := σ 39) hx hb hK hP hD hS 39 1 rfl rfl (i := x1) (n := 60) (zin (by omega) (by omega)) dX4_put_31 (fun H locs hP hD hS => ?_)
      have hP : va_P (dC, dI) vwCl (wX a cB cI cS cII (upC σ 39 (upd (σ 39) (x1).toNatClampNeg v26))) H := hP
      have hD : va_D A (wX a cB cI cS cII (upC σ 39 (upd (σ 39) (x1).toNatClampNeg v26))) := hD
      have hpost : ∃ u39 : Nat → Int32, (upC σ 39 (upd (σ 39) (x1).toNatClampNeg v26)) = (upC σ 39 u39) ∧ True := by exact ⟨_, rfl, trivial⟩
      exact W.vret hx hb hr (fun t9 ht hW => ⟨⟨(upC σ 39 (upd (σ 39) (x1).toNatClampNeg v26)), rfl, hpost, by rw [ht]; exact hP, va_K.moved hW.alike hK, hD⟩, hS.F ht⟩) hS.2.2 dX4_put_32
  · skip
    have ic9 := zeq (a := (σ 9 0).toInt) (b := 0) rfl (by decide) c9
    refine lv_iload_n hx hb dX4_put_12 rfl (lv_at hl 2 rfl) ?_
    refine lv_i2b hx hb dX4_put_13 rfl ?_
    refine lv_topi (fun v13 ev13 => ?_)
    refine lv_goto (tgt := 31) hx hb dX4_put_14 (by decide) ?_
    refine va_iast (D := (dC, dI)) (f := σ 39) hx hb hK hP hD hS 39 1 rfl rfl (i := x1) (n := 60) (zin (by omega) (by omega)) dX4_put_31 (fun H locs hP hD hS => ?_)
    have hP : va_P (dC, dI) vwCl (wX a cB cI cS cII (upC σ 39 (upd (σ 39) (x1).toNatClampNeg v13))) H := hP
    have hD : va_D A (wX a cB cI cS cII (upC σ 39 (upd (σ 39) (x1).toNatClampNeg v13))) := hD
    have hpost : ∃ u39 : Nat → Int32, (upC σ 39 (upd (σ 39) (x1).toNatClampNeg v13)) = (upC σ 39 u39) ∧ True := by exact ⟨_, rfl, trivial⟩
    exact W.vret hx hb hr (fun t9 ht hW => ⟨⟨(upC σ 39 (upd (σ 39) (x1).toNatClampNeg v13)), rfl, hpost, by rw [ht]; exact hP, va_K.moved hW.alike hK, hD⟩, hS.F ht⟩) hS.2.2 dX4_put_32

set_option maxHeartbeats 4000000 in
set_option maxRecDepth 100000 in
theorem c_X4_refusal_9 (l : Launch) (dC : Nat → ClassId) (dI : Nat → Nat → Nat) (cB cI cS cII : ClassId) (a : Nat → Nat) (N : (Nat → Prop) → State → Prop) (hok : zNok N) (hn : ∀ A U, N A U → zN U) (σ : Cn) (sz : Nat) (x1 : Int32) (x2 : Int32) (x3 : Int32) (h1 : 0 ≤ (σ 9 1).toInt ∧ (σ 9 1).toInt ≤ 60) (h3 : 0 ≤ x3.toInt ∧ x3.toInt ≤ 10) : Met l yX4_refusal wsX4_refusal RM_X4_refusal (zPc (dC, dI) (zT cB cI cS cII) N (wX a cB cI cS cII) σ sz [.ref (a 9), .int x1, .int x2, .int x3]) (zQi (dC, dI) (zT cB cI cS cII) (wX a cB cI cS cII) (va_A (wX a cB cI cS cII σ) sz) (fun (r : Int32) (σ1 : Cn) => σ1 = σ ∧ ((r : Int32).toInt = 0 → ∀ t : Nat, (t : Int) < x3.toInt → 0 ≤ x2.toInt + t ∧ x2.toInt + t < 60))) 0 0 (va_A (wX a cB cI cS cII σ) sz) := by
  refine Met.ofW (cc := cX4_refusal) (maxL := 5) (ret := (some .int)) (by decide) rfl ?_
  intro p e s m args below meth c s₁ B hml hv
  obtain ⟨rfl, hsz, hP, hK, hD0, hN⟩ := hv
  have hx := B.exec
  have hb := B.bytes
  have hr := B.returns
  have hts := atoms_spec (ws := wsX4_refusal) B.pre
  have hown : s.vm.findClass RX4 = some m.cls := findClass_of_methodNamed B.named
  have hlocks := B.notSynchronized
  subst hsz
  have hD := hD0.self (sz := s.heap.size)
  generalize hAe : va_A (wX a cB cI cS cII σ) s.heap.size = A at hD hN ⊢
  have hA : ∀ q : Nat, s.heap.size ≤ q → A q := fun q h => by rw [← hAe]; exact Or.inr h
  clear hAe hD0
  have hS : va_S A s.heap s.heap [] := va_S.rf
  have in4 : ∀ w ∈ u_ws RX4 TX4 3, w ∈ wsX4_refusal := by decide +kernel
  have k15 := hts (.fieldLink RX4 15 "HouseSorted$Sheet" "cells" "[I") (by decide +kernel)
  have k9 := hts (.fieldLink RX4 9 "HouseSorted$Sheet" "lane" "I") (by decide +kernel)
  have kin8 := hts (.initialized RX8) (by decide +kernel)
  have kst := hts (.static yX8_isWithin) (by decide +kernel)
  have LP : ∀ n : Nat, (∀ (j : Int32) (H : Heap) (locs : List Loc) (ls : Array Slot), 0 ≤ j.toInt ∧ j.toInt ≤ 10 → (∀ t : Nat, (t : Int) < j.toInt → 0 ≤ x2.toInt + t ∧ x2.toInt + t < 60) → (10 - j.toInt).toNat < n → va_P (dC, dI) vwCl (wX a cB cI cS cII σ) H → va_D A (wX a cB cI cS cII σ) → va_S A s.heap H locs → lv_has ls 5 [(0, .ref (a 9)), (1, .int x1), (2, .int x2), (3, .int x3), (4, .int j)] → W p l e (headSpec wsX4_refusal RM_X4_refusal).room s m ([.ref (a 9), .int x1, .int x2, .int x3] : List Value).toArray below meth c H locs 0 0 (MQ below (zQi (dC, dI) (zT cB cI cS cII) (wX a cB cI cS cII) A (fun (r : Int32) (σ1 : Cn) => σ1 = σ ∧ ((r : Int32).toInt = 0 → ∀ t : Nat, (t : Int) < x3.toInt → 0 ≤ x2.toInt + t ∧ x2.toInt + t < 60))) ([.ref (a 9), .int x1, .int x2, .int x3] : List Value).toArray s 0 0 A) (F0 m 25 ls [])) := by
    intro n
    induction n with
    | zero => exact by intros; omega
    | succ n ih =>
      · intro j H locs ls g1 g2 hmu hP hD hS hl
        refine lv_iload hx hb dX4_refusal_25 (lv_at hl 4 rfl) ?_
        refine lv_iload_n hx hb dX4_refusal_27 rfl (lv_at hl 3 rfl) ?_
        refine lv_icmp_ge (tgt := 75) hx hb dX4_refusal_28 (by decide) (fun c28 => ?_) (fun c28 => ?_)
        · skip
          have ic28 := zle (a := x3.toInt) (b := j.toInt) rfl rfl c28
          refine lv_iconst (v := 0) hx hb dX4_refusal_75 (by decide) ?_
          have hpost : σ = σ ∧ ((0 : Int32).toInt = 0 → ∀ t : Nat, (t : Int) < x3.toInt → 0 ≤ x2.toInt + t ∧ x2.toInt + t < 60) := by exact ⟨rfl, fun _ t ht => g2 t (by omega)⟩
          exact W.iret (v := 0) hx hb hr (fun t9 ht hW => ⟨⟨0, σ, rfl, hpost, by rw [ht]; exact hP, va_K.moved hW.alike hK, hD⟩, hS.F ht⟩) hS.2.2 dX4_refusal_76
        · skip
          have ic28 := znle (a := x3.toInt) (b := j.toInt) rfl rfl c28
          refine lv_aload_n hx hb dX4_refusal_31 rfl (lv_at hl 0 rfl) ?_
          refine lv_iload_n hx hb dX4_refusal_32 rfl (lv_at hl 2 rfl) ?_
          refine lv_iload hx hb dX4_refusal_33 (lv_at hl 4 rfl) ?_
          refine lv_iadd hx hb dX4_refusal_35 ?_
          refine lv_topi (fun v35 ev35 => ?_)
          have tv35 : v35.toInt = (x2.toInt + j.toInt + 2147483648) % 4294967296 - 2147483648 := by rw [ev35, zadd]
          refine zcalli (va_runV (As := [.int v35]) (rest := []) ⟨hx, hb, hml, hown, hts⟩ (c_X4_hasCell_9 l dC dI cB cI cS cII a N hok hn σ H.size (v35) ) (cwV 1 hts gX4_refusal_X4_hasCell rfl rfl rfl (by decide +kernel) ⟨Nat.le_of_ble_eq_true rfl, Nat.le_of_ble_eq_true rfl⟩) (zpreV (wf := wX a cB cI cS cII) (q0 := 9) (ci := 4) hok hN hS hA hK hP hD rfl rfl) rfl rfl hl.1 rfl (lv_room (Nat.le_of_ble_eq_true rfl)) dX4_refusal_36 ⟨Nat.zero_le _, Nat.zero_le _⟩) hD hS hA (fun v36 σ1 H locs hv36 hP hD hS => ?_)
          obtain ⟨es9, hv36⟩ := hv36
          subst σ1
          refine lv_if_ne (tgt := 45) hx hb dX4_refusal_39 (by decide) (fun c39 => ?_) (fun c39 => ?_)
          · skip
            have ic39 := zneq (a := v36.toInt) (b := 0) rfl (by decide) c39
            refine lv_aload_n hx hb dX4_refusal_45 rfl (lv_at hl 0 rfl) ?_
            refine va_get (D := (dC, dI)) (ci := 4) (v := .ref (a 39)) (C := RX4) (T := TX4) (N := 3) hx hb hts in4 hown hK hP 9 rfl rfl 2 (by decide) k15 (fun _ h9 => h9) rfl dX4_refusal_46 ?_
            refine lv_iload_n hx hb dX4_refusal_49 rfl (lv_at hl 2 rfl) ?_
            refine lv_iload hx hb dX4_refusal_50 (lv_at hl 4 rfl) ?_
            refine lv_iadd hx hb dX4_refusal_52 ?_
            refine lv_topi (fun v52 ev52 => ?_)
            have tv52 : v52.toInt = (x2.toInt + j.toInt + 2147483648) % 4294967296 - 2147483648 := by rw [ev52, zadd]
            refine va_iald (D := (dC, dI)) (f := σ 39) hx hb hK hP 39 1 rfl rfl (i := v52) (n := 60) (zin (by omega) (by omega)) dX4_refusal_53 ?_
            refine lv_topi (fun v53 ev53 => ?_)
            have tv53 := congrArg Int32.toInt ev53
            refine lv_iconst (v := 0) hx hb dX4_refusal_54 (by decide) ?_
            refine lv_bipush (v := 100) hx hb dX4_refusal_55 (by decide) ?_
            refine zcalli (va_runSN (As := [.int v53, .int 0, .int 100]) (rest := []) ⟨hx, hb, hml, hown, hts⟩ (c_X8_isWithin l dC dI cB cI cS cII a N hok hn σ H.size (v53) (0) (100) ) ⟨va_cnB (host := RX8) 3 hts ggX4_refusal_X8_isWithin rfl rfl rfl (hn _ _ hN (.methodLinkNest RX4 26 yX8_isWithin RX8) (by decide)) kin8 (by decide +kernel) ⟨Nat.le_of_ble_eq_true rfl, Nat.le_of_ble_eq_true rfl⟩, kst, trivial⟩ (zpreS (wf := wX a cB cI cS cII) hok hN hS hA hK hP hD) rfl rfl hl.1 rfl (lv_room (Nat.le_of_ble_eq_true rfl)) dX4_refusal_57 ⟨Nat.zero_le _, Nat.zero_le _⟩) hD hS hA (fun v57 σ1 H locs hv57 hP hD hS => ?_)
            obtain ⟨es9, hv57⟩ := hv57
            subst σ1
            try simp only [show (0 : Int32).toInt = 0 from by decide, show (100 : Int32).toInt = 100 from by decide] at hv57
            refine lv_if_ne (tgt := 69) hx hb dX4_refusal_60 (by decide) (fun c60 => ?_) (fun c60 => ?_)
            · skip
              have ic60 := zneq (a := v57.toInt) (b := 0) rfl (by decide) c60
              obtain ⟨v69, ev69⟩ : ∃ y : Int32, y = j + 1 := ⟨_, rfl⟩
              refine lv_iinc (v := v69) (lv' := [(4, .int v69), (0, .ref (a 9)), (1, .int x1), (2, .int x2), (3, .int x3)]) hx hb dX4_refusal_69 hl (k := 4) rfl (by rw [ev69]; rfl) (by decide) rfl (fun ls hl => ?_)
              have tv69 : v69.toInt = j.toInt + 1 := by rw [ev69, zadd, show (1 : Int32).toInt = 1 from by decide]; omega
              refine lv_goto (tgt := 25) hx hb dX4_refusal_72 (by decide) ?_
              exact ih (v69)  H locs ls (by omega) (by intro t ht; rcases (show (t : Int) < j.toInt ∨ (t : Int) = j.toInt from by omega) with q9 | q9; exact g2 t q9; have r2 := zrng x2; omega) (by omega) hP hD hS (lv_sub hl [1, 2, 3, 4, 0] rfl)
            · skip
              have ic60 := zeq (a := v57.toInt) (b := 0) rfl (by decide) c60
              refine lv_bipush (v := (-20)) hx hb dX4_refusal_63 (by decide) ?_
              refine lv_iload hx hb dX4_refusal_65 (lv_at hl 4 rfl) ?_
              refine lv_isub hx hb dX4_refusal_67 ?_
              refine lv_topi (fun v67 ev67 => ?_)
              have tv67 : v67.toInt = (-20) - j.toInt := by rw [ev67, zsub, show ((-20) : Int32).toInt = (-20) from by decide]; omega
              have hpost : σ = σ ∧ ((v67 : Int32).toInt = 0 → ∀ t : Nat, (t : Int) < x3.toInt → 0 ≤ x2.toInt + t ∧ x2.toInt + t < 60) := by exact ⟨rfl, fun q9 => by omega⟩
              exact W.iret (v := v67) hx hb hr (fun t9 ht hW => ⟨⟨v67, σ, rfl, hpost, by rw [ht]; exact hP, va_K.moved hW.alike hK, hD⟩, hS.F ht⟩) hS.2.2 dX4_refusal_68
          · skip
            have ic39 := zeq (a := v36.toInt) (b := 0) rfl (by decide) c39
            refine lv_bipush (v := (-12)) hx hb dX4_refusal_42 (by decide) ?_
            have hpost : σ = σ ∧ (((-12) : Int32).toInt = 0 → ∀ t : Nat, (t : Int) < x3.toInt → 0 ≤ x2.toInt + t ∧ x2.toInt + t < 60) := by exact ⟨rfl, fun q9 => absurd q9 (by decide)⟩
            exact W.iret (v := (-12)) hx hb hr (fun t9 ht hW => ⟨⟨(-12), σ, rfl, hpost, by rw [ht]; exact hP, va_K.moved hW.alike hK, hD⟩, hS.F ht⟩) hS.2.2 dX4_refusal_44
  have hl := lv_entry ([.ref (a 9), .int x1, .int x2, .int x3]) (n := 5) (Nat.le_of_ble_eq_true rfl)
  rw [lg_entry_eq]
  generalize (lg_sl ([.ref (a 9), .int x1, .int x2, .int x3]) ++ List.replicate (5 - (lg_sl ([.ref (a 9), .int x1, .int x2, .int x3])).length) Slot.unset).toArray = ls at hl ⊢
  have hl : lv_has ls 5 [(0, .ref (a 9)), (1, .int x1), (2, .int x2), (3, .int x3)] := hl
  suffices main : ∀ (H : Heap) (locs : List Loc), va_P (dC, dI) vwCl (wX a cB cI cS cII σ) H → va_D A (wX a cB cI cS cII σ) → va_S A s.heap H locs → W p l e (headSpec wsX4_refusal RM_X4_refusal).room s m ([.ref (a 9), .int x1, .int x2, .int x3] : List Value).toArray below meth c H locs 0 0 (MQ below (zQi (dC, dI) (zT cB cI cS cII) (wX a cB cI cS cII) A (fun (r : Int32) (σ1 : Cn) => σ1 = σ ∧ ((r : Int32).toInt = 0 → ∀ t : Nat, (t : Int) < x3.toInt → 0 ≤ x2.toInt + t ∧ x2.toInt + t < 60))) ([.ref (a 9), .int x1, .int x2, .int x3] : List Value).toArray s 0 0 A) (F0 m 0 ls []) from main s.heap [] hP hD hS
  intro H locs hP hD hS
  refine lv_aload_n hx hb dX4_refusal_0 rfl (lv_at hl 0 rfl) ?_
  refine va_get (D := (dC, dI)) (ci := 4) (v := .int (σ 9 0)) (C := RX4) (T := TX4) (N := 3) hx hb hts in4 hown hK hP 9 rfl rfl 0 (by decide) k9 (fun _ h9 => h9) rfl dX4_refusal_1 ?_
  refine lv_iconst (v := (-1)) hx hb dX4_refusal_4 (by decide) ?_
  refine lv_icmp_ne (tgt := 11) hx hb dX4_refusal_5 (by decide) (fun c5 => ?_) (fun c5 => ?_)
  · skip
    have ic5 := zneq (a := (σ 9 0).toInt) (b := (-1)) rfl (by decide) c5
    refine lv_aload_n hx hb dX4_refusal_11 rfl (lv_at hl 0 rfl) ?_
    refine va_get (D := (dC, dI)) (ci := 4) (v := .int (σ 9 0)) (C := RX4) (T := TX4) (N := 3) hx hb hts in4 hown hK hP 9 rfl rfl 0 (by decide) k9 (fun _ h9 => h9) rfl dX4_refusal_12 ?_
    refine lv_iload_n hx hb dX4_refusal_15 rfl (lv_at hl 1 rfl) ?_
    refine lv_icmp_eq (tgt := 22) hx hb dX4_refusal_16 (by decide) (fun c16 => ?_) (fun c16 => ?_)
    · skip
      have ic16 := zeq (a := (σ 9 0).toInt) (b := x1.toInt) rfl rfl c16
      refine lv_iconst (v := 0) hx hb dX4_refusal_22 (by decide) ?_
      refine lv_istore (lv' := [(4, .int 0), (0, .ref (a 9)), (1, .int x1), (2, .int x2), (3, .int x3)]) hx hb dX4_refusal_23 hl (by decide) rfl (fun ls hl => ?_)
      exact (LP _) (0)  H locs ls (by decide) (by intro t ht; rw [show (0 : Int32).toInt = 0 from by decide] at ht; omega) (Nat.lt_succ_self _) hP hD hS (lv_sub hl [1, 2, 3, 4, 0] rfl)
    · skip
      have ic16 := zneq (a := (σ 9 0).toInt) (b := x1.toInt) rfl rfl c16
      refine lv_bipush (v := (-13)) hx hb dX4_refusal_19 (by decide) ?_
      have hpost : σ = σ ∧ (((-13) : Int32).toInt = 0 → ∀ t : Nat, (t : Int) < x3.toInt → 0 ≤ x2.toInt + t ∧ x2.toInt + t < 60) := by exact ⟨rfl, fun q9 => absurd q9 (by decide)⟩
      exact W.iret (v := (-13)) hx hb hr (fun t9 ht hW => ⟨⟨(-13), σ, rfl, hpost, by rw [ht]; exact hP, va_K.moved hW.alike hK, hD⟩, hS.F ht⟩) hS.2.2 dX4_refusal_21
  · skip
    have ic5 := zeq (a := (σ 9 0).toInt) (b := (-1)) rfl (by decide) c5
    refine lv_bipush (v := (-11)) hx hb dX4_refusal_8 (by decide) ?_
    have hpost : σ = σ ∧ (((-11) : Int32).toInt = 0 → ∀ t : Nat, (t : Int) < x3.toInt → 0 ≤ x2.toInt + t ∧ x2.toInt + t < 60) := by exact ⟨rfl, fun q9 => absurd q9 (by decide)⟩
    exact W.iret (v := (-11)) hx hb hr (fun t9 ht hW => ⟨⟨(-11), σ, rfl, hpost, by rw [ht]; exact hP, va_K.moved hW.alike hK, hD⟩, hS.F ht⟩) hS.2.2 dX4_refusal_10

set_option maxHeartbeats 4000000 in
set_option maxRecDepth 100000 in
theorem c_X4_renew_10 (l : Launch) (dC : Nat → ClassId) (dI : Nat → Nat → Nat) (cB cI cS cII : ClassId) (a : Nat → Nat) (N : (Nat → Prop) → State → Prop) (hok : zNok N) (hn : ∀ A U, N A U → zN U) (σ : Cn) (sz : Nat) (x1 : Int32) (x2 : Int32)  : Met l yX4_renew wsX4_renew RM_X4_renew (zPc (dC, dI) (zT cB cI cS cII) N (wX a cB cI cS cII) σ sz [.ref (a 10), .int x1, .int x2]) (zQv (dC, dI) (zT cB cI cS cII) (wX a cB cI cS cII) (va_A (wX a cB cI cS cII σ) sz) (fun (σ1 : Cn) => ∃ u10 : Nat → Int32, ∃ u40 : Nat → Int32, σ1 = (upC (upC σ 10 u10) 40 u40) ∧ u10 0 = x1 ∧ u10 1 = x2)) 0 0 (va_A (wX a cB cI cS cII σ) sz) := by
  refine Met.ofW (cc := cX4_renew) (maxL := 4) (ret := none) (by decide) rfl ?_
  intro p e s m args below meth c s₁ B hml hv
  obtain ⟨rfl, hsz, hP, hK, hD0, hN⟩ := hv
  have hx := B.exec
  have hb := B.bytes
  have hr := B.returns
  have hts := atoms_spec (ws := wsX4_renew) B.pre
  have hown : s.vm.findClass RX4 = some m.cls := findClass_of_methodNamed B.named
  have hlocks := B.notSynchronized
  subst hsz
  have hD := hD0.self (sz := s.heap.size)
  generalize hAe : va_A (wX a cB cI cS cII σ) s.heap.size = A at hD hN ⊢
  have hA : ∀ q : Nat, s.heap.size ≤ q → A q := fun q h => by rw [← hAe]; exact Or.inr h
  clear hAe hD0
  have hS : va_S A s.heap s.heap [] := va_S.rf
  have in4 : ∀ w ∈ u_ws RX4 TX4 3, w ∈ wsX4_renew := by decide +kernel
  have k15 := hts (.fieldLink RX4 15 "HouseSorted$Sheet" "cells" "[I") (by decide +kernel)
  have k19 := hts (.fieldLink RX4 19 "HouseSorted$Sheet" "size" "I") (by decide +kernel)
  have k9 := hts (.fieldLink RX4 9 "HouseSorted$Sheet" "lane" "I") (by decide +kernel)
  have LP : ∀ n : Nat, (∀ (j : Int32) (w10 : Nat → Int32) (w40 : Nat → Int32) (H : Heap) (locs : List Loc) (ls : Array Slot), 0 ≤ j.toInt ∧ j.toInt ≤ 60 → w10 0 = x1 ∧ w10 1 = x2 → (60 - j.toInt).toNat < n → va_P (dC, dI) vwCl (wX a cB cI cS cII (upC (upC σ 10 w10) 40 w40)) H → va_D A (wX a cB cI cS cII (upC (upC σ 10 w10) 40 w40)) → va_S A s.heap H locs → lv_has ls 4 [(0, .ref (a 10)), (3, .int j)] → W p l e (headSpec wsX4_renew RM_X4_renew).room s m ([.ref (a 10), .int x1, .int x2] : List Value).toArray below meth c H locs 0 0 (MQ below (zQv (dC, dI) (zT cB cI cS cII) (wX a cB cI cS cII) A (fun (σ1 : Cn) => ∃ u10 : Nat → Int32, ∃ u40 : Nat → Int32, σ1 = (upC (upC σ 10 u10) 40 u40) ∧ u10 0 = x1 ∧ u10 1 = x2)) ([.ref (a 10), .int x1, .int x2] : List Value).toArray s 0 0 A) (F0 m 12 ls [])) := by
    intro n
    induction n with
    | zero => exact by intros; omega
    | succ n ih =>
      · intro j w10 w40 H locs ls g1 g2 hmu hP hD hS hl
        refine lv_iload_n hx hb dX4_renew_12 rfl (lv_at hl 1 rfl) ?_
        refine lv_bipush (v := 60) hx hb dX4_renew_13 (by decide) ?_
        refine lv_icmp_ge (tgt := 31) hx hb dX4_renew_15 (by decide) (fun c15 => ?_) (fun c15 => ?_)
        · skip
          have ic15 := zle (a := 60) (b := j.toInt) (by decide) rfl c15
          have hpost : ∃ u10 : Nat → Int32, ∃ u40 : Nat → Int32, (upC (upC σ 10 w10) 40 w40) = (upC (upC σ 10 u10) 40 u40) ∧ u10 0 = x1 ∧ u10 1 = x2 := by exact ⟨_, _, rfl, g2⟩
          exact W.vret hx hb hr (fun t9 ht hW => ⟨⟨(upC (upC σ 10 w10) 40 w40), rfl, hpost, by rw [ht]; exact hP, va_K.moved hW.alike hK, hD⟩, hS.F ht⟩) hS.2.2 dX4_renew_31
        · skip
          have ic15 := znle (a := 60) (b := j.toInt) (by decide) rfl c15
          refine lv_aload_n hx hb dX4_renew_18 rfl (lv_at hl 0 rfl) ?_
          refine va_get (D := (dC, dI)) (ci := 4) (v := .ref (a 40)) (C := RX4) (T := TX4) (N := 3) hx hb hts in4 hown hK hP 10 rfl rfl 2 (by decide) k15 (fun _ h9 => h9) rfl dX4_renew_19 ?_
          refine lv_iload_n hx hb dX4_renew_22 rfl (lv_at hl 1 rfl) ?_
          refine lv_iconst (v := 0) hx hb dX4_renew_23 (by decide) ?_
          refine va_iast (D := (dC, dI)) (f := w40) hx hb hK hP hD hS 40 1 rfl rfl (i := j) (n := 60) (zin (by omega) (by omega)) dX4_renew_24 (fun H locs hP hD hS => ?_)
          have hP : va_P (dC, dI) vwCl (wX a cB cI cS cII (upC (upC σ 10 w10) 40 (upd (w40) (j).toNatClampNeg 0))) H := hP
          have hD : va_D A (wX a cB cI cS cII (upC (upC σ 10 w10) 40 (upd (w40) (j).toNatClampNeg 0))) := hD
          obtain ⟨v25, ev25⟩ : ∃ y : Int32, y = j + 1 := ⟨_, rfl⟩
          refine lv_iinc (v := v25) (lv' := [(3, .int v25), (0, .ref (a 10))]) hx hb dX4_renew_25 hl (k := 1) rfl (by rw [ev25]; rfl) (by decide) rfl (fun ls hl => ?_)
          have tv25 : v25.toInt = j.toInt + 1 := by rw [ev25, zadd, show (1 : Int32).toInt = 1 from by decide]; omega
          refine lv_goto (tgt := 12) hx hb dX4_renew_28 (by decide) ?_
          exact ih (v25) (w10) (upd (w40) (j).toNatClampNeg 0) H locs ls (by omega) (g2) (by omega) hP hD hS (lv_sub hl [1, 0] rfl)
  have hl := lv_entry ([.ref (a 10), .int x1, .int x2]) (n := 4) (Nat.le_of_ble_eq_true rfl)
  rw [lg_entry_eq]
  generalize (lg_sl ([.ref (a 10), .int x1, .int x2]) ++ List.replicate (4 - (lg_sl ([.ref (a 10), .int x1, .int x2])).length) Slot.unset).toArray = ls at hl ⊢
  have hl : lv_has ls 4 [(0, .ref (a 10)), (1, .int x1), (2, .int x2)] := hl
  suffices main : ∀ (H : Heap) (locs : List Loc), va_P (dC, dI) vwCl (wX a cB cI cS cII σ) H → va_D A (wX a cB cI cS cII σ) → va_S A s.heap H locs → W p l e (headSpec wsX4_renew RM_X4_renew).room s m ([.ref (a 10), .int x1, .int x2] : List Value).toArray below meth c H locs 0 0 (MQ below (zQv (dC, dI) (zT cB cI cS cII) (wX a cB cI cS cII) A (fun (σ1 : Cn) => ∃ u10 : Nat → Int32, ∃ u40 : Nat → Int32, σ1 = (upC (upC σ 10 u10) 40 u40) ∧ u10 0 = x1 ∧ u10 1 = x2)) ([.ref (a 10), .int x1, .int x2] : List Value).toArray s 0 0 A) (F0 m 0 ls []) from main s.heap [] hP hD hS
  intro H locs hP hD hS
  refine lv_aload_n hx hb dX4_renew_0 rfl (lv_at hl 0 rfl) ?_
  refine lv_iload_n hx hb dX4_renew_1 rfl (lv_at hl 1 rfl) ?_
  refine va_put (D := (dC, dI)) (ci := 4) (v := .int x1) (ty := .int) (C := RX4) (T := TX4) (N := 3) hx hb hts in4 tyX4 tyX4_ok nmX4 hown hK hP hD hS 10 rfl rfl 0 (by decide) k9 (fun _ h9 => h9) rfl (by decide +kernel) rfl rfl (Nat.le_of_ble_eq_true rfl) dX4_renew_2 (fun H locs hP hD hS => ?_)
  have hP : va_P (dC, dI) vwCl (wX a cB cI cS cII (upC σ 10 (upd (σ 10) 0 x1))) H := hP
  have hD : va_D A (wX a cB cI cS cII (upC σ 10 (upd (σ 10) 0 x1))) := hD
  refine lv_aload_n hx hb dX4_renew_5 rfl (lv_at hl 0 rfl) ?_
  refine lv_iload_n hx hb dX4_renew_6 rfl (lv_at hl 2 rfl) ?_
  refine va_put (D := (dC, dI)) (ci := 4) (v := .int x2) (ty := .int) (C := RX4) (T := TX4) (N := 3) hx hb hts in4 tyX4 tyX4_ok nmX4 hown hK hP hD hS 10 rfl rfl 1 (by decide) k19 (fun _ h9 => h9) rfl (by decide +kernel) rfl rfl (Nat.le_of_ble_eq_true rfl) dX4_renew_7 (fun H locs hP hD hS => ?_)
  have hP : va_P (dC, dI) vwCl (wX a cB cI cS cII (upC σ 10 (upd (upd (σ 10) 0 x1) 1 x2))) H := hP
  have hD : va_D A (wX a cB cI cS cII (upC σ 10 (upd (upd (σ 10) 0 x1) 1 x2))) := hD
  refine lv_iconst (v := 0) hx hb dX4_renew_10 (by decide) ?_
  refine lv_istore_n (lv' := [(3, .int 0), (0, .ref (a 10)), (1, .int x1), (2, .int x2)]) hx hb dX4_renew_11 rfl hl (by decide) rfl (fun ls hl => ?_)
  exact (LP _) (0) (upd (upd (σ 10) 0 x1) 1 x2) (σ 40) H locs ls (by decide) (⟨rfl, rfl⟩) (Nat.lt_succ_self _) hP hD hS (lv_sub hl [1, 0] rfl)

set_option maxHeartbeats 4000000 in
set_option maxRecDepth 100000 in
theorem c_X4_hasCell_10 (l : Launch) (dC : Nat → ClassId) (dI : Nat → Nat → Nat) (cB cI cS cII : ClassId) (a : Nat → Nat) (N : (Nat → Prop) → State → Prop) (hok : zNok N) (hn : ∀ A U, N A U → zN U) (σ : Cn) (sz : Nat) (x1 : Int32)  : Met l yX4_hasCell wsX4_hasCell RM_X4_hasCell (zPc (dC, dI) (zT cB cI cS cII) N (wX a cB cI cS cII) σ sz [.ref (a 10), .int x1]) (zQi (dC, dI) (zT cB cI cS cII) (wX a cB cI cS cII) (va_A (wX a cB cI cS cII σ) sz) (fun (r : Int32) (σ1 : Cn) => σ1 = σ ∧ ((r : Int32).toInt = 1 ∧ 0 ≤ x1.toInt ∧ x1.toInt < (σ 10 1).toInt ∨ (r : Int32).toInt = 0 ∧ ¬ (0 ≤ x1.toInt ∧ x1.toInt < (σ 10 1).toInt)))) 0 0 (va_A (wX a cB cI cS cII σ) sz) := by
  refine Met.ofW (cc := cX4_hasCell) (maxL := 2) (ret := (some .boolean)) (by decide) rfl ?_
  intro p e s m args below meth c s₁ B hml hv
  obtain ⟨rfl, hsz, hP, hK, hD0, hN⟩ := hv
  have hx := B.exec
  have hb := B.bytes
  have hr := B.returns
  have hts := atoms_spec (ws := wsX4_hasCell) B.pre
  have hown : s.vm.findClass RX4 = some m.cls := findClass_of_methodNamed B.named
  have hlocks := B.notSynchronized
  subst hsz
  have hD := hD0.self (sz := s.heap.size)
  generalize hAe : va_A (wX a cB cI cS cII σ) s.heap.size = A at hD hN ⊢
  have hA : ∀ q : Nat, s.heap.size ≤ q → A q := fun q h => by rw [← hAe]; exact Or.inr h
  clear hAe hD0
  have hS : va_S A s.heap s.heap [] := va_S.rf
  have in4 : ∀ w ∈ u_ws RX4 TX4 3, w ∈ wsX4_hasCell := by decide +kernel
  have k19 := hts (.fieldLink RX4 19 "HouseSorted$Sheet" "size" "I") (by decide +kernel)
  have hl := lv_entry ([.ref (a 10), .int x1]) (n := 2) (Nat.le_of_ble_eq_true rfl)
  rw [lg_entry_eq]
  generalize (lg_sl ([.ref (a 10), .int x1]) ++ List.replicate (2 - (lg_sl ([.ref (a 10), .int x1])).length) Slot.unset).toArray = ls at hl ⊢
  have hl : lv_has ls 2 [(0, .ref (a 10)), (1, .int x1)] := hl
  suffices main : ∀ (H : Heap) (locs : List Loc), va_P (dC, dI) vwCl (wX a cB cI cS cII σ) H → va_D A (wX a cB cI cS cII σ) → va_S A s.heap H locs → W p l e (headSpec wsX4_hasCell RM_X4_hasCell).room s m ([.ref (a 10), .int x1] : List Value).toArray below meth c H locs 0 0 (MQ below (zQi (dC, dI) (zT cB cI cS cII) (wX a cB cI cS cII) A (fun (r : Int32) (σ1 : Cn) => σ1 = σ ∧ ((r : Int32).toInt = 1 ∧ 0 ≤ x1.toInt ∧ x1.toInt < (σ 10 1).toInt ∨ (r : Int32).toInt = 0 ∧ ¬ (0 ≤ x1.toInt ∧ x1.toInt < (σ 10 1).toInt)))) ([.ref (a 10), .int x1] : List Value).toArray s 0 0 A) (F0 m 0 ls []) from main s.heap [] hP hD hS
  intro H locs hP hD hS
  refine lv_iload_n hx hb dX4_hasCell_0 rfl (lv_at hl 1 rfl) ?_
  refine lv_if_lt (tgt := 16) hx hb dX4_hasCell_1 (by decide) (fun c1 => ?_) (fun c1 => ?_)
  · skip
    have ic1 := zlt (a := x1.toInt) (b := 0) rfl (by decide) c1
    refine lv_iconst (v := 0) hx hb dX4_hasCell_16 (by decide) ?_
    have hpost : σ = σ ∧ ((0 : Int32).toInt = 1 ∧ 0 ≤ x1.toInt ∧ x1.toInt < (σ 10 1).toInt ∨ (0 : Int32).toInt = 0 ∧ ¬ (0 ≤ x1.toInt ∧ x1.toInt < (σ 10 1).toInt)) := by exact ⟨rfl, by first | (left; exact ⟨by decide, by omega⟩) | (right; exact ⟨by decide, by omega⟩)⟩
    exact W.zret (v := 0) hx hb hr (by decide +kernel) (fun t9 ht hW => ⟨⟨0, σ, rfl, hpost, by rw [ht]; exact hP, va_K.moved hW.alike hK, hD⟩, hS.F ht⟩) hS.2.2 dX4_hasCell_17
  · skip
    have ic1 := znlt (a := x1.toInt) (b := 0) rfl (by decide) c1
    refine lv_iload_n hx hb dX4_hasCell_4 rfl (lv_at hl 1 rfl) ?_
    refine lv_aload_n hx hb dX4_hasCell_5 rfl (lv_at hl 0 rfl) ?_
    refine va_get (D := (dC, dI)) (ci := 4) (v := .int (σ 10 1)) (C := RX4) (T := TX4) (N := 3) hx hb hts in4 hown hK hP 10 rfl rfl 1 (by decide) k19 (fun _ h9 => h9) rfl dX4_hasCell_6 ?_
    refine lv_icmp_ge (tgt := 16) hx hb dX4_hasCell_9 (by decide) (fun c9 => ?_) (fun c9 => ?_)
    · skip
      have ic9 := zle (a := (σ 10 1).toInt) (b := x1.toInt) rfl rfl c9
      refine lv_iconst (v := 0) hx hb dX4_hasCell_16 (by decide) ?_
      have hpost : σ = σ ∧ ((0 : Int32).toInt = 1 ∧ 0 ≤ x1.toInt ∧ x1.toInt < (σ 10 1).toInt ∨ (0 : Int32).toInt = 0 ∧ ¬ (0 ≤ x1.toInt ∧ x1.toInt < (σ 10 1).toInt)) := by exact ⟨rfl, by first | (left; exact ⟨by decide, by omega⟩) | (right; exact ⟨by decide, by omega⟩)⟩
      exact W.zret (v := 0) hx hb hr (by decide +kernel) (fun t9 ht hW => ⟨⟨0, σ, rfl, hpost, by rw [ht]; exact hP, va_K.moved hW.alike hK, hD⟩, hS.F ht⟩) hS.2.2 dX4_hasCell_17
    · skip
      have ic9 := znle (a := (σ 10 1).toInt) (b := x1.toInt) rfl rfl c9
      refine lv_iconst (v := 1) hx hb dX4_hasCell_12 (by decide) ?_
      refine lv_goto (tgt := 17) hx hb dX4_hasCell_13 (by decide) ?_
      have hpost : σ = σ ∧ ((1 : Int32).toInt = 1 ∧ 0 ≤ x1.toInt ∧ x1.toInt < (σ 10 1).toInt ∨ (1 : Int32).toInt = 0 ∧ ¬ (0 ≤ x1.toInt ∧ x1.toInt < (σ 10 1).toInt)) := by exact ⟨rfl, by first | (left; exact ⟨by decide, by omega⟩) | (right; exact ⟨by decide, by omega⟩)⟩
      exact W.zret (v := 1) hx hb hr (by decide +kernel) (fun t9 ht hW => ⟨⟨1, σ, rfl, hpost, by rw [ht]; exact hP, va_K.moved hW.alike hK, hD⟩, hS.F ht⟩) hS.2.2 dX4_hasCell_17

set_option maxHeartbeats 4000000 in
set_option maxRecDepth 100000 in
theorem c_X4_put_10 (l : Launch) (dC : Nat → ClassId) (dI : Nat → Nat → Nat) (cB cI cS cII : ClassId) (a : Nat → Nat) (N : (Nat → Prop) → State → Prop) (hok : zNok N) (hn : ∀ A U, N A U → zN U) (σ : Cn) (sz : Nat) (x1 : Int32) (x2 : Int32) (h1 : 0 ≤ x1.toInt ∧ x1.toInt < 60) : Met l yX4_put wsX4_put RM_X4_put (zPc (dC, dI) (zT cB cI cS cII) N (wX a cB cI cS cII) σ sz [.ref (a 10), .int x1, .int x2]) (zQv (dC, dI) (zT cB cI cS cII) (wX a cB cI cS cII) (va_A (wX a cB cI cS cII σ) sz) (fun (σ1 : Cn) => ∃ u40 : Nat → Int32, σ1 = (upC σ 40 u40) ∧ True)) 0 0 (va_A (wX a cB cI cS cII σ) sz) := by
  refine Met.ofW (cc := cX4_put) (maxL := 3) (ret := none) (by decide) rfl ?_
  intro p e s m args below meth c s₁ B hml hv
  obtain ⟨rfl, hsz, hP, hK, hD0, hN⟩ := hv
  have hx := B.exec
  have hb := B.bytes
  have hr := B.returns
  have hts := atoms_spec (ws := wsX4_put) B.pre
  have hown : s.vm.findClass RX4 = some m.cls := findClass_of_methodNamed B.named
  have hlocks := B.notSynchronized
  subst hsz
  have hD := hD0.self (sz := s.heap.size)
  generalize hAe : va_A (wX a cB cI cS cII σ) s.heap.size = A at hD hN ⊢
  have hA : ∀ q : Nat, s.heap.size ≤ q → A q := fun q h => by rw [← hAe]; exact Or.inr h
  clear hAe hD0
  have hS : va_S A s.heap s.heap [] := va_S.rf
  have in4 : ∀ w ∈ u_ws RX4 TX4 3, w ∈ wsX4_put := by decide +kernel
  have k15 := hts (.fieldLink RX4 15 "HouseSorted$Sheet" "cells" "[I") (by decide +kernel)
  have k9 := hts (.fieldLink RX4 9 "HouseSorted$Sheet" "lane" "I") (by decide +kernel)
  have hl := lv_entry ([.ref (a 10), .int x1, .int x2]) (n := 3) (Nat.le_of_ble_eq_true rfl)
  rw [lg_entry_eq]
  generalize (lg_sl ([.ref (a 10), .int x1, .int x2]) ++ List.replicate (3 - (lg_sl ([.ref (a 10), .int x1, .int x2])).length) Slot.unset).toArray = ls at hl ⊢
  have hl : lv_has ls 3 [(0, .ref (a 10)), (1, .int x1), (2, .int x2)] := hl
  suffices main : ∀ (H : Heap) (locs : List Loc), va_P (dC, dI) vwCl (wX a cB cI cS cII σ) H → va_D A (wX a cB cI cS cII σ) → va_S A s.heap H locs → W p l e (headSpec wsX4_put RM_X4_put).room s m ([.ref (a 10), .int x1, .int x2] : List Value).toArray below meth c H locs 0 0 (MQ below (zQv (dC, dI) (zT cB cI cS cII) (wX a cB cI cS cII) A (fun (σ1 : Cn) => ∃ u40 : Nat → Int32, σ1 = (upC σ 40 u40) ∧ True)) ([.ref (a 10), .int x1, .int x2] : List Value).toArray s 0 0 A) (F0 m 0 ls []) from main s.heap [] hP hD hS
  intro H locs hP hD hS
  refine lv_aload_n hx hb dX4_put_0 rfl (lv_at hl 0 rfl) ?_
  refine va_get (D := (dC, dI)) (ci := 4) (v := .ref (a 40)) (C := RX4) (T := TX4) (N := 3) hx hb hts in4 hown hK hP 10 rfl rfl 2 (by decide) k15 (fun _ h9 => h9) rfl dX4_put_1 ?_
  refine lv_iload_n hx hb dX4_put_4 rfl (lv_at hl 1 rfl) ?_
  refine lv_aload_n hx hb dX4_put_5 rfl (lv_at hl 0 rfl) ?_
  refine va_get (D := (dC, dI)) (ci := 4) (v := .int (σ 10 0)) (C := RX4) (T := TX4) (N := 3) hx hb hts in4 hown hK hP 10 rfl rfl 0 (by decide) k9 (fun _ h9 => h9) rfl dX4_put_6 ?_
  refine lv_if_ne (tgt := 17) hx hb dX4_put_9 (by decide) (fun c9 => ?_) (fun c9 => ?_)
  · skip
    have ic9 := zneq (a := (σ 10 0).toInt) (b := 0) rfl (by decide) c9
    refine lv_aload_n hx hb dX4_put_17 rfl (lv_at hl 0 rfl) ?_
    refine va_get (D := (dC, dI)) (ci := 4) (v := .int (σ 10 0)) (C := RX4) (T := TX4) (N := 3) hx hb hts in4 hown hK hP 10 rfl rfl 0 (by decide) k9 (fun _ h9 => h9) rfl dX4_put_18 ?_
    refine lv_iconst (v := 1) hx hb dX4_put_21 (by decide) ?_
    refine lv_icmp_ne (tgt := 30) hx hb dX4_put_22 (by decide) (fun c22 => ?_) (fun c22 => ?_)
    · skip
      have ic22 := zneq (a := (σ 10 0).toInt) (b := 1) rfl (by decide) c22
      refine lv_iload_n hx hb dX4_put_30 rfl (lv_at hl 2 rfl) ?_
      refine va_iast (D := (dC, dI)) (f := σ 40) hx hb hK hP hD hS 40 1 rfl rfl (i := x1) (n := 60) (zin (by omega) (by omega)) dX4_put_31 (fun H locs hP hD hS => ?_)
      have hP : va_P (dC, dI) vwCl (wX a cB cI cS cII (upC σ 40 (upd (σ 40) (x1).toNatClampNeg x2))) H := hP
      have hD : va_D A (wX a cB cI cS cII (upC σ 40 (upd (σ 40) (x1).toNatClampNeg x2))) := hD
      have hpost : ∃ u40 : Nat → Int32, (upC σ 40 (upd (σ 40) (x1).toNatClampNeg x2)) = (upC σ 40 u40) ∧ True := by exact ⟨_, rfl, trivial⟩
      exact W.vret hx hb hr (fun t9 ht hW => ⟨⟨(upC σ 40 (upd (σ 40) (x1).toNatClampNeg x2)), rfl, hpost, by rw [ht]; exact hP, va_K.moved hW.alike hK, hD⟩, hS.F ht⟩) hS.2.2 dX4_put_32
    · skip
      have ic22 := zeq (a := (σ 10 0).toInt) (b := 1) rfl (by decide) c22
      refine lv_iload_n hx hb dX4_put_25 rfl (lv_at hl 2 rfl) ?_
      refine lv_i2s hx hb dX4_put_26 rfl ?_
      refine lv_topi (fun v26 ev26 => ?_)
      refine lv_goto (tgt := 31) hx hb dX4_put_27 (by decide) ?_
      refine va_iast (D := (dC, dI)) (f := σ 40) hx hb hK hP hD hS 40 1 rfl rfl (i := x1) (n := 60) (zin (by omega) (by omega)) dX4_put_31 (fun H locs hP hD hS => ?_)
      have hP : va_P (dC, dI) vwCl (wX a cB cI cS cII (upC σ 40 (upd (σ 40) (x1).toNatClampNeg v26))) H := hP
      have hD : va_D A (wX a cB cI cS cII (upC σ 40 (upd (σ 40) (x1).toNatClampNeg v26))) := hD
      have hpost : ∃ u40 : Nat → Int32, (upC σ 40 (upd (σ 40) (x1).toNatClampNeg v26)) = (upC σ 40 u40) ∧ True := by exact ⟨_, rfl, trivial⟩
      exact W.vret hx hb hr (fun t9 ht hW => ⟨⟨(upC σ 40 (upd (σ 40) (x1).toNatClampNeg v26)), rfl, hpost, by rw [ht]; exact hP, va_K.moved hW.alike hK, hD⟩, hS.F ht⟩) hS.2.2 dX4_put_32
  · skip
    have ic9 := zeq (a := (σ 10 0).toInt) (b := 0) rfl (by decide) c9
    refine lv_iload_n hx hb dX4_put_12 rfl (lv_at hl 2 rfl) ?_
    refine lv_i2b hx hb dX4_put_13 rfl ?_
    refine lv_topi (fun v13 ev13 => ?_)
    refine lv_goto (tgt := 31) hx hb dX4_put_14 (by decide) ?_
    refine va_iast (D := (dC, dI)) (f := σ 40) hx hb hK hP hD hS 40 1 rfl rfl (i := x1) (n := 60) (zin (by omega) (by omega)) dX4_put_31 (fun H locs hP hD hS => ?_)
    have hP : va_P (dC, dI) vwCl (wX a cB cI cS cII (upC σ 40 (upd (σ 40) (x1).toNatClampNeg v13))) H := hP
    have hD : va_D A (wX a cB cI cS cII (upC σ 40 (upd (σ 40) (x1).toNatClampNeg v13))) := hD
    have hpost : ∃ u40 : Nat → Int32, (upC σ 40 (upd (σ 40) (x1).toNatClampNeg v13)) = (upC σ 40 u40) ∧ True := by exact ⟨_, rfl, trivial⟩
    exact W.vret hx hb hr (fun t9 ht hW => ⟨⟨(upC σ 40 (upd (σ 40) (x1).toNatClampNeg v13)), rfl, hpost, by rw [ht]; exact hP, va_K.moved hW.alike hK, hD⟩, hS.F ht⟩) hS.2.2 dX4_put_32

set_option maxHeartbeats 4000000 in
set_option maxRecDepth 100000 in
theorem c_X4_refusal_10 (l : Launch) (dC : Nat → ClassId) (dI : Nat → Nat → Nat) (cB cI cS cII : ClassId) (a : Nat → Nat) (N : (Nat → Prop) → State → Prop) (hok : zNok N) (hn : ∀ A U, N A U → zN U) (σ : Cn) (sz : Nat) (x1 : Int32) (x2 : Int32) (x3 : Int32) (h1 : 0 ≤ (σ 10 1).toInt ∧ (σ 10 1).toInt ≤ 60) (h3 : 0 ≤ x3.toInt ∧ x3.toInt ≤ 10) : Met l yX4_refusal wsX4_refusal RM_X4_refusal (zPc (dC, dI) (zT cB cI cS cII) N (wX a cB cI cS cII) σ sz [.ref (a 10), .int x1, .int x2, .int x3]) (zQi (dC, dI) (zT cB cI cS cII) (wX a cB cI cS cII) (va_A (wX a cB cI cS cII σ) sz) (fun (r : Int32) (σ1 : Cn) => σ1 = σ ∧ ((r : Int32).toInt = 0 → ∀ t : Nat, (t : Int) < x3.toInt → 0 ≤ x2.toInt + t ∧ x2.toInt + t < 60))) 0 0 (va_A (wX a cB cI cS cII σ) sz) := by
  refine Met.ofW (cc := cX4_refusal) (maxL := 5) (ret := (some .int)) (by decide) rfl ?_
  intro p e s m args below meth c s₁ B hml hv
  obtain ⟨rfl, hsz, hP, hK, hD0, hN⟩ := hv
  have hx := B.exec
  have hb := B.bytes
  have hr := B.returns
  have hts := atoms_spec (ws := wsX4_refusal) B.pre
  have hown : s.vm.findClass RX4 = some m.cls := findClass_of_methodNamed B.named
  have hlocks := B.notSynchronized
  subst hsz
  have hD := hD0.self (sz := s.heap.size)
  generalize hAe : va_A (wX a cB cI cS cII σ) s.heap.size = A at hD hN ⊢
  have hA : ∀ q : Nat, s.heap.size ≤ q → A q := fun q h => by rw [← hAe]; exact Or.inr h
  clear hAe hD0
  have hS : va_S A s.heap s.heap [] := va_S.rf
  have in4 : ∀ w ∈ u_ws RX4 TX4 3, w ∈ wsX4_refusal := by decide +kernel
  have k15 := hts (.fieldLink RX4 15 "HouseSorted$Sheet" "cells" "[I") (by decide +kernel)
  have k9 := hts (.fieldLink RX4 9 "HouseSorted$Sheet" "lane" "I") (by decide +kernel)
  have kin8 := hts (.initialized RX8) (by decide +kernel)
  have kst := hts (.static yX8_isWithin) (by decide +kernel)
  have LP : ∀ n : Nat, (∀ (j : Int32) (H : Heap) (locs : List Loc) (ls : Array Slot), 0 ≤ j.toInt ∧ j.toInt ≤ 10 → (∀ t : Nat, (t : Int) < j.toInt → 0 ≤ x2.toInt + t ∧ x2.toInt + t < 60) → (10 - j.toInt).toNat < n → va_P (dC, dI) vwCl (wX a cB cI cS cII σ) H → va_D A (wX a cB cI cS cII σ) → va_S A s.heap H locs → lv_has ls 5 [(0, .ref (a 10)), (1, .int x1), (2, .int x2), (3, .int x3), (4, .int j)] → W p l e (headSpec wsX4_refusal RM_X4_refusal).room s m ([.ref (a 10), .int x1, .int x2, .int x3] : List Value).toArray below meth c H locs 0 0 (MQ below (zQi (dC, dI) (zT cB cI cS cII) (wX a cB cI cS cII) A (fun (r : Int32) (σ1 : Cn) => σ1 = σ ∧ ((r : Int32).toInt = 0 → ∀ t : Nat, (t : Int) < x3.toInt → 0 ≤ x2.toInt + t ∧ x2.toInt + t < 60))) ([.ref (a 10), .int x1, .int x2, .int x3] : List Value).toArray s 0 0 A) (F0 m 25 ls [])) := by
    intro n
    induction n with
    | zero => exact by intros; omega
    | succ n ih =>
      · intro j H locs ls g1 g2 hmu hP hD hS hl
        refine lv_iload hx hb dX4_refusal_25 (lv_at hl 4 rfl) ?_
        refine lv_iload_n hx hb dX4_refusal_27 rfl (lv_at hl 3 rfl) ?_
        refine lv_icmp_ge (tgt := 75) hx hb dX4_refusal_28 (by decide) (fun c28 => ?_) (fun c28 => ?_)
        · skip
          have ic28 := zle (a := x3.toInt) (b := j.toInt) rfl rfl c28
          refine lv_iconst (v := 0) hx hb dX4_refusal_75 (by decide) ?_
          have hpost : σ = σ ∧ ((0 : Int32).toInt = 0 → ∀ t : Nat, (t : Int) < x3.toInt → 0 ≤ x2.toInt + t ∧ x2.toInt + t < 60) := by exact ⟨rfl, fun _ t ht => g2 t (by omega)⟩
          exact W.iret (v := 0) hx hb hr (fun t9 ht hW => ⟨⟨0, σ, rfl, hpost, by rw [ht]; exact hP, va_K.moved hW.alike hK, hD⟩, hS.F ht⟩) hS.2.2 dX4_refusal_76
        · skip
          have ic28 := znle (a := x3.toInt) (b := j.toInt) rfl rfl c28
          refine lv_aload_n hx hb dX4_refusal_31 rfl (lv_at hl 0 rfl) ?_
          refine lv_iload_n hx hb dX4_refusal_32 rfl (lv_at hl 2 rfl) ?_
          refine lv_iload hx hb dX4_refusal_33 (lv_at hl 4 rfl) ?_
          refine lv_iadd hx hb dX4_refusal_35 ?_
          refine lv_topi (fun v35 ev35 => ?_)
          have tv35 : v35.toInt = (x2.toInt + j.toInt + 2147483648) % 4294967296 - 2147483648 := by rw [ev35, zadd]
          refine zcalli (va_runV (As := [.int v35]) (rest := []) ⟨hx, hb, hml, hown, hts⟩ (c_X4_hasCell_10 l dC dI cB cI cS cII a N hok hn σ H.size (v35) ) (cwV 1 hts gX4_refusal_X4_hasCell rfl rfl rfl (by decide +kernel) ⟨Nat.le_of_ble_eq_true rfl, Nat.le_of_ble_eq_true rfl⟩) (zpreV (wf := wX a cB cI cS cII) (q0 := 10) (ci := 4) hok hN hS hA hK hP hD rfl rfl) rfl rfl hl.1 rfl (lv_room (Nat.le_of_ble_eq_true rfl)) dX4_refusal_36 ⟨Nat.zero_le _, Nat.zero_le _⟩) hD hS hA (fun v36 σ1 H locs hv36 hP hD hS => ?_)
          obtain ⟨es9, hv36⟩ := hv36
          subst σ1
          refine lv_if_ne (tgt := 45) hx hb dX4_refusal_39 (by decide) (fun c39 => ?_) (fun c39 => ?_)
          · skip
            have ic39 := zneq (a := v36.toInt) (b := 0) rfl (by decide) c39
            refine lv_aload_n hx hb dX4_refusal_45 rfl (lv_at hl 0 rfl) ?_
            refine va_get (D := (dC, dI)) (ci := 4) (v := .ref (a 40)) (C := RX4) (T := TX4) (N := 3) hx hb hts in4 hown hK hP 10 rfl rfl 2 (by decide) k15 (fun _ h9 => h9) rfl dX4_refusal_46 ?_
            refine lv_iload_n hx hb dX4_refusal_49 rfl (lv_at hl 2 rfl) ?_
            refine lv_iload hx hb dX4_refusal_50 (lv_at hl 4 rfl) ?_
            refine lv_iadd hx hb dX4_refusal_52 ?_
            refine lv_topi (fun v52 ev52 => ?_)
            have tv52 : v52.toInt = (x2.toInt + j.toInt + 2147483648) % 4294967296 - 2147483648 := by rw [ev52, zadd]
            refine va_iald (D := (dC, dI)) (f := σ 40) hx hb hK hP 40 1 rfl rfl (i := v52) (n := 60) (zin (by omega) (by omega)) dX4_refusal_53 ?_
            refine lv_topi (fun v53 ev53 => ?_)
            have tv53 := congrArg Int32.toInt ev53
            refine lv_iconst (v := 0) hx hb dX4_refusal_54 (by decide) ?_
            refine lv_bipush (v := 100) hx hb dX4_refusal_55 (by decide) ?_
            refine zcalli (va_runSN (As := [.int v53, .int 0, .int 100]) (rest := []) ⟨hx, hb, hml, hown, hts⟩ (c_X8_isWithin l dC dI cB cI cS cII a N hok hn σ H.size (v53) (0) (100) ) ⟨va_cnB (host := RX8) 3 hts ggX4_refusal_X8_isWithin rfl rfl rfl (hn _ _ hN (.methodLinkNest RX4 26 yX8_isWithin RX8) (by decide)) kin8 (by decide +kernel) ⟨Nat.le_of_ble_eq_true rfl, Nat.le_of_ble_eq_true rfl⟩, kst, trivial⟩ (zpreS (wf := wX a cB cI cS cII) hok hN hS hA hK hP hD) rfl rfl hl.1 rfl (lv_room (Nat.le_of_ble_eq_true rfl)) dX4_refusal_57 ⟨Nat.zero_le _, Nat.zero_le _⟩) hD hS hA (fun v57 σ1 H locs hv57 hP hD hS => ?_)
            obtain ⟨es9, hv57⟩ := hv57
            subst σ1
            try simp only [show (0 : Int32).toInt = 0 from by decide, show (100 : Int32).toInt = 100 from by decide] at hv57
            refine lv_if_ne (tgt := 69) hx hb dX4_refusal_60 (by decide) (fun c60 => ?_) (fun c60 => ?_)
            · skip
              have ic60 := zneq (a := v57.toInt) (b := 0) rfl (by decide) c60
              obtain ⟨v69, ev69⟩ : ∃ y : Int32, y = j + 1 := ⟨_, rfl⟩
              refine lv_iinc (v := v69) (lv' := [(4, .int v69), (0, .ref (a 10)), (1, .int x1), (2, .int x2), (3, .int x3)]) hx hb dX4_refusal_69 hl (k := 4) rfl (by rw [ev69]; rfl) (by decide) rfl (fun ls hl => ?_)
              have tv69 : v69.toInt = j.toInt + 1 := by rw [ev69, zadd, show (1 : Int32).toInt = 1 from by decide]; omega
              refine lv_goto (tgt := 25) hx hb dX4_refusal_72 (by decide) ?_
              exact ih (v69)  H locs ls (by omega) (by intro t ht; rcases (show (t : Int) < j.toInt ∨ (t : Int) = j.toInt from by omega) with q9 | q9; exact g2 t q9; have r2 := zrng x2; omega) (by omega) hP hD hS (lv_sub hl [1, 2, 3, 4, 0] rfl)
            · skip
              have ic60 := zeq (a := v57.toInt) (b := 0) rfl (by decide) c60
              refine lv_bipush (v := (-20)) hx hb dX4_refusal_63 (by decide) ?_
              refine lv_iload hx hb dX4_refusal_65 (lv_at hl 4 rfl) ?_
              refine lv_isub hx hb dX4_refusal_67 ?_
              refine lv_topi (fun v67 ev67 => ?_)
              have tv67 : v67.toInt = (-20) - j.toInt := by rw [ev67, zsub, show ((-20) : Int32).toInt = (-20) from by decide]; omega
              have hpost : σ = σ ∧ ((v67 : Int32).toInt = 0 → ∀ t : Nat, (t : Int) < x3.toInt → 0 ≤ x2.toInt + t ∧ x2.toInt + t < 60) := by exact ⟨rfl, fun q9 => by omega⟩
              exact W.iret (v := v67) hx hb hr (fun t9 ht hW => ⟨⟨v67, σ, rfl, hpost, by rw [ht]; exact hP, va_K.moved hW.alike hK, hD⟩, hS.F ht⟩) hS.2.2 dX4_refusal_68
          · skip
            have ic39 := zeq (a := v36.toInt) (b := 0) rfl (by decide) c39
            refine lv_bipush (v := (-12)) hx hb dX4_refusal_42 (by decide) ?_
            have hpost : σ = σ ∧ (((-12) : Int32).toInt = 0 → ∀ t : Nat, (t : Int) < x3.toInt → 0 ≤ x2.toInt + t ∧ x2.toInt + t < 60) := by exact ⟨rfl, fun q9 => absurd q9 (by decide)⟩
            exact W.iret (v := (-12)) hx hb hr (fun t9 ht hW => ⟨⟨(-12), σ, rfl, hpost, by rw [ht]; exact hP, va_K.moved hW.alike hK, hD⟩, hS.F ht⟩) hS.2.2 dX4_refusal_44
  have hl := lv_entry ([.ref (a 10), .int x1, .int x2, .int x3]) (n := 5) (Nat.le_of_ble_eq_true rfl)
  rw [lg_entry_eq]
  generalize (lg_sl ([.ref (a 10), .int x1, .int x2, .int x3]) ++ List.replicate (5 - (lg_sl ([.ref (a 10), .int x1, .int x2, .int x3])).length) Slot.unset).toArray = ls at hl ⊢
  have hl : lv_has ls 5 [(0, .ref (a 10)), (1, .int x1), (2, .int x2), (3, .int x3)] := hl
  suffices main : ∀ (H : Heap) (locs : List Loc), va_P (dC, dI) vwCl (wX a cB cI cS cII σ) H → va_D A (wX a cB cI cS cII σ) → va_S A s.heap H locs → W p l e (headSpec wsX4_refusal RM_X4_refusal).room s m ([.ref (a 10), .int x1, .int x2, .int x3] : List Value).toArray below meth c H locs 0 0 (MQ below (zQi (dC, dI) (zT cB cI cS cII) (wX a cB cI cS cII) A (fun (r : Int32) (σ1 : Cn) => σ1 = σ ∧ ((r : Int32).toInt = 0 → ∀ t : Nat, (t : Int) < x3.toInt → 0 ≤ x2.toInt + t ∧ x2.toInt + t < 60))) ([.ref (a 10), .int x1, .int x2, .int x3] : List Value).toArray s 0 0 A) (F0 m 0 ls []) from main s.heap [] hP hD hS
  intro H locs hP hD hS
  refine lv_aload_n hx hb dX4_refusal_0 rfl (lv_at hl 0 rfl) ?_
  refine va_get (D := (dC, dI)) (ci := 4) (v := .int (σ 10 0)) (C := RX4) (T := TX4) (N := 3) hx hb hts in4 hown hK hP 10 rfl rfl 0 (by decide) k9 (fun _ h9 => h9) rfl dX4_refusal_1 ?_
  refine lv_iconst (v := (-1)) hx hb dX4_refusal_4 (by decide) ?_
  refine lv_icmp_ne (tgt := 11) hx hb dX4_refusal_5 (by decide) (fun c5 => ?_) (fun c5 => ?_)
  · skip
    have ic5 := zneq (a := (σ 10 0).toInt) (b := (-1)) rfl (by decide) c5
    refine lv_aload_n hx hb dX4_refusal_11 rfl (lv_at hl 0 rfl) ?_
    refine va_get (D := (dC, dI)) (ci := 4) (v := .int (σ 10 0)) (C := RX4) (T := TX4) (N := 3) hx hb hts in4 hown hK hP 10 rfl rfl 0 (by decide) k9 (fun _ h9 => h9) rfl dX4_refusal_12 ?_
    refine lv_iload_n hx hb dX4_refusal_15 rfl (lv_at hl 1 rfl) ?_
    refine lv_icmp_eq (tgt := 22) hx hb dX4_refusal_16 (by decide) (fun c16 => ?_) (fun c16 => ?_)
    · skip
      have ic16 := zeq (a := (σ 10 0).toInt) (b := x1.toInt) rfl rfl c16
      refine lv_iconst (v := 0) hx hb dX4_refusal_22 (by decide) ?_
      refine lv_istore (lv' := [(4, .int 0), (0, .ref (a 10)), (1, .int x1), (2, .int x2), (3, .int x3)]) hx hb dX4_refusal_23 hl (by decide) rfl (fun ls hl => ?_)
      exact (LP _) (0)  H locs ls (by decide) (by intro t ht; rw [show (0 : Int32).toInt = 0 from by decide] at ht; omega) (Nat.lt_succ_self _) hP hD hS (lv_sub hl [1, 2, 3, 4, 0] rfl)
    · skip
      have ic16 := zneq (a := (σ 10 0).toInt) (b := x1.toInt) rfl rfl c16
      refine lv_bipush (v := (-13)) hx hb dX4_refusal_19 (by decide) ?_
      have hpost : σ = σ ∧ (((-13) : Int32).toInt = 0 → ∀ t : Nat, (t : Int) < x3.toInt → 0 ≤ x2.toInt + t ∧ x2.toInt + t < 60) := by exact ⟨rfl, fun q9 => absurd q9 (by decide)⟩
      exact W.iret (v := (-13)) hx hb hr (fun t9 ht hW => ⟨⟨(-13), σ, rfl, hpost, by rw [ht]; exact hP, va_K.moved hW.alike hK, hD⟩, hS.F ht⟩) hS.2.2 dX4_refusal_21
  · skip
    have ic5 := zeq (a := (σ 10 0).toInt) (b := (-1)) rfl (by decide) c5
    refine lv_bipush (v := (-11)) hx hb dX4_refusal_8 (by decide) ?_
    have hpost : σ = σ ∧ (((-11) : Int32).toInt = 0 → ∀ t : Nat, (t : Int) < x3.toInt → 0 ≤ x2.toInt + t ∧ x2.toInt + t < 60) := by exact ⟨rfl, fun q9 => absurd q9 (by decide)⟩
    exact W.iret (v := (-11)) hx hb hr (fun t9 ht hW => ⟨⟨(-11), σ, rfl, hpost, by rw [ht]; exact hP, va_K.moved hW.alike hK, hD⟩, hS.F ht⟩) hS.2.2 dX4_refusal_10

set_option maxHeartbeats 4000000 in
set_option maxRecDepth 100000 in
theorem c_X4_renew_11 (l : Launch) (dC : Nat → ClassId) (dI : Nat → Nat → Nat) (cB cI cS cII : ClassId) (a : Nat → Nat) (N : (Nat → Prop) → State → Prop) (hok : zNok N) (hn : ∀ A U, N A U → zN U) (σ : Cn) (sz : Nat) (x1 : Int32) (x2 : Int32)  : Met l yX4_renew wsX4_renew RM_X4_renew (zPc (dC, dI) (zT cB cI cS cII) N (wX a cB cI cS cII) σ sz [.ref (a 11), .int x1, .int x2]) (zQv (dC, dI) (zT cB cI cS cII) (wX a cB cI cS cII) (va_A (wX a cB cI cS cII σ) sz) (fun (σ1 : Cn) => ∃ u11 : Nat → Int32, ∃ u41 : Nat → Int32, σ1 = (upC (upC σ 11 u11) 41 u41) ∧ u11 0 = x1 ∧ u11 1 = x2)) 0 0 (va_A (wX a cB cI cS cII σ) sz) := by
  refine Met.ofW (cc := cX4_renew) (maxL := 4) (ret := none) (by decide) rfl ?_
  intro p e s m args below meth c s₁ B hml hv
  obtain ⟨rfl, hsz, hP, hK, hD0, hN⟩ := hv
  have hx := B.exec
  have hb := B.bytes
  have hr := B.returns
  have hts := atoms_spec (ws := wsX4_renew) B.pre
  have hown : s.vm.findClass RX4 = some m.cls := findClass_of_methodNamed B.named
  have hlocks := B.notSynchronized
  subst hsz
  have hD := hD0.self (sz := s.heap.size)
  generalize hAe : va_A (wX a cB cI cS cII σ) s.heap.size = A at hD hN ⊢
  have hA : ∀ q : Nat, s.heap.size ≤ q → A q := fun q h => by rw [← hAe]; exact Or.inr h
  clear hAe hD0
  have hS : va_S A s.heap s.heap [] := va_S.rf
  have in4 : ∀ w ∈ u_ws RX4 TX4 3, w ∈ wsX4_renew := by decide +kernel
  have k15 := hts (.fieldLink RX4 15 "HouseSorted$Sheet" "cells" "[I") (by decide +kernel)
  have k19 := hts (.fieldLink RX4 19 "HouseSorted$Sheet" "size" "I") (by decide +kernel)
  have k9 := hts (.fieldLink RX4 9 "HouseSorted$Sheet" "lane" "I") (by decide +kernel)
  have LP : ∀ n : Nat, (∀ (j : Int32) (w11 : Nat → Int32) (w41 : Nat → Int32) (H : Heap) (locs : List Loc) (ls : Array Slot), 0 ≤ j.toInt ∧ j.toInt ≤ 60 → w11 0 = x1 ∧ w11 1 = x2 → (60 - j.toInt).toNat < n → va_P (dC, dI) vwCl (wX a cB cI cS cII (upC (upC σ 11 w11) 41 w41)) H → va_D A (wX a cB cI cS cII (upC (upC σ 11 w11) 41 w41)) → va_S A s.heap H locs → lv_has ls 4 [(0, .ref (a 11)), (3, .int j)] → W p l e (headSpec wsX4_renew RM_X4_renew).room s m ([.ref (a 11), .int x1, .int x2] : List Value).toArray below meth c H locs 0 0 (MQ below (zQv (dC, dI) (zT cB cI cS cII) (wX a cB cI cS cII) A (fun (σ1 : Cn) => ∃ u11 : Nat → Int32, ∃ u41 : Nat → Int32, σ1 = (upC (upC σ 11 u11) 41 u41) ∧ u11 0 = x1 ∧ u11 1 = x2)) ([.ref (a 11), .int x1, .int x2] : List Value).toArray s 0 0 A) (F0 m 12 ls [])) := by
    intro n
    induction n with
    | zero => exact by intros; omega
    | succ n ih =>
      · intro j w11 w41 H locs ls g1 g2 hmu hP hD hS hl
        refine lv_iload_n hx hb dX4_renew_12 rfl (lv_at hl 1 rfl) ?_
        refine lv_bipush (v := 60) hx hb dX4_renew_13 (by decide) ?_
        refine lv_icmp_ge (tgt := 31) hx hb dX4_renew_15 (by decide) (fun c15 => ?_) (fun c15 => ?_)
        · skip
          have ic15 := zle (a := 60) (b := j.toInt) (by decide) rfl c15
          have hpost : ∃ u11 : Nat → Int32, ∃ u41 : Nat → Int32, (upC (upC σ 11 w11) 41 w41) = (upC (upC σ 11 u11) 41 u41) ∧ u11 0 = x1 ∧ u11 1 = x2 := by exact ⟨_, _, rfl, g2⟩
          exact W.vret hx hb hr (fun t9 ht hW => ⟨⟨(upC (upC σ 11 w11) 41 w41), rfl, hpost, by rw [ht]; exact hP, va_K.moved hW.alike hK, hD⟩, hS.F ht⟩) hS.2.2 dX4_renew_31
        · skip
          have ic15 := znle (a := 60) (b := j.toInt) (by decide) rfl c15
          refine lv_aload_n hx hb dX4_renew_18 rfl (lv_at hl 0 rfl) ?_
          refine va_get (D := (dC, dI)) (ci := 4) (v := .ref (a 41)) (C := RX4) (T := TX4) (N := 3) hx hb hts in4 hown hK hP 11 rfl rfl 2 (by decide) k15 (fun _ h9 => h9) rfl dX4_renew_19 ?_
          refine lv_iload_n hx hb dX4_renew_22 rfl (lv_at hl 1 rfl) ?_
          refine lv_iconst (v := 0) hx hb dX4_renew_23 (by decide) ?_
          refine va_iast (D := (dC, dI)) (f := w41) hx hb hK hP hD hS 41 1 rfl rfl (i := j) (n := 60) (zin (by omega) (by omega)) dX4_renew_24 (fun H locs hP hD hS => ?_)
          have hP : va_P (dC, dI) vwCl (wX a cB cI cS cII (upC (upC σ 11 w11) 41 (upd (w41) (j).toNatClampNeg 0))) H := hP
          have hD : va_D A (wX a cB cI cS cII (upC (upC σ 11 w11) 41 (upd (w41) (j).toNatClampNeg 0))) := hD
          obtain ⟨v25, ev25⟩ : ∃ y : Int32, y = j + 1 := ⟨_, rfl⟩
          refine lv_iinc (v := v25) (lv' := [(3, .int v25), (0, .ref (a 11))]) hx hb dX4_renew_25 hl (k := 1) rfl (by rw [ev25]; rfl) (by decide) rfl (fun ls hl => ?_)
          have tv25 : v25.toInt = j.toInt + 1 := by rw [ev25, zadd, show (1 : Int32).toInt = 1 from by decide]; omega
          refine lv_goto (tgt := 12) hx hb dX4_renew_28 (by decide) ?_
          exact ih (v25) (w11) (upd (w41) (j).toNatClampNeg 0) H locs ls (by omega) (g2) (by omega) hP hD hS (lv_sub hl [1, 0] rfl)
  have hl := lv_entry ([.ref (a 11), .int x1, .int x2]) (n := 4) (Nat.le_of_ble_eq_true rfl)
  rw [lg_entry_eq]
  generalize (lg_sl ([.ref (a 11), .int x1, .int x2]) ++ List.replicate (4 - (lg_sl ([.ref (a 11), .int x1, .int x2])).length) Slot.unset).toArray = ls at hl ⊢
  have hl : lv_has ls 4 [(0, .ref (a 11)), (1, .int x1), (2, .int x2)] := hl
  suffices main : ∀ (H : Heap) (locs : List Loc), va_P (dC, dI) vwCl (wX a cB cI cS cII σ) H → va_D A (wX a cB cI cS cII σ) → va_S A s.heap H locs → W p l e (headSpec wsX4_renew RM_X4_renew).room s m ([.ref (a 11), .int x1, .int x2] : List Value).toArray below meth c H locs 0 0 (MQ below (zQv (dC, dI) (zT cB cI cS cII) (wX a cB cI cS cII) A (fun (σ1 : Cn) => ∃ u11 : Nat → Int32, ∃ u41 : Nat → Int32, σ1 = (upC (upC σ 11 u11) 41 u41) ∧ u11 0 = x1 ∧ u11 1 = x2)) ([.ref (a 11), .int x1, .int x2] : List Value).toArray s 0 0 A) (F0 m 0 ls []) from main s.heap [] hP hD hS
  intro H locs hP hD hS
  refine lv_aload_n hx hb dX4_renew_0 rfl (lv_at hl 0 rfl) ?_
  refine lv_iload_n hx hb dX4_renew_1 rfl (lv_at hl 1 rfl) ?_
  refine va_put (D := (dC, dI)) (ci := 4) (v := .int x1) (ty := .int) (C := RX4) (T := TX4) (N := 3) hx hb hts in4 tyX4 tyX4_ok nmX4 hown hK hP hD hS 11 rfl rfl 0 (by decide) k9 (fun _ h9 => h9) rfl (by decide +kernel) rfl rfl (Nat.le_of_ble_eq_true rfl) dX4_renew_2 (fun H locs hP hD hS => ?_)
  have hP : va_P (dC, dI) vwCl (wX a cB cI cS cII (upC σ 11 (upd (σ 11) 0 x1))) H := hP
  have hD : va_D A (wX a cB cI cS cII (upC σ 11 (upd (σ 11) 0 x1))) := hD
  refine lv_aload_n hx hb dX4_renew_5 rfl (lv_at hl 0 rfl) ?_
  refine lv_iload_n hx hb dX4_renew_6 rfl (lv_at hl 2 rfl) ?_
  refine va_put (D := (dC, dI)) (ci := 4) (v := .int x2) (ty := .int) (C := RX4) (T := TX4) (N := 3) hx hb hts in4 tyX4 tyX4_ok nmX4 hown hK hP hD hS 11 rfl rfl 1 (by decide) k19 (fun _ h9 => h9) rfl (by decide +kernel) rfl rfl (Nat.le_of_ble_eq_true rfl) dX4_renew_7 (fun H locs hP hD hS => ?_)
  have hP : va_P (dC, dI) vwCl (wX a cB cI cS cII (upC σ 11 (upd (upd (σ 11) 0 x1) 1 x2))) H := hP
  have hD : va_D A (wX a cB cI cS cII (upC σ 11 (upd (upd (σ 11) 0 x1) 1 x2))) := hD
  refine lv_iconst (v := 0) hx hb dX4_renew_10 (by decide) ?_
  refine lv_istore_n (lv' := [(3, .int 0), (0, .ref (a 11)), (1, .int x1), (2, .int x2)]) hx hb dX4_renew_11 rfl hl (by decide) rfl (fun ls hl => ?_)
  exact (LP _) (0) (upd (upd (σ 11) 0 x1) 1 x2) (σ 41) H locs ls (by decide) (⟨rfl, rfl⟩) (Nat.lt_succ_self _) hP hD hS (lv_sub hl [1, 0] rfl)

set_option maxHeartbeats 4000000 in
set_option maxRecDepth 100000 in
theorem c_X4_hasCell_11 (l : Launch) (dC : Nat → ClassId) (dI : Nat → Nat → Nat) (cB cI cS cII : ClassId) (a : Nat → Nat) (N : (Nat → Prop) → State → Prop) (hok : zNok N) (hn : ∀ A U, N A U → zN U) (σ : Cn) (sz : Nat) (x1 : Int32)  : Met l yX4_hasCell wsX4_hasCell RM_X4_hasCell (zPc (dC, dI) (zT cB cI cS cII) N (wX a cB cI cS cII) σ sz [.ref (a 11), .int x1]) (zQi (dC, dI) (zT cB cI cS cII) (wX a cB cI cS cII) (va_A (wX a cB cI cS cII σ) sz) (fun (r : Int32) (σ1 : Cn) => σ1 = σ ∧ ((r : Int32).toInt = 1 ∧ 0 ≤ x1.toInt ∧ x1.toInt < (σ 11 1).toInt ∨ (r : Int32).toInt = 0 ∧ ¬ (0 ≤ x1.toInt ∧ x1.toInt < (σ 11 1).toInt)))) 0 0 (va_A (wX a cB cI cS cII σ) sz) := by
  refine Met.ofW (cc := cX4_hasCell) (maxL := 2) (ret := (some .boolean)) (by decide) rfl ?_
  intro p e s m args below meth c s₁ B hml hv
  obtain ⟨rfl, hsz, hP, hK, hD0, hN⟩ := hv
  have hx := B.exec
  have hb := B.bytes
  have hr := B.returns
  have hts := atoms_spec (ws := wsX4_hasCell) B.pre
  have hown : s.vm.findClass RX4 = some m.cls := findClass_of_methodNamed B.named
  have hlocks := B.notSynchronized
  subst hsz
  have hD := hD0.self (sz := s.heap.size)
  generalize hAe : va_A (wX a cB cI cS cII σ) s.heap.size = A at hD hN ⊢
  have hA : ∀ q : Nat, s.heap.size ≤ q → A q := fun q h => by rw [← hAe]; exact Or.inr h
  clear hAe hD0
  have hS : va_S A s.heap s.heap [] := va_S.rf
  have in4 : ∀ w ∈ u_ws RX4 TX4 3, w ∈ wsX4_hasCell := by decide +kernel
  have k19 := hts (.fieldLink RX4 19 "HouseSorted$Sheet" "size" "I") (by decide +kernel)
  have hl := lv_entry ([.ref (a 11), .int x1]) (n := 2) (Nat.le_of_ble_eq_true rfl)
  rw [lg_entry_eq]
  generalize (lg_sl ([.ref (a 11), .int x1]) ++ List.replicate (2 - (lg_sl ([.ref (a 11), .int x1])).length) Slot.unset).toArray = ls at hl ⊢
  have hl : lv_has ls 2 [(0, .ref (a 11)), (1, .int x1)] := hl
  suffices main : ∀ (H : Heap) (locs : List Loc), va_P (dC, dI) vwCl (wX a cB cI cS cII σ) H → va_D A (wX a cB cI cS cII σ) → va_S A s.heap H locs → W p l e (headSpec wsX4_hasCell RM_X4_hasCell).room s m ([.ref (a 11), .int x1] : List Value).toArray below meth c H locs 0 0 (MQ below (zQi (dC, dI) (zT cB cI cS cII) (wX a cB cI cS cII) A (fun (r : Int32) (σ1 : Cn) => σ1 = σ ∧ ((r : Int32).toInt = 1 ∧ 0 ≤ x1.toInt ∧ x1.toInt < (σ 11 1).toInt ∨ (r : Int32).toInt = 0 ∧ ¬ (0 ≤ x1.toInt ∧ x1.toInt < (σ 11 1).toInt)))) ([.ref (a 11), .int x1] : List Value).toArray s 0 0 A) (F0 m 0 ls []) from main s.heap [] hP hD hS
  intro H locs hP hD hS
  refine lv_iload_n hx hb dX4_hasCell_0 rfl (lv_at hl 1 rfl) ?_
  refine lv_if_lt (tgt := 16) hx hb dX4_hasCell_1 (by decide) (fun c1 => ?_) (fun c1 => ?_)
  · skip
    have ic1 := zlt (a := x1.toInt) (b := 0) rfl (by decide) c1
    refine lv_iconst (v := 0) hx hb dX4_hasCell_16 (by decide) ?_
    have hpost : σ = σ ∧ ((0 : Int32).toInt = 1 ∧ 0 ≤ x1.toInt ∧ x1.toInt < (σ 11 1).toInt ∨ (0 : Int32).toInt = 0 ∧ ¬ (0 ≤ x1.toInt ∧ x1.toInt < (σ 11 1).toInt)) := by exact ⟨rfl, by first | (left; exact ⟨by decide, by omega⟩) | (right; exact ⟨by decide, by omega⟩)⟩
    exact W.zret (v := 0) hx hb hr (by decide +kernel) (fun t9 ht hW => ⟨⟨0, σ, rfl, hpost, by rw [ht]; exact hP, va_K.moved hW.alike hK, hD⟩, hS.F ht⟩) hS.2.2 dX4_hasCell_17
  · skip
    have ic1 := znlt (a := x1.toInt) (b := 0) rfl (by decide) c1
    refine lv_iload_n hx hb dX4_hasCell_4 rfl (lv_at hl 1 rfl) ?_
    refine lv_aload_n hx hb dX4_hasCell_5 rfl (lv_at hl 0 rfl) ?_
    refine va_get (D := (dC, dI)) (ci := 4) (v := .int (σ 11 1)) (C := RX4) (T := TX4) (N := 3) hx hb hts in4 hown hK hP 11 rfl rfl 1 (by decide) k19 (fun _ h9 => h9) rfl dX4_hasCell_6 ?_
    refine lv_icmp_ge (tgt := 16) hx hb dX4_hasCell_9 (by decide) (fun c9 => ?_) (fun c9 => ?_)
    · skip
      have ic9 := zle (a := (σ 11 1).toInt) (b := x1.toInt) rfl rfl c9
      refine lv_iconst (v := 0) hx hb dX4_hasCell_16 (by decide) ?_
      have hpost : σ = σ ∧ ((0 : Int32).toInt = 1 ∧ 0 ≤ x1.toInt ∧ x1.toInt < (σ 11 1).toInt ∨ (0 : Int32).toInt = 0 ∧ ¬ (0 ≤ x1.toInt ∧ x1.toInt < (σ 11 1).toInt)) := by exact ⟨rfl, by first | (left; exact ⟨by decide, by omega⟩) | (right; exact ⟨by decide, by omega⟩)⟩
      exact W.zret (v := 0) hx hb hr (by decide +kernel) (fun t9 ht hW => ⟨⟨0, σ, rfl, hpost, by rw [ht]; exact hP, va_K.moved hW.alike hK, hD⟩, hS.F ht⟩) hS.2.2 dX4_hasCell_17
    · skip
      have ic9 := znle (a := (σ 11 1).toInt) (b := x1.toInt) rfl rfl c9
      refine lv_iconst (v := 1) hx hb dX4_hasCell_12 (by decide) ?_
      refine lv_goto (tgt := 17) hx hb dX4_hasCell_13 (by decide) ?_
      have hpost : σ = σ ∧ ((1 : Int32).toInt = 1 ∧ 0 ≤ x1.toInt ∧ x1.toInt < (σ 11 1).toInt ∨ (1 : Int32).toInt = 0 ∧ ¬ (0 ≤ x1.toInt ∧ x1.toInt < (σ 11 1).toInt)) := by exact ⟨rfl, by first | (left; exact ⟨by decide, by omega⟩) | (right; exact ⟨by decide, by omega⟩)⟩
      exact W.zret (v := 1) hx hb hr (by decide +kernel) (fun t9 ht hW => ⟨⟨1, σ, rfl, hpost, by rw [ht]; exact hP, va_K.moved hW.alike hK, hD⟩, hS.F ht⟩) hS.2.2 dX4_hasCell_17

set_option maxHeartbeats 4000000 in
set_option maxRecDepth 100000 in
theorem c_X4_put_11 (l : Launch) (dC : Nat → ClassId) (dI : Nat → Nat → Nat) (cB cI cS cII : ClassId) (a : Nat → Nat) (N : (Nat → Prop) → State → Prop) (hok : zNok N) (hn : ∀ A U, N A U → zN U) (σ : Cn) (sz : Nat) (x1 : Int32) (x2 : Int32) (h1 : 0 ≤ x1.toInt ∧ x1.toInt < 60) : Met l yX4_put wsX4_put RM_X4_put (zPc (dC, dI) (zT cB cI cS cII) N (wX a cB cI cS cII) σ sz [.ref (a 11), .int x1, .int x2]) (zQv (dC, dI) (zT cB cI cS cII) (wX a cB cI cS cII) (va_A (wX a cB cI cS cII σ) sz) (fun (σ1 : Cn) => ∃ u41 : Nat → Int32, σ1 = (upC σ 41 u41) ∧ True)) 0 0 (va_A (wX a cB cI cS cII σ) sz) := by
  refine Met.ofW (cc := cX4_put) (maxL := 3) (ret := none) (by decide) rfl ?_
  intro p e s m args below meth c s₁ B hml hv
  obtain ⟨rfl, hsz, hP, hK, hD0, hN⟩ := hv
  have hx := B.exec
  have hb := B.bytes
  have hr := B.returns
  have hts := atoms_spec (ws := wsX4_put) B.pre
  have hown : s.vm.findClass RX4 = some m.cls := findClass_of_methodNamed B.named
  have hlocks := B.notSynchronized
  subst hsz
  have hD := hD0.self (sz := s.heap.size)
  generalize hAe : va_A (wX a cB cI cS cII σ) s.heap.size = A at hD hN ⊢
  have hA : ∀ q : Nat, s.heap.size ≤ q → A q := fun q h => by rw [← hAe]; exact Or.inr h
  clear hAe hD0
  have hS : va_S A s.heap s.heap [] := va_S.rf
  have in4 : ∀ w ∈ u_ws RX4 TX4 3, w ∈ wsX4_put := by decide +kernel
  have k15 := hts (.fieldLink RX4 15 "HouseSorted$Sheet" "cells" "[I") (by decide +kernel)
  have k9 := hts (.fieldLink RX4 9 "HouseSorted$Sheet" "lane" "I") (by decide +kernel)
  have hl := lv_entry ([.ref (a 11), .int x1, .int x2]) (n := 3) (Nat.le_of_ble_eq_true rfl)
  rw [lg_entry_eq]
  generalize (lg_sl ([.ref (a 11), .int x1, .int x2]) ++ List.replicate (3 - (lg_sl ([.ref (a 11), .int x1, .int x2])).length) Slot.unset).toArray = ls at hl ⊢
  have hl : lv_has ls 3 [(0, .ref (a 11)), (1, .int x1), (2, .int x2)] := hl
  suffices main : ∀ (H : Heap) (locs : List Loc), va_P (dC, dI) vwCl (wX a cB cI cS cII σ) H → va_D A (wX a cB cI cS cII σ) → va_S A s.heap H locs → W p l e (headSpec wsX4_put RM_X4_put).room s m ([.ref (a 11), .int x1, .int x2] : List Value).toArray below meth c H locs 0 0 (MQ below (zQv (dC, dI) (zT cB cI cS cII) (wX a cB cI cS cII) A (fun (σ1 : Cn) => ∃ u41 : Nat → Int32, σ1 = (upC σ 41 u41) ∧ True)) ([.ref (a 11), .int x1, .int x2] : List Value).toArray s 0 0 A) (F0 m 0 ls []) from main s.heap [] hP hD hS
  intro H locs hP hD hS
  refine lv_aload_n hx hb dX4_put_0 rfl (lv_at hl 0 rfl) ?_
  refine va_get (D := (dC, dI)) (ci := 4) (v := .ref (a 41)) (C := RX4) (T := TX4) (N := 3) hx hb hts in4 hown hK hP 11 rfl rfl 2 (by decide) k15 (fun _ h9 => h9) rfl dX4_put_1 ?_
  refine lv_iload_n hx hb dX4_put_4 rfl (lv_at hl 1 rfl) ?_
  refine lv_aload_n hx hb dX4_put_5 rfl (lv_at hl 0 rfl) ?_
  refine va_get (D := (dC, dI)) (ci := 4) (v := .int (σ 11 0)) (C := RX4) (T := TX4) (N := 3) hx hb hts in4 hown hK hP 11 rfl rfl 0 (by decide) k9 (fun _ h9 => h9) rfl dX4_put_6 ?_
  refine lv_if_ne (tgt := 17) hx hb dX4_put_9 (by decide) (fun c9 => ?_) (fun c9 => ?_)
  · skip
    have ic9 := zneq (a := (σ 11 0).toInt) (b := 0) rfl (by decide) c9
    refine lv_aload_n hx hb dX4_put_17 rfl (lv_at hl 0 rfl) ?_
    refine va_get (D := (dC, dI)) (ci := 4) (v := .int (σ 11 0)) (C := RX4) (T := TX4) (N := 3) hx hb hts in4 hown hK hP 11 rfl rfl 0 (by decide) k9 (fun _ h9 => h9) rfl dX4_put_18 ?_
    refine lv_iconst (v := 1) hx hb dX4_put_21 (by decide) ?_
    refine lv_icmp_ne (tgt := 30) hx hb dX4_put_22 (by decide) (fun c22 => ?_) (fun c22 => ?_)
    · skip
      have ic22 := zneq (a := (σ 11 0).toInt) (b := 1) rfl (by decide) c22
      refine lv_iload_n hx hb dX4_put_30 rfl (lv_at hl 2 rfl) ?_
      refine va_iast (D := (dC, dI)) (f := σ 41) hx hb hK hP hD hS 41 1 rfl rfl (i := x1) (n := 60) (zin (by omega) (by omega)) dX4_put_31 (fun H locs hP hD hS => ?_)
      have hP : va_P (dC, dI) vwCl (wX a cB cI cS cII (upC σ 41 (upd (σ 41) (x1).toNatClampNeg x2))) H := hP
      have hD : va_D A (wX a cB cI cS cII (upC σ 41 (upd (σ 41) (x1).toNatClampNeg x2))) := hD
      have hpost : ∃ u41 : Nat → Int32, (upC σ 41 (upd (σ 41) (x1).toNatClampNeg x2)) = (upC σ 41 u41) ∧ True := by exact ⟨_, rfl, trivial⟩
      exact W.vret hx hb hr (fun t9 ht hW => ⟨⟨(upC σ 41 (upd (σ 41) (x1).toNatClampNeg x2)), rfl, hpost, by rw [ht]; exact hP, va_K.moved hW.alike hK, hD⟩, hS.F ht⟩) hS.2.2 dX4_put_32
    · skip
      have ic22 := zeq (a := (σ 11 0).toInt) (b := 1) rfl (by decide) c22
      refine lv_iload_n hx hb dX4_put_25 rfl (lv_at hl 2 rfl) ?_
      refine lv_i2s hx hb dX4_put_26 rfl ?_
      refine lv_topi (fun v26 ev26 => ?_)
      refine lv_goto (tgt := 31) hx hb dX4_put_27 (by decide) ?_
      refine va_iast (D := (dC, dI)) (f := σ 41) hx hb hK hP hD hS 41 1 rfl rfl (i := x1) (n := 60) (zin (by omega) (by omega)) dX4_put_31 (fun H locs hP hD hS => ?_)
      have hP : va_P (dC, dI) vwCl (wX a cB cI cS cII (upC σ 41 (upd (σ 41) (x1).toNatClampNeg v26))) H := hP
      have hD : va_D A (wX a cB cI cS cII (upC σ 41 (upd (σ 41) (x1).toNatClampNeg v26))) := hD
      have hpost : ∃ u41 : Nat → Int32, (upC σ 41 (upd (σ 41) (x1).toNatClampNeg v26)) = (upC σ 41 u41) ∧ True := by exact ⟨_, rfl, trivial⟩
      exact W.vret hx hb hr (fun t9 ht hW => ⟨⟨(upC σ 41 (upd (σ 41) (x1).toNatClampNeg v26)), rfl, hpost, by rw [ht]; exact hP, va_K.moved hW.alike hK, hD⟩, hS.F ht⟩) hS.2.2 dX4_put_32
  · skip
    have ic9 := zeq (a := (σ 11 0).toInt) (b := 0) rfl (by decide) c9
    refine lv_iload_n hx hb dX4_put_12 rfl (lv_at hl 2 rfl) ?_
    refine lv_i2b hx hb dX4_put_13 rfl ?_
    refine lv_topi (fun v13 ev13 => ?_)
    refine lv_goto (tgt := 31) hx hb dX4_put_14 (by decide) ?_
    refine va_iast (D := (dC, dI)) (f := σ 41) hx hb hK hP hD hS 41 1 rfl rfl (i := x1) (n := 60) (zin (by omega) (by omega)) dX4_put_31 (fun H locs hP hD hS => ?_)
    have hP : va_P (dC, dI) vwCl (wX a cB cI cS cII (upC σ 41 (upd (σ 41) (x1).toNatClampNeg v13))) H := hP
    have hD : va_D A (wX a cB cI cS cII (upC σ 41 (upd (σ 41) (x1).toNatClampNeg v13))) := hD
    have hpost : ∃ u41 : Nat → Int32, (upC σ 41 (upd (σ 41) (x1).toNatClampNeg v13)) = (upC σ 41 u41) ∧ True := by exact ⟨_, rfl, trivial⟩
    exact W.vret hx hb hr (fun t9 ht hW => ⟨⟨(upC σ 41 (upd (σ 41) (x1).toNatClampNeg v13)), rfl, hpost, by rw [ht]; exact hP, va_K.moved hW.alike hK, hD⟩, hS.F ht⟩) hS.2.2 dX4_put_32

set_option maxHeartbeats 4000000 in
set_option maxRecDepth 100000 in
theorem c_X4_refusal_11 (l : Launch) (dC : Nat → ClassId) (dI : Nat → Nat → Nat) (cB cI cS cII : ClassId) (a : Nat → Nat) (N : (Nat → Prop) → State → Prop) (hok : zNok N) (hn : ∀ A U, N A U → zN U) (σ : Cn) (sz : Nat) (x1 : Int32) (x2 : Int32) (x3 : Int32) (h1 : 0 ≤ (σ 11 1).toInt ∧ (σ 11 1).toInt ≤ 60) (h3 : 0 ≤ x3.toInt ∧ x3.toInt ≤ 10) : Met l yX4_refusal wsX4_refusal RM_X4_refusal (zPc (dC, dI) (zT cB cI cS cII) N (wX a cB cI cS cII) σ sz [.ref (a 11), .int x1, .int x2, .int x3]) (zQi (dC, dI) (zT cB cI cS cII) (wX a cB cI cS cII) (va_A (wX a cB cI cS cII σ) sz) (fun (r : Int32) (σ1 : Cn) => σ1 = σ ∧ ((r : Int32).toInt = 0 → ∀ t : Nat, (t : Int) < x3.toInt → 0 ≤ x2.toInt + t ∧ x2.toInt + t < 60))) 0 0 (va_A (wX a cB cI cS cII σ) sz) := by
  refine Met.ofW (cc := cX4_refusal) (maxL := 5) (ret := (some .int)) (by decide) rfl ?_
  intro p e s m args below meth c s₁ B hml hv
  obtain ⟨rfl, hsz, hP, hK, hD0, hN⟩ := hv
  have hx := B.exec
  have hb := B.bytes
  have hr := B.returns
  have hts := atoms_spec (ws := wsX4_refusal) B.pre
  have hown : s.vm.findClass RX4 = some m.cls := findClass_of_methodNamed B.named
  have hlocks := B.notSynchronized
  subst hsz
  have hD := hD0.self (sz := s.heap.size)
  generalize hAe : va_A (wX a cB cI cS cII σ) s.heap.size = A at hD hN ⊢
  have hA : ∀ q : Nat, s.heap.size ≤ q → A q := fun q h => by rw [← hAe]; exact Or.inr h
  clear hAe hD0
  have hS : va_S A s.heap s.heap [] := va_S.rf
  have in4 : ∀ w ∈ u_ws RX4 TX4 3, w ∈ wsX4_refusal := by decide +kernel
  have k15 := hts (.fieldLink RX4 15 "HouseSorted$Sheet" "cells" "[I") (by decide +kernel)
  have k9 := hts (.fieldLink RX4 9 "HouseSorted$Sheet" "lane" "I") (by decide +kernel)
  have kin8 := hts (.initialized RX8) (by decide +kernel)
  have kst := hts (.static yX8_isWithin) (by decide +kernel)
  have LP : ∀ n : Nat, (∀ (j : Int32) (H : Heap) (locs : List Loc) (ls : Array Slot), 0 ≤ j.toInt ∧ j.toInt ≤ 10 → (∀ t : Nat, (t : Int) < j.toInt → 0 ≤ x2.toInt + t ∧ x2.toInt + t < 60) → (10 - j.toInt).toNat < n → va_P (dC, dI) vwCl (wX a cB cI cS cII σ) H → va_D A (wX a cB cI cS cII σ) → va_S A s.heap H locs → lv_has ls 5 [(0, .ref (a 11)), (1, .int x1), (2, .int x2), (3, .int x3), (4, .int j)] → W p l e (headSpec wsX4_refusal RM_X4_refusal).room s m ([.ref (a 11), .int x1, .int x2, .int x3] : List Value).toArray below meth c H locs 0 0 (MQ below (zQi (dC, dI) (zT cB cI cS cII) (wX a cB cI cS cII) A (fun (r : Int32) (σ1 : Cn) => σ1 = σ ∧ ((r : Int32).toInt = 0 → ∀ t : Nat, (t : Int) < x3.toInt → 0 ≤ x2.toInt + t ∧ x2.toInt + t < 60))) ([.ref (a 11), .int x1, .int x2, .int x3] : List Value).toArray s 0 0 A) (F0 m 25 ls [])) := by
    intro n
    induction n with
    | zero => exact by intros; omega
    | succ n ih =>
      · intro j H locs ls g1 g2 hmu hP hD hS hl
        refine lv_iload hx hb dX4_refusal_25 (lv_at hl 4 rfl) ?_
        refine lv_iload_n hx hb dX4_refusal_27 rfl (lv_at hl 3 rfl) ?_
        refine lv_icmp_ge (tgt := 75) hx hb dX4_refusal_28 (by decide) (fun c28 => ?_) (fun c28 => ?_)
        · skip
          have ic28 := zle (a := x3.toInt) (b := j.toInt) rfl rfl c28
          refine lv_iconst (v := 0) hx hb dX4_refusal_75 (by decide) ?_
          have hpost : σ = σ ∧ ((0 : Int32).toInt = 0 → ∀ t : Nat, (t : Int) < x3.toInt → 0 ≤ x2.toInt + t ∧ x2.toInt + t < 60) := by exact ⟨rfl, fun _ t ht => g2 t (by omega)⟩
          exact W.iret (v := 0) hx hb hr (fun t9 ht hW => ⟨⟨0, σ, rfl, hpost, by rw [ht]; exact hP, va_K.moved hW.alike hK, hD⟩, hS.F ht⟩) hS.2.2 dX4_refusal_76
        · skip
          have ic28 := znle (a := x3.toInt) (b := j.toInt) rfl rfl c28
          refine lv_aload_n hx hb dX4_refusal_31 rfl (lv_at hl 0 rfl) ?_
          refine lv_iload_n hx hb dX4_refusal_32 rfl (lv_at hl 2 rfl) ?_
          refine lv_iload hx hb dX4_refusal_33 (lv_at hl 4 rfl) ?_
          refine lv_iadd hx hb dX4_refusal_35 ?_
          refine lv_topi (fun v35 ev35 => ?_)
          have tv35 : v35.toInt = (x2.toInt + j.toInt + 2147483648) % 4294967296 - 2147483648 := by rw [ev35, zadd]
          refine zcalli (va_runV (As := [.int v35]) (rest := []) ⟨hx, hb, hml, hown, hts⟩ (c_X4_hasCell_11 l dC dI cB cI cS cII a N hok hn σ H.size (v35) ) (cwV 1 hts gX4_refusal_X4_hasCell rfl rfl rfl (by decide +kernel) ⟨Nat.le_of_ble_eq_true rfl, Nat.le_of_ble_eq_true rfl⟩) (zpreV (wf := wX a cB cI cS cII) (q0 := 11) (ci := 4) hok hN hS hA hK hP hD rfl rfl) rfl rfl hl.1 rfl (lv_room (Nat.le_of_ble_eq_true rfl)) dX4_refusal_36 ⟨Nat.zero_le _, Nat.zero_le _⟩) hD hS hA (fun v36 σ1 H locs hv36 hP hD hS => ?_)
          obtain ⟨es9, hv36⟩ := hv36
          subst σ1
          refine lv_if_ne (tgt := 45) hx hb dX4_refusal_39 (by decide) (fun c39 => ?_) (fun c39 => ?_)
          · skip
            have ic39 := zneq (a := v36.toInt) (b := 0) rfl (by decide) c39
            refine lv_aload_n hx hb dX4_refusal_45 rfl (lv_at hl 0 rfl) ?_
            refine va_get (D := (dC, dI)) (ci := 4) (v := .ref (a 41)) (C := RX4) (T := TX4) (N := 3) hx hb hts in4 hown hK hP 11 rfl rfl 2 (by decide) k15 (fun _ h9 => h9) rfl dX4_refusal_46 ?_
            refine lv_iload_n hx hb dX4_refusal_49 rfl (lv_at hl 2 rfl) ?_
            refine lv_iload hx hb dX4_refusal_50 (lv_at hl 4 rfl) ?_
            refine lv_iadd hx hb dX4_refusal_52 ?_
            refine lv_topi (fun v52 ev52 => ?_)
            have tv52 : v52.toInt = (x2.toInt + j.toInt + 2147483648) % 4294967296 - 2147483648 := by rw [ev52, zadd]
            refine va_iald (D := (dC, dI)) (f := σ 41) hx hb hK hP 41 1 rfl rfl (i := v52) (n := 60) (zin (by omega) (by omega)) dX4_refusal_53 ?_
            refine lv_topi (fun v53 ev53 => ?_)
            have tv53 := congrArg Int32.toInt ev53
            refine lv_iconst (v := 0) hx hb dX4_refusal_54 (by decide) ?_
            refine lv_bipush (v := 100) hx hb dX4_refusal_55 (by decide) ?_
            refine zcalli (va_runSN (As := [.int v53, .int 0, .int 100]) (rest := []) ⟨hx, hb, hml, hown, hts⟩ (c_X8_isWithin l dC dI cB cI cS cII a N hok hn σ H.size (v53) (0) (100) ) ⟨va_cnB (host := RX8) 3 hts ggX4_refusal_X8_isWithin rfl rfl rfl (hn _ _ hN (.methodLinkNest RX4 26 yX8_isWithin RX8) (by decide)) kin8 (by decide +kernel) ⟨Nat.le_of_ble_eq_true rfl, Nat.le_of_ble_eq_true rfl⟩, kst, trivial⟩ (zpreS (wf := wX a cB cI cS cII) hok hN hS hA hK hP hD) rfl rfl hl.1 rfl (lv_room (Nat.le_of_ble_eq_true rfl)) dX4_refusal_57 ⟨Nat.zero_le _, Nat.zero_le _⟩) hD hS hA (fun v57 σ1 H locs hv57 hP hD hS => ?_)
            obtain ⟨es9, hv57⟩ := hv57
            subst σ1
            try simp only [show (0 : Int32).toInt = 0 from by decide, show (100 : Int32).toInt = 100 from by decide] at hv57
            refine lv_if_ne (tgt := 69) hx hb dX4_refusal_60 (by decide) (fun c60 => ?_) (fun c60 => ?_)
            · skip
              have ic60 := zneq (a := v57.toInt) (b := 0) rfl (by decide) c60
              obtain ⟨v69, ev69⟩ : ∃ y : Int32, y = j + 1 := ⟨_, rfl⟩
              refine lv_iinc (v := v69) (lv' := [(4, .int v69), (0, .ref (a 11)), (1, .int x1), (2, .int x2), (3, .int x3)]) hx hb dX4_refusal_69 hl (k := 4) rfl (by rw [ev69]; rfl) (by decide) rfl (fun ls hl => ?_)
              have tv69 : v69.toInt = j.toInt + 1 := by rw [ev69, zadd, show (1 : Int32).toInt = 1 from by decide]; omega
              refine lv_goto (tgt := 25) hx hb dX4_refusal_72 (by decide) ?_
              exact ih (v69)  H locs ls (by omega) (by intro t ht; rcases (show (t : Int) < j.toInt ∨ (t : Int) = j.toInt from by omega) with q9 | q9; exact g2 t q9; have r2 := zrng x2; omega) (by omega) hP hD hS (lv_sub hl [1, 2, 3, 4, 0] rfl)
            · skip
              have ic60 := zeq (a := v57.toInt) (b := 0) rfl (by decide) c60
              refine lv_bipush (v := (-20)) hx hb dX4_refusal_63 (by decide) ?_
              refine lv_iload hx hb dX4_refusal_65 (lv_at hl 4 rfl) ?_
              refine lv_isub hx hb dX4_refusal_67 ?_
              refine lv_topi (fun v67 ev67 => ?_)
              have tv67 : v67.toInt = (-20) - j.toInt := by rw [ev67, zsub, show ((-20) : Int32).toInt = (-20) from by decide]; omega
              have hpost : σ = σ ∧ ((v67 : Int32).toInt = 0 → ∀ t : Nat, (t : Int) < x3.toInt → 0 ≤ x2.toInt + t ∧ x2.toInt + t < 60) := by exact ⟨rfl, fun q9 => by omega⟩
              exact W.iret (v := v67) hx hb hr (fun t9 ht hW => ⟨⟨v67, σ, rfl, hpost, by rw [ht]; exact hP, va_K.moved hW.alike hK, hD⟩, hS.F ht⟩) hS.2.2 dX4_refusal_68
          · skip
            have ic39 := zeq (a := v36.toInt) (b := 0) rfl (by decide) c39
            refine lv_bipush (v := (-12)) hx hb dX4_refusal_42 (by decide) ?_
            have hpost : σ = σ ∧ (((-12) : Int32).toInt = 0 → ∀ t : Nat, (t : Int) < x3.toInt → 0 ≤ x2.toInt + t ∧ x2.toInt + t < 60) := by exact ⟨rfl, fun q9 => absurd q9 (by decide)⟩
            exact W.iret (v := (-12)) hx hb hr (fun t9 ht hW => ⟨⟨(-12), σ, rfl, hpost, by rw [ht]; exact hP, va_K.moved hW.alike hK, hD⟩, hS.F ht⟩) hS.2.2 dX4_refusal_44
  have hl := lv_entry ([.ref (a 11), .int x1, .int x2, .int x3]) (n := 5) (Nat.le_of_ble_eq_true rfl)
  rw [lg_entry_eq]
  generalize (lg_sl ([.ref (a 11), .int x1, .int x2, .int x3]) ++ List.replicate (5 - (lg_sl ([.ref (a 11), .int x1, .int x2, .int x3])).length) Slot.unset).toArray = ls at hl ⊢
  have hl : lv_has ls 5 [(0, .ref (a 11)), (1, .int x1), (2, .int x2), (3, .int x3)] := hl
  suffices main : ∀ (H : Heap) (locs : List Loc), va_P (dC, dI) vwCl (wX a cB cI cS cII σ) H → va_D A (wX a cB cI cS cII σ) → va_S A s.heap H locs → W p l e (headSpec wsX4_refusal RM_X4_refusal).room s m ([.ref (a 11), .int x1, .int x2, .int x3] : List Value).toArray below meth c H locs 0 0 (MQ below (zQi (dC, dI) (zT cB cI cS cII) (wX a cB cI cS cII) A (fun (r : Int32) (σ1 : Cn) => σ1 = σ ∧ ((r : Int32).toInt = 0 → ∀ t : Nat, (t : Int) < x3.toInt → 0 ≤ x2.toInt + t ∧ x2.toInt + t < 60))) ([.ref (a 11), .int x1, .int x2, .int x3] : List Value).toArray s 0 0 A) (F0 m 0 ls []) from main s.heap [] hP hD hS
  intro H locs hP hD hS
  refine lv_aload_n hx hb dX4_refusal_0 rfl (lv_at hl 0 rfl) ?_
  refine va_get (D := (dC, dI)) (ci := 4) (v := .int (σ 11 0)) (C := RX4) (T := TX4) (N := 3) hx hb hts in4 hown hK hP 11 rfl rfl 0 (by decide) k9 (fun _ h9 => h9) rfl dX4_refusal_1 ?_
  refine lv_iconst (v := (-1)) hx hb dX4_refusal_4 (by decide) ?_
  refine lv_icmp_ne (tgt := 11) hx hb dX4_refusal_5 (by decide) (fun c5 => ?_) (fun c5 => ?_)
  · skip
    have ic5 := zneq (a := (σ 11 0).toInt) (b := (-1)) rfl (by decide) c5
    refine lv_aload_n hx hb dX4_refusal_11 rfl (lv_at hl 0 rfl) ?_
    refine va_get (D := (dC, dI)) (ci := 4) (v := .int (σ 11 0)) (C := RX4) (T := TX4) (N := 3) hx hb hts in4 hown hK hP 11 rfl rfl 0 (by decide) k9 (fun _ h9 => h9) rfl dX4_refusal_12 ?_
    refine lv_iload_n hx hb dX4_refusal_15 rfl (lv_at hl 1 rfl) ?_
    refine lv_icmp_eq (tgt := 22) hx hb dX4_refusal_16 (by decide) (fun c16 => ?_) (fun c16 => ?_)
    · skip
      have ic16 := zeq (a := (σ 11 0).toInt) (b := x1.toInt) rfl rfl c16
      refine lv_iconst (v := 0) hx hb dX4_refusal_22 (by decide) ?_
      refine lv_istore (lv' := [(4, .int 0), (0, .ref (a 11)), (1, .int x1), (2, .int x2), (3, .int x3)]) hx hb dX4_refusal_23 hl (by decide) rfl (fun ls hl => ?_)
      exact (LP _) (0)  H locs ls (by decide) (by intro t ht; rw [show (0 : Int32).toInt = 0 from by decide] at ht; omega) (Nat.lt_succ_self _) hP hD hS (lv_sub hl [1, 2, 3, 4, 0] rfl)
    · skip
      have ic16 := zneq (a := (σ 11 0).toInt) (b := x1.toInt) rfl rfl c16
      refine lv_bipush (v := (-13)) hx hb dX4_refusal_19 (by decide) ?_
      have hpost : σ = σ ∧ (((-13) : Int32).toInt = 0 → ∀ t : Nat, (t : Int) < x3.toInt → 0 ≤ x2.toInt + t ∧ x2.toInt + t < 60) := by exact ⟨rfl, fun q9 => absurd q9 (by decide)⟩
      exact W.iret (v := (-13)) hx hb hr (fun t9 ht hW => ⟨⟨(-13), σ, rfl, hpost, by rw [ht]; exact hP, va_K.moved hW.alike hK, hD⟩, hS.F ht⟩) hS.2.2 dX4_refusal_21
  · skip
    have ic5 := zeq (a := (σ 11 0).toInt) (b := (-1)) rfl (by decide) c5
    refine lv_bipush (v := (-11)) hx hb dX4_refusal_8 (by decide) ?_
    have hpost : σ = σ ∧ (((-11) : Int32).toInt = 0 → ∀ t : Nat, (t : Int) < x3.toInt → 0 ≤ x2.toInt + t ∧ x2.toInt + t < 60) := by exact ⟨rfl, fun q9 => absurd q9 (by decide)⟩
    exact W.iret (v := (-11)) hx hb hr (fun t9 ht hW => ⟨⟨(-11), σ, rfl, hpost, by rw [ht]; exact hP, va_K.moved hW.alike hK, hD⟩, hS.F ht⟩) hS.2.2 dX4_refusal_10

