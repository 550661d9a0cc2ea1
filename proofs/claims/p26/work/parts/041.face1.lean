abbrev RM_X8_feed : Room := { frames := 1, cells := 0, slots := 0, locals := 23 }
set_option maxHeartbeats 4000000 in
set_option maxRecDepth 100000 in
theorem c_X8_feed (l : Launch) (dC : Nat → ClassId) (dI : Nat → Nat → Nat) (cB cI cS cII : ClassId) (a : Nat → Nat) (N : (Nat → Prop) → State → Prop) (hok : zNok N) (hn : ∀ A U, N A U → zN U) (σ : Cn) (sz : Nat) (x1 : Int64) (h3 : 0 ≤ (σ 1 1).toInt ∧ (σ 1 1).toInt ≤ 160) : Met l yX8_feed wsX8_feed RM_X8_feed (zPc (dC, dI) (zT cB cI cS cII) N (wX a cB cI cS cII) σ sz [.ref (a 0), .long x1]) (zQi (dC, dI) (zT cB cI cS cII) (wX a cB cI cS cII) (va_A (wX a cB cI cS cII σ) sz) (fun (r : Int32) (σ1 : Cn) => ∃ u1 : Nat → Int32, ∃ u12 : Nat → Int32, σ1 = (upC (upC σ 1 u1) 12 u12) ∧ ((152 < (σ 1 1).toInt ∧ (r : Int32).toInt = -3 ∧ (u1 1).toInt = (σ 1 1).toInt) ∨ ((σ 1 1).toInt ≤ 152 ∧ (r : Int32).toInt = (σ 1 1).toInt + 8 ∧ (u1 1).toInt = (σ 1 1).toInt + 8)))) 0 0 (va_A (wX a cB cI cS cII σ) sz) := by
  refine Met.ofW (cc := cX8_feed) (maxL := 3) (ret := (some .int)) (by decide) rfl ?_
  intro p e s m args below meth c s₁ B hml hv
  obtain ⟨rfl, hsz, hP, hK, hD0, hN⟩ := hv
  have hx := B.exec
  have hb := B.bytes
  have hr := B.returns
  have hts := atoms_spec (ws := wsX8_feed) B.pre
  have hown : s.vm.findClass RX8 = some m.cls := findClass_of_methodNamed B.named
  have hlocks := B.notSynchronized
  subst hsz
  have hD := hD0.self (sz := s.heap.size)
  generalize hAe : va_A (wX a cB cI cS cII σ) s.heap.size = A at hD hN ⊢
  have hA : ∀ q : Nat, s.heap.size ≤ q → A q := fun q h => by rw [← hAe]; exact Or.inr h
  clear hAe hD0
  have hS : va_S A s.heap s.heap [] := va_S.rf
  have in5 : ∀ w ∈ u_ws RX5 TX5 2, w ∈ wsX8_feed := by decide +kernel
  have in8 : ∀ w ∈ u_ws RX8 TX8 7, w ∈ wsX8_feed := by decide +kernel
  have k10 := hts (.fieldLink RX8 10 "HouseSorted" "tape" "LHouseSorted$Tape;") (by decide +kernel)
  have k68 := hts (.fieldLink RX8 68 "HouseSorted$Tape" "length" "I") (by decide +kernel)
  have hl := lv_entry ([.ref (a 0), .long x1]) (n := 3) (Nat.le_of_ble_eq_true rfl)
  rw [lg_entry_eq]
  generalize (lg_sl ([.ref (a 0), .long x1]) ++ List.replicate (3 - (lg_sl ([.ref (a 0), .long x1])).length) Slot.unset).toArray = ls at hl ⊢
  have hl : lv_has ls 3 [(0, .ref (a 0)), (1, .long x1)] := hl
  suffices main : ∀ (H : Heap) (locs : List Loc), va_P (dC, dI) vwCl (wX a cB cI cS cII σ) H → va_D A (wX a cB cI cS cII σ) → va_S A s.heap H locs → W p l e (headSpec wsX8_feed RM_X8_feed).room s m ([.ref (a 0), .long x1] : List Value).toArray below meth c H locs 0 0 (MQ below (zQi (dC, dI) (zT cB cI cS cII) (wX a cB cI cS cII) A (fun (r : Int32) (σ1 : Cn) => ∃ u1 : Nat → Int32, ∃ u12 : Nat → Int32, σ1 = (upC (upC σ 1 u1) 12 u12) ∧ ((152 < (σ 1 1).toInt ∧ (r : Int32).toInt = -3 ∧ (u1 1).toInt = (σ 1 1).toInt) ∨ ((σ 1 1).toInt ≤ 152 ∧ (r : Int32).toInt = (σ 1 1).toInt + 8 ∧ (u1 1).toInt = (σ 1 1).toInt + 8)))) ([.ref (a 0), .long x1] : List Value).toArray s 0 0 A) (F0 m 0 ls []) from main s.heap [] hP hD hS
  intro H locs hP hD hS
  refine lv_aload_n hx hb dX8_feed_0 rfl (lv_at hl 0 rfl) ?_
  refine va_get (D := (dC, dI)) (ci := 8) (v := .ref (a 1)) (C := RX8) (T := TX8) (N := 7) hx hb hts in8 hown hK hP 0 rfl rfl 0 (by decide) k10 (fun _ h9 => h9) rfl dX8_feed_1 ?_
  refine va_get (D := (dC, dI)) (ci := 5) (v := .int (σ 1 1)) (C := RX5) (T := TX5) (N := 2) hx hb hts in5 hown hK hP 1 rfl rfl 1 (by decide) k68 (fun _ h9 => h9) rfl dX8_feed_4 ?_
  refine lv_sipush (v := 152) hx hb dX8_feed_7 (by decide) ?_
  refine lv_icmp_le (tgt := 16) hx hb dX8_feed_10 (by decide) (fun c10 => ?_) (fun c10 => ?_)
  · skip
    have ic10 := zle (a := (σ 1 1).toInt) (b := 152) rfl (by decide) c10
    refine lv_aload_n hx hb dX8_feed_16 rfl (lv_at hl 0 rfl) ?_
    refine va_get (D := (dC, dI)) (ci := 8) (v := .ref (a 1)) (C := RX8) (T := TX8) (N := 7) hx hb hts in8 hown hK hP 0 rfl rfl 0 (by decide) k10 (fun _ h9 => h9) rfl dX8_feed_17 ?_
    refine lv_lload_n hx hb dX8_feed_20 rfl (lv_at hl 1 rfl) ?_
    refine zcallv (va_runV (As := [.long x1]) (rest := []) ⟨hx, hb, hml, hown, hts⟩ (c_X5_append l dC dI cB cI cS cII a N hok hn σ H.size (x1) h3) (cwV 1 hts gX8_feed_X5_append rfl rfl rfl (by decide +kernel) ⟨Nat.le_of_ble_eq_true rfl, Nat.le_of_ble_eq_true rfl⟩) (zpreV (wf := wX a cB cI cS cII) (q0 := 1) (ci := 5) hok hN hS hA hK hP hD rfl rfl) rfl rfl hl.1 rfl (lv_room (Nat.le_of_ble_eq_true rfl)) dX8_feed_21 ⟨Nat.zero_le _, Nat.zero_le _⟩) hD hS hA (fun σ1 H locs hv21 hP hD hS => ?_)
    obtain ⟨u1_21, u12_21, es9, hv21⟩ := hv21
    subst σ1
    have hP : va_P (dC, dI) vwCl (wX a cB cI cS cII (upC (upC σ 1 u1_21) 12 u12_21)) H := hP
    have hD : va_D A (wX a cB cI cS cII (upC (upC σ 1 u1_21) 12 u12_21)) := hD
    refine lv_aload_n hx hb dX8_feed_24 rfl (lv_at hl 0 rfl) ?_
    refine va_get (D := (dC, dI)) (ci := 8) (v := .ref (a 1)) (C := RX8) (T := TX8) (N := 7) hx hb hts in8 hown hK hP 0 rfl rfl 0 (by decide) k10 (fun _ h9 => h9) rfl dX8_feed_25 ?_
    refine va_get (D := (dC, dI)) (ci := 5) (v := .int (u1_21 1)) (C := RX5) (T := TX5) (N := 2) hx hb hts in5 hown hK hP 1 rfl rfl 1 (by decide) k68 (fun _ h9 => h9) rfl dX8_feed_28 ?_
    have hpost : ∃ u1 : Nat → Int32, ∃ u12 : Nat → Int32, (upC (upC σ 1 u1_21) 12 u12_21) = (upC (upC σ 1 u1) 12 u12) ∧ ((152 < (σ 1 1).toInt ∧ (u1_21 1 : Int32).toInt = -3 ∧ (u1 1).toInt = (σ 1 1).toInt) ∨ ((σ 1 1).toInt ≤ 152 ∧ (u1_21 1 : Int32).toInt = (σ 1 1).toInt + 8 ∧ (u1 1).toInt = (σ 1 1).toInt + 8)) := by refine ⟨(u1_21), (u12_21), by first | rfl | (funext j; simp only [upC, upR]; (repeat' split) <;> first | rfl | (simp_all; done) | (congr 1; omega) | (exfalso; omega)), ?_⟩; first | exact Or.inr ⟨by omega, by omega, by omega⟩ | exact Or.inl ⟨by omega, by decide, rfl⟩
    exact W.iret (v := u1_21 1) hx hb hr (fun t9 ht hW => ⟨⟨u1_21 1, (upC (upC σ 1 u1_21) 12 u12_21), rfl, hpost, by rw [ht]; exact hP, va_K.moved hW.alike hK, hD⟩, hS.F ht⟩) hS.2.2 dX8_feed_31
  · skip
    have ic10 := znle (a := (σ 1 1).toInt) (b := 152) rfl (by decide) c10
    refine lv_bipush (v := (-3)) hx hb dX8_feed_13 (by decide) ?_
    have hpost : ∃ u1 : Nat → Int32, ∃ u12 : Nat → Int32, σ = (upC (upC σ 1 u1) 12 u12) ∧ ((152 < (σ 1 1).toInt ∧ ((-3) : Int32).toInt = -3 ∧ (u1 1).toInt = (σ 1 1).toInt) ∨ ((σ 1 1).toInt ≤ 152 ∧ ((-3) : Int32).toInt = (σ 1 1).toInt + 8 ∧ (u1 1).toInt = (σ 1 1).toInt + 8)) := by refine ⟨(σ 1), (σ 12), by first | rfl | (funext j; simp only [upC, upR]; (repeat' split) <;> first | rfl | (simp_all; done) | (congr 1; omega) | (exfalso; omega)), ?_⟩; first | exact Or.inr ⟨by omega, by omega, by omega⟩ | exact Or.inl ⟨by omega, by decide, rfl⟩
    exact W.iret (v := (-3)) hx hb hr (fun t9 ht hW => ⟨⟨(-3), σ, rfl, hpost, by rw [ht]; exact hP, va_K.moved hW.alike hK, hD⟩, hS.F ht⟩) hS.2.2 dX8_feed_15

abbrev RM_X8_end : Room := { frames := 0, cells := 0, slots := 0, locals := 0 }
set_option maxHeartbeats 4000000 in
set_option maxRecDepth 100000 in
theorem c_X8_end (l : Launch) (dC : Nat → ClassId) (dI : Nat → Nat → Nat) (cB cI cS cII : ClassId) (a : Nat → Nat) (N : (Nat → Prop) → State → Prop) (hok : zNok N) (hn : ∀ A U, N A U → zN U) (σ : Cn) (sz : Nat) (x1 : Int32)  : Met l yX8_end wsX8_end RM_X8_end (zPc (dC, dI) (zT cB cI cS cII) N (wX a cB cI cS cII) σ sz [.ref (a 0), .int x1]) (zQi (dC, dI) (zT cB cI cS cII) (wX a cB cI cS cII) (va_A (wX a cB cI cS cII σ) sz) (fun (r : Int32) (σ1 : Cn) => ∃ u1 : Nat → Int32, σ1 = (upC σ 1 u1) ∧ ((0 ≤ x1.toInt ∧ x1.toInt ≤ (σ 1 1).toInt ∧ (r : Int32) = σ 1 1 ∧ u1 1 = x1) ∨ (¬ (0 ≤ x1.toInt ∧ x1.toInt ≤ (σ 1 1).toInt) ∧ (r : Int32) = -1 ∧ u1 1 = σ 1 1)))) 0 0 (va_A (wX a cB cI cS cII σ) sz) := by
  refine Met.ofW (cc := cX8_end) (maxL := 3) (ret := (some .int)) (by decide) rfl ?_
  intro p e s m args below meth c s₁ B hml hv
  obtain ⟨rfl, hsz, hP, hK, hD0, hN⟩ := hv
  have hx := B.exec
  have hb := B.bytes
  have hr := B.returns
  have hts := atoms_spec (ws := wsX8_end) B.pre
  have hown : s.vm.findClass RX8 = some m.cls := findClass_of_methodNamed B.named
  have hlocks := B.notSynchronized
  subst hsz
  have hD := hD0.self (sz := s.heap.size)
  generalize hAe : va_A (wX a cB cI cS cII σ) s.heap.size = A at hD hN ⊢
  have hA : ∀ q : Nat, s.heap.size ≤ q → A q := fun q h => by rw [← hAe]; exact Or.inr h
  clear hAe hD0
  have hS : va_S A s.heap s.heap [] := va_S.rf
  have in5 : ∀ w ∈ u_ws RX5 TX5 2, w ∈ wsX8_end := by decide +kernel
  have in8 : ∀ w ∈ u_ws RX8 TX8 7, w ∈ wsX8_end := by decide +kernel
  have k10 := hts (.fieldLink RX8 10 "HouseSorted" "tape" "LHouseSorted$Tape;") (by decide +kernel)
  have k68 := hts (.fieldLink RX8 68 "HouseSorted$Tape" "length" "I") (by decide +kernel)
  have hl := lv_entry ([.ref (a 0), .int x1]) (n := 3) (Nat.le_of_ble_eq_true rfl)
  rw [lg_entry_eq]
  generalize (lg_sl ([.ref (a 0), .int x1]) ++ List.replicate (3 - (lg_sl ([.ref (a 0), .int x1])).length) Slot.unset).toArray = ls at hl ⊢
  have hl : lv_has ls 3 [(0, .ref (a 0)), (1, .int x1)] := hl
  suffices main : ∀ (H : Heap) (locs : List Loc), va_P (dC, dI) vwCl (wX a cB cI cS cII σ) H → va_D A (wX a cB cI cS cII σ) → va_S A s.heap H locs → W p l e (headSpec wsX8_end RM_X8_end).room s m ([.ref (a 0), .int x1] : List Value).toArray below meth c H locs 0 0 (MQ below (zQi (dC, dI) (zT cB cI cS cII) (wX a cB cI cS cII) A (fun (r : Int32) (σ1 : Cn) => ∃ u1 : Nat → Int32, σ1 = (upC σ 1 u1) ∧ ((0 ≤ x1.toInt ∧ x1.toInt ≤ (σ 1 1).toInt ∧ (r : Int32) = σ 1 1 ∧ u1 1 = x1) ∨ (¬ (0 ≤ x1.toInt ∧ x1.toInt ≤ (σ 1 1).toInt) ∧ (r : Int32) = -1 ∧ u1 1 = σ 1 1)))) ([.ref (a 0), .int x1] : List Value).toArray s 0 0 A) (F0 m 0 ls []) from main s.heap [] hP hD hS
  intro H locs hP hD hS
  refine lv_iload_n hx hb dX8_end_0 rfl (lv_at hl 1 rfl) ?_
  refine lv_if_lt (tgt := 15) hx hb dX8_end_1 (by decide) (fun c1 => ?_) (fun c1 => ?_)
  · skip
    have ic1 := zlt (a := x1.toInt) (b := 0) rfl (by decide) c1
    refine lv_iconst (v := (-1)) hx hb dX8_end_15 (by decide) ?_
    have hpost : ∃ u1 : Nat → Int32, σ = (upC σ 1 u1) ∧ ((0 ≤ x1.toInt ∧ x1.toInt ≤ (σ 1 1).toInt ∧ ((-1) : Int32) = σ 1 1 ∧ u1 1 = x1) ∨ (¬ (0 ≤ x1.toInt ∧ x1.toInt ≤ (σ 1 1).toInt) ∧ ((-1) : Int32) = -1 ∧ u1 1 = σ 1 1)) := by refine ⟨(σ 1), by first | rfl | (funext j; simp only [upC, upR]; (repeat' split) <;> first | rfl | (simp_all; done) | (congr 1; omega) | (exfalso; omega)), ?_⟩; first | exact Or.inl ⟨by omega, by omega, rfl, rfl⟩ | exact Or.inr ⟨by omega, rfl, rfl⟩
    exact W.iret (v := (-1)) hx hb hr (fun t9 ht hW => ⟨⟨(-1), σ, rfl, hpost, by rw [ht]; exact hP, va_K.moved hW.alike hK, hD⟩, hS.F ht⟩) hS.2.2 dX8_end_16
  · skip
    have ic1 := znlt (a := x1.toInt) (b := 0) rfl (by decide) c1
    refine lv_iload_n hx hb dX8_end_4 rfl (lv_at hl 1 rfl) ?_
    refine lv_aload_n hx hb dX8_end_5 rfl (lv_at hl 0 rfl) ?_
    refine va_get (D := (dC, dI)) (ci := 8) (v := .ref (a 1)) (C := RX8) (T := TX8) (N := 7) hx hb hts in8 hown hK hP 0 rfl rfl 0 (by decide) k10 (fun _ h9 => h9) rfl dX8_end_6 ?_
    refine va_get (D := (dC, dI)) (ci := 5) (v := .int (σ 1 1)) (C := RX5) (T := TX5) (N := 2) hx hb hts in5 hown hK hP 1 rfl rfl 1 (by decide) k68 (fun _ h9 => h9) rfl dX8_end_9 ?_
    refine lv_icmp_le (tgt := 17) hx hb dX8_end_12 (by decide) (fun c12 => ?_) (fun c12 => ?_)
    · skip
      have ic12 := zle (a := x1.toInt) (b := (σ 1 1).toInt) rfl rfl c12
      refine lv_aload_n hx hb dX8_end_17 rfl (lv_at hl 0 rfl) ?_
      refine va_get (D := (dC, dI)) (ci := 8) (v := .ref (a 1)) (C := RX8) (T := TX8) (N := 7) hx hb hts in8 hown hK hP 0 rfl rfl 0 (by decide) k10 (fun _ h9 => h9) rfl dX8_end_18 ?_
      refine va_get (D := (dC, dI)) (ci := 5) (v := .int (σ 1 1)) (C := RX5) (T := TX5) (N := 2) hx hb hts in5 hown hK hP 1 rfl rfl 1 (by decide) k68 (fun _ h9 => h9) rfl dX8_end_21 ?_
      refine lv_istore_n (lv' := [(2, .int (σ 1 1)), (0, .ref (a 0)), (1, .int x1)]) hx hb dX8_end_24 rfl hl (by decide) rfl (fun ls hl => ?_)
      refine lv_aload_n hx hb dX8_end_25 rfl (lv_at hl 1 rfl) ?_
      refine va_get (D := (dC, dI)) (ci := 8) (v := .ref (a 1)) (C := RX8) (T := TX8) (N := 7) hx hb hts in8 hown hK hP 0 rfl rfl 0 (by decide) k10 (fun _ h9 => h9) rfl dX8_end_26 ?_
      refine lv_iload_n hx hb dX8_end_29 rfl (lv_at hl 2 rfl) ?_
      refine va_put (D := (dC, dI)) (ci := 5) (v := .int x1) (ty := .int) (C := RX5) (T := TX5) (N := 2) hx hb hts in5 tyX5 tyX5_ok nmX5 hown hK hP hD hS 1 rfl rfl 1 (by decide) k68 (fun _ h9 => h9) rfl (by decide +kernel) rfl rfl (Nat.le_of_ble_eq_true rfl) dX8_end_30 (fun H locs hP hD hS => ?_)
      have hP : va_P (dC, dI) vwCl (wX a cB cI cS cII (upC σ 1 (upd (σ 1) 1 x1))) H := hP
      have hD : va_D A (wX a cB cI cS cII (upC σ 1 (upd (σ 1) 1 x1))) := hD
      refine lv_iload_n hx hb dX8_end_33 rfl (lv_at hl 0 rfl) ?_
      have hpost : ∃ u1 : Nat → Int32, (upC σ 1 (upd (σ 1) 1 x1)) = (upC σ 1 u1) ∧ ((0 ≤ x1.toInt ∧ x1.toInt ≤ (σ 1 1).toInt ∧ (σ 1 1 : Int32) = σ 1 1 ∧ u1 1 = x1) ∨ (¬ (0 ≤ x1.toInt ∧ x1.toInt ≤ (σ 1 1).toInt) ∧ (σ 1 1 : Int32) = -1 ∧ u1 1 = σ 1 1)) := by refine ⟨(upd (σ 1) 1 x1), by first | rfl | (funext j; simp only [upC, upR]; (repeat' split) <;> first | rfl | (simp_all; done) | (congr 1; omega) | (exfalso; omega)), ?_⟩; first | exact Or.inl ⟨by omega, by omega, rfl, rfl⟩ | exact Or.inr ⟨by omega, rfl, rfl⟩
      exact W.iret (v := σ 1 1) hx hb hr (fun t9 ht hW => ⟨⟨σ 1 1, (upC σ 1 (upd (σ 1) 1 x1)), rfl, hpost, by rw [ht]; exact hP, va_K.moved hW.alike hK, hD⟩, hS.F ht⟩) hS.2.2 dX8_end_34
    · skip
      have ic12 := znle (a := x1.toInt) (b := (σ 1 1).toInt) rfl rfl c12
      refine lv_iconst (v := (-1)) hx hb dX8_end_15 (by decide) ?_
      have hpost : ∃ u1 : Nat → Int32, σ = (upC σ 1 u1) ∧ ((0 ≤ x1.toInt ∧ x1.toInt ≤ (σ 1 1).toInt ∧ ((-1) : Int32) = σ 1 1 ∧ u1 1 = x1) ∨ (¬ (0 ≤ x1.toInt ∧ x1.toInt ≤ (σ 1 1).toInt) ∧ ((-1) : Int32) = -1 ∧ u1 1 = σ 1 1)) := by refine ⟨(σ 1), by first | rfl | (funext j; simp only [upC, upR]; (repeat' split) <;> first | rfl | (simp_all; done) | (congr 1; omega) | (exfalso; omega)), ?_⟩; first | exact Or.inl ⟨by omega, by omega, rfl, rfl⟩ | exact Or.inr ⟨by omega, rfl, rfl⟩
      exact W.iret (v := (-1)) hx hb hr (fun t9 ht hW => ⟨⟨(-1), σ, rfl, hpost, by rw [ht]; exact hP, va_K.moved hW.alike hK, hD⟩, hS.F ht⟩) hS.2.2 dX8_end_16

abbrev RM_X8_fault : Room := { frames := 0, cells := 0, slots := 0, locals := 0 }
set_option maxHeartbeats 4000000 in
set_option maxRecDepth 100000 in
theorem c_X8_fault (l : Launch) (dC : Nat → ClassId) (dI : Nat → Nat → Nat) (cB cI cS cII : ClassId) (a : Nat → Nat) (N : (Nat → Prop) → State → Prop) (hok : zNok N) (hn : ∀ A U, N A U → zN U) (σ : Cn) (sz : Nat)   : Met l yX8_fault wsX8_fault RM_X8_fault (zPc (dC, dI) (zT cB cI cS cII) N (wX a cB cI cS cII) σ sz [.ref (a 0)]) (zQi (dC, dI) (zT cB cI cS cII) (wX a cB cI cS cII) (va_A (wX a cB cI cS cII σ) sz) (fun (r : Int32) (σ1 : Cn) => σ1 = σ ∧ (r : Int32) = σ 2 2)) 0 0 (va_A (wX a cB cI cS cII σ) sz) := by
  refine Met.ofW (cc := cX8_fault) (maxL := 1) (ret := (some .int)) (by decide) rfl ?_
  intro p e s m args below meth c s₁ B hml hv
  obtain ⟨rfl, hsz, hP, hK, hD0, hN⟩ := hv
  have hx := B.exec
  have hb := B.bytes
  have hr := B.returns
  have hts := atoms_spec (ws := wsX8_fault) B.pre
  have hown : s.vm.findClass RX8 = some m.cls := findClass_of_methodNamed B.named
  have hlocks := B.notSynchronized
  subst hsz
  have hD := hD0.self (sz := s.heap.size)
  generalize hAe : va_A (wX a cB cI cS cII σ) s.heap.size = A at hD hN ⊢
  have hA : ∀ q : Nat, s.heap.size ≤ q → A q := fun q h => by rw [← hAe]; exact Or.inr h
  clear hAe hD0
  have hS : va_S A s.heap s.heap [] := va_S.rf
  have in2 : ∀ w ∈ u_ws RX2 TX2 6, w ∈ wsX8_fault := by decide +kernel
  have in8 : ∀ w ∈ u_ws RX8 TX8 7, w ∈ wsX8_fault := by decide +kernel
  have k21 := hts (.fieldLink RX8 21 "HouseSorted" "book" "LHouseSorted$LawBook;") (by decide +kernel)
  have k80 := hts (.fieldLink RX8 80 "HouseSorted$LawBook" "fault" "I") (by decide +kernel)
  have hl := lv_entry ([.ref (a 0)]) (n := 1) (Nat.le_of_ble_eq_true rfl)
  rw [lg_entry_eq]
  generalize (lg_sl ([.ref (a 0)]) ++ List.replicate (1 - (lg_sl ([.ref (a 0)])).length) Slot.unset).toArray = ls at hl ⊢
  have hl : lv_has ls 1 [(0, .ref (a 0))] := hl
  suffices main : ∀ (H : Heap) (locs : List Loc), va_P (dC, dI) vwCl (wX a cB cI cS cII σ) H → va_D A (wX a cB cI cS cII σ) → va_S A s.heap H locs → W p l e (headSpec wsX8_fault RM_X8_fault).room s m ([.ref (a 0)] : List Value).toArray below meth c H locs 0 0 (MQ below (zQi (dC, dI) (zT cB cI cS cII) (wX a cB cI cS cII) A (fun (r : Int32) (σ1 : Cn) => σ1 = σ ∧ (r : Int32) = σ 2 2)) ([.ref (a 0)] : List Value).toArray s 0 0 A) (F0 m 0 ls []) from main s.heap [] hP hD hS
  intro H locs hP hD hS
  refine lv_aload_n hx hb dX8_fault_0 rfl (lv_at hl 0 rfl) ?_
  refine va_get (D := (dC, dI)) (ci := 8) (v := .ref (a 2)) (C := RX8) (T := TX8) (N := 7) hx hb hts in8 hown hK hP 0 rfl rfl 1 (by decide) k21 (fun _ h9 => h9) rfl dX8_fault_1 ?_
  refine va_get (D := (dC, dI)) (ci := 2) (v := .int (σ 2 2)) (C := RX2) (T := TX2) (N := 6) hx hb hts in2 hown hK hP 2 rfl rfl 2 (by decide) k80 (fun _ h9 => h9) rfl dX8_fault_4 ?_
  have hpost : σ = σ ∧ (σ 2 2 : Int32) = σ 2 2 := by refine ⟨by first | rfl | (funext j; simp only [upC, upR]; (repeat' split) <;> first | rfl | (simp_all; done) | (congr 1; omega) | (exfalso; omega)), ?_⟩; rfl
  exact W.iret (v := σ 2 2) hx hb hr (fun t9 ht hW => ⟨⟨σ 2 2, σ, rfl, hpost, by rw [ht]; exact hP, va_K.moved hW.alike hK, hD⟩, hS.F ht⟩) hS.2.2 dX8_fault_7

abbrev RM_X8_law : Room := { frames := 1, cells := 0, slots := 0, locals := 22 }
set_option maxHeartbeats 4000000 in
set_option maxRecDepth 100000 in
theorem c_X8_law (l : Launch) (dC : Nat → ClassId) (dI : Nat → Nat → Nat) (cB cI cS cII : ClassId) (a : Nat → Nat) (N : (Nat → Prop) → State → Prop) (hok : zNok N) (hn : ∀ A U, N A U → zN U) (σ : Cn) (sz : Nat) (x1 : Int32)  : Met l yX8_law wsX8_law RM_X8_law (zPc (dC, dI) (zT cB cI cS cII) N (wX a cB cI cS cII) σ sz [.ref (a 0), .int x1]) (zQi (dC, dI) (zT cB cI cS cII) (wX a cB cI cS cII) (va_A (wX a cB cI cS cII σ) sz) (fun (r : Int32) (σ1 : Cn) => σ1 = σ ∧ ((0 ≤ x1.toInt ∧ x1.toInt ≤ 6 ∧ (r : Int32) = σ 13 x1.toNatClampNeg) ∨ (¬ (0 ≤ x1.toInt ∧ x1.toInt ≤ 6) ∧ (r : Int32) = -1)))) 0 0 (va_A (wX a cB cI cS cII σ) sz) := by
  refine Met.ofW (cc := cX8_law) (maxL := 2) (ret := (some .int)) (by decide) rfl ?_
  intro p e s m args below meth c s₁ B hml hv
  obtain ⟨rfl, hsz, hP, hK, hD0, hN⟩ := hv
  have hx := B.exec
  have hb := B.bytes
  have hr := B.returns
  have hts := atoms_spec (ws := wsX8_law) B.pre
  have hown : s.vm.findClass RX8 = some m.cls := findClass_of_methodNamed B.named
  have hlocks := B.notSynchronized
  subst hsz
  have hD := hD0.self (sz := s.heap.size)
  generalize hAe : va_A (wX a cB cI cS cII σ) s.heap.size = A at hD hN ⊢
  have hA : ∀ q : Nat, s.heap.size ≤ q → A q := fun q h => by rw [← hAe]; exact Or.inr h
  clear hAe hD0
  have hS : va_S A s.heap s.heap [] := va_S.rf
  have in2 : ∀ w ∈ u_ws RX2 TX2 6, w ∈ wsX8_law := by decide +kernel
  have in8 : ∀ w ∈ u_ws RX8 TX8 7, w ∈ wsX8_law := by decide +kernel
  have k21 := hts (.fieldLink RX8 21 "HouseSorted" "book" "LHouseSorted$LawBook;") (by decide +kernel)
  have k87 := hts (.fieldLink RX8 87 "HouseSorted$LawBook" "value" "[I") (by decide +kernel)
  have hl := lv_entry ([.ref (a 0), .int x1]) (n := 2) (Nat.le_of_ble_eq_true rfl)
  rw [lg_entry_eq]
  generalize (lg_sl ([.ref (a 0), .int x1]) ++ List.replicate (2 - (lg_sl ([.ref (a 0), .int x1])).length) Slot.unset).toArray = ls at hl ⊢
  have hl : lv_has ls 2 [(0, .ref (a 0)), (1, .int x1)] := hl
  suffices main : ∀ (H : Heap) (locs : List Loc), va_P (dC, dI) vwCl (wX a cB cI cS cII σ) H → va_D A (wX a cB cI cS cII σ) → va_S A s.heap H locs → W p l e (headSpec wsX8_law RM_X8_law).room s m ([.ref (a 0), .int x1] : List Value).toArray below meth c H locs 0 0 (MQ below (zQi (dC, dI) (zT cB cI cS cII) (wX a cB cI cS cII) A (fun (r : Int32) (σ1 : Cn) => σ1 = σ ∧ ((0 ≤ x1.toInt ∧ x1.toInt ≤ 6 ∧ (r : Int32) = σ 13 x1.toNatClampNeg) ∨ (¬ (0 ≤ x1.toInt ∧ x1.toInt ≤ 6) ∧ (r : Int32) = -1)))) ([.ref (a 0), .int x1] : List Value).toArray s 0 0 A) (F0 m 0 ls []) from main s.heap [] hP hD hS
  intro H locs hP hD hS
  refine lv_iload_n hx hb dX8_law_0 rfl (lv_at hl 1 rfl) ?_
  refine lv_iconst (v := 0) hx hb dX8_law_1 (by decide) ?_
  refine lv_bipush (v := 6) hx hb dX8_law_2 (by decide) ?_
  refine zcalli (va_runS (As := [.int x1, .int 0, .int 6]) (rest := []) ⟨hx, hb, hml, hown, hts⟩ (c_X8_isWithin l dC dI cB cI cS cII a N hok hn σ H.size (x1) (0) (6) ) (va_cwS 3 hts gX8_law_X8_isWithin rfl rfl rfl (by decide +kernel) ⟨Nat.le_of_ble_eq_true rfl, Nat.le_of_ble_eq_true rfl⟩) (zpreS (wf := wX a cB cI cS cII) hok hN hS hA hK hP hD) rfl rfl hl.1 rfl (lv_room (Nat.le_of_ble_eq_true rfl)) dX8_law_4 ⟨Nat.zero_le _, Nat.zero_le _⟩) hD hS hA (fun v4 σ1 H locs hv4 hP hD hS => ?_)
  obtain ⟨es9, hv4⟩ := hv4
  subst σ1
  try simp only [show (0 : Int32).toInt = 0 from by decide, show (6 : Int32).toInt = 6 from by decide] at hv4
  refine lv_if_eq (tgt := 22) hx hb dX8_law_7 (by decide) (fun c7 => ?_) (fun c7 => ?_)
  · skip
    have ic7 := zeq (a := v4.toInt) (b := 0) rfl (by decide) c7
    replace hv4 := (hv4.resolve_left (fun q => by omega)).2
    refine lv_iconst (v := (-1)) hx hb dX8_law_22 (by decide) ?_
    have hpost : σ = σ ∧ ((0 ≤ x1.toInt ∧ x1.toInt ≤ 6 ∧ ((-1) : Int32) = σ 13 x1.toNatClampNeg) ∨ (¬ (0 ≤ x1.toInt ∧ x1.toInt ≤ 6) ∧ ((-1) : Int32) = -1)) := by refine ⟨by first | rfl | (funext j; simp only [upC, upR]; (repeat' split) <;> first | rfl | (simp_all; done) | (congr 1; omega) | (exfalso; omega)), ?_⟩; first | exact Or.inl ⟨by omega, by omega, ev18⟩ | exact Or.inr ⟨by omega, rfl⟩
    exact W.iret (v := (-1)) hx hb hr (fun t9 ht hW => ⟨⟨(-1), σ, rfl, hpost, by rw [ht]; exact hP, va_K.moved hW.alike hK, hD⟩, hS.F ht⟩) hS.2.2 dX8_law_23
  · skip
    have ic7 := zneq (a := v4.toInt) (b := 0) rfl (by decide) c7
    replace hv4 := (hv4.resolve_right (fun q => by omega)).2
    refine lv_aload_n hx hb dX8_law_10 rfl (lv_at hl 0 rfl) ?_
    refine va_get (D := (dC, dI)) (ci := 8) (v := .ref (a 2)) (C := RX8) (T := TX8) (N := 7) hx hb hts in8 hown hK hP 0 rfl rfl 1 (by decide) k21 (fun _ h9 => h9) rfl dX8_law_11 ?_
    refine va_get (D := (dC, dI)) (ci := 2) (v := .ref (a 13)) (C := RX2) (T := TX2) (N := 6) hx hb hts in2 hown hK hP 2 rfl rfl 0 (by decide) k87 (fun _ h9 => h9) rfl dX8_law_14 ?_
    refine lv_iload_n hx hb dX8_law_17 rfl (lv_at hl 1 rfl) ?_
    refine va_iald (D := (dC, dI)) (f := σ 13) hx hb hK hP 13 1 rfl rfl (i := x1) (n := 7) (zin (by omega) (by omega)) dX8_law_18 ?_
    refine lv_topi (fun v18 ev18 => ?_)
    have tv18 := congrArg Int32.toInt ev18
    refine lv_goto (tgt := 23) hx hb dX8_law_19 (by decide) ?_
    have hpost : σ = σ ∧ ((0 ≤ x1.toInt ∧ x1.toInt ≤ 6 ∧ (v18 : Int32) = σ 13 x1.toNatClampNeg) ∨ (¬ (0 ≤ x1.toInt ∧ x1.toInt ≤ 6) ∧ (v18 : Int32) = -1)) := by refine ⟨by first | rfl | (funext j; simp only [upC, upR]; (repeat' split) <;> first | rfl | (simp_all; done) | (congr 1; omega) | (exfalso; omega)), ?_⟩; first | exact Or.inl ⟨by omega, by omega, ev18⟩ | exact Or.inr ⟨by omega, rfl⟩
    exact W.iret (v := v18) hx hb hr (fun t9 ht hW => ⟨⟨v18, σ, rfl, hpost, by rw [ht]; exact hP, va_K.moved hW.alike hK, hD⟩, hS.F ht⟩) hS.2.2 dX8_law_23

abbrev RM_X8_heir : Room := { frames := 0, cells := 0, slots := 0, locals := 0 }
set_option maxHeartbeats 4000000 in
set_option maxRecDepth 100000 in
theorem c_X8_heir (l : Launch) (dC : Nat → ClassId) (dI : Nat → Nat → Nat) (cB cI cS cII : ClassId) (a : Nat → Nat) (N : (Nat → Prop) → State → Prop) (hok : zNok N) (hn : ∀ A U, N A U → zN U) (σ : Cn) (sz : Nat)  (h0 : 0 ≤ (σ 4 1).toInt ∧ (σ 4 1).toInt ≤ 4) : Met l yX8_heir wsX8_heir RM_X8_heir (zPc (dC, dI) (zT cB cI cS cII) N (wX a cB cI cS cII) σ sz [.ref (a 0)]) (zQi (dC, dI) (zT cB cI cS cII) (wX a cB cI cS cII) (va_A (wX a cB cI cS cII σ) sz) (fun (r : Int32) (σ1 : Cn) => ∃ u4 : Nat → Int32, σ1 = (upC σ 4 u4) ∧ (((σ 4 1).toInt < 4 ∧ (r : Int32).toInt = (σ 4 1).toInt ∧ (u4 1).toInt = (σ 4 1).toInt + 1 ∧ u4 2 = σ 4 2) ∨ ((σ 4 1).toInt = 4 ∧ (r : Int32).toInt = -3 ∧ u4 1 = σ 4 1 ∧ u4 2 = σ 4 2)))) 0 0 (va_A (wX a cB cI cS cII σ) sz) := by
  refine Met.ofW (cc := cX8_heir) (maxL := 1) (ret := (some .int)) (by decide) rfl ?_
  intro p e s m args below meth c s₁ B hml hv
  obtain ⟨rfl, hsz, hP, hK, hD0, hN⟩ := hv
  have hx := B.exec
  have hb := B.bytes
  have hr := B.returns
  have hts := atoms_spec (ws := wsX8_heir) B.pre
  have hown : s.vm.findClass RX8 = some m.cls := findClass_of_methodNamed B.named
  have hlocks := B.notSynchronized
  subst hsz
  have hD := hD0.self (sz := s.heap.size)
  generalize hAe : va_A (wX a cB cI cS cII σ) s.heap.size = A at hD hN ⊢
  have hA : ∀ q : Nat, s.heap.size ≤ q → A q := fun q h => by rw [← hAe]; exact Or.inr h
  clear hAe hD0
  have hS : va_S A s.heap s.heap [] := va_S.rf
  have in1 : ∀ w ∈ u_ws RX1 TX1 9, w ∈ wsX8_heir := by decide +kernel
  have in8 : ∀ w ∈ u_ws RX8 TX8 7, w ∈ wsX8_heir := by decide +kernel
  have k30 := hts (.fieldLink RX8 30 "HouseSorted" "house" "LHouseSorted$House;") (by decide +kernel)
  have k91 := hts (.fieldLink RX8 91 "HouseSorted$House" "heirs" "I") (by decide +kernel)
  have hl := lv_entry ([.ref (a 0)]) (n := 1) (Nat.le_of_ble_eq_true rfl)
  rw [lg_entry_eq]
  generalize (lg_sl ([.ref (a 0)]) ++ List.replicate (1 - (lg_sl ([.ref (a 0)])).length) Slot.unset).toArray = ls at hl ⊢
  have hl : lv_has ls 1 [(0, .ref (a 0))] := hl
  suffices main : ∀ (H : Heap) (locs : List Loc), va_P (dC, dI) vwCl (wX a cB cI cS cII σ) H → va_D A (wX a cB cI cS cII σ) → va_S A s.heap H locs → W p l e (headSpec wsX8_heir RM_X8_heir).room s m ([.ref (a 0)] : List Value).toArray below meth c H locs 0 0 (MQ below (zQi (dC, dI) (zT cB cI cS cII) (wX a cB cI cS cII) A (fun (r : Int32) (σ1 : Cn) => ∃ u4 : Nat → Int32, σ1 = (upC σ 4 u4) ∧ (((σ 4 1).toInt < 4 ∧ (r : Int32).toInt = (σ 4 1).toInt ∧ (u4 1).toInt = (σ 4 1).toInt + 1 ∧ u4 2 = σ 4 2) ∨ ((σ 4 1).toInt = 4 ∧ (r : Int32).toInt = -3 ∧ u4 1 = σ 4 1 ∧ u4 2 = σ 4 2)))) ([.ref (a 0)] : List Value).toArray s 0 0 A) (F0 m 0 ls []) from main s.heap [] hP hD hS
  intro H locs hP hD hS
  refine lv_aload_n hx hb dX8_heir_0 rfl (lv_at hl 0 rfl) ?_
  refine va_get (D := (dC, dI)) (ci := 8) (v := .ref (a 4)) (C := RX8) (T := TX8) (N := 7) hx hb hts in8 hown hK hP 0 rfl rfl 2 (by decide) k30 (fun _ h9 => h9) rfl dX8_heir_1 ?_
  refine va_get (D := (dC, dI)) (ci := 1) (v := .int (σ 4 1)) (C := RX1) (T := TX1) (N := 9) hx hb hts in1 hown hK hP 4 rfl rfl 1 (by decide) k91 (fun _ h9 => h9) rfl dX8_heir_4 ?_
  refine lv_iconst (v := 4) hx hb dX8_heir_7 (by decide) ?_
  refine lv_icmp_lt (tgt := 14) hx hb dX8_heir_8 (by decide) (fun c8 => ?_) (fun c8 => ?_)
  · skip
    have ic8 := zlt (a := (σ 4 1).toInt) (b := 4) rfl (by decide) c8
    refine lv_aload_n hx hb dX8_heir_14 rfl (lv_at hl 0 rfl) ?_
    refine va_get (D := (dC, dI)) (ci := 8) (v := .ref (a 4)) (C := RX8) (T := TX8) (N := 7) hx hb hts in8 hown hK hP 0 rfl rfl 2 (by decide) k30 (fun _ h9 => h9) rfl dX8_heir_15 ?_
    refine lv_dup hx hb dX8_heir_18 rfl ?_
    refine va_get (D := (dC, dI)) (ci := 1) (v := .int (σ 4 1)) (C := RX1) (T := TX1) (N := 9) hx hb hts in1 hown hK hP 4 rfl rfl 1 (by decide) k91 (fun _ h9 => h9) rfl dX8_heir_19 ?_
    refine lv_iconst (v := 1) hx hb dX8_heir_22 (by decide) ?_
    refine lv_iadd hx hb dX8_heir_23 ?_
    refine lv_topi (fun v23 ev23 => ?_)
    have tv23 : v23.toInt = (σ 4 1).toInt + 1 := by rw [ev23, zadd, show (1 : Int32).toInt = 1 from by decide]; omega
    refine va_put (D := (dC, dI)) (ci := 1) (v := .int v23) (ty := .int) (C := RX1) (T := TX1) (N := 9) hx hb hts in1 tyX1 tyX1_ok nmX1 hown hK hP hD hS 4 rfl rfl 1 (by decide) k91 (fun _ h9 => h9) rfl (by decide +kernel) rfl rfl (Nat.le_of_ble_eq_true rfl) dX8_heir_24 (fun H locs hP hD hS => ?_)
    have hP : va_P (dC, dI) vwCl (wX a cB cI cS cII (upC σ 4 (upd (σ 4) 1 v23))) H := hP
    have hD : va_D A (wX a cB cI cS cII (upC σ 4 (upd (σ 4) 1 v23))) := hD
    refine lv_aload_n hx hb dX8_heir_27 rfl (lv_at hl 0 rfl) ?_
    refine va_get (D := (dC, dI)) (ci := 8) (v := .ref (a 4)) (C := RX8) (T := TX8) (N := 7) hx hb hts in8 hown hK hP 0 rfl rfl 2 (by decide) k30 (fun _ h9 => h9) rfl dX8_heir_28 ?_
    refine va_get (D := (dC, dI)) (ci := 1) (v := .int v23) (C := RX1) (T := TX1) (N := 9) hx hb hts in1 hown hK hP 4 rfl rfl 1 (by decide) k91 (fun _ h9 => h9) rfl dX8_heir_31 ?_
    refine lv_iconst (v := 1) hx hb dX8_heir_34 (by decide) ?_
    refine lv_isub hx hb dX8_heir_35 ?_
    refine lv_topi (fun v35 ev35 => ?_)
    have tv35 : v35.toInt = v23.toInt - 1 := by rw [ev35, zsub, show (1 : Int32).toInt = 1 from by decide]; omega
    have hpost : ∃ u4 : Nat → Int32, (upC σ 4 (upd (σ 4) 1 v23)) = (upC σ 4 u4) ∧ (((σ 4 1).toInt < 4 ∧ (v35 : Int32).toInt = (σ 4 1).toInt ∧ (u4 1).toInt = (σ 4 1).toInt + 1 ∧ u4 2 = σ 4 2) ∨ ((σ 4 1).toInt = 4 ∧ (v35 : Int32).toInt = -3 ∧ u4 1 = σ 4 1 ∧ u4 2 = σ 4 2)) := by refine ⟨(upd (σ 4) 1 v23), by first | rfl | (funext j; simp only [upC, upR]; (repeat' split) <;> first | rfl | (simp_all; done) | (congr 1; omega) | (exfalso; omega)), ?_⟩; first | exact Or.inl ⟨by omega, by omega, by show v23.toInt = _; omega, rfl⟩ | exact Or.inr ⟨by omega, by decide, rfl, rfl⟩
    exact W.iret (v := v35) hx hb hr (fun t9 ht hW => ⟨⟨v35, (upC σ 4 (upd (σ 4) 1 v23)), rfl, hpost, by rw [ht]; exact hP, va_K.moved hW.alike hK, hD⟩, hS.F ht⟩) hS.2.2 dX8_heir_36
  · skip
    have ic8 := znlt (a := (σ 4 1).toInt) (b := 4) rfl (by decide) c8
    refine lv_bipush (v := (-3)) hx hb dX8_heir_11 (by decide) ?_
    have hpost : ∃ u4 : Nat → Int32, σ = (upC σ 4 u4) ∧ (((σ 4 1).toInt < 4 ∧ ((-3) : Int32).toInt = (σ 4 1).toInt ∧ (u4 1).toInt = (σ 4 1).toInt + 1 ∧ u4 2 = σ 4 2) ∨ ((σ 4 1).toInt = 4 ∧ ((-3) : Int32).toInt = -3 ∧ u4 1 = σ 4 1 ∧ u4 2 = σ 4 2)) := by refine ⟨(σ 4), by first | rfl | (funext j; simp only [upC, upR]; (repeat' split) <;> first | rfl | (simp_all; done) | (congr 1; omega) | (exfalso; omega)), ?_⟩; first | exact Or.inl ⟨by omega, by omega, by show v23.toInt = _; omega, rfl⟩ | exact Or.inr ⟨by omega, by decide, rfl, rfl⟩
    exact W.iret (v := (-3)) hx hb hr (fun t9 ht hW => ⟨⟨(-3), σ, rfl, hpost, by rw [ht]; exact hP, va_K.moved hW.alike hK, hD⟩, hS.F ht⟩) hS.2.2 dX8_heir_13

abbrev RM_X8_gone : Room := { frames := 0, cells := 0, slots := 0, locals := 0 }
set_option maxHeartbeats 4000000 in
set_option maxRecDepth 100000 in
theorem c_X8_gone (l : Launch) (dC : Nat → ClassId) (dI : Nat → Nat → Nat) (cB cI cS cII : ClassId) (a : Nat → Nat) (N : (Nat → Prop) → State → Prop) (hok : zNok N) (hn : ∀ A U, N A U → zN U) (σ : Cn) (sz : Nat)  (h2 : 0 ≤ (σ 4 2).toInt ∧ (σ 4 2).toInt ≤ 10) : Met l yX8_gone wsX8_gone RM_X8_gone (zPc (dC, dI) (zT cB cI cS cII) N (wX a cB cI cS cII) σ sz [.ref (a 0)]) (zQi (dC, dI) (zT cB cI cS cII) (wX a cB cI cS cII) (va_A (wX a cB cI cS cII σ) sz) (fun (r : Int32) (σ1 : Cn) => ∃ u4 : Nat → Int32, σ1 = (upC σ 4 u4) ∧ ((0 < (σ 4 2).toInt ∧ (r : Int32).toInt = (σ 4 2).toInt - 1 ∧ (u4 2).toInt = (σ 4 2).toInt - 1 ∧ u4 1 = σ 4 1) ∨ ((σ 4 2).toInt = 0 ∧ (r : Int32).toInt = -4 ∧ u4 1 = σ 4 1 ∧ u4 2 = σ 4 2)))) 0 0 (va_A (wX a cB cI cS cII σ) sz) := by
  refine Met.ofW (cc := cX8_gone) (maxL := 1) (ret := (some .int)) (by decide) rfl ?_
  intro p e s m args below meth c s₁ B hml hv
  obtain ⟨rfl, hsz, hP, hK, hD0, hN⟩ := hv
  have hx := B.exec
  have hb := B.bytes
  have hr := B.returns
  have hts := atoms_spec (ws := wsX8_gone) B.pre
  have hown : s.vm.findClass RX8 = some m.cls := findClass_of_methodNamed B.named
  have hlocks := B.notSynchronized
  subst hsz
  have hD := hD0.self (sz := s.heap.size)
  generalize hAe : va_A (wX a cB cI cS cII σ) s.heap.size = A at hD hN ⊢
  have hA : ∀ q : Nat, s.heap.size ≤ q → A q := fun q h => by rw [← hAe]; exact Or.inr h
  clear hAe hD0
  have hS : va_S A s.heap s.heap [] := va_S.rf
  have in1 : ∀ w ∈ u_ws RX1 TX1 9, w ∈ wsX8_gone := by decide +kernel
  have in8 : ∀ w ∈ u_ws RX8 TX8 7, w ∈ wsX8_gone := by decide +kernel
  have k30 := hts (.fieldLink RX8 30 "HouseSorted" "house" "LHouseSorted$House;") (by decide +kernel)
  have k94 := hts (.fieldLink RX8 94 "HouseSorted$House" "things" "I") (by decide +kernel)
  have hl := lv_entry ([.ref (a 0)]) (n := 1) (Nat.le_of_ble_eq_true rfl)
  rw [lg_entry_eq]
  generalize (lg_sl ([.ref (a 0)]) ++ List.replicate (1 - (lg_sl ([.ref (a 0)])).length) Slot.unset).toArray = ls at hl ⊢
  have hl : lv_has ls 1 [(0, .ref (a 0))] := hl
  suffices main : ∀ (H : Heap) (locs : List Loc), va_P (dC, dI) vwCl (wX a cB cI cS cII σ) H → va_D A (wX a cB cI cS cII σ) → va_S A s.heap H locs → W p l e (headSpec wsX8_gone RM_X8_gone).room s m ([.ref (a 0)] : List Value).toArray below meth c H locs 0 0 (MQ below (zQi (dC, dI) (zT cB cI cS cII) (wX a cB cI cS cII) A (fun (r : Int32) (σ1 : Cn) => ∃ u4 : Nat → Int32, σ1 = (upC σ 4 u4) ∧ ((0 < (σ 4 2).toInt ∧ (r : Int32).toInt = (σ 4 2).toInt - 1 ∧ (u4 2).toInt = (σ 4 2).toInt - 1 ∧ u4 1 = σ 4 1) ∨ ((σ 4 2).toInt = 0 ∧ (r : Int32).toInt = -4 ∧ u4 1 = σ 4 1 ∧ u4 2 = σ 4 2)))) ([.ref (a 0)] : List Value).toArray s 0 0 A) (F0 m 0 ls []) from main s.heap [] hP hD hS
  intro H locs hP hD hS
  refine lv_aload_n hx hb dX8_gone_0 rfl (lv_at hl 0 rfl) ?_
  refine va_get (D := (dC, dI)) (ci := 8) (v := .ref (a 4)) (C := RX8) (T := TX8) (N := 7) hx hb hts in8 hown hK hP 0 rfl rfl 2 (by decide) k30 (fun _ h9 => h9) rfl dX8_gone_1 ?_
  refine va_get (D := (dC, dI)) (ci := 1) (v := .int (σ 4 2)) (C := RX1) (T := TX1) (N := 9) hx hb hts in1 hown hK hP 4 rfl rfl 2 (by decide) k94 (fun _ h9 => h9) rfl dX8_gone_4 ?_
  refine lv_if_gt (tgt := 13) hx hb dX8_gone_7 (by decide) (fun c7 => ?_) (fun c7 => ?_)
  · skip
    have ic7 := zlt (a := 0) (b := (σ 4 2).toInt) (by decide) rfl c7
    refine lv_aload_n hx hb dX8_gone_13 rfl (lv_at hl 0 rfl) ?_
    refine va_get (D := (dC, dI)) (ci := 8) (v := .ref (a 4)) (C := RX8) (T := TX8) (N := 7) hx hb hts in8 hown hK hP 0 rfl rfl 2 (by decide) k30 (fun _ h9 => h9) rfl dX8_gone_14 ?_
    refine lv_dup hx hb dX8_gone_17 rfl ?_
    refine va_get (D := (dC, dI)) (ci := 1) (v := .int (σ 4 2)) (C := RX1) (T := TX1) (N := 9) hx hb hts in1 hown hK hP 4 rfl rfl 2 (by decide) k94 (fun _ h9 => h9) rfl dX8_gone_18 ?_
    refine lv_iconst (v := 1) hx hb dX8_gone_21 (by decide) ?_
    refine lv_isub hx hb dX8_gone_22 ?_
    refine lv_topi (fun v22 ev22 => ?_)
    have tv22 : v22.toInt = (σ 4 2).toInt - 1 := by rw [ev22, zsub, show (1 : Int32).toInt = 1 from by decide]; omega
    refine va_put (D := (dC, dI)) (ci := 1) (v := .int v22) (ty := .int) (C := RX1) (T := TX1) (N := 9) hx hb hts in1 tyX1 tyX1_ok nmX1 hown hK hP hD hS 4 rfl rfl 2 (by decide) k94 (fun _ h9 => h9) rfl (by decide +kernel) rfl rfl (Nat.le_of_ble_eq_true rfl) dX8_gone_23 (fun H locs hP hD hS => ?_)
    have hP : va_P (dC, dI) vwCl (wX a cB cI cS cII (upC σ 4 (upd (σ 4) 2 v22))) H := hP
    have hD : va_D A (wX a cB cI cS cII (upC σ 4 (upd (σ 4) 2 v22))) := hD
    refine lv_aload_n hx hb dX8_gone_26 rfl (lv_at hl 0 rfl) ?_
    refine va_get (D := (dC, dI)) (ci := 8) (v := .ref (a 4)) (C := RX8) (T := TX8) (N := 7) hx hb hts in8 hown hK hP 0 rfl rfl 2 (by decide) k30 (fun _ h9 => h9) rfl dX8_gone_27 ?_
    refine va_get (D := (dC, dI)) (ci := 1) (v := .int v22) (C := RX1) (T := TX1) (N := 9) hx hb hts in1 hown hK hP 4 rfl rfl 2 (by decide) k94 (fun _ h9 => h9) rfl dX8_gone_30 ?_
    have hpost : ∃ u4 : Nat → Int32, (upC σ 4 (upd (σ 4) 2 v22)) = (upC σ 4 u4) ∧ ((0 < (σ 4 2).toInt ∧ (v22 : Int32).toInt = (σ 4 2).toInt - 1 ∧ (u4 2).toInt = (σ 4 2).toInt - 1 ∧ u4 1 = σ 4 1) ∨ ((σ 4 2).toInt = 0 ∧ (v22 : Int32).toInt = -4 ∧ u4 1 = σ 4 1 ∧ u4 2 = σ 4 2)) := by refine ⟨(upd (σ 4) 2 v22), by first | rfl | (funext j; simp only [upC, upR]; (repeat' split) <;> first | rfl | (simp_all; done) | (congr 1; omega) | (exfalso; omega)), ?_⟩; first | exact Or.inl ⟨by omega, by omega, by show v22.toInt = _; omega, rfl⟩ | exact Or.inr ⟨by omega, by decide, rfl, rfl⟩
    exact W.iret (v := v22) hx hb hr (fun t9 ht hW => ⟨⟨v22, (upC σ 4 (upd (σ 4) 2 v22)), rfl, hpost, by rw [ht]; exact hP, va_K.moved hW.alike hK, hD⟩, hS.F ht⟩) hS.2.2 dX8_gone_33
  · skip
    have ic7 := znlt (a := 0) (b := (σ 4 2).toInt) (by decide) rfl c7
    refine lv_bipush (v := (-4)) hx hb dX8_gone_10 (by decide) ?_
    have hpost : ∃ u4 : Nat → Int32, σ = (upC σ 4 u4) ∧ ((0 < (σ 4 2).toInt ∧ ((-4) : Int32).toInt = (σ 4 2).toInt - 1 ∧ (u4 2).toInt = (σ 4 2).toInt - 1 ∧ u4 1 = σ 4 1) ∨ ((σ 4 2).toInt = 0 ∧ ((-4) : Int32).toInt = -4 ∧ u4 1 = σ 4 1 ∧ u4 2 = σ 4 2)) := by refine ⟨(σ 4), by first | rfl | (funext j; simp only [upC, upR]; (repeat' split) <;> first | rfl | (simp_all; done) | (congr 1; omega) | (exfalso; omega)), ?_⟩; first | exact Or.inl ⟨by omega, by omega, by show v22.toInt = _; omega, rfl⟩ | exact Or.inr ⟨by omega, by decide, rfl, rfl⟩
    exact W.iret (v := (-4)) hx hb hr (fun t9 ht hW => ⟨⟨(-4), σ, rfl, hpost, by rw [ht]; exact hP, va_K.moved hW.alike hK, hD⟩, hS.F ht⟩) hS.2.2 dX8_gone_12

abbrev RM_X8_thing : Room := { frames := 1, cells := 0, slots := 0, locals := 27 }
set_option maxHeartbeats 4000000 in
set_option maxRecDepth 100000 in
theorem c_X8_thing (l : Launch) (dC : Nat → ClassId) (dI : Nat → Nat → Nat) (cB cI cS cII : ClassId) (a : Nat → Nat) (N : (Nat → Prop) → State → Prop) (hok : zNok N) (hn : ∀ A U, N A U → zN U) (σ : Cn) (sz : Nat) (x1 : Int32) (x2 : Int32) (x3 : Int32) (x4 : Int32) (x5 : Int32) (h2 : 0 ≤ (σ 4 2).toInt ∧ (σ 4 2).toInt ≤ 10) : Met l yX8_thing wsX8_thing RM_X8_thing (zPc (dC, dI) (zT cB cI cS cII) N (wX a cB cI cS cII) σ sz [.ref (a 0), .int x1, .int x2, .int x3, .int x4, .int x5]) (zQi (dC, dI) (zT cB cI cS cII) (wX a cB cI cS cII) (va_A (wX a cB cI cS cII σ) sz) (fun (r : Int32) (σ1 : Cn) => ∃ u4 : Nat → Int32, ∃ u15 : Nat → Int32, ∃ u16 : Nat → Int32, ∃ u17 : Nat → Int32, ∃ u18 : Nat → Int32, ∃ u19 : Nat → Int32, ∃ u21 : Nat → Nat → Int32, σ1 = (upC (upC (upC (upC (upC (upC (upR σ 21 4 u21) 4 u4) 15 u15) 16 u16) 17 u17) 18 u18) 19 u19) ∧ u4 1 = σ 4 1 ∧ ((((1 ≤ x1.toInt ∧ x1.toInt ≤ 50 ∧ 0 ≤ x2.toInt ∧ x2.toInt ≤ 1000 ∧ x2.toInt ≤ x3.toInt ∧ x3.toInt ≤ 1000 ∧ 0 ≤ x4.toInt ∧ x4.toInt ≤ 99 ∧ 0 ≤ x5.toInt ∧ x5.toInt ≤ 15)) ∧ (σ 4 2).toInt < 10 ∧ (r : Int32).toInt = (σ 4 2).toInt ∧ (u4 2).toInt = (σ 4 2).toInt + 1) ∨ (((1 ≤ x1.toInt ∧ x1.toInt ≤ 50 ∧ 0 ≤ x2.toInt ∧ x2.toInt ≤ 1000 ∧ x2.toInt ≤ x3.toInt ∧ x3.toInt ≤ 1000 ∧ 0 ≤ x4.toInt ∧ x4.toInt ≤ 99 ∧ 0 ≤ x5.toInt ∧ x5.toInt ≤ 15)) ∧ (σ 4 2).toInt = 10 ∧ (r : Int32).toInt = -3 ∧ u4 2 = σ 4 2) ∨ (¬ ((1 ≤ x1.toInt ∧ x1.toInt ≤ 50 ∧ 0 ≤ x2.toInt ∧ x2.toInt ≤ 1000 ∧ x2.toInt ≤ x3.toInt ∧ x3.toInt ≤ 1000 ∧ 0 ≤ x4.toInt ∧ x4.toInt ≤ 99 ∧ 0 ≤ x5.toInt ∧ x5.toInt ≤ 15)) ∧ (r : Int32).toInt = -1 ∧ u4 2 = σ 4 2)))) 0 0 (va_A (wX a cB cI cS cII σ) sz) := by
  refine Met.ofW (cc := cX8_thing) (maxL := 6) (ret := (some .int)) (by decide) rfl ?_
  intro p e s m args below meth c s₁ B hml hv
  obtain ⟨rfl, hsz, hP, hK, hD0, hN⟩ := hv
  have hx := B.exec
  have hb := B.bytes
  have hr := B.returns
  have hts := atoms_spec (ws := wsX8_thing) B.pre
  have hown : s.vm.findClass RX8 = some m.cls := findClass_of_methodNamed B.named
  have hlocks := B.notSynchronized
  subst hsz
  have hD := hD0.self (sz := s.heap.size)
  generalize hAe : va_A (wX a cB cI cS cII σ) s.heap.size = A at hD hN ⊢
  have hA : ∀ q : Nat, s.heap.size ≤ q → A q := fun q h => by rw [← hAe]; exact Or.inr h
  clear hAe hD0
  have hS : va_S A s.heap s.heap [] := va_S.rf
  have in1 : ∀ w ∈ u_ws RX1 TX1 9, w ∈ wsX8_thing := by decide +kernel
  have in8 : ∀ w ∈ u_ws RX8 TX8 7, w ∈ wsX8_thing := by decide +kernel
  have k30 := hts (.fieldLink RX8 30 "HouseSorted" "house" "LHouseSorted$House;") (by decide +kernel)
  have k94 := hts (.fieldLink RX8 94 "HouseSorted$House" "things" "I") (by decide +kernel)
  have hl := lv_entry ([.ref (a 0), .int x1, .int x2, .int x3, .int x4, .int x5]) (n := 6) (Nat.le_of_ble_eq_true rfl)
  rw [lg_entry_eq]
  generalize (lg_sl ([.ref (a 0), .int x1, .int x2, .int x3, .int x4, .int x5]) ++ List.replicate (6 - (lg_sl ([.ref (a 0), .int x1, .int x2, .int x3, .int x4, .int x5])).length) Slot.unset).toArray = ls at hl ⊢
  have hl : lv_has ls 6 [(0, .ref (a 0)), (1, .int x1), (2, .int x2), (3, .int x3), (4, .int x4), (5, .int x5)] := hl
  suffices main : ∀ (H : Heap) (locs : List Loc), va_P (dC, dI) vwCl (wX a cB cI cS cII σ) H → va_D A (wX a cB cI cS cII σ) → va_S A s.heap H locs → W p l e (headSpec wsX8_thing RM_X8_thing).room s m ([.ref (a 0), .int x1, .int x2, .int x3, .int x4, .int x5] : List Value).toArray below meth c H locs 0 0 (MQ below (zQi (dC, dI) (zT cB cI cS cII) (wX a cB cI cS cII) A (fun (r : Int32) (σ1 : Cn) => ∃ u4 : Nat → Int32, ∃ u15 : Nat → Int32, ∃ u16 : Nat → Int32, ∃ u17 : Nat → Int32, ∃ u18 : Nat → Int32, ∃ u19 : Nat → Int32, ∃ u21 : Nat → Nat → Int32, σ1 = (upC (upC (upC (upC (upC (upC (upR σ 21 4 u21) 4 u4) 15 u15) 16 u16) 17 u17) 18 u18) 19 u19) ∧ u4 1 = σ 4 1 ∧ ((((1 ≤ x1.toInt ∧ x1.toInt ≤ 50 ∧ 0 ≤ x2.toInt ∧ x2.toInt ≤ 1000 ∧ x2.toInt ≤ x3.toInt ∧ x3.toInt ≤ 1000 ∧ 0 ≤ x4.toInt ∧ x4.toInt ≤ 99 ∧ 0 ≤ x5.toInt ∧ x5.toInt ≤ 15)) ∧ (σ 4 2).toInt < 10 ∧ (r : Int32).toInt = (σ 4 2).toInt ∧ (u4 2).toInt = (σ 4 2).toInt + 1) ∨ (((1 ≤ x1.toInt ∧ x1.toInt ≤ 50 ∧ 0 ≤ x2.toInt ∧ x2.toInt ≤ 1000 ∧ x2.toInt ≤ x3.toInt ∧ x3.toInt ≤ 1000 ∧ 0 ≤ x4.toInt ∧ x4.toInt ≤ 99 ∧ 0 ≤ x5.toInt ∧ x5.toInt ≤ 15)) ∧ (σ 4 2).toInt = 10 ∧ (r : Int32).toInt = -3 ∧ u4 2 = σ 4 2) ∨ (¬ ((1 ≤ x1.toInt ∧ x1.toInt ≤ 50 ∧ 0 ≤ x2.toInt ∧ x2.toInt ≤ 1000 ∧ x2.toInt ≤ x3.toInt ∧ x3.toInt ≤ 1000 ∧ 0 ≤ x4.toInt ∧ x4.toInt ≤ 99 ∧ 0 ≤ x5.toInt ∧ x5.toInt ≤ 15)) ∧ (r : Int32).toInt = -1 ∧ u4 2 = σ 4 2)))) ([.ref (a 0), .int x1, .int x2, .int x3, .int x4, .int x5] : List Value).toArray s 0 0 A) (F0 m 0 ls []) from main s.heap [] hP hD hS
  intro H locs hP hD hS
  refine lv_iload_n hx hb dX8_thing_0 rfl (lv_at hl 1 rfl) ?_
  refine lv_iconst (v := 1) hx hb dX8_thing_1 (by decide) ?_
  refine lv_bipush (v := 50) hx hb dX8_thing_2 (by decide) ?_
  refine zcalli (va_runS (As := [.int x1, .int 1, .int 50]) (rest := []) ⟨hx, hb, hml, hown, hts⟩ (c_X8_isWithin l dC dI cB cI cS cII a N hok hn σ H.size (x1) (1) (50) ) (va_cwS 3 hts gX8_thing_X8_isWithin rfl rfl rfl (by decide +kernel) ⟨Nat.le_of_ble_eq_true rfl, Nat.le_of_ble_eq_true rfl⟩) (zpreS (wf := wX a cB cI cS cII) hok hN hS hA hK hP hD) rfl rfl hl.1 rfl (lv_room (Nat.le_of_ble_eq_true rfl)) dX8_thing_4 ⟨Nat.zero_le _, Nat.zero_le _⟩) hD hS hA (fun v4 σ1 H locs hv4 hP hD hS => ?_)
  obtain ⟨es9, hv4⟩ := hv4
  subst σ1
  try simp only [show (1 : Int32).toInt = 1 from by decide, show (50 : Int32).toInt = 50 from by decide] at hv4
  refine lv_if_eq (tgt := 54) hx hb dX8_thing_7 (by decide) (fun c7 => ?_) (fun c7 => ?_)
  · skip
    have ic7 := zeq (a := v4.toInt) (b := 0) rfl (by decide) c7
    replace hv4 := (hv4.resolve_left (fun q => by omega)).2
    refine lv_iconst (v := (-1)) hx hb dX8_thing_54 (by decide) ?_
    have hpost : ∃ u4 : Nat → Int32, ∃ u15 : Nat → Int32, ∃ u16 : Nat → Int32, ∃ u17 : Nat → Int32, ∃ u18 : Nat → Int32, ∃ u19 : Nat → Int32, ∃ u21 : Nat → Nat → Int32, σ = (upC (upC (upC (upC (upC (upC (upR σ 21 4 u21) 4 u4) 15 u15) 16 u16) 17 u17) 18 u18) 19 u19) ∧ u4 1 = σ 4 1 ∧ ((((1 ≤ x1.toInt ∧ x1.toInt ≤ 50 ∧ 0 ≤ x2.toInt ∧ x2.toInt ≤ 1000 ∧ x2.toInt ≤ x3.toInt ∧ x3.toInt ≤ 1000 ∧ 0 ≤ x4.toInt ∧ x4.toInt ≤ 99 ∧ 0 ≤ x5.toInt ∧ x5.toInt ≤ 15)) ∧ (σ 4 2).toInt < 10 ∧ ((-1) : Int32).toInt = (σ 4 2).toInt ∧ (u4 2).toInt = (σ 4 2).toInt + 1) ∨ (((1 ≤ x1.toInt ∧ x1.toInt ≤ 50 ∧ 0 ≤ x2.toInt ∧ x2.toInt ≤ 1000 ∧ x2.toInt ≤ x3.toInt ∧ x3.toInt ≤ 1000 ∧ 0 ≤ x4.toInt ∧ x4.toInt ≤ 99 ∧ 0 ≤ x5.toInt ∧ x5.toInt ≤ 15)) ∧ (σ 4 2).toInt = 10 ∧ ((-1) : Int32).toInt = -3 ∧ u4 2 = σ 4 2) ∨ (¬ ((1 ≤ x1.toInt ∧ x1.toInt ≤ 50 ∧ 0 ≤ x2.toInt ∧ x2.toInt ≤ 1000 ∧ x2.toInt ≤ x3.toInt ∧ x3.toInt ≤ 1000 ∧ 0 ≤ x4.toInt ∧ x4.toInt ≤ 99 ∧ 0 ≤ x5.toInt ∧ x5.toInt ≤ 15)) ∧ ((-1) : Int32).toInt = -1 ∧ u4 2 = σ 4 2)) := by refine ⟨(σ 4), (σ 15), (σ 16), (σ 17), (σ 18), (σ 19), (fun i => σ (21 + i)), by first | rfl | (funext j; simp only [upC, upR]; (repeat' split) <;> first | rfl | (simp_all; done) | (congr 1; omega) | (exfalso; omega)), ?_⟩; first | exact ⟨rfl, Or.inr (Or.inr ⟨by omega, by decide, rfl⟩)⟩ | exact ⟨rfl, Or.inr (Or.inl ⟨by omega, by omega, by decide, rfl⟩)⟩
    exact W.iret (v := (-1)) hx hb hr (fun t9 ht hW => ⟨⟨(-1), σ, rfl, hpost, by rw [ht]; exact hP, va_K.moved hW.alike hK, hD⟩, hS.F ht⟩) hS.2.2 dX8_thing_55
  · skip
    have ic7 := zneq (a := v4.toInt) (b := 0) rfl (by decide) c7
    replace hv4 := (hv4.resolve_right (fun q => by omega)).2
    refine lv_iload_n hx hb dX8_thing_10 rfl (lv_at hl 2 rfl) ?_
    refine lv_iconst (v := 0) hx hb dX8_thing_11 (by decide) ?_
    refine lv_sipush (v := 1000) hx hb dX8_thing_12 (by decide) ?_
    refine zcalli (va_runS (As := [.int x2, .int 0, .int 1000]) (rest := []) ⟨hx, hb, hml, hown, hts⟩ (c_X8_isWithin l dC dI cB cI cS cII a N hok hn σ H.size (x2) (0) (1000) ) (va_cwS 3 hts gX8_thing_X8_isWithin rfl rfl rfl (by decide +kernel) ⟨Nat.le_of_ble_eq_true rfl, Nat.le_of_ble_eq_true rfl⟩) (zpreS (wf := wX a cB cI cS cII) hok hN hS hA hK hP hD) rfl rfl hl.1 rfl (lv_room (Nat.le_of_ble_eq_true rfl)) dX8_thing_15 ⟨Nat.zero_le _, Nat.zero_le _⟩) hD hS hA (fun v15 σ1 H locs hv15 hP hD hS => ?_)
    obtain ⟨es9, hv15⟩ := hv15
    subst σ1
    try simp only [show (0 : Int32).toInt = 0 from by decide, show (1000 : Int32).toInt = 1000 from by decide] at hv15
    refine lv_if_eq (tgt := 54) hx hb dX8_thing_18 (by decide) (fun c18 => ?_) (fun c18 => ?_)
    · skip
      have ic18 := zeq (a := v15.toInt) (b := 0) rfl (by decide) c18
      replace hv15 := (hv15.resolve_left (fun q => by omega)).2
      refine lv_iconst (v := (-1)) hx hb dX8_thing_54 (by decide) ?_
      have hpost : ∃ u4 : Nat → Int32, ∃ u15 : Nat → Int32, ∃ u16 : Nat → Int32, ∃ u17 : Nat → Int32, ∃ u18 : Nat → Int32, ∃ u19 : Nat → Int32, ∃ u21 : Nat → Nat → Int32, σ = (upC (upC (upC (upC (upC (upC (upR σ 21 4 u21) 4 u4) 15 u15) 16 u16) 17 u17) 18 u18) 19 u19) ∧ u4 1 = σ 4 1 ∧ ((((1 ≤ x1.toInt ∧ x1.toInt ≤ 50 ∧ 0 ≤ x2.toInt ∧ x2.toInt ≤ 1000 ∧ x2.toInt ≤ x3.toInt ∧ x3.toInt ≤ 1000 ∧ 0 ≤ x4.toInt ∧ x4.toInt ≤ 99 ∧ 0 ≤ x5.toInt ∧ x5.toInt ≤ 15)) ∧ (σ 4 2).toInt < 10 ∧ ((-1) : Int32).toInt = (σ 4 2).toInt ∧ (u4 2).toInt = (σ 4 2).toInt + 1) ∨ (((1 ≤ x1.toInt ∧ x1.toInt ≤ 50 ∧ 0 ≤ x2.toInt ∧ x2.toInt ≤ 1000 ∧ x2.toInt ≤ x3.toInt ∧ x3.toInt ≤ 1000 ∧ 0 ≤ x4.toInt ∧ x4.toInt ≤ 99 ∧ 0 ≤ x5.toInt ∧ x5.toInt ≤ 15)) ∧ (σ 4 2).toInt = 10 ∧ ((-1) : Int32).toInt = -3 ∧ u4 2 = σ 4 2) ∨ (¬ ((1 ≤ x1.toInt ∧ x1.toInt ≤ 50 ∧ 0 ≤ x2.toInt ∧ x2.toInt ≤ 1000 ∧ x2.toInt ≤ x3.toInt ∧ x3.toInt ≤ 1000 ∧ 0 ≤ x4.toInt ∧ x4.toInt ≤ 99 ∧ 0 ≤ x5.toInt ∧ x5.toInt ≤ 15)) ∧ ((-1) : Int32).toInt = -1 ∧ u4 2 = σ 4 2)) := by refine ⟨(σ 4), (σ 15), (σ 16), (σ 17), (σ 18), (σ 19), (fun i => σ (21 + i)), by first | rfl | (funext j; simp only [upC, upR]; (repeat' split) <;> first | rfl | (simp_all; done) | (congr 1; omega) | (exfalso; omega)), ?_⟩; first | exact ⟨rfl, Or.inr (Or.inr ⟨by omega, by decide, rfl⟩)⟩ | exact ⟨rfl, Or.inr (Or.inl ⟨by omega, by omega, by decide, rfl⟩)⟩
      exact W.iret (v := (-1)) hx hb hr (fun t9 ht hW => ⟨⟨(-1), σ, rfl, hpost, by rw [ht]; exact hP, va_K.moved hW.alike hK, hD⟩, hS.F ht⟩) hS.2.2 dX8_thing_55
    · skip
      have ic18 := zneq (a := v15.toInt) (b := 0) rfl (by decide) c18
      replace hv15 := (hv15.resolve_right (fun q => by omega)).2
      refine lv_iload_n hx hb dX8_thing_21 rfl (lv_at hl 3 rfl) ?_
      refine lv_iload_n hx hb dX8_thing_22 rfl (lv_at hl 2 rfl) ?_
      refine lv_sipush (v := 1000) hx hb dX8_thing_23 (by decide) ?_
      refine zcalli (va_runS (As := [.int x3, .int x2, .int 1000]) (rest := []) ⟨hx, hb, hml, hown, hts⟩ (c_X8_isWithin l dC dI cB cI cS cII a N hok hn σ H.size (x3) (x2) (1000) ) (va_cwS 3 hts gX8_thing_X8_isWithin rfl rfl rfl (by decide +kernel) ⟨Nat.le_of_ble_eq_true rfl, Nat.le_of_ble_eq_true rfl⟩) (zpreS (wf := wX a cB cI cS cII) hok hN hS hA hK hP hD) rfl rfl hl.1 rfl (lv_room (Nat.le_of_ble_eq_true rfl)) dX8_thing_26 ⟨Nat.zero_le _, Nat.zero_le _⟩) hD hS hA (fun v26 σ1 H locs hv26 hP hD hS => ?_)
      obtain ⟨es9, hv26⟩ := hv26
      subst σ1
      try simp only [show (1000 : Int32).toInt = 1000 from by decide] at hv26
      refine lv_if_eq (tgt := 54) hx hb dX8_thing_29 (by decide) (fun c29 => ?_) (fun c29 => ?_)
      · skip
        have ic29 := zeq (a := v26.toInt) (b := 0) rfl (by decide) c29
        replace hv26 := (hv26.resolve_left (fun q => by omega)).2
        refine lv_iconst (v := (-1)) hx hb dX8_thing_54 (by decide) ?_
        have hpost : ∃ u4 : Nat → Int32, ∃ u15 : Nat → Int32, ∃ u16 : Nat → Int32, ∃ u17 : Nat → Int32, ∃ u18 : Nat → Int32, ∃ u19 : Nat → Int32, ∃ u21 : Nat → Nat → Int32, σ = (upC (upC (upC (upC (upC (upC (upR σ 21 4 u21) 4 u4) 15 u15) 16 u16) 17 u17) 18 u18) 19 u19) ∧ u4 1 = σ 4 1 ∧ ((((1 ≤ x1.toInt ∧ x1.toInt ≤ 50 ∧ 0 ≤ x2.toInt ∧ x2.toInt ≤ 1000 ∧ x2.toInt ≤ x3.toInt ∧ x3.toInt ≤ 1000 ∧ 0 ≤ x4.toInt ∧ x4.toInt ≤ 99 ∧ 0 ≤ x5.toInt ∧ x5.toInt ≤ 15)) ∧ (σ 4 2).toInt < 10 ∧ ((-1) : Int32).toInt = (σ 4 2).toInt ∧ (u4 2).toInt = (σ 4 2).toInt + 1) ∨ (((1 ≤ x1.toInt ∧ x1.toInt ≤ 50 ∧ 0 ≤ x2.toInt ∧ x2.toInt ≤ 1000 ∧ x2.toInt ≤ x3.toInt ∧ x3.toInt ≤ 1000 ∧ 0 ≤ x4.toInt ∧ x4.toInt ≤ 99 ∧ 0 ≤ x5.toInt ∧ x5.toInt ≤ 15)) ∧ (σ 4 2).toInt = 10 ∧ ((-1) : Int32).toInt = -3 ∧ u4 2 = σ 4 2) ∨ (¬ ((1 ≤ x1.toInt ∧ x1.toInt ≤ 50 ∧ 0 ≤ x2.toInt ∧ x2.toInt ≤ 1000 ∧ x2.toInt ≤ x3.toInt ∧ x3.toInt ≤ 1000 ∧ 0 ≤ x4.toInt ∧ x4.toInt ≤ 99 ∧ 0 ≤ x5.toInt ∧ x5.toInt ≤ 15)) ∧ ((-1) : Int32).toInt = -1 ∧ u4 2 = σ 4 2)) := by refine ⟨(σ 4), (σ 15), (σ 16), (σ 17), (σ 18), (σ 19), (fun i => σ (21 + i)), by first | rfl | (funext j; simp only [upC, upR]; (repeat' split) <;> first | rfl | (simp_all; done) | (congr 1; omega) | (exfalso; omega)), ?_⟩; first | exact ⟨rfl, Or.inr (Or.inr ⟨by omega, by decide, rfl⟩)⟩ | exact ⟨rfl, Or.inr (Or.inl ⟨by omega, by omega, by decide, rfl⟩)⟩
        exact W.iret (v := (-1)) hx hb hr (fun t9 ht hW => ⟨⟨(-1), σ, rfl, hpost, by rw [ht]; exact hP, va_K.moved hW.alike hK, hD⟩, hS.F ht⟩) hS.2.2 dX8_thing_55
      · skip
        have ic29 := zneq (a := v26.toInt) (b := 0) rfl (by decide) c29
        replace hv26 := (hv26.resolve_right (fun q => by omega)).2
        refine lv_iload hx hb dX8_thing_32 (lv_at hl 4 rfl) ?_
        refine lv_iconst (v := 0) hx hb dX8_thing_34 (by decide) ?_
        refine lv_bipush (v := 99) hx hb dX8_thing_35 (by decide) ?_
        refine zcalli (va_runS (As := [.int x4, .int 0, .int 99]) (rest := []) ⟨hx, hb, hml, hown, hts⟩ (c_X8_isWithin l dC dI cB cI cS cII a N hok hn σ H.size (x4) (0) (99) ) (va_cwS 3 hts gX8_thing_X8_isWithin rfl rfl rfl (by decide +kernel) ⟨Nat.le_of_ble_eq_true rfl, Nat.le_of_ble_eq_true rfl⟩) (zpreS (wf := wX a cB cI cS cII) hok hN hS hA hK hP hD) rfl rfl hl.1 rfl (lv_room (Nat.le_of_ble_eq_true rfl)) dX8_thing_37 ⟨Nat.zero_le _, Nat.zero_le _⟩) hD hS hA (fun v37 σ1 H locs hv37 hP hD hS => ?_)
        obtain ⟨es9, hv37⟩ := hv37
        subst σ1
        try simp only [show (0 : Int32).toInt = 0 from by decide, show (99 : Int32).toInt = 99 from by decide] at hv37
        refine lv_if_eq (tgt := 54) hx hb dX8_thing_40 (by decide) (fun c40 => ?_) (fun c40 => ?_)
        · skip
          have ic40 := zeq (a := v37.toInt) (b := 0) rfl (by decide) c40
          replace hv37 := (hv37.resolve_left (fun q => by omega)).2
          refine lv_iconst (v := (-1)) hx hb dX8_thing_54 (by decide) ?_
          have hpost : ∃ u4 : Nat → Int32, ∃ u15 : Nat → Int32, ∃ u16 : Nat → Int32, ∃ u17 : Nat → Int32, ∃ u18 : Nat → Int32, ∃ u19 : Nat → Int32, ∃ u21 : Nat → Nat → Int32, σ = (upC (upC (upC (upC (upC (upC (upR σ 21 4 u21) 4 u4) 15 u15) 16 u16) 17 u17) 18 u18) 19 u19) ∧ u4 1 = σ 4 1 ∧ ((((1 ≤ x1.toInt ∧ x1.toInt ≤ 50 ∧ 0 ≤ x2.toInt ∧ x2.toInt ≤ 1000 ∧ x2.toInt ≤ x3.toInt ∧ x3.toInt ≤ 1000 ∧ 0 ≤ x4.toInt ∧ x4.toInt ≤ 99 ∧ 0 ≤ x5.toInt ∧ x5.toInt ≤ 15)) ∧ (σ 4 2).toInt < 10 ∧ ((-1) : Int32).toInt = (σ 4 2).toInt ∧ (u4 2).toInt = (σ 4 2).toInt + 1) ∨ (((1 ≤ x1.toInt ∧ x1.toInt ≤ 50 ∧ 0 ≤ x2.toInt ∧ x2.toInt ≤ 1000 ∧ x2.toInt ≤ x3.toInt ∧ x3.toInt ≤ 1000 ∧ 0 ≤ x4.toInt ∧ x4.toInt ≤ 99 ∧ 0 ≤ x5.toInt ∧ x5.toInt ≤ 15)) ∧ (σ 4 2).toInt = 10 ∧ ((-1) : Int32).toInt = -3 ∧ u4 2 = σ 4 2) ∨ (¬ ((1 ≤ x1.toInt ∧ x1.toInt ≤ 50 ∧ 0 ≤ x2.toInt ∧ x2.toInt ≤ 1000 ∧ x2.toInt ≤ x3.toInt ∧ x3.toInt ≤ 1000 ∧ 0 ≤ x4.toInt ∧ x4.toInt ≤ 99 ∧ 0 ≤ x5.toInt ∧ x5.toInt ≤ 15)) ∧ ((-1) : Int32).toInt = -1 ∧ u4 2 = σ 4 2)) := by refine ⟨(σ 4), (σ 15), (σ 16), (σ 17), (σ 18), (σ 19), (fun i => σ (21 + i)), by first | rfl | (funext j; simp only [upC, upR]; (repeat' split) <;> first | rfl | (simp_all; done) | (congr 1; omega) | (exfalso; omega)), ?_⟩; first | exact ⟨rfl, Or.inr (Or.inr ⟨by omega, by decide, rfl⟩)⟩ | exact ⟨rfl, Or.inr (Or.inl ⟨by omega, by omega, by decide, rfl⟩)⟩
          exact W.iret (v := (-1)) hx hb hr (fun t9 ht hW => ⟨⟨(-1), σ, rfl, hpost, by rw [ht]; exact hP, va_K.moved hW.alike hK, hD⟩, hS.F ht⟩) hS.2.2 dX8_thing_55
        · skip
          have ic40 := zneq (a := v37.toInt) (b := 0) rfl (by decide) c40
          replace hv37 := (hv37.resolve_right (fun q => by omega)).2
          refine lv_iload hx hb dX8_thing_43 (lv_at hl 5 rfl) ?_
          refine lv_iconst (v := 0) hx hb dX8_thing_45 (by decide) ?_
          refine lv_bipush (v := 15) hx hb dX8_thing_46 (by decide) ?_
          refine zcalli (va_runS (As := [.int x5, .int 0, .int 15]) (rest := []) ⟨hx, hb, hml, hown, hts⟩ (c_X8_isWithin l dC dI cB cI cS cII a N hok hn σ H.size (x5) (0) (15) ) (va_cwS 3 hts gX8_thing_X8_isWithin rfl rfl rfl (by decide +kernel) ⟨Nat.le_of_ble_eq_true rfl, Nat.le_of_ble_eq_true rfl⟩) (zpreS (wf := wX a cB cI cS cII) hok hN hS hA hK hP hD) rfl rfl hl.1 rfl (lv_room (Nat.le_of_ble_eq_true rfl)) dX8_thing_48 ⟨Nat.zero_le _, Nat.zero_le _⟩) hD hS hA (fun v48 σ1 H locs hv48 hP hD hS => ?_)
          obtain ⟨es9, hv48⟩ := hv48
          subst σ1
          try simp only [show (0 : Int32).toInt = 0 from by decide, show (15 : Int32).toInt = 15 from by decide] at hv48
          refine lv_if_ne (tgt := 56) hx hb dX8_thing_51 (by decide) (fun c51 => ?_) (fun c51 => ?_)
          · skip
            have ic51 := zneq (a := v48.toInt) (b := 0) rfl (by decide) c51
            replace hv48 := (hv48.resolve_right (fun q => by omega)).2
            refine lv_aload_n hx hb dX8_thing_56 rfl (lv_at hl 0 rfl) ?_
            refine va_get (D := (dC, dI)) (ci := 8) (v := .ref (a 4)) (C := RX8) (T := TX8) (N := 7) hx hb hts in8 hown hK hP 0 rfl rfl 2 (by decide) k30 (fun _ h9 => h9) rfl dX8_thing_57 ?_
            refine va_get (D := (dC, dI)) (ci := 1) (v := .int (σ 4 2)) (C := RX1) (T := TX1) (N := 9) hx hb hts in1 hown hK hP 4 rfl rfl 2 (by decide) k94 (fun _ h9 => h9) rfl dX8_thing_60 ?_
            refine lv_bipush (v := 10) hx hb dX8_thing_63 (by decide) ?_
            refine lv_icmp_lt (tgt := 71) hx hb dX8_thing_65 (by decide) (fun c65 => ?_) (fun c65 => ?_)
            · skip
              have ic65 := zlt (a := (σ 4 2).toInt) (b := 10) rfl (by decide) c65
              refine lv_aload_n hx hb dX8_thing_71 rfl (lv_at hl 0 rfl) ?_
              refine va_get (D := (dC, dI)) (ci := 8) (v := .ref (a 4)) (C := RX8) (T := TX8) (N := 7) hx hb hts in8 hown hK hP 0 rfl rfl 2 (by decide) k30 (fun _ h9 => h9) rfl dX8_thing_72 ?_
              refine lv_iload_n hx hb dX8_thing_75 rfl (lv_at hl 1 rfl) ?_
              refine lv_iload_n hx hb dX8_thing_76 rfl (lv_at hl 2 rfl) ?_
              refine lv_iload_n hx hb dX8_thing_77 rfl (lv_at hl 3 rfl) ?_
              refine lv_iload hx hb dX8_thing_78 (lv_at hl 4 rfl) ?_
              refine lv_iload hx hb dX8_thing_80 (lv_at hl 5 rfl) ?_
              refine zcalli (va_runV (As := [.int x1, .int x2, .int x3, .int x4, .int x5]) (rest := []) ⟨hx, hb, hml, hown, hts⟩ (c_X1_addThing l dC dI cB cI cS cII a N hok hn σ H.size (x1) (x2) (x3) (x4) (x5) (by omega)) (cwV 5 hts gX8_thing_X1_addThing rfl rfl rfl (by decide +kernel) ⟨Nat.le_of_ble_eq_true rfl, Nat.le_of_ble_eq_true rfl⟩) (zpreV (wf := wX a cB cI cS cII) (q0 := 4) (ci := 1) hok hN hS hA hK hP hD rfl rfl) rfl rfl hl.1 rfl (lv_room (Nat.le_of_ble_eq_true rfl)) dX8_thing_82 ⟨Nat.zero_le _, Nat.zero_le _⟩) hD hS hA (fun v82 σ1 H locs hv82 hP hD hS => ?_)
              obtain ⟨u4_82, u15_82, u16_82, u17_82, u18_82, u19_82, u21_82, es9, hv82⟩ := hv82
              subst σ1
              have hP : va_P (dC, dI) vwCl (wX a cB cI cS cII (upC (upC (upC (upC (upC (upC (upR σ 21 4 u21_82) 4 u4_82) 15 u15_82) 16 u16_82) 17 u17_82) 18 u18_82) 19 u19_82)) H := hP
              have hD : va_D A (wX a cB cI cS cII (upC (upC (upC (upC (upC (upC (upR σ 21 4 u21_82) 4 u4_82) 15 u15_82) 16 u16_82) 17 u17_82) 18 u18_82) 19 u19_82)) := hD
              have hpost : ∃ u4 : Nat → Int32, ∃ u15 : Nat → Int32, ∃ u16 : Nat → Int32, ∃ u17 : Nat → Int32, ∃ u18 : Nat → Int32, ∃ u19 : Nat → Int32, ∃ u21 : Nat → Nat → Int32, (upC (upC (upC (upC (upC (upC (upR σ 21 4 u21_82) 4 u4_82) 15 u15_82) 16 u16_82) 17 u17_82) 18 u18_82) 19 u19_82) = (upC (upC (upC (upC (upC (upC (upR σ 21 4 u21) 4 u4) 15 u15) 16 u16) 17 u17) 18 u18) 19 u19) ∧ u4 1 = σ 4 1 ∧ ((((1 ≤ x1.toInt ∧ x1.toInt ≤ 50 ∧ 0 ≤ x2.toInt ∧ x2.toInt ≤ 1000 ∧ x2.toInt ≤ x3.toInt ∧ x3.toInt ≤ 1000 ∧ 0 ≤ x4.toInt ∧ x4.toInt ≤ 99 ∧ 0 ≤ x5.toInt ∧ x5.toInt ≤ 15)) ∧ (σ 4 2).toInt < 10 ∧ (v82 : Int32).toInt = (σ 4 2).toInt ∧ (u4 2).toInt = (σ 4 2).toInt + 1) ∨ (((1 ≤ x1.toInt ∧ x1.toInt ≤ 50 ∧ 0 ≤ x2.toInt ∧ x2.toInt ≤ 1000 ∧ x2.toInt ≤ x3.toInt ∧ x3.toInt ≤ 1000 ∧ 0 ≤ x4.toInt ∧ x4.toInt ≤ 99 ∧ 0 ≤ x5.toInt ∧ x5.toInt ≤ 15)) ∧ (σ 4 2).toInt = 10 ∧ (v82 : Int32).toInt = -3 ∧ u4 2 = σ 4 2) ∨ (¬ ((1 ≤ x1.toInt ∧ x1.toInt ≤ 50 ∧ 0 ≤ x2.toInt ∧ x2.toInt ≤ 1000 ∧ x2.toInt ≤ x3.toInt ∧ x3.toInt ≤ 1000 ∧ 0 ≤ x4.toInt ∧ x4.toInt ≤ 99 ∧ 0 ≤ x5.toInt ∧ x5.toInt ≤ 15)) ∧ (v82 : Int32).toInt = -1 ∧ u4 2 = σ 4 2)) := by refine ⟨(u4_82), (u15_82), (u16_82), (u17_82), (u18_82), (u19_82), (u21_82), by first | rfl | (funext j; simp only [upC, upR]; (repeat' split) <;> first | rfl | (simp_all; done) | (congr 1; omega) | (exfalso; omega)), ?_⟩; exact ⟨hv82.1, Or.inl ⟨by omega, by omega, by rw [hv82.2.2], hv82.2.1⟩⟩
              exact W.iret (v := v82) hx hb hr (fun t9 ht hW => ⟨⟨v82, (upC (upC (upC (upC (upC (upC (upR σ 21 4 u21_82) 4 u4_82) 15 u15_82) 16 u16_82) 17 u17_82) 18 u18_82) 19 u19_82), rfl, hpost, by rw [ht]; exact hP, va_K.moved hW.alike hK, hD⟩, hS.F ht⟩) hS.2.2 dX8_thing_85
            · skip
              have ic65 := znlt (a := (σ 4 2).toInt) (b := 10) rfl (by decide) c65
              refine lv_bipush (v := (-3)) hx hb dX8_thing_68 (by decide) ?_
              have hpost : ∃ u4 : Nat → Int32, ∃ u15 : Nat → Int32, ∃ u16 : Nat → Int32, ∃ u17 : Nat → Int32, ∃ u18 : Nat → Int32, ∃ u19 : Nat → Int32, ∃ u21 : Nat → Nat → Int32, σ = (upC (upC (upC (upC (upC (upC (upR σ 21 4 u21) 4 u4) 15 u15) 16 u16) 17 u17) 18 u18) 19 u19) ∧ u4 1 = σ 4 1 ∧ ((((1 ≤ x1.toInt ∧ x1.toInt ≤ 50 ∧ 0 ≤ x2.toInt ∧ x2.toInt ≤ 1000 ∧ x2.toInt ≤ x3.toInt ∧ x3.toInt ≤ 1000 ∧ 0 ≤ x4.toInt ∧ x4.toInt ≤ 99 ∧ 0 ≤ x5.toInt ∧ x5.toInt ≤ 15)) ∧ (σ 4 2).toInt < 10 ∧ ((-3) : Int32).toInt = (σ 4 2).toInt ∧ (u4 2).toInt = (σ 4 2).toInt + 1) ∨ (((1 ≤ x1.toInt ∧ x1.toInt ≤ 50 ∧ 0 ≤ x2.toInt ∧ x2.toInt ≤ 1000 ∧ x2.toInt ≤ x3.toInt ∧ x3.toInt ≤ 1000 ∧ 0 ≤ x4.toInt ∧ x4.toInt ≤ 99 ∧ 0 ≤ x5.toInt ∧ x5.toInt ≤ 15)) ∧ (σ 4 2).toInt = 10 ∧ ((-3) : Int32).toInt = -3 ∧ u4 2 = σ 4 2) ∨ (¬ ((1 ≤ x1.toInt ∧ x1.toInt ≤ 50 ∧ 0 ≤ x2.toInt ∧ x2.toInt ≤ 1000 ∧ x2.toInt ≤ x3.toInt ∧ x3.toInt ≤ 1000 ∧ 0 ≤ x4.toInt ∧ x4.toInt ≤ 99 ∧ 0 ≤ x5.toInt ∧ x5.toInt ≤ 15)) ∧ ((-3) : Int32).toInt = -1 ∧ u4 2 = σ 4 2)) := by refine ⟨(σ 4), (σ 15), (σ 16), (σ 17), (σ 18), (σ 19), (fun i => σ (21 + i)), by first | rfl | (funext j; simp only [upC, upR]; (repeat' split) <;> first | rfl | (simp_all; done) | (congr 1; omega) | (exfalso; omega)), ?_⟩; first | exact ⟨rfl, Or.inr (Or.inr ⟨by omega, by decide, rfl⟩)⟩ | exact ⟨rfl, Or.inr (Or.inl ⟨by omega, by omega, by decide, rfl⟩)⟩
              exact W.iret (v := (-3)) hx hb hr (fun t9 ht hW => ⟨⟨(-3), σ, rfl, hpost, by rw [ht]; exact hP, va_K.moved hW.alike hK, hD⟩, hS.F ht⟩) hS.2.2 dX8_thing_70
          · skip
            have ic51 := zeq (a := v48.toInt) (b := 0) rfl (by decide) c51
            replace hv48 := (hv48.resolve_left (fun q => by omega)).2
            refine lv_iconst (v := (-1)) hx hb dX8_thing_54 (by decide) ?_
            have hpost : ∃ u4 : Nat → Int32, ∃ u15 : Nat → Int32, ∃ u16 : Nat → Int32, ∃ u17 : Nat → Int32, ∃ u18 : Nat → Int32, ∃ u19 : Nat → Int32, ∃ u21 : Nat → Nat → Int32, σ = (upC (upC (upC (upC (upC (upC (upR σ 21 4 u21) 4 u4) 15 u15) 16 u16) 17 u17) 18 u18) 19 u19) ∧ u4 1 = σ 4 1 ∧ ((((1 ≤ x1.toInt ∧ x1.toInt ≤ 50 ∧ 0 ≤ x2.toInt ∧ x2.toInt ≤ 1000 ∧ x2.toInt ≤ x3.toInt ∧ x3.toInt ≤ 1000 ∧ 0 ≤ x4.toInt ∧ x4.toInt ≤ 99 ∧ 0 ≤ x5.toInt ∧ x5.toInt ≤ 15)) ∧ (σ 4 2).toInt < 10 ∧ ((-1) : Int32).toInt = (σ 4 2).toInt ∧ (u4 2).toInt = (σ 4 2).toInt + 1) ∨ (((1 ≤ x1.toInt ∧ x1.toInt ≤ 50 ∧ 0 ≤ x2.toInt ∧ x2.toInt ≤ 1000 ∧ x2.toInt ≤ x3.toInt ∧ x3.toInt ≤ 1000 ∧ 0 ≤ x4.toInt ∧ x4.toInt ≤ 99 ∧ 0 ≤ x5.toInt ∧ x5.toInt ≤ 15)) ∧ (σ 4 2).toInt = 10 ∧ ((-1) : Int32).toInt = -3 ∧ u4 2 = σ 4 2) ∨ (¬ ((1 ≤ x1.toInt ∧ x1.toInt ≤ 50 ∧ 0 ≤ x2.toInt ∧ x2.toInt ≤ 1000 ∧ x2.toInt ≤ x3.toInt ∧ x3.toInt ≤ 1000 ∧ 0 ≤ x4.toInt ∧ x4.toInt ≤ 99 ∧ 0 ≤ x5.toInt ∧ x5.toInt ≤ 15)) ∧ ((-1) : Int32).toInt = -1 ∧ u4 2 = σ 4 2)) := by refine ⟨(σ 4), (σ 15), (σ 16), (σ 17), (σ 18), (σ 19), (fun i => σ (21 + i)), by first | rfl | (funext j; simp only [upC, upR]; (repeat' split) <;> first | rfl | (simp_all; done) | (congr 1; omega) | (exfalso; omega)), ?_⟩; first | exact ⟨rfl, Or.inr (Or.inr ⟨by omega, by decide, rfl⟩)⟩ | exact ⟨rfl, Or.inr (Or.inl ⟨by omega, by omega, by decide, rfl⟩)⟩
            exact W.iret (v := (-1)) hx hb hr (fun t9 ht hW => ⟨⟨(-1), σ, rfl, hpost, by rw [ht]; exact hP, va_K.moved hW.alike hK, hD⟩, hS.F ht⟩) hS.2.2 dX8_thing_55

