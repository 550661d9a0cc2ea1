abbrev RM_X8_worth : Room := { frames := 1, cells := 0, slots := 0, locals := 22 }
set_option maxHeartbeats 4000000 in
set_option maxRecDepth 100000 in
theorem c_X8_worth (l : Launch) (dC : Nat → ClassId) (dI : Nat → Nat → Nat) (cB cI cS cII : ClassId) (a : Nat → Nat) (N : (Nat → Prop) → State → Prop) (hok : zNok N) (hn : ∀ A U, N A U → zN U) (σ : Cn) (sz : Nat) (x1 : Int32) (x2 : Int32) (x3 : Int32) (h0 : 0 ≤ (σ 4 1).toInt ∧ (σ 4 1).toInt ≤ 4) (h2 : 0 ≤ (σ 4 2).toInt ∧ (σ 4 2).toInt ≤ 10) : Met l yX8_worth wsX8_worth RM_X8_worth (zPc (dC, dI) (zT cB cI cS cII) N (wX a cB cI cS cII) σ sz [.ref (a 0), .int x1, .int x2, .int x3]) (zQi (dC, dI) (zT cB cI cS cII) (wX a cB cI cS cII) (va_A (wX a cB cI cS cII σ) sz) (fun (r : Int32) (σ1 : Cn) => ∃ u21 : Nat → Nat → Int32, σ1 = (upR σ 21 4 u21) ∧ True)) 0 0 (va_A (wX a cB cI cS cII σ) sz) := by
  refine Met.ofW (cc := cX8_worth) (maxL := 5) (ret := (some .int)) (by decide) rfl ?_
  intro p e s m args below meth c s₁ B hml hv
  obtain ⟨rfl, hsz, hP, hK, hD0, hN⟩ := hv
  have hx := B.exec
  have hb := B.bytes
  have hr := B.returns
  have hts := atoms_spec (ws := wsX8_worth) B.pre
  have hown : s.vm.findClass RX8 = some m.cls := findClass_of_methodNamed B.named
  have hlocks := B.notSynchronized
  subst hsz
  have hD := hD0.self (sz := s.heap.size)
  generalize hAe : va_A (wX a cB cI cS cII σ) s.heap.size = A at hD hN ⊢
  have hA : ∀ q : Nat, s.heap.size ≤ q → A q := fun q h => by rw [← hAe]; exact Or.inr h
  clear hAe hD0
  have hS : va_S A s.heap s.heap [] := va_S.rf
  have in1 : ∀ w ∈ u_ws RX1 TX1 9, w ∈ wsX8_worth := by decide +kernel
  have in8 : ∀ w ∈ u_ws RX8 TX8 7, w ∈ wsX8_worth := by decide +kernel
  have k108 := hts (.fieldLink RX8 108 "HouseSorted$House" "worth" "[[I") (by decide +kernel)
  have k30 := hts (.fieldLink RX8 30 "HouseSorted" "house" "LHouseSorted$House;") (by decide +kernel)
  have hl := lv_entry ([.ref (a 0), .int x1, .int x2, .int x3]) (n := 5) (Nat.le_of_ble_eq_true rfl)
  rw [lg_entry_eq]
  generalize (lg_sl ([.ref (a 0), .int x1, .int x2, .int x3]) ++ List.replicate (5 - (lg_sl ([.ref (a 0), .int x1, .int x2, .int x3])).length) Slot.unset).toArray = ls at hl ⊢
  have hl : lv_has ls 5 [(0, .ref (a 0)), (1, .int x1), (2, .int x2), (3, .int x3)] := hl
  suffices main : ∀ (H : Heap) (locs : List Loc), va_P (dC, dI) vwCl (wX a cB cI cS cII σ) H → va_D A (wX a cB cI cS cII σ) → va_S A s.heap H locs → W p l e (headSpec wsX8_worth RM_X8_worth).room s m ([.ref (a 0), .int x1, .int x2, .int x3] : List Value).toArray below meth c H locs 0 0 (MQ below (zQi (dC, dI) (zT cB cI cS cII) (wX a cB cI cS cII) A (fun (r : Int32) (σ1 : Cn) => ∃ u21 : Nat → Nat → Int32, σ1 = (upR σ 21 4 u21) ∧ True)) ([.ref (a 0), .int x1, .int x2, .int x3] : List Value).toArray s 0 0 A) (F0 m 0 ls []) from main s.heap [] hP hD hS
  intro H locs hP hD hS
  refine lv_aload_n hx hb dX8_worth_0 rfl (lv_at hl 0 rfl) ?_
  refine va_get (D := (dC, dI)) (ci := 8) (v := .ref (a 4)) (C := RX8) (T := TX8) (N := 7) hx hb hts in8 hown hK hP 0 rfl rfl 2 (by decide) k30 (fun _ h9 => h9) rfl dX8_worth_1 ?_
  refine lv_iload_n hx hb dX8_worth_4 rfl (lv_at hl 1 rfl) ?_
  refine zcalli (va_runV (As := [.int x1]) (rest := []) ⟨hx, hb, hml, hown, hts⟩ (c_X1_hasHeir l dC dI cB cI cS cII a N hok hn σ H.size (x1) ) (cwV 1 hts gX8_worth_X1_hasHeir rfl rfl rfl (by decide +kernel) ⟨Nat.le_of_ble_eq_true rfl, Nat.le_of_ble_eq_true rfl⟩) (zpreV (wf := wX a cB cI cS cII) (q0 := 4) (ci := 1) hok hN hS hA hK hP hD rfl rfl) rfl rfl hl.1 rfl (lv_room (Nat.le_of_ble_eq_true rfl)) dX8_worth_5 ⟨Nat.zero_le _, Nat.zero_le _⟩) hD hS hA (fun v5 σ1 H locs hv5 hP hD hS => ?_)
  obtain ⟨es9, hv5⟩ := hv5
  subst σ1
  refine lv_if_eq (tgt := 32) hx hb dX8_worth_8 (by decide) (fun c8 => ?_) (fun c8 => ?_)
  · skip
    have ic8 := zeq (a := v5.toInt) (b := 0) rfl (by decide) c8
    replace hv5 := (hv5.resolve_left (fun q => by omega)).2
    refine lv_iconst (v := (-1)) hx hb dX8_worth_32 (by decide) ?_
    have hpost : ∃ u21 : Nat → Nat → Int32, σ = (upR σ 21 4 u21) ∧ True := by refine ⟨(fun i => σ (21 + i)), by first | rfl | (funext j; simp only [upC, upR]; (repeat' split) <;> first | rfl | (simp_all; done) | (congr 1; omega) | (exfalso; omega)), ?_⟩; trivial
    exact W.iret (v := (-1)) hx hb hr (fun t9 ht hW => ⟨⟨(-1), σ, rfl, hpost, by rw [ht]; exact hP, va_K.moved hW.alike hK, hD⟩, hS.F ht⟩) hS.2.2 dX8_worth_33
  · skip
    have ic8 := zneq (a := v5.toInt) (b := 0) rfl (by decide) c8
    replace hv5 := (hv5.resolve_right (fun q => by omega)).2
    refine lv_aload_n hx hb dX8_worth_11 rfl (lv_at hl 0 rfl) ?_
    refine va_get (D := (dC, dI)) (ci := 8) (v := .ref (a 4)) (C := RX8) (T := TX8) (N := 7) hx hb hts in8 hown hK hP 0 rfl rfl 2 (by decide) k30 (fun _ h9 => h9) rfl dX8_worth_12 ?_
    refine lv_iload_n hx hb dX8_worth_15 rfl (lv_at hl 2 rfl) ?_
    refine zcalli (va_runV (As := [.int x2]) (rest := []) ⟨hx, hb, hml, hown, hts⟩ (c_X1_hasThing l dC dI cB cI cS cII a N hok hn σ H.size (x2) ) (cwV 1 hts gX8_worth_X1_hasThing rfl rfl rfl (by decide +kernel) ⟨Nat.le_of_ble_eq_true rfl, Nat.le_of_ble_eq_true rfl⟩) (zpreV (wf := wX a cB cI cS cII) (q0 := 4) (ci := 1) hok hN hS hA hK hP hD rfl rfl) rfl rfl hl.1 rfl (lv_room (Nat.le_of_ble_eq_true rfl)) dX8_worth_16 ⟨Nat.zero_le _, Nat.zero_le _⟩) hD hS hA (fun v16 σ1 H locs hv16 hP hD hS => ?_)
    obtain ⟨es9, hv16⟩ := hv16
    subst σ1
    refine lv_if_eq (tgt := 32) hx hb dX8_worth_19 (by decide) (fun c19 => ?_) (fun c19 => ?_)
    · skip
      have ic19 := zeq (a := v16.toInt) (b := 0) rfl (by decide) c19
      replace hv16 := (hv16.resolve_left (fun q => by omega)).2
      refine lv_iconst (v := (-1)) hx hb dX8_worth_32 (by decide) ?_
      have hpost : ∃ u21 : Nat → Nat → Int32, σ = (upR σ 21 4 u21) ∧ True := by refine ⟨(fun i => σ (21 + i)), by first | rfl | (funext j; simp only [upC, upR]; (repeat' split) <;> first | rfl | (simp_all; done) | (congr 1; omega) | (exfalso; omega)), ?_⟩; trivial
      exact W.iret (v := (-1)) hx hb hr (fun t9 ht hW => ⟨⟨(-1), σ, rfl, hpost, by rw [ht]; exact hP, va_K.moved hW.alike hK, hD⟩, hS.F ht⟩) hS.2.2 dX8_worth_33
    · skip
      have ic19 := zneq (a := v16.toInt) (b := 0) rfl (by decide) c19
      replace hv16 := (hv16.resolve_right (fun q => by omega)).2
      refine lv_iload_n hx hb dX8_worth_22 rfl (lv_at hl 3 rfl) ?_
      refine lv_iconst (v := 0) hx hb dX8_worth_23 (by decide) ?_
      refine lv_bipush (v := 100) hx hb dX8_worth_24 (by decide) ?_
      refine zcalli (va_runS (As := [.int x3, .int 0, .int 100]) (rest := []) ⟨hx, hb, hml, hown, hts⟩ (c_X8_isWithin l dC dI cB cI cS cII a N hok hn σ H.size (x3) (0) (100) ) (va_cwS 3 hts gX8_worth_X8_isWithin rfl rfl rfl (by decide +kernel) ⟨Nat.le_of_ble_eq_true rfl, Nat.le_of_ble_eq_true rfl⟩) (zpreS (wf := wX a cB cI cS cII) hok hN hS hA hK hP hD) rfl rfl hl.1 rfl (lv_room (Nat.le_of_ble_eq_true rfl)) dX8_worth_26 ⟨Nat.zero_le _, Nat.zero_le _⟩) hD hS hA (fun v26 σ1 H locs hv26 hP hD hS => ?_)
      obtain ⟨es9, hv26⟩ := hv26
      subst σ1
      try simp only [show (0 : Int32).toInt = 0 from by decide, show (100 : Int32).toInt = 100 from by decide] at hv26
      refine lv_if_ne (tgt := 34) hx hb dX8_worth_29 (by decide) (fun c29 => ?_) (fun c29 => ?_)
      · skip
        have ic29 := zneq (a := v26.toInt) (b := 0) rfl (by decide) c29
        replace hv26 := (hv26.resolve_right (fun q => by omega)).2
        refine lv_aload_n hx hb dX8_worth_34 rfl (lv_at hl 0 rfl) ?_
        refine va_get (D := (dC, dI)) (ci := 8) (v := .ref (a 4)) (C := RX8) (T := TX8) (N := 7) hx hb hts in8 hown hK hP 0 rfl rfl 2 (by decide) k30 (fun _ h9 => h9) rfl dX8_worth_35 ?_
        refine va_get (D := (dC, dI)) (ci := 1) (v := .ref (a 20)) (C := RX1) (T := TX1) (N := 9) hx hb hts in1 hown hK hP 4 rfl rfl 8 (by decide) k108 (fun _ h9 => h9) rfl dX8_worth_38 ?_
        refine lv_iload_n hx hb dX8_worth_41 rfl (lv_at hl 1 rfl) ?_
        have hr42 : (x1).toNatClampNeg < 4 := by have h9 := zcl (x := x1) (by omega); omega
        refine zald hx hb hK hP 20 3 rfl rfl (i := x1) (n := 4) (zin (by omega) (by omega)) (zro_in hr42) dX8_worth_42 ?_
        refine lv_iload_n hx hb dX8_worth_43 rfl (lv_at hl 2 rfl) ?_
        refine va_iald (D := (dC, dI)) (f := σ (21 + (x1).toNatClampNeg)) hx hb hK hP (21 + (x1).toNatClampNeg) 1 (wX_row21 hr42) rfl (i := x2) (n := 10) (zin (by omega) (by omega)) dX8_worth_44 ?_
        refine lv_topi (fun v44 ev44 => ?_)
        have tv44 := congrArg Int32.toInt ev44
        refine lv_istore (lv' := [(4, .int v44), (0, .ref (a 0)), (1, .int x1), (2, .int x2), (3, .int x3)]) hx hb dX8_worth_45 hl (by decide) rfl (fun ls hl => ?_)
        refine lv_aload_n hx hb dX8_worth_47 rfl (lv_at hl 1 rfl) ?_
        refine va_get (D := (dC, dI)) (ci := 8) (v := .ref (a 4)) (C := RX8) (T := TX8) (N := 7) hx hb hts in8 hown hK hP 0 rfl rfl 2 (by decide) k30 (fun _ h9 => h9) rfl dX8_worth_48 ?_
        refine va_get (D := (dC, dI)) (ci := 1) (v := .ref (a 20)) (C := RX1) (T := TX1) (N := 9) hx hb hts in1 hown hK hP 4 rfl rfl 8 (by decide) k108 (fun _ h9 => h9) rfl dX8_worth_51 ?_
        refine lv_iload_n hx hb dX8_worth_54 rfl (lv_at hl 2 rfl) ?_
        have hr55 : (x1).toNatClampNeg < 4 := by have h9 := zcl (x := x1) (by omega); omega
        refine zald hx hb hK hP 20 3 rfl rfl (i := x1) (n := 4) (zin (by omega) (by omega)) (zro_in hr55) dX8_worth_55 ?_
        refine lv_iload_n hx hb dX8_worth_56 rfl (lv_at hl 3 rfl) ?_
        refine lv_iload_n hx hb dX8_worth_57 rfl (lv_at hl 4 rfl) ?_
        refine va_iast (D := (dC, dI)) (f := σ (21 + (x1).toNatClampNeg)) hx hb hK hP hD hS (21 + (x1).toNatClampNeg) 1 (wX_row21 hr55) rfl (i := x2) (n := 10) (zin (by omega) (by omega)) dX8_worth_58 (fun H locs hP hD hS => ?_)
        rw [wX_set21 hr55] at hP hD
        obtain ⟨g58, eg58, hP, hD⟩ : ∃ g58 : Nat → Nat → Int32, g58 = (fun i => if i = (x1).toNatClampNeg then upd (σ (21 + (x1).toNatClampNeg)) (x2).toNatClampNeg x3 else σ (21 + i)) ∧ va_P (dC, dI) vwCl (wX a cB cI cS cII (upR σ 21 4 g58)) H ∧ va_D A (wX a cB cI cS cII (upR σ 21 4 g58)) := ⟨_, rfl, hP, hD⟩
        refine lv_iload hx hb dX8_worth_59 (lv_at hl 0 rfl) ?_
        have hpost : ∃ u21 : Nat → Nat → Int32, (upR σ 21 4 g58) = (upR σ 21 4 u21) ∧ True := by refine ⟨(g58), by first | rfl | (funext j; simp only [upC, upR]; (repeat' split) <;> first | rfl | (simp_all; done) | (congr 1; omega) | (exfalso; omega)), ?_⟩; trivial
        exact W.iret (v := v44) hx hb hr (fun t9 ht hW => ⟨⟨v44, (upR σ 21 4 g58), rfl, hpost, by rw [ht]; exact hP, va_K.moved hW.alike hK, hD⟩, hS.F ht⟩) hS.2.2 dX8_worth_61
      · skip
        have ic29 := zeq (a := v26.toInt) (b := 0) rfl (by decide) c29
        replace hv26 := (hv26.resolve_left (fun q => by omega)).2
        refine lv_iconst (v := (-1)) hx hb dX8_worth_32 (by decide) ?_
        have hpost : ∃ u21 : Nat → Nat → Int32, σ = (upR σ 21 4 u21) ∧ True := by refine ⟨(fun i => σ (21 + i)), by first | rfl | (funext j; simp only [upC, upR]; (repeat' split) <;> first | rfl | (simp_all; done) | (congr 1; omega) | (exfalso; omega)), ?_⟩; trivial
        exact W.iret (v := (-1)) hx hb hr (fun t9 ht hW => ⟨⟨(-1), σ, rfl, hpost, by rw [ht]; exact hP, va_K.moved hW.alike hK, hD⟩, hS.F ht⟩) hS.2.2 dX8_worth_33

abbrev RM_X8_look : Room := { frames := 1, cells := 0, slots := 0, locals := 21 }
set_option maxHeartbeats 4000000 in
set_option maxRecDepth 100000 in
theorem c_X8_look (l : Launch) (dC : Nat → ClassId) (dI : Nat → Nat → Nat) (cB cI cS cII : ClassId) (a : Nat → Nat) (N : (Nat → Prop) → State → Prop) (hok : zNok N) (hn : ∀ A U, N A U → zN U) (σ : Cn) (sz : Nat) (x1 : Int32) (x2 : Int32) (x3 : Int32) (h2 : 0 ≤ (σ 4 2).toInt ∧ (σ 4 2).toInt ≤ 10) : Met l yX8_look wsX8_look RM_X8_look (zPc (dC, dI) (zT cB cI cS cII) N (wX a cB cI cS cII) σ sz [.ref (a 0), .int x1, .int x2, .int x3]) (zQi (dC, dI) (zT cB cI cS cII) (wX a cB cI cS cII) (va_A (wX a cB cI cS cII σ) sz) (fun (r : Int32) (σ1 : Cn) => ∃ u16 : Nat → Int32, ∃ u17 : Nat → Int32, σ1 = (upC (upC σ 16 u16) 17 u17) ∧ True)) 0 0 (va_A (wX a cB cI cS cII σ) sz) := by
  refine Met.ofW (cc := cX8_look) (maxL := 4) (ret := (some .int)) (by decide) rfl ?_
  intro p e s m args below meth c s₁ B hml hv
  obtain ⟨rfl, hsz, hP, hK, hD0, hN⟩ := hv
  have hx := B.exec
  have hb := B.bytes
  have hr := B.returns
  have hts := atoms_spec (ws := wsX8_look) B.pre
  have hown : s.vm.findClass RX8 = some m.cls := findClass_of_methodNamed B.named
  have hlocks := B.notSynchronized
  subst hsz
  have hD := hD0.self (sz := s.heap.size)
  generalize hAe : va_A (wX a cB cI cS cII σ) s.heap.size = A at hD hN ⊢
  have hA : ∀ q : Nat, s.heap.size ≤ q → A q := fun q h => by rw [← hAe]; exact Or.inr h
  clear hAe hD0
  have hS : va_S A s.heap s.heap [] := va_S.rf
  have in1 : ∀ w ∈ u_ws RX1 TX1 9, w ∈ wsX8_look := by decide +kernel
  have in8 : ∀ w ∈ u_ws RX8 TX8 7, w ∈ wsX8_look := by decide +kernel
  have k112 := hts (.fieldLink RX8 112 "HouseSorted$House" "low" "[I") (by decide +kernel)
  have k115 := hts (.fieldLink RX8 115 "HouseSorted$House" "high" "[I") (by decide +kernel)
  have k30 := hts (.fieldLink RX8 30 "HouseSorted" "house" "LHouseSorted$House;") (by decide +kernel)
  have hl := lv_entry ([.ref (a 0), .int x1, .int x2, .int x3]) (n := 4) (Nat.le_of_ble_eq_true rfl)
  rw [lg_entry_eq]
  generalize (lg_sl ([.ref (a 0), .int x1, .int x2, .int x3]) ++ List.replicate (4 - (lg_sl ([.ref (a 0), .int x1, .int x2, .int x3])).length) Slot.unset).toArray = ls at hl ⊢
  have hl : lv_has ls 4 [(0, .ref (a 0)), (1, .int x1), (2, .int x2), (3, .int x3)] := hl
  suffices main : ∀ (H : Heap) (locs : List Loc), va_P (dC, dI) vwCl (wX a cB cI cS cII σ) H → va_D A (wX a cB cI cS cII σ) → va_S A s.heap H locs → W p l e (headSpec wsX8_look RM_X8_look).room s m ([.ref (a 0), .int x1, .int x2, .int x3] : List Value).toArray below meth c H locs 0 0 (MQ below (zQi (dC, dI) (zT cB cI cS cII) (wX a cB cI cS cII) A (fun (r : Int32) (σ1 : Cn) => ∃ u16 : Nat → Int32, ∃ u17 : Nat → Int32, σ1 = (upC (upC σ 16 u16) 17 u17) ∧ True)) ([.ref (a 0), .int x1, .int x2, .int x3] : List Value).toArray s 0 0 A) (F0 m 0 ls []) from main s.heap [] hP hD hS
  intro H locs hP hD hS
  refine lv_aload_n hx hb dX8_look_0 rfl (lv_at hl 0 rfl) ?_
  refine va_get (D := (dC, dI)) (ci := 8) (v := .ref (a 4)) (C := RX8) (T := TX8) (N := 7) hx hb hts in8 hown hK hP 0 rfl rfl 2 (by decide) k30 (fun _ h9 => h9) rfl dX8_look_1 ?_
  refine lv_iload_n hx hb dX8_look_4 rfl (lv_at hl 1 rfl) ?_
  refine zcalli (va_runV (As := [.int x1]) (rest := []) ⟨hx, hb, hml, hown, hts⟩ (c_X1_hasThing l dC dI cB cI cS cII a N hok hn σ H.size (x1) ) (cwV 1 hts gX8_look_X1_hasThing rfl rfl rfl (by decide +kernel) ⟨Nat.le_of_ble_eq_true rfl, Nat.le_of_ble_eq_true rfl⟩) (zpreV (wf := wX a cB cI cS cII) (q0 := 4) (ci := 1) hok hN hS hA hK hP hD rfl rfl) rfl rfl hl.1 rfl (lv_room (Nat.le_of_ble_eq_true rfl)) dX8_look_5 ⟨Nat.zero_le _, Nat.zero_le _⟩) hD hS hA (fun v5 σ1 H locs hv5 hP hD hS => ?_)
  obtain ⟨es9, hv5⟩ := hv5
  subst σ1
  refine lv_if_eq (tgt := 42) hx hb dX8_look_8 (by decide) (fun c8 => ?_) (fun c8 => ?_)
  · skip
    have ic8 := zeq (a := v5.toInt) (b := 0) rfl (by decide) c8
    replace hv5 := (hv5.resolve_left (fun q => by omega)).2
    refine lv_iconst (v := (-1)) hx hb dX8_look_42 (by decide) ?_
    have hpost : ∃ u16 : Nat → Int32, ∃ u17 : Nat → Int32, σ = (upC (upC σ 16 u16) 17 u17) ∧ True := by refine ⟨(σ 16), (σ 17), by first | rfl | (funext j; simp only [upC, upR]; (repeat' split) <;> first | rfl | (simp_all; done) | (congr 1; omega) | (exfalso; omega)), ?_⟩; trivial
    exact W.iret (v := (-1)) hx hb hr (fun t9 ht hW => ⟨⟨(-1), σ, rfl, hpost, by rw [ht]; exact hP, va_K.moved hW.alike hK, hD⟩, hS.F ht⟩) hS.2.2 dX8_look_43
  · skip
    have ic8 := zneq (a := v5.toInt) (b := 0) rfl (by decide) c8
    replace hv5 := (hv5.resolve_right (fun q => by omega)).2
    refine lv_iload_n hx hb dX8_look_11 rfl (lv_at hl 2 rfl) ?_
    refine lv_iload_n hx hb dX8_look_12 rfl (lv_at hl 3 rfl) ?_
    refine lv_icmp_gt (tgt := 42) hx hb dX8_look_13 (by decide) (fun c13 => ?_) (fun c13 => ?_)
    · skip
      have ic13 := zlt (a := x3.toInt) (b := x2.toInt) rfl rfl c13
      refine lv_iconst (v := (-1)) hx hb dX8_look_42 (by decide) ?_
      have hpost : ∃ u16 : Nat → Int32, ∃ u17 : Nat → Int32, σ = (upC (upC σ 16 u16) 17 u17) ∧ True := by refine ⟨(σ 16), (σ 17), by first | rfl | (funext j; simp only [upC, upR]; (repeat' split) <;> first | rfl | (simp_all; done) | (congr 1; omega) | (exfalso; omega)), ?_⟩; trivial
      exact W.iret (v := (-1)) hx hb hr (fun t9 ht hW => ⟨⟨(-1), σ, rfl, hpost, by rw [ht]; exact hP, va_K.moved hW.alike hK, hD⟩, hS.F ht⟩) hS.2.2 dX8_look_43
    · skip
      have ic13 := znlt (a := x3.toInt) (b := x2.toInt) rfl rfl c13
      refine lv_iload_n hx hb dX8_look_16 rfl (lv_at hl 2 rfl) ?_
      refine lv_aload_n hx hb dX8_look_17 rfl (lv_at hl 0 rfl) ?_
      refine va_get (D := (dC, dI)) (ci := 8) (v := .ref (a 4)) (C := RX8) (T := TX8) (N := 7) hx hb hts in8 hown hK hP 0 rfl rfl 2 (by decide) k30 (fun _ h9 => h9) rfl dX8_look_18 ?_
      refine va_get (D := (dC, dI)) (ci := 1) (v := .ref (a 16)) (C := RX1) (T := TX1) (N := 9) hx hb hts in1 hown hK hP 4 rfl rfl 4 (by decide) k112 (fun _ h9 => h9) rfl dX8_look_21 ?_
      refine lv_iload_n hx hb dX8_look_24 rfl (lv_at hl 1 rfl) ?_
      refine va_iald (D := (dC, dI)) (f := σ 16) hx hb hK hP 16 1 rfl rfl (i := x1) (n := 10) (zin (by omega) (by omega)) dX8_look_25 ?_
      refine lv_topi (fun v25 ev25 => ?_)
      have tv25 := congrArg Int32.toInt ev25
      refine lv_icmp_lt (tgt := 42) hx hb dX8_look_26 (by decide) (fun c26 => ?_) (fun c26 => ?_)
      · skip
        have ic26 := zlt (a := x2.toInt) (b := v25.toInt) rfl rfl c26
        refine lv_iconst (v := (-1)) hx hb dX8_look_42 (by decide) ?_
        have hpost : ∃ u16 : Nat → Int32, ∃ u17 : Nat → Int32, σ = (upC (upC σ 16 u16) 17 u17) ∧ True := by refine ⟨(σ 16), (σ 17), by first | rfl | (funext j; simp only [upC, upR]; (repeat' split) <;> first | rfl | (simp_all; done) | (congr 1; omega) | (exfalso; omega)), ?_⟩; trivial
        exact W.iret (v := (-1)) hx hb hr (fun t9 ht hW => ⟨⟨(-1), σ, rfl, hpost, by rw [ht]; exact hP, va_K.moved hW.alike hK, hD⟩, hS.F ht⟩) hS.2.2 dX8_look_43
      · skip
        have ic26 := znlt (a := x2.toInt) (b := v25.toInt) rfl rfl c26
        refine lv_iload_n hx hb dX8_look_29 rfl (lv_at hl 3 rfl) ?_
        refine lv_aload_n hx hb dX8_look_30 rfl (lv_at hl 0 rfl) ?_
        refine va_get (D := (dC, dI)) (ci := 8) (v := .ref (a 4)) (C := RX8) (T := TX8) (N := 7) hx hb hts in8 hown hK hP 0 rfl rfl 2 (by decide) k30 (fun _ h9 => h9) rfl dX8_look_31 ?_
        refine va_get (D := (dC, dI)) (ci := 1) (v := .ref (a 17)) (C := RX1) (T := TX1) (N := 9) hx hb hts in1 hown hK hP 4 rfl rfl 5 (by decide) k115 (fun _ h9 => h9) rfl dX8_look_34 ?_
        refine lv_iload_n hx hb dX8_look_37 rfl (lv_at hl 1 rfl) ?_
        refine va_iald (D := (dC, dI)) (f := σ 17) hx hb hK hP 17 1 rfl rfl (i := x1) (n := 10) (zin (by omega) (by omega)) dX8_look_38 ?_
        refine lv_topi (fun v38 ev38 => ?_)
        have tv38 := congrArg Int32.toInt ev38
        refine lv_icmp_le (tgt := 44) hx hb dX8_look_39 (by decide) (fun c39 => ?_) (fun c39 => ?_)
        · skip
          have ic39 := zle (a := x3.toInt) (b := v38.toInt) rfl rfl c39
          refine lv_aload_n hx hb dX8_look_44 rfl (lv_at hl 0 rfl) ?_
          refine va_get (D := (dC, dI)) (ci := 8) (v := .ref (a 4)) (C := RX8) (T := TX8) (N := 7) hx hb hts in8 hown hK hP 0 rfl rfl 2 (by decide) k30 (fun _ h9 => h9) rfl dX8_look_45 ?_
          refine va_get (D := (dC, dI)) (ci := 1) (v := .ref (a 16)) (C := RX1) (T := TX1) (N := 9) hx hb hts in1 hown hK hP 4 rfl rfl 4 (by decide) k112 (fun _ h9 => h9) rfl dX8_look_48 ?_
          refine lv_iload_n hx hb dX8_look_51 rfl (lv_at hl 1 rfl) ?_
          refine lv_iload_n hx hb dX8_look_52 rfl (lv_at hl 2 rfl) ?_
          refine va_iast (D := (dC, dI)) (f := σ 16) hx hb hK hP hD hS 16 1 rfl rfl (i := x1) (n := 10) (zin (by omega) (by omega)) dX8_look_53 (fun H locs hP hD hS => ?_)
          have hP : va_P (dC, dI) vwCl (wX a cB cI cS cII (upC σ 16 (upd (σ 16) (x1).toNatClampNeg x2))) H := hP
          have hD : va_D A (wX a cB cI cS cII (upC σ 16 (upd (σ 16) (x1).toNatClampNeg x2))) := hD
          refine lv_aload_n hx hb dX8_look_54 rfl (lv_at hl 0 rfl) ?_
          refine va_get (D := (dC, dI)) (ci := 8) (v := .ref (a 4)) (C := RX8) (T := TX8) (N := 7) hx hb hts in8 hown hK hP 0 rfl rfl 2 (by decide) k30 (fun _ h9 => h9) rfl dX8_look_55 ?_
          refine va_get (D := (dC, dI)) (ci := 1) (v := .ref (a 17)) (C := RX1) (T := TX1) (N := 9) hx hb hts in1 hown hK hP 4 rfl rfl 5 (by decide) k115 (fun _ h9 => h9) rfl dX8_look_58 ?_
          refine lv_iload_n hx hb dX8_look_61 rfl (lv_at hl 1 rfl) ?_
          refine lv_iload_n hx hb dX8_look_62 rfl (lv_at hl 3 rfl) ?_
          refine va_iast (D := (dC, dI)) (f := σ 17) hx hb hK hP hD hS 17 1 rfl rfl (i := x1) (n := 10) (zin (by omega) (by omega)) dX8_look_63 (fun H locs hP hD hS => ?_)
          have hP : va_P (dC, dI) vwCl (wX a cB cI cS cII (upC (upC σ 16 (upd (σ 16) (x1).toNatClampNeg x2)) 17 (upd (σ 17) (x1).toNatClampNeg x3))) H := hP
          have hD : va_D A (wX a cB cI cS cII (upC (upC σ 16 (upd (σ 16) (x1).toNatClampNeg x2)) 17 (upd (σ 17) (x1).toNatClampNeg x3))) := hD
          refine lv_iconst (v := 1) hx hb dX8_look_64 (by decide) ?_
          have hpost : ∃ u16 : Nat → Int32, ∃ u17 : Nat → Int32, (upC (upC σ 16 (upd (σ 16) (x1).toNatClampNeg x2)) 17 (upd (σ 17) (x1).toNatClampNeg x3)) = (upC (upC σ 16 u16) 17 u17) ∧ True := by refine ⟨(upd (σ 16) (x1).toNatClampNeg x2), (upd (σ 17) (x1).toNatClampNeg x3), by first | rfl | (funext j; simp only [upC, upR]; (repeat' split) <;> first | rfl | (simp_all; done) | (congr 1; omega) | (exfalso; omega)), ?_⟩; trivial
          exact W.iret (v := 1) hx hb hr (fun t9 ht hW => ⟨⟨1, (upC (upC σ 16 (upd (σ 16) (x1).toNatClampNeg x2)) 17 (upd (σ 17) (x1).toNatClampNeg x3)), rfl, hpost, by rw [ht]; exact hP, va_K.moved hW.alike hK, hD⟩, hS.F ht⟩) hS.2.2 dX8_look_65
        · skip
          have ic39 := znle (a := x3.toInt) (b := v38.toInt) rfl rfl c39
          refine lv_iconst (v := (-1)) hx hb dX8_look_42 (by decide) ?_
          have hpost : ∃ u16 : Nat → Int32, ∃ u17 : Nat → Int32, σ = (upC (upC σ 16 u16) 17 u17) ∧ True := by refine ⟨(σ 16), (σ 17), by first | rfl | (funext j; simp only [upC, upR]; (repeat' split) <;> first | rfl | (simp_all; done) | (congr 1; omega) | (exfalso; omega)), ?_⟩; trivial
          exact W.iret (v := (-1)) hx hb hr (fun t9 ht hW => ⟨⟨(-1), σ, rfl, hpost, by rw [ht]; exact hP, va_K.moved hW.alike hK, hD⟩, hS.F ht⟩) hS.2.2 dX8_look_43

abbrev RM_X8_told : Room := { frames := 3, cells := 0, slots := 0, locals := 64 }
set_option maxHeartbeats 4000000 in
set_option maxRecDepth 100000 in
theorem c_X8_told (l : Launch) (dC : Nat → ClassId) (dI : Nat → Nat → Nat) (cB cI cS cII : ClassId) (a : Nat → Nat) (N : (Nat → Prop) → State → Prop) (hok : zNok N) (hn : ∀ A U, N A U → zN U) (σ : Cn) (sz : Nat) (x1 : Int32) (x2 : Int32) (h0 : 0 ≤ (σ 4 1).toInt ∧ (σ 4 1).toInt ≤ 4) (h2 : 0 ≤ (σ 4 2).toInt ∧ (σ 4 2).toInt ≤ 10) : Met l yX8_told wsX8_told RM_X8_told (zPc (dC, dI) (zT cB cI cS cII) N (wX a cB cI cS cII) σ sz [.ref (a 0), .int x1, .int x2]) (zQi (dC, dI) (zT cB cI cS cII) (wX a cB cI cS cII) (va_A (wX a cB cI cS cII σ) sz) (fun (r : Int32) (σ1 : Cn) => σ1 = σ ∧ True)) 0 0 (va_A (wX a cB cI cS cII σ) sz) := by
  refine Met.ofW (cc := cX8_told) (maxL := 3) (ret := (some .int)) (by decide) rfl ?_
  intro p e s m args below meth c s₁ B hml hv
  obtain ⟨rfl, hsz, hP, hK, hD0, hN⟩ := hv
  have hx := B.exec
  have hb := B.bytes
  have hr := B.returns
  have hts := atoms_spec (ws := wsX8_told) B.pre
  have hown : s.vm.findClass RX8 = some m.cls := findClass_of_methodNamed B.named
  have hlocks := B.notSynchronized
  subst hsz
  have hD := hD0.self (sz := s.heap.size)
  generalize hAe : va_A (wX a cB cI cS cII σ) s.heap.size = A at hD hN ⊢
  have hA : ∀ q : Nat, s.heap.size ≤ q → A q := fun q h => by rw [← hAe]; exact Or.inr h
  clear hAe hD0
  have hS : va_S A s.heap s.heap [] := va_S.rf
  have in1 : ∀ w ∈ u_ws RX1 TX1 9, w ∈ wsX8_told := by decide +kernel
  have in8 : ∀ w ∈ u_ws RX8 TX8 7, w ∈ wsX8_told := by decide +kernel
  have k112 := hts (.fieldLink RX8 112 "HouseSorted$House" "low" "[I") (by decide +kernel)
  have k115 := hts (.fieldLink RX8 115 "HouseSorted$House" "high" "[I") (by decide +kernel)
  have k118 := hts (.fieldLink RX8 118 "HouseSorted$House" "weight" "[I") (by decide +kernel)
  have k121 := hts (.fieldLink RX8 121 "HouseSorted$House" "age" "[I") (by decide +kernel)
  have k124 := hts (.fieldLink RX8 124 "HouseSorted$House" "marks" "[I") (by decide +kernel)
  have k30 := hts (.fieldLink RX8 30 "HouseSorted" "house" "LHouseSorted$House;") (by decide +kernel)
  have hl := lv_entry ([.ref (a 0), .int x1, .int x2]) (n := 3) (Nat.le_of_ble_eq_true rfl)
  rw [lg_entry_eq]
  generalize (lg_sl ([.ref (a 0), .int x1, .int x2]) ++ List.replicate (3 - (lg_sl ([.ref (a 0), .int x1, .int x2])).length) Slot.unset).toArray = ls at hl ⊢
  have hl : lv_has ls 3 [(0, .ref (a 0)), (1, .int x1), (2, .int x2)] := hl
  suffices main : ∀ (H : Heap) (locs : List Loc), va_P (dC, dI) vwCl (wX a cB cI cS cII σ) H → va_D A (wX a cB cI cS cII σ) → va_S A s.heap H locs → W p l e (headSpec wsX8_told RM_X8_told).room s m ([.ref (a 0), .int x1, .int x2] : List Value).toArray below meth c H locs 0 0 (MQ below (zQi (dC, dI) (zT cB cI cS cII) (wX a cB cI cS cII) A (fun (r : Int32) (σ1 : Cn) => σ1 = σ ∧ True)) ([.ref (a 0), .int x1, .int x2] : List Value).toArray s 0 0 A) (F0 m 0 ls []) from main s.heap [] hP hD hS
  intro H locs hP hD hS
  refine lv_aload_n hx hb dX8_told_0 rfl (lv_at hl 0 rfl) ?_
  refine va_get (D := (dC, dI)) (ci := 8) (v := .ref (a 4)) (C := RX8) (T := TX8) (N := 7) hx hb hts in8 hown hK hP 0 rfl rfl 2 (by decide) k30 (fun _ h9 => h9) rfl dX8_told_1 ?_
  refine lv_iload_n hx hb dX8_told_4 rfl (lv_at hl 1 rfl) ?_
  refine zcalli (va_runV (As := [.int x1]) (rest := []) ⟨hx, hb, hml, hown, hts⟩ (c_X1_hasThing l dC dI cB cI cS cII a N hok hn σ H.size (x1) ) (cwV 1 hts gX8_told_X1_hasThing rfl rfl rfl (by decide +kernel) ⟨Nat.le_of_ble_eq_true rfl, Nat.le_of_ble_eq_true rfl⟩) (zpreV (wf := wX a cB cI cS cII) (q0 := 4) (ci := 1) hok hN hS hA hK hP hD rfl rfl) rfl rfl hl.1 rfl (lv_room (Nat.le_of_ble_eq_true rfl)) dX8_told_5 ⟨Nat.zero_le _, Nat.zero_le _⟩) hD hS hA (fun v5 σ1 H locs hv5 hP hD hS => ?_)
  obtain ⟨es9, hv5⟩ := hv5
  subst σ1
  refine lv_if_ne (tgt := 13) hx hb dX8_told_8 (by decide) (fun c8 => ?_) (fun c8 => ?_)
  · skip
    have ic8 := zneq (a := v5.toInt) (b := 0) rfl (by decide) c8
    replace hv5 := (hv5.resolve_right (fun q => by omega)).2
    refine lv_iload_n hx hb dX8_told_13 rfl (lv_at hl 2 rfl) ?_
    rcases (show x2.toInt = 0 ∨ x2.toInt = 1 ∨ x2.toInt = 2 ∨ x2.toInt = 3 ∨ x2.toInt = 4 ∨ x2.toInt = 5 ∨ (x2.toInt < 0 ∨ 5 < x2.toInt) from by omega) with hsw | hsw | hsw | hsw | hsw | hsw | hsw
    · refine lv_tableIn (tgt := 52) (off := 38) hx hb dX8_told_14 (by rw [hsw]; decide) (by rw [hsw]; decide) (by rw [hsw]; decide) (by decide) ?_
      refine lv_aload_n hx hb dX8_told_52 rfl (lv_at hl 0 rfl) ?_
      refine va_get (D := (dC, dI)) (ci := 8) (v := .ref (a 4)) (C := RX8) (T := TX8) (N := 7) hx hb hts in8 hown hK hP 0 rfl rfl 2 (by decide) k30 (fun _ h9 => h9) rfl dX8_told_53 ?_
      refine va_get (D := (dC, dI)) (ci := 1) (v := .ref (a 15)) (C := RX1) (T := TX1) (N := 9) hx hb hts in1 hown hK hP 4 rfl rfl 3 (by decide) k118 (fun _ h9 => h9) rfl dX8_told_56 ?_
      refine lv_iload_n hx hb dX8_told_59 rfl (lv_at hl 1 rfl) ?_
      refine va_iald (D := (dC, dI)) (f := σ 15) hx hb hK hP 15 1 rfl rfl (i := x1) (n := 10) (zin (by omega) (by omega)) dX8_told_60 ?_
      refine lv_topi (fun v60 ev60 => ?_)
      have tv60 := congrArg Int32.toInt ev60
      have hpost : σ = σ ∧ True := by refine ⟨by first | rfl | (funext j; simp only [upC, upR]; (repeat' split) <;> first | rfl | (simp_all; done) | (congr 1; omega) | (exfalso; omega)), ?_⟩; trivial
      exact W.iret (v := v60) hx hb hr (fun t9 ht hW => ⟨⟨v60, σ, rfl, hpost, by rw [ht]; exact hP, va_K.moved hW.alike hK, hD⟩, hS.F ht⟩) hS.2.2 dX8_told_61
    · refine lv_tableIn (tgt := 62) (off := 48) hx hb dX8_told_14 (by rw [hsw]; decide) (by rw [hsw]; decide) (by rw [hsw]; decide) (by decide) ?_
      refine lv_aload_n hx hb dX8_told_62 rfl (lv_at hl 0 rfl) ?_
      refine va_get (D := (dC, dI)) (ci := 8) (v := .ref (a 4)) (C := RX8) (T := TX8) (N := 7) hx hb hts in8 hown hK hP 0 rfl rfl 2 (by decide) k30 (fun _ h9 => h9) rfl dX8_told_63 ?_
      refine va_get (D := (dC, dI)) (ci := 1) (v := .ref (a 16)) (C := RX1) (T := TX1) (N := 9) hx hb hts in1 hown hK hP 4 rfl rfl 4 (by decide) k112 (fun _ h9 => h9) rfl dX8_told_66 ?_
      refine lv_iload_n hx hb dX8_told_69 rfl (lv_at hl 1 rfl) ?_
      refine va_iald (D := (dC, dI)) (f := σ 16) hx hb hK hP 16 1 rfl rfl (i := x1) (n := 10) (zin (by omega) (by omega)) dX8_told_70 ?_
      refine lv_topi (fun v70 ev70 => ?_)
      have tv70 := congrArg Int32.toInt ev70
      have hpost : σ = σ ∧ True := by refine ⟨by first | rfl | (funext j; simp only [upC, upR]; (repeat' split) <;> first | rfl | (simp_all; done) | (congr 1; omega) | (exfalso; omega)), ?_⟩; trivial
      exact W.iret (v := v70) hx hb hr (fun t9 ht hW => ⟨⟨v70, σ, rfl, hpost, by rw [ht]; exact hP, va_K.moved hW.alike hK, hD⟩, hS.F ht⟩) hS.2.2 dX8_told_71
    · refine lv_tableIn (tgt := 72) (off := 58) hx hb dX8_told_14 (by rw [hsw]; decide) (by rw [hsw]; decide) (by rw [hsw]; decide) (by decide) ?_
      refine lv_aload_n hx hb dX8_told_72 rfl (lv_at hl 0 rfl) ?_
      refine va_get (D := (dC, dI)) (ci := 8) (v := .ref (a 4)) (C := RX8) (T := TX8) (N := 7) hx hb hts in8 hown hK hP 0 rfl rfl 2 (by decide) k30 (fun _ h9 => h9) rfl dX8_told_73 ?_
      refine va_get (D := (dC, dI)) (ci := 1) (v := .ref (a 17)) (C := RX1) (T := TX1) (N := 9) hx hb hts in1 hown hK hP 4 rfl rfl 5 (by decide) k115 (fun _ h9 => h9) rfl dX8_told_76 ?_
      refine lv_iload_n hx hb dX8_told_79 rfl (lv_at hl 1 rfl) ?_
      refine va_iald (D := (dC, dI)) (f := σ 17) hx hb hK hP 17 1 rfl rfl (i := x1) (n := 10) (zin (by omega) (by omega)) dX8_told_80 ?_
      refine lv_topi (fun v80 ev80 => ?_)
      have tv80 := congrArg Int32.toInt ev80
      have hpost : σ = σ ∧ True := by refine ⟨by first | rfl | (funext j; simp only [upC, upR]; (repeat' split) <;> first | rfl | (simp_all; done) | (congr 1; omega) | (exfalso; omega)), ?_⟩; trivial
      exact W.iret (v := v80) hx hb hr (fun t9 ht hW => ⟨⟨v80, σ, rfl, hpost, by rw [ht]; exact hP, va_K.moved hW.alike hK, hD⟩, hS.F ht⟩) hS.2.2 dX8_told_81
    · refine lv_tableIn (tgt := 82) (off := 68) hx hb dX8_told_14 (by rw [hsw]; decide) (by rw [hsw]; decide) (by rw [hsw]; decide) (by decide) ?_
      refine lv_aload_n hx hb dX8_told_82 rfl (lv_at hl 0 rfl) ?_
      refine va_get (D := (dC, dI)) (ci := 8) (v := .ref (a 4)) (C := RX8) (T := TX8) (N := 7) hx hb hts in8 hown hK hP 0 rfl rfl 2 (by decide) k30 (fun _ h9 => h9) rfl dX8_told_83 ?_
      refine va_get (D := (dC, dI)) (ci := 1) (v := .ref (a 18)) (C := RX1) (T := TX1) (N := 9) hx hb hts in1 hown hK hP 4 rfl rfl 6 (by decide) k121 (fun _ h9 => h9) rfl dX8_told_86 ?_
      refine lv_iload_n hx hb dX8_told_89 rfl (lv_at hl 1 rfl) ?_
      refine va_iald (D := (dC, dI)) (f := σ 18) hx hb hK hP 18 1 rfl rfl (i := x1) (n := 10) (zin (by omega) (by omega)) dX8_told_90 ?_
      refine lv_topi (fun v90 ev90 => ?_)
      have tv90 := congrArg Int32.toInt ev90
      have hpost : σ = σ ∧ True := by refine ⟨by first | rfl | (funext j; simp only [upC, upR]; (repeat' split) <;> first | rfl | (simp_all; done) | (congr 1; omega) | (exfalso; omega)), ?_⟩; trivial
      exact W.iret (v := v90) hx hb hr (fun t9 ht hW => ⟨⟨v90, σ, rfl, hpost, by rw [ht]; exact hP, va_K.moved hW.alike hK, hD⟩, hS.F ht⟩) hS.2.2 dX8_told_91
    · refine lv_tableIn (tgt := 92) (off := 78) hx hb dX8_told_14 (by rw [hsw]; decide) (by rw [hsw]; decide) (by rw [hsw]; decide) (by decide) ?_
      refine lv_aload_n hx hb dX8_told_92 rfl (lv_at hl 0 rfl) ?_
      refine va_get (D := (dC, dI)) (ci := 8) (v := .ref (a 4)) (C := RX8) (T := TX8) (N := 7) hx hb hts in8 hown hK hP 0 rfl rfl 2 (by decide) k30 (fun _ h9 => h9) rfl dX8_told_93 ?_
      refine va_get (D := (dC, dI)) (ci := 1) (v := .ref (a 19)) (C := RX1) (T := TX1) (N := 9) hx hb hts in1 hown hK hP 4 rfl rfl 7 (by decide) k124 (fun _ h9 => h9) rfl dX8_told_96 ?_
      refine lv_iload_n hx hb dX8_told_99 rfl (lv_at hl 1 rfl) ?_
      refine va_iald (D := (dC, dI)) (f := σ 19) hx hb hK hP 19 1 rfl rfl (i := x1) (n := 10) (zin (by omega) (by omega)) dX8_told_100 ?_
      refine lv_topi (fun v100 ev100 => ?_)
      have tv100 := congrArg Int32.toInt ev100
      have hpost : σ = σ ∧ True := by refine ⟨by first | rfl | (funext j; simp only [upC, upR]; (repeat' split) <;> first | rfl | (simp_all; done) | (congr 1; omega) | (exfalso; omega)), ?_⟩; trivial
      exact W.iret (v := v100) hx hb hr (fun t9 ht hW => ⟨⟨v100, σ, rfl, hpost, by rw [ht]; exact hP, va_K.moved hW.alike hK, hD⟩, hS.F ht⟩) hS.2.2 dX8_told_101
    · refine lv_tableIn (tgt := 102) (off := 88) hx hb dX8_told_14 (by rw [hsw]; decide) (by rw [hsw]; decide) (by rw [hsw]; decide) (by decide) ?_
      refine lv_aload_n hx hb dX8_told_102 rfl (lv_at hl 0 rfl) ?_
      refine va_get (D := (dC, dI)) (ci := 8) (v := .ref (a 4)) (C := RX8) (T := TX8) (N := 7) hx hb hts in8 hown hK hP 0 rfl rfl 2 (by decide) k30 (fun _ h9 => h9) rfl dX8_told_103 ?_
      refine lv_iload_n hx hb dX8_told_106 rfl (lv_at hl 1 rfl) ?_
      refine zcalli (va_runV (As := [.int x1]) (rest := []) ⟨hx, hb, hml, hown, hts⟩ (c_X1_wayOf l dC dI cB cI cS cII a N hok hn σ H.size (x1) h0 (by omega)) (cwV 1 hts gX8_told_X1_wayOf rfl rfl rfl (by decide +kernel) ⟨Nat.le_of_ble_eq_true rfl, Nat.le_of_ble_eq_true rfl⟩) (zpreV (wf := wX a cB cI cS cII) (q0 := 4) (ci := 1) hok hN hS hA hK hP hD rfl rfl) rfl rfl hl.1 rfl (lv_room (Nat.le_of_ble_eq_true rfl)) dX8_told_107 ⟨Nat.zero_le _, Nat.zero_le _⟩) hD hS hA (fun v107 σ1 H locs hv107 hP hD hS => ?_)
      obtain ⟨es9, hv107⟩ := hv107
      subst σ1
      have hpost : σ = σ ∧ True := by refine ⟨by first | rfl | (funext j; simp only [upC, upR]; (repeat' split) <;> first | rfl | (simp_all; done) | (congr 1; omega) | (exfalso; omega)), ?_⟩; trivial
      exact W.iret (v := v107) hx hb hr (fun t9 ht hW => ⟨⟨v107, σ, rfl, hpost, by rw [ht]; exact hP, va_K.moved hW.alike hK, hD⟩, hS.F ht⟩) hS.2.2 dX8_told_110
    · refine lv_tableOut (tgt := 111) hx hb dX8_told_14 hsw (by decide) ?_
      refine lv_iconst (v := (-1)) hx hb dX8_told_111 (by decide) ?_
      have hpost : σ = σ ∧ True := by refine ⟨by first | rfl | (funext j; simp only [upC, upR]; (repeat' split) <;> first | rfl | (simp_all; done) | (congr 1; omega) | (exfalso; omega)), ?_⟩; trivial
      exact W.iret (v := (-1)) hx hb hr (fun t9 ht hW => ⟨⟨(-1), σ, rfl, hpost, by rw [ht]; exact hP, va_K.moved hW.alike hK, hD⟩, hS.F ht⟩) hS.2.2 dX8_told_112
  · skip
    have ic8 := zeq (a := v5.toInt) (b := 0) rfl (by decide) c8
    replace hv5 := (hv5.resolve_left (fun q => by omega)).2
    refine lv_iconst (v := (-1)) hx hb dX8_told_11 (by decide) ?_
    have hpost : σ = σ ∧ True := by refine ⟨by first | rfl | (funext j; simp only [upC, upR]; (repeat' split) <;> first | rfl | (simp_all; done) | (congr 1; omega) | (exfalso; omega)), ?_⟩; trivial
    exact W.iret (v := (-1)) hx hb hr (fun t9 ht hW => ⟨⟨(-1), σ, rfl, hpost, by rw [ht]; exact hP, va_K.moved hW.alike hK, hD⟩, hS.F ht⟩) hS.2.2 dX8_told_12

abbrev RM_X8_way : Room := { frames := 4, cells := 0, slots := 0, locals := 88 }
set_option maxHeartbeats 4000000 in
set_option maxRecDepth 100000 in
theorem c_X8_way (l : Launch) (dC : Nat → ClassId) (dI : Nat → Nat → Nat) (cB cI cS cII : ClassId) (a : Nat → Nat) (N : (Nat → Prop) → State → Prop) (hok : zNok N) (hn : ∀ A U, N A U → zN U) (σ : Cn) (sz : Nat) (x1 : Int32) (x2 : Int32) (h0 : 0 ≤ (σ 4 1).toInt ∧ (σ 4 1).toInt ≤ 4) (h2 : 0 ≤ (σ 4 2).toInt ∧ (σ 4 2).toInt ≤ 10) : Met l yX8_way wsX8_way RM_X8_way (zPc (dC, dI) (zT cB cI cS cII) N (wX a cB cI cS cII) σ sz [.ref (a 0), .int x1, .int x2]) (zQi (dC, dI) (zT cB cI cS cII) (wX a cB cI cS cII) (va_A (wX a cB cI cS cII σ) sz) (fun (r : Int32) (σ1 : Cn) => σ1 = σ ∧ True)) 0 0 (va_A (wX a cB cI cS cII σ) sz) := by
  refine Met.ofW (cc := cX8_way) (maxL := 3) (ret := (some .int)) (by decide) rfl ?_
  intro p e s m args below meth c s₁ B hml hv
  obtain ⟨rfl, hsz, hP, hK, hD0, hN⟩ := hv
  have hx := B.exec
  have hb := B.bytes
  have hr := B.returns
  have hts := atoms_spec (ws := wsX8_way) B.pre
  have hown : s.vm.findClass RX8 = some m.cls := findClass_of_methodNamed B.named
  have hlocks := B.notSynchronized
  subst hsz
  have hD := hD0.self (sz := s.heap.size)
  generalize hAe : va_A (wX a cB cI cS cII σ) s.heap.size = A at hD hN ⊢
  have hA : ∀ q : Nat, s.heap.size ≤ q → A q := fun q h => by rw [← hAe]; exact Or.inr h
  clear hAe hD0
  have hS : va_S A s.heap s.heap [] := va_S.rf
  have in1 : ∀ w ∈ u_ws RX1 TX1 9, w ∈ wsX8_way := by decide +kernel
  have in8 : ∀ w ∈ u_ws RX8 TX8 7, w ∈ wsX8_way := by decide +kernel
  have k112 := hts (.fieldLink RX8 112 "HouseSorted$House" "low" "[I") (by decide +kernel)
  have k115 := hts (.fieldLink RX8 115 "HouseSorted$House" "high" "[I") (by decide +kernel)
  have k118 := hts (.fieldLink RX8 118 "HouseSorted$House" "weight" "[I") (by decide +kernel)
  have k30 := hts (.fieldLink RX8 30 "HouseSorted" "house" "LHouseSorted$House;") (by decide +kernel)
  have hl := lv_entry ([.ref (a 0), .int x1, .int x2]) (n := 3) (Nat.le_of_ble_eq_true rfl)
  rw [lg_entry_eq]
  generalize (lg_sl ([.ref (a 0), .int x1, .int x2]) ++ List.replicate (3 - (lg_sl ([.ref (a 0), .int x1, .int x2])).length) Slot.unset).toArray = ls at hl ⊢
  have hl : lv_has ls 3 [(0, .ref (a 0)), (1, .int x1), (2, .int x2)] := hl
  suffices main : ∀ (H : Heap) (locs : List Loc), va_P (dC, dI) vwCl (wX a cB cI cS cII σ) H → va_D A (wX a cB cI cS cII σ) → va_S A s.heap H locs → W p l e (headSpec wsX8_way RM_X8_way).room s m ([.ref (a 0), .int x1, .int x2] : List Value).toArray below meth c H locs 0 0 (MQ below (zQi (dC, dI) (zT cB cI cS cII) (wX a cB cI cS cII) A (fun (r : Int32) (σ1 : Cn) => σ1 = σ ∧ True)) ([.ref (a 0), .int x1, .int x2] : List Value).toArray s 0 0 A) (F0 m 0 ls []) from main s.heap [] hP hD hS
  intro H locs hP hD hS
  refine lv_iload_n hx hb dX8_way_0 rfl (lv_at hl 1 rfl) ?_
  refine lv_iconst (v := 0) hx hb dX8_way_1 (by decide) ?_
  refine lv_iconst (v := 4) hx hb dX8_way_2 (by decide) ?_
  refine zcalli (va_runS (As := [.int x1, .int 0, .int 4]) (rest := []) ⟨hx, hb, hml, hown, hts⟩ (c_X8_isWithin l dC dI cB cI cS cII a N hok hn σ H.size (x1) (0) (4) ) (va_cwS 3 hts gX8_way_X8_isWithin rfl rfl rfl (by decide +kernel) ⟨Nat.le_of_ble_eq_true rfl, Nat.le_of_ble_eq_true rfl⟩) (zpreS (wf := wX a cB cI cS cII) hok hN hS hA hK hP hD) rfl rfl hl.1 rfl (lv_room (Nat.le_of_ble_eq_true rfl)) dX8_way_3 ⟨Nat.zero_le _, Nat.zero_le _⟩) hD hS hA (fun v3 σ1 H locs hv3 hP hD hS => ?_)
  obtain ⟨es9, hv3⟩ := hv3
  subst σ1
  try simp only [show (0 : Int32).toInt = 0 from by decide, show (4 : Int32).toInt = 4 from by decide] at hv3
  refine lv_if_ne (tgt := 11) hx hb dX8_way_6 (by decide) (fun c6 => ?_) (fun c6 => ?_)
  · skip
    have ic6 := zneq (a := v3.toInt) (b := 0) rfl (by decide) c6
    refine lv_iload_n hx hb dX8_way_11 rfl (lv_at hl 2 rfl) ?_
    rcases (show x2.toInt = 0 ∨ x2.toInt = 1 ∨ x2.toInt = 2 ∨ x2.toInt = 3 ∨ (x2.toInt < 0 ∨ 3 < x2.toInt) from by omega) with hsw | hsw | hsw | hsw | hsw
    · refine lv_tableIn (tgt := 44) (off := 32) hx hb dX8_way_12 (by rw [hsw]; decide) (by rw [hsw]; decide) (by rw [hsw]; decide) (by decide) ?_
      refine lv_aload_n hx hb dX8_way_44 rfl (lv_at hl 0 rfl) ?_
      refine va_get (D := (dC, dI)) (ci := 8) (v := .ref (a 4)) (C := RX8) (T := TX8) (N := 7) hx hb hts in8 hown hK hP 0 rfl rfl 2 (by decide) k30 (fun _ h9 => h9) rfl dX8_way_45 ?_
      refine lv_iload_n hx hb dX8_way_48 rfl (lv_at hl 1 rfl) ?_
      refine zcalli (va_runV (As := [.int x1]) (rest := []) ⟨hx, hb, hml, hown, hts⟩ (c_X1_countOnWay l dC dI cB cI cS cII a N hok hn σ H.size (x1) h0 h2) (cwV 1 hts gX8_way_X1_countOnWay rfl rfl rfl (by decide +kernel) ⟨Nat.le_of_ble_eq_true rfl, Nat.le_of_ble_eq_true rfl⟩) (zpreV (wf := wX a cB cI cS cII) (q0 := 4) (ci := 1) hok hN hS hA hK hP hD rfl rfl) rfl rfl hl.1 rfl (lv_room (Nat.le_of_ble_eq_true rfl)) dX8_way_49 ⟨Nat.zero_le _, Nat.zero_le _⟩) hD hS hA (fun v49 σ1 H locs hv49 hP hD hS => ?_)
      obtain ⟨es9, hv49⟩ := hv49
      subst σ1
      have hpost : σ = σ ∧ True := by refine ⟨by first | rfl | (funext j; simp only [upC, upR]; (repeat' split) <;> first | rfl | (simp_all; done) | (congr 1; omega) | (exfalso; omega)), ?_⟩; trivial
      exact W.iret (v := v49) hx hb hr (fun t9 ht hW => ⟨⟨v49, σ, rfl, hpost, by rw [ht]; exact hP, va_K.moved hW.alike hK, hD⟩, hS.F ht⟩) hS.2.2 dX8_way_52
    · refine lv_tableIn (tgt := 53) (off := 41) hx hb dX8_way_12 (by rw [hsw]; decide) (by rw [hsw]; decide) (by rw [hsw]; decide) (by decide) ?_
      refine lv_aload_n hx hb dX8_way_53 rfl (lv_at hl 0 rfl) ?_
      refine va_get (D := (dC, dI)) (ci := 8) (v := .ref (a 4)) (C := RX8) (T := TX8) (N := 7) hx hb hts in8 hown hK hP 0 rfl rfl 2 (by decide) k30 (fun _ h9 => h9) rfl dX8_way_54 ?_
      refine lv_iload_n hx hb dX8_way_57 rfl (lv_at hl 1 rfl) ?_
      refine lv_aload_n hx hb dX8_way_58 rfl (lv_at hl 0 rfl) ?_
      refine va_get (D := (dC, dI)) (ci := 8) (v := .ref (a 4)) (C := RX8) (T := TX8) (N := 7) hx hb hts in8 hown hK hP 0 rfl rfl 2 (by decide) k30 (fun _ h9 => h9) rfl dX8_way_59 ?_
      refine va_get (D := (dC, dI)) (ci := 1) (v := .ref (a 15)) (C := RX1) (T := TX1) (N := 9) hx hb hts in1 hown hK hP 4 rfl rfl 3 (by decide) k118 (fun _ h9 => h9) rfl dX8_way_62 ?_
      refine zcalli (va_runV (As := [.int x1, .ref (a 15)]) (rest := []) ⟨hx, hb, hml, hown, hts⟩ (c_X1_sumOnWay_15 l dC dI cB cI cS cII a N hok hn σ H.size (x1) h0 h2) (cwV 2 hts gX8_way_X1_sumOnWay rfl rfl rfl (by decide +kernel) ⟨Nat.le_of_ble_eq_true rfl, Nat.le_of_ble_eq_true rfl⟩) (zpreV (wf := wX a cB cI cS cII) (q0 := 4) (ci := 1) hok hN hS hA hK hP hD rfl rfl) rfl rfl hl.1 rfl (lv_room (Nat.le_of_ble_eq_true rfl)) dX8_way_65 ⟨Nat.zero_le _, Nat.zero_le _⟩) hD hS hA (fun v65 σ1 H locs hv65 hP hD hS => ?_)
      obtain ⟨es9, hv65⟩ := hv65
      subst σ1
      have hpost : σ = σ ∧ True := by refine ⟨by first | rfl | (funext j; simp only [upC, upR]; (repeat' split) <;> first | rfl | (simp_all; done) | (congr 1; omega) | (exfalso; omega)), ?_⟩; trivial
      exact W.iret (v := v65) hx hb hr (fun t9 ht hW => ⟨⟨v65, σ, rfl, hpost, by rw [ht]; exact hP, va_K.moved hW.alike hK, hD⟩, hS.F ht⟩) hS.2.2 dX8_way_68
    · refine lv_tableIn (tgt := 69) (off := 57) hx hb dX8_way_12 (by rw [hsw]; decide) (by rw [hsw]; decide) (by rw [hsw]; decide) (by decide) ?_
      refine lv_aload_n hx hb dX8_way_69 rfl (lv_at hl 0 rfl) ?_
      refine va_get (D := (dC, dI)) (ci := 8) (v := .ref (a 4)) (C := RX8) (T := TX8) (N := 7) hx hb hts in8 hown hK hP 0 rfl rfl 2 (by decide) k30 (fun _ h9 => h9) rfl dX8_way_70 ?_
      refine lv_iload_n hx hb dX8_way_73 rfl (lv_at hl 1 rfl) ?_
      refine lv_aload_n hx hb dX8_way_74 rfl (lv_at hl 0 rfl) ?_
      refine va_get (D := (dC, dI)) (ci := 8) (v := .ref (a 4)) (C := RX8) (T := TX8) (N := 7) hx hb hts in8 hown hK hP 0 rfl rfl 2 (by decide) k30 (fun _ h9 => h9) rfl dX8_way_75 ?_
      refine va_get (D := (dC, dI)) (ci := 1) (v := .ref (a 16)) (C := RX1) (T := TX1) (N := 9) hx hb hts in1 hown hK hP 4 rfl rfl 4 (by decide) k112 (fun _ h9 => h9) rfl dX8_way_78 ?_
      refine zcalli (va_runV (As := [.int x1, .ref (a 16)]) (rest := []) ⟨hx, hb, hml, hown, hts⟩ (c_X1_sumOnWay_16 l dC dI cB cI cS cII a N hok hn σ H.size (x1) h0 h2) (cwV 2 hts gX8_way_X1_sumOnWay rfl rfl rfl (by decide +kernel) ⟨Nat.le_of_ble_eq_true rfl, Nat.le_of_ble_eq_true rfl⟩) (zpreV (wf := wX a cB cI cS cII) (q0 := 4) (ci := 1) hok hN hS hA hK hP hD rfl rfl) rfl rfl hl.1 rfl (lv_room (Nat.le_of_ble_eq_true rfl)) dX8_way_81 ⟨Nat.zero_le _, Nat.zero_le _⟩) hD hS hA (fun v81 σ1 H locs hv81 hP hD hS => ?_)
      obtain ⟨es9, hv81⟩ := hv81
      subst σ1
      have hpost : σ = σ ∧ True := by refine ⟨by first | rfl | (funext j; simp only [upC, upR]; (repeat' split) <;> first | rfl | (simp_all; done) | (congr 1; omega) | (exfalso; omega)), ?_⟩; trivial
      exact W.iret (v := v81) hx hb hr (fun t9 ht hW => ⟨⟨v81, σ, rfl, hpost, by rw [ht]; exact hP, va_K.moved hW.alike hK, hD⟩, hS.F ht⟩) hS.2.2 dX8_way_84
    · refine lv_tableIn (tgt := 85) (off := 73) hx hb dX8_way_12 (by rw [hsw]; decide) (by rw [hsw]; decide) (by rw [hsw]; decide) (by decide) ?_
      refine lv_aload_n hx hb dX8_way_85 rfl (lv_at hl 0 rfl) ?_
      refine va_get (D := (dC, dI)) (ci := 8) (v := .ref (a 4)) (C := RX8) (T := TX8) (N := 7) hx hb hts in8 hown hK hP 0 rfl rfl 2 (by decide) k30 (fun _ h9 => h9) rfl dX8_way_86 ?_
      refine lv_iload_n hx hb dX8_way_89 rfl (lv_at hl 1 rfl) ?_
      refine lv_aload_n hx hb dX8_way_90 rfl (lv_at hl 0 rfl) ?_
      refine va_get (D := (dC, dI)) (ci := 8) (v := .ref (a 4)) (C := RX8) (T := TX8) (N := 7) hx hb hts in8 hown hK hP 0 rfl rfl 2 (by decide) k30 (fun _ h9 => h9) rfl dX8_way_91 ?_
      refine va_get (D := (dC, dI)) (ci := 1) (v := .ref (a 17)) (C := RX1) (T := TX1) (N := 9) hx hb hts in1 hown hK hP 4 rfl rfl 5 (by decide) k115 (fun _ h9 => h9) rfl dX8_way_94 ?_
      refine zcalli (va_runV (As := [.int x1, .ref (a 17)]) (rest := []) ⟨hx, hb, hml, hown, hts⟩ (c_X1_sumOnWay_17 l dC dI cB cI cS cII a N hok hn σ H.size (x1) h0 h2) (cwV 2 hts gX8_way_X1_sumOnWay rfl rfl rfl (by decide +kernel) ⟨Nat.le_of_ble_eq_true rfl, Nat.le_of_ble_eq_true rfl⟩) (zpreV (wf := wX a cB cI cS cII) (q0 := 4) (ci := 1) hok hN hS hA hK hP hD rfl rfl) rfl rfl hl.1 rfl (lv_room (Nat.le_of_ble_eq_true rfl)) dX8_way_97 ⟨Nat.zero_le _, Nat.zero_le _⟩) hD hS hA (fun v97 σ1 H locs hv97 hP hD hS => ?_)
      obtain ⟨es9, hv97⟩ := hv97
      subst σ1
      have hpost : σ = σ ∧ True := by refine ⟨by first | rfl | (funext j; simp only [upC, upR]; (repeat' split) <;> first | rfl | (simp_all; done) | (congr 1; omega) | (exfalso; omega)), ?_⟩; trivial
      exact W.iret (v := v97) hx hb hr (fun t9 ht hW => ⟨⟨v97, σ, rfl, hpost, by rw [ht]; exact hP, va_K.moved hW.alike hK, hD⟩, hS.F ht⟩) hS.2.2 dX8_way_100
    · refine lv_tableOut (tgt := 101) hx hb dX8_way_12 hsw (by decide) ?_
      refine lv_iconst (v := (-1)) hx hb dX8_way_101 (by decide) ?_
      have hpost : σ = σ ∧ True := by refine ⟨by first | rfl | (funext j; simp only [upC, upR]; (repeat' split) <;> first | rfl | (simp_all; done) | (congr 1; omega) | (exfalso; omega)), ?_⟩; trivial
      exact W.iret (v := (-1)) hx hb hr (fun t9 ht hW => ⟨⟨(-1), σ, rfl, hpost, by rw [ht]; exact hP, va_K.moved hW.alike hK, hD⟩, hS.F ht⟩) hS.2.2 dX8_way_102
  · skip
    have ic6 := zeq (a := v3.toInt) (b := 0) rfl (by decide) c6
    refine lv_iconst (v := (-1)) hx hb dX8_way_9 (by decide) ?_
    have hpost : σ = σ ∧ True := by refine ⟨by first | rfl | (funext j; simp only [upC, upR]; (repeat' split) <;> first | rfl | (simp_all; done) | (congr 1; omega) | (exfalso; omega)), ?_⟩; trivial
    exact W.iret (v := (-1)) hx hb hr (fun t9 ht hW => ⟨⟨(-1), σ, rfl, hpost, by rw [ht]; exact hP, va_K.moved hW.alike hK, hD⟩, hS.F ht⟩) hS.2.2 dX8_way_10

abbrev RM_X8_asks : Room := { frames := 3, cells := 0, slots := 0, locals := 65 }
set_option maxHeartbeats 4000000 in
set_option maxRecDepth 100000 in
theorem c_X8_asks (l : Launch) (dC : Nat → ClassId) (dI : Nat → Nat → Nat) (cB cI cS cII : ClassId) (a : Nat → Nat) (N : (Nat → Prop) → State → Prop) (hok : zNok N) (hn : ∀ A U, N A U → zN U) (σ : Cn) (sz : Nat) (x1 : Int32) (h2 : 0 ≤ (σ 4 2).toInt ∧ (σ 4 2).toInt ≤ 10) : Met l yX8_asks wsX8_asks RM_X8_asks (zPc (dC, dI) (zT cB cI cS cII) N (wX a cB cI cS cII) σ sz [.ref (a 0), .int x1]) (zQi (dC, dI) (zT cB cI cS cII) (wX a cB cI cS cII) (va_A (wX a cB cI cS cII σ) sz) (fun (r : Int32) (σ1 : Cn) => σ1 = σ ∧ True)) 0 0 (va_A (wX a cB cI cS cII σ) sz) := by
  refine Met.ofW (cc := cX8_asks) (maxL := 2) (ret := (some .int)) (by decide) rfl ?_
  intro p e s m args below meth c s₁ B hml hv
  obtain ⟨rfl, hsz, hP, hK, hD0, hN⟩ := hv
  have hx := B.exec
  have hb := B.bytes
  have hr := B.returns
  have hts := atoms_spec (ws := wsX8_asks) B.pre
  have hown : s.vm.findClass RX8 = some m.cls := findClass_of_methodNamed B.named
  have hlocks := B.notSynchronized
  subst hsz
  have hD := hD0.self (sz := s.heap.size)
  generalize hAe : va_A (wX a cB cI cS cII σ) s.heap.size = A at hD hN ⊢
  have hA : ∀ q : Nat, s.heap.size ≤ q → A q := fun q h => by rw [← hAe]; exact Or.inr h
  clear hAe hD0
  have hS : va_S A s.heap s.heap [] := va_S.rf
  have in8 : ∀ w ∈ u_ws RX8 TX8 7, w ∈ wsX8_asks := by decide +kernel
  have k30 := hts (.fieldLink RX8 30 "HouseSorted" "house" "LHouseSorted$House;") (by decide +kernel)
  have hl := lv_entry ([.ref (a 0), .int x1]) (n := 2) (Nat.le_of_ble_eq_true rfl)
  rw [lg_entry_eq]
  generalize (lg_sl ([.ref (a 0), .int x1]) ++ List.replicate (2 - (lg_sl ([.ref (a 0), .int x1])).length) Slot.unset).toArray = ls at hl ⊢
  have hl : lv_has ls 2 [(0, .ref (a 0)), (1, .int x1)] := hl
  suffices main : ∀ (H : Heap) (locs : List Loc), va_P (dC, dI) vwCl (wX a cB cI cS cII σ) H → va_D A (wX a cB cI cS cII σ) → va_S A s.heap H locs → W p l e (headSpec wsX8_asks RM_X8_asks).room s m ([.ref (a 0), .int x1] : List Value).toArray below meth c H locs 0 0 (MQ below (zQi (dC, dI) (zT cB cI cS cII) (wX a cB cI cS cII) A (fun (r : Int32) (σ1 : Cn) => σ1 = σ ∧ True)) ([.ref (a 0), .int x1] : List Value).toArray s 0 0 A) (F0 m 0 ls []) from main s.heap [] hP hD hS
  intro H locs hP hD hS
  refine lv_aload_n hx hb dX8_asks_0 rfl (lv_at hl 0 rfl) ?_
  refine va_get (D := (dC, dI)) (ci := 8) (v := .ref (a 4)) (C := RX8) (T := TX8) (N := 7) hx hb hts in8 hown hK hP 0 rfl rfl 2 (by decide) k30 (fun _ h9 => h9) rfl dX8_asks_1 ?_
  refine lv_iload_n hx hb dX8_asks_4 rfl (lv_at hl 1 rfl) ?_
  refine zcalli (va_runV (As := [.int x1]) (rest := []) ⟨hx, hb, hml, hown, hts⟩ (c_X1_hasThing l dC dI cB cI cS cII a N hok hn σ H.size (x1) ) (cwV 1 hts gX8_asks_X1_hasThing rfl rfl rfl (by decide +kernel) ⟨Nat.le_of_ble_eq_true rfl, Nat.le_of_ble_eq_true rfl⟩) (zpreV (wf := wX a cB cI cS cII) (q0 := 4) (ci := 1) hok hN hS hA hK hP hD rfl rfl) rfl rfl hl.1 rfl (lv_room (Nat.le_of_ble_eq_true rfl)) dX8_asks_5 ⟨Nat.zero_le _, Nat.zero_le _⟩) hD hS hA (fun v5 σ1 H locs hv5 hP hD hS => ?_)
  obtain ⟨es9, hv5⟩ := hv5
  subst σ1
  refine lv_if_eq (tgt := 22) hx hb dX8_asks_8 (by decide) (fun c8 => ?_) (fun c8 => ?_)
  · skip
    have ic8 := zeq (a := v5.toInt) (b := 0) rfl (by decide) c8
    replace hv5 := (hv5.resolve_left (fun q => by omega)).2
    refine lv_iconst (v := (-1)) hx hb dX8_asks_22 (by decide) ?_
    have hpost : σ = σ ∧ True := by refine ⟨by first | rfl | (funext j; simp only [upC, upR]; (repeat' split) <;> first | rfl | (simp_all; done) | (congr 1; omega) | (exfalso; omega)), ?_⟩; trivial
    exact W.iret (v := (-1)) hx hb hr (fun t9 ht hW => ⟨⟨(-1), σ, rfl, hpost, by rw [ht]; exact hP, va_K.moved hW.alike hK, hD⟩, hS.F ht⟩) hS.2.2 dX8_asks_23
  · skip
    have ic8 := zneq (a := v5.toInt) (b := 0) rfl (by decide) c8
    replace hv5 := (hv5.resolve_right (fun q => by omega)).2
    refine lv_aload_n hx hb dX8_asks_11 rfl (lv_at hl 0 rfl) ?_
    refine va_get (D := (dC, dI)) (ci := 8) (v := .ref (a 4)) (C := RX8) (T := TX8) (N := 7) hx hb hts in8 hown hK hP 0 rfl rfl 2 (by decide) k30 (fun _ h9 => h9) rfl dX8_asks_12 ?_
    refine lv_iload_n hx hb dX8_asks_15 rfl (lv_at hl 1 rfl) ?_
    refine zcalli (va_runV (As := [.int x1]) (rest := []) ⟨hx, hb, hml, hown, hts⟩ (c_X1_secondLook l dC dI cB cI cS cII a N hok hn σ H.size (x1) (by omega)) (cwV 1 hts gX8_asks_X1_secondLook rfl rfl rfl (by decide +kernel) ⟨Nat.le_of_ble_eq_true rfl, Nat.le_of_ble_eq_true rfl⟩) (zpreV (wf := wX a cB cI cS cII) (q0 := 4) (ci := 1) hok hN hS hA hK hP hD rfl rfl) rfl rfl hl.1 rfl (lv_room (Nat.le_of_ble_eq_true rfl)) dX8_asks_16 ⟨Nat.zero_le _, Nat.zero_le _⟩) hD hS hA (fun v16 σ1 H locs hv16 hP hD hS => ?_)
    obtain ⟨es9, hv16⟩ := hv16
    subst σ1
    refine lv_goto (tgt := 23) hx hb dX8_asks_19 (by decide) ?_
    have hpost : σ = σ ∧ True := by refine ⟨by first | rfl | (funext j; simp only [upC, upR]; (repeat' split) <;> first | rfl | (simp_all; done) | (congr 1; omega) | (exfalso; omega)), ?_⟩; trivial
    exact W.iret (v := v16) hx hb hr (fun t9 ht hW => ⟨⟨v16, σ, rfl, hpost, by rw [ht]; exact hP, va_K.moved hW.alike hK, hD⟩, hS.F ht⟩) hS.2.2 dX8_asks_23

abbrev RM_X8_turns : Room := { frames := 4, cells := 0, slots := 0, locals := 97 }
set_option maxHeartbeats 4000000 in
set_option maxRecDepth 100000 in
theorem c_X8_turns (l : Launch) (dC : Nat → ClassId) (dI : Nat → Nat → Nat) (cB cI cS cII : ClassId) (a : Nat → Nat) (N : (Nat → Prop) → State → Prop) (hok : zNok N) (hn : ∀ A U, N A U → zN U) (σ : Cn) (sz : Nat) (x1 : Int32) (h0 : 0 ≤ (σ 4 1).toInt ∧ (σ 4 1).toInt ≤ 4) (h2 : 0 ≤ (σ 4 2).toInt ∧ (σ 4 2).toInt ≤ 10) : Met l yX8_turns wsX8_turns RM_X8_turns (zPc (dC, dI) (zT cB cI cS cII) N (wX a cB cI cS cII) σ sz [.ref (a 0), .int x1]) (zQi (dC, dI) (zT cB cI cS cII) (wX a cB cI cS cII) (va_A (wX a cB cI cS cII σ) sz) (fun (r : Int32) (σ1 : Cn) => ∃ u5 : Nat → Int32, ∃ u25 : Nat → Int32, ∃ u26 : Nat → Int32, σ1 = (upC (upC (upC σ 5 u5) 25 u25) 26 u26) ∧ True)) 0 0 (va_A (wX a cB cI cS cII σ) sz) := by
  refine Met.ofW (cc := cX8_turns) (maxL := 2) (ret := (some .int)) (by decide) rfl ?_
  intro p e s m args below meth c s₁ B hml hv
  obtain ⟨rfl, hsz, hP, hK, hD0, hN⟩ := hv
  have hx := B.exec
  have hb := B.bytes
  have hr := B.returns
  have hts := atoms_spec (ws := wsX8_turns) B.pre
  have hown : s.vm.findClass RX8 = some m.cls := findClass_of_methodNamed B.named
  have hlocks := B.notSynchronized
  subst hsz
  have hD := hD0.self (sz := s.heap.size)
  generalize hAe : va_A (wX a cB cI cS cII σ) s.heap.size = A at hD hN ⊢
  have hA : ∀ q : Nat, s.heap.size ≤ q → A q := fun q h => by rw [← hAe]; exact Or.inr h
  clear hAe hD0
  have hS : va_S A s.heap s.heap [] := va_S.rf
  have in1 : ∀ w ∈ u_ws RX1 TX1 9, w ∈ wsX8_turns := by decide +kernel
  have in8 : ∀ w ∈ u_ws RX8 TX8 7, w ∈ wsX8_turns := by decide +kernel
  have k30 := hts (.fieldLink RX8 30 "HouseSorted" "house" "LHouseSorted$House;") (by decide +kernel)
  have k39 := hts (.fieldLink RX8 39 "HouseSorted" "shares" "LHouseSorted$Sharing;") (by decide +kernel)
  have k91 := hts (.fieldLink RX8 91 "HouseSorted$House" "heirs" "I") (by decide +kernel)
  have hl := lv_entry ([.ref (a 0), .int x1]) (n := 2) (Nat.le_of_ble_eq_true rfl)
  rw [lg_entry_eq]
  generalize (lg_sl ([.ref (a 0), .int x1]) ++ List.replicate (2 - (lg_sl ([.ref (a 0), .int x1])).length) Slot.unset).toArray = ls at hl ⊢
  have hl : lv_has ls 2 [(0, .ref (a 0)), (1, .int x1)] := hl
  suffices main : ∀ (H : Heap) (locs : List Loc), va_P (dC, dI) vwCl (wX a cB cI cS cII σ) H → va_D A (wX a cB cI cS cII σ) → va_S A s.heap H locs → W p l e (headSpec wsX8_turns RM_X8_turns).room s m ([.ref (a 0), .int x1] : List Value).toArray below meth c H locs 0 0 (MQ below (zQi (dC, dI) (zT cB cI cS cII) (wX a cB cI cS cII) A (fun (r : Int32) (σ1 : Cn) => ∃ u5 : Nat → Int32, ∃ u25 : Nat → Int32, ∃ u26 : Nat → Int32, σ1 = (upC (upC (upC σ 5 u5) 25 u25) 26 u26) ∧ True)) ([.ref (a 0), .int x1] : List Value).toArray s 0 0 A) (F0 m 0 ls []) from main s.heap [] hP hD hS
  intro H locs hP hD hS
  refine lv_iload_n hx hb dX8_turns_0 rfl (lv_at hl 1 rfl) ?_
  refine zcalli (va_runS (As := [.int x1]) (rest := []) ⟨hx, hb, hml, hown, hts⟩ (c_X8_isRule l dC dI cB cI cS cII a N hok hn σ H.size (x1) ) (va_cwS 1 hts gX8_turns_X8_isRule rfl rfl rfl (by decide +kernel) ⟨Nat.le_of_ble_eq_true rfl, Nat.le_of_ble_eq_true rfl⟩) (zpreS (wf := wX a cB cI cS cII) hok hN hS hA hK hP hD) rfl rfl hl.1 rfl (lv_room (Nat.le_of_ble_eq_true rfl)) dX8_turns_1 ⟨Nat.zero_le _, Nat.zero_le _⟩) hD hS hA (fun v1 σ1 H locs hv1 hP hD hS => ?_)
  obtain ⟨es9, hv1⟩ := hv1
  subst σ1
  refine lv_if_ne (tgt := 9) hx hb dX8_turns_4 (by decide) (fun c4 => ?_) (fun c4 => ?_)
  · skip
    have ic4 := zneq (a := v1.toInt) (b := 0) rfl (by decide) c4
    refine lv_aload_n hx hb dX8_turns_9 rfl (lv_at hl 0 rfl) ?_
    refine va_get (D := (dC, dI)) (ci := 8) (v := .ref (a 4)) (C := RX8) (T := TX8) (N := 7) hx hb hts in8 hown hK hP 0 rfl rfl 2 (by decide) k30 (fun _ h9 => h9) rfl dX8_turns_10 ?_
    refine va_get (D := (dC, dI)) (ci := 1) (v := .int (σ 4 1)) (C := RX1) (T := TX1) (N := 9) hx hb hts in1 hown hK hP 4 rfl rfl 1 (by decide) k91 (fun _ h9 => h9) rfl dX8_turns_13 ?_
    refine lv_if_ne (tgt := 22) hx hb dX8_turns_16 (by decide) (fun c16 => ?_) (fun c16 => ?_)
    · skip
      have ic16 := zneq (a := (σ 4 1).toInt) (b := 0) rfl (by decide) c16
      refine lv_aload_n hx hb dX8_turns_22 rfl (lv_at hl 0 rfl) ?_
      refine va_get (D := (dC, dI)) (ci := 8) (v := .ref (a 5)) (C := RX8) (T := TX8) (N := 7) hx hb hts in8 hown hK hP 0 rfl rfl 3 (by decide) k39 (fun _ h9 => h9) rfl dX8_turns_23 ?_
      refine zcallv (va_runV (As := []) (rest := []) ⟨hx, hb, hml, hown, hts⟩ (c_X3_gather l dC dI cB cI cS cII a N hok hn σ H.size  h0 h2) (cwV 0 hts gX8_turns_X3_gather rfl rfl rfl (by decide +kernel) ⟨Nat.le_of_ble_eq_true rfl, Nat.le_of_ble_eq_true rfl⟩) (zpreV (wf := wX a cB cI cS cII) (q0 := 5) (ci := 3) hok hN hS hA hK hP hD rfl rfl) rfl rfl hl.1 rfl (lv_room (Nat.le_of_ble_eq_true rfl)) dX8_turns_26 ⟨Nat.zero_le _, Nat.zero_le _⟩) hD hS hA (fun σ1 H locs hv26 hP hD hS => ?_)
      obtain ⟨u5_26, u25_26, es9, hv26⟩ := hv26
      subst σ1
      have hP : va_P (dC, dI) vwCl (wX a cB cI cS cII (upC (upC σ 5 u5_26) 25 u25_26)) H := hP
      have hD : va_D A (wX a cB cI cS cII (upC (upC σ 5 u5_26) 25 u25_26)) := hD
      have hs : 0 ≤ (u5_26 2).toInt ∧ (u5_26 2).toInt ≤ 10 := by omega
      have hq : ∀ j : Nat, (j : Int) < (u5_26 2).toInt → 0 ≤ (u25_26 j).toInt ∧ (u25_26 j).toInt < 10 := fun j hj => by have q := hv26.2 j hj; omega
      refine lv_aload_n hx hb dX8_turns_29 rfl (lv_at hl 0 rfl) ?_
      refine va_get (D := (dC, dI)) (ci := 8) (v := .ref (a 5)) (C := RX8) (T := TX8) (N := 7) hx hb hts in8 hown hK hP 0 rfl rfl 3 (by decide) k39 (fun _ h9 => h9) rfl dX8_turns_30 ?_
      refine lv_iload_n hx hb dX8_turns_33 rfl (lv_at hl 1 rfl) ?_
      refine zcallv (va_runV (As := [.int x1]) (rest := []) ⟨hx, hb, hml, hown, hts⟩ (c_X3_takeTurns l dC dI cB cI cS cII a N hok hn (upC (upC σ 5 u5_26) 25 u25_26) H.size (x1) h0 hs hq) (cwV 1 hts gX8_turns_X3_takeTurns rfl rfl rfl (by decide +kernel) ⟨Nat.le_of_ble_eq_true rfl, Nat.le_of_ble_eq_true rfl⟩) (zpreV (wf := wX a cB cI cS cII) (q0 := 5) (ci := 3) hok hN hS hA hK hP hD rfl rfl) rfl rfl hl.1 rfl (lv_room (Nat.le_of_ble_eq_true rfl)) dX8_turns_34 ⟨Nat.zero_le _, Nat.zero_le _⟩) hD hS hA (fun σ1 H locs hv34 hP hD hS => ?_)
      obtain ⟨u26_34, es9, hv34⟩ := hv34
      subst σ1
      have hP : va_P (dC, dI) vwCl (wX a cB cI cS cII (upC (upC (upC σ 5 u5_26) 25 u25_26) 26 u26_34)) H := hP
      have hD : va_D A (wX a cB cI cS cII (upC (upC (upC σ 5 u5_26) 25 u25_26) 26 u26_34)) := hD
      refine lv_aload_n hx hb dX8_turns_37 rfl (lv_at hl 0 rfl) ?_
      refine va_get (D := (dC, dI)) (ci := 8) (v := .ref (a 5)) (C := RX8) (T := TX8) (N := 7) hx hb hts in8 hown hK hP 0 rfl rfl 3 (by decide) k39 (fun _ h9 => h9) rfl dX8_turns_38 ?_
      refine zcalli (va_runV (As := []) (rest := []) ⟨hx, hb, hml, hown, hts⟩ (c_X3_number l dC dI cB cI cS cII a N hok hn (upC (upC (upC σ 5 u5_26) 25 u25_26) 26 u26_34) H.size  hs) (cwV 0 hts gX8_turns_X3_number rfl rfl rfl (by decide +kernel) ⟨Nat.le_of_ble_eq_true rfl, Nat.le_of_ble_eq_true rfl⟩) (zpreV (wf := wX a cB cI cS cII) (q0 := 5) (ci := 3) hok hN hS hA hK hP hD rfl rfl) rfl rfl hl.1 rfl (lv_room (Nat.le_of_ble_eq_true rfl)) dX8_turns_41 ⟨Nat.zero_le _, Nat.zero_le _⟩) hD hS hA (fun v41 σ1 H locs hv41 hP hD hS => ?_)
      obtain ⟨es9, hv41⟩ := hv41
      subst σ1
      have hpost : ∃ u5 : Nat → Int32, ∃ u25 : Nat → Int32, ∃ u26 : Nat → Int32, (upC (upC (upC σ 5 u5_26) 25 u25_26) 26 u26_34) = (upC (upC (upC σ 5 u5) 25 u25) 26 u26) ∧ True := by refine ⟨(u5_26), (u25_26), (u26_34), by first | rfl | (funext j; simp only [upC, upR]; (repeat' split) <;> first | rfl | (simp_all; done) | (congr 1; omega) | (exfalso; omega)), ?_⟩; trivial
      exact W.iret (v := v41) hx hb hr (fun t9 ht hW => ⟨⟨v41, (upC (upC (upC σ 5 u5_26) 25 u25_26) 26 u26_34), rfl, hpost, by rw [ht]; exact hP, va_K.moved hW.alike hK, hD⟩, hS.F ht⟩) hS.2.2 dX8_turns_44
    · skip
      have ic16 := zeq (a := (σ 4 1).toInt) (b := 0) rfl (by decide) c16
      refine lv_bipush (v := (-2)) hx hb dX8_turns_19 (by decide) ?_
      have hpost : ∃ u5 : Nat → Int32, ∃ u25 : Nat → Int32, ∃ u26 : Nat → Int32, σ = (upC (upC (upC σ 5 u5) 25 u25) 26 u26) ∧ True := by refine ⟨(σ 5), (σ 25), (σ 26), by first | rfl | (funext j; simp only [upC, upR]; (repeat' split) <;> first | rfl | (simp_all; done) | (congr 1; omega) | (exfalso; omega)), ?_⟩; trivial
      exact W.iret (v := (-2)) hx hb hr (fun t9 ht hW => ⟨⟨(-2), σ, rfl, hpost, by rw [ht]; exact hP, va_K.moved hW.alike hK, hD⟩, hS.F ht⟩) hS.2.2 dX8_turns_21
  · skip
    have ic4 := zeq (a := v1.toInt) (b := 0) rfl (by decide) c4
    refine lv_iconst (v := (-1)) hx hb dX8_turns_7 (by decide) ?_
    have hpost : ∃ u5 : Nat → Int32, ∃ u25 : Nat → Int32, ∃ u26 : Nat → Int32, σ = (upC (upC (upC σ 5 u5) 25 u25) 26 u26) ∧ True := by refine ⟨(σ 5), (σ 25), (σ 26), by first | rfl | (funext j; simp only [upC, upR]; (repeat' split) <;> first | rfl | (simp_all; done) | (congr 1; omega) | (exfalso; omega)), ?_⟩; trivial
    exact W.iret (v := (-1)) hx hb hr (fun t9 ht hW => ⟨⟨(-1), σ, rfl, hpost, by rw [ht]; exact hP, va_K.moved hW.alike hK, hD⟩, hS.F ht⟩) hS.2.2 dX8_turns_8

abbrev RM_X8_lie : Room := { frames := 4, cells := 0, slots := 0, locals := 85 }
set_option maxHeartbeats 4000000 in
set_option maxRecDepth 100000 in
theorem c_X8_lie (l : Launch) (dC : Nat → ClassId) (dI : Nat → Nat → Nat) (cB cI cS cII : ClassId) (a : Nat → Nat) (N : (Nat → Prop) → State → Prop) (hok : zNok N) (hn : ∀ A U, N A U → zN U) (σ : Cn) (sz : Nat) (x1 : Int32) (x2 : Int32) (x3 : Int32) (x4 : Int32) (h0 : 0 ≤ (σ 4 1).toInt ∧ (σ 4 1).toInt ≤ 4) (h2 : 0 ≤ (σ 4 2).toInt ∧ (σ 4 2).toInt ≤ 10) : Met l yX8_lie wsX8_lie RM_X8_lie (zPc (dC, dI) (zT cB cI cS cII) N (wX a cB cI cS cII) σ sz [.ref (a 0), .int x1, .int x2, .int x3, .int x4]) (zQi (dC, dI) (zT cB cI cS cII) (wX a cB cI cS cII) (va_A (wX a cB cI cS cII σ) sz) (fun (r : Int32) (σ1 : Cn) => ∃ u5 : Nat → Int32, ∃ u25 : Nat → Int32, ∃ u26 : Nat → Int32, σ1 = (upC (upC (upC σ 5 u5) 25 u25) 26 u26) ∧ True)) 0 0 (va_A (wX a cB cI cS cII σ) sz) := by
  refine Met.ofW (cc := cX8_lie) (maxL := 5) (ret := (some .int)) (by decide) rfl ?_
  intro p e s m args below meth c s₁ B hml hv
  obtain ⟨rfl, hsz, hP, hK, hD0, hN⟩ := hv
  have hx := B.exec
  have hb := B.bytes
  have hr := B.returns
  have hts := atoms_spec (ws := wsX8_lie) B.pre
  have hown : s.vm.findClass RX8 = some m.cls := findClass_of_methodNamed B.named
  have hlocks := B.notSynchronized
  subst hsz
  have hD := hD0.self (sz := s.heap.size)
  generalize hAe : va_A (wX a cB cI cS cII σ) s.heap.size = A at hD hN ⊢
  have hA : ∀ q : Nat, s.heap.size ≤ q → A q := fun q h => by rw [← hAe]; exact Or.inr h
  clear hAe hD0
  have hS : va_S A s.heap s.heap [] := va_S.rf
  have in8 : ∀ w ∈ u_ws RX8 TX8 7, w ∈ wsX8_lie := by decide +kernel
  have k30 := hts (.fieldLink RX8 30 "HouseSorted" "house" "LHouseSorted$House;") (by decide +kernel)
  have k39 := hts (.fieldLink RX8 39 "HouseSorted" "shares" "LHouseSorted$Sharing;") (by decide +kernel)
  have hl := lv_entry ([.ref (a 0), .int x1, .int x2, .int x3, .int x4]) (n := 5) (Nat.le_of_ble_eq_true rfl)
  rw [lg_entry_eq]
  generalize (lg_sl ([.ref (a 0), .int x1, .int x2, .int x3, .int x4]) ++ List.replicate (5 - (lg_sl ([.ref (a 0), .int x1, .int x2, .int x3, .int x4])).length) Slot.unset).toArray = ls at hl ⊢
  have hl : lv_has ls 5 [(0, .ref (a 0)), (1, .int x1), (2, .int x2), (3, .int x3), (4, .int x4)] := hl
  suffices main : ∀ (H : Heap) (locs : List Loc), va_P (dC, dI) vwCl (wX a cB cI cS cII σ) H → va_D A (wX a cB cI cS cII σ) → va_S A s.heap H locs → W p l e (headSpec wsX8_lie RM_X8_lie).room s m ([.ref (a 0), .int x1, .int x2, .int x3, .int x4] : List Value).toArray below meth c H locs 0 0 (MQ below (zQi (dC, dI) (zT cB cI cS cII) (wX a cB cI cS cII) A (fun (r : Int32) (σ1 : Cn) => ∃ u5 : Nat → Int32, ∃ u25 : Nat → Int32, ∃ u26 : Nat → Int32, σ1 = (upC (upC (upC σ 5 u5) 25 u25) 26 u26) ∧ True)) ([.ref (a 0), .int x1, .int x2, .int x3, .int x4] : List Value).toArray s 0 0 A) (F0 m 0 ls []) from main s.heap [] hP hD hS
  intro H locs hP hD hS
  refine lv_iload_n hx hb dX8_lie_0 rfl (lv_at hl 1 rfl) ?_
  refine zcalli (va_runS (As := [.int x1]) (rest := []) ⟨hx, hb, hml, hown, hts⟩ (c_X8_isRule l dC dI cB cI cS cII a N hok hn σ H.size (x1) ) (va_cwS 1 hts gX8_lie_X8_isRule rfl rfl rfl (by decide +kernel) ⟨Nat.le_of_ble_eq_true rfl, Nat.le_of_ble_eq_true rfl⟩) (zpreS (wf := wX a cB cI cS cII) hok hN hS hA hK hP hD) rfl rfl hl.1 rfl (lv_room (Nat.le_of_ble_eq_true rfl)) dX8_lie_1 ⟨Nat.zero_le _, Nat.zero_le _⟩) hD hS hA (fun v1 σ1 H locs hv1 hP hD hS => ?_)
  obtain ⟨es9, hv1⟩ := hv1
  subst σ1
  refine lv_if_eq (tgt := 40) hx hb dX8_lie_4 (by decide) (fun c4 => ?_) (fun c4 => ?_)
  · skip
    have ic4 := zeq (a := v1.toInt) (b := 0) rfl (by decide) c4
    refine lv_iconst (v := (-1)) hx hb dX8_lie_40 (by decide) ?_
    have hpost : ∃ u5 : Nat → Int32, ∃ u25 : Nat → Int32, ∃ u26 : Nat → Int32, σ = (upC (upC (upC σ 5 u5) 25 u25) 26 u26) ∧ True := by refine ⟨(σ 5), (σ 25), (σ 26), by first | rfl | (funext j; simp only [upC, upR]; (repeat' split) <;> first | rfl | (simp_all; done) | (congr 1; omega) | (exfalso; omega)), ?_⟩; trivial
    exact W.iret (v := (-1)) hx hb hr (fun t9 ht hW => ⟨⟨(-1), σ, rfl, hpost, by rw [ht]; exact hP, va_K.moved hW.alike hK, hD⟩, hS.F ht⟩) hS.2.2 dX8_lie_41
  · skip
    have ic4 := zneq (a := v1.toInt) (b := 0) rfl (by decide) c4
    refine lv_aload_n hx hb dX8_lie_7 rfl (lv_at hl 0 rfl) ?_
    refine va_get (D := (dC, dI)) (ci := 8) (v := .ref (a 4)) (C := RX8) (T := TX8) (N := 7) hx hb hts in8 hown hK hP 0 rfl rfl 2 (by decide) k30 (fun _ h9 => h9) rfl dX8_lie_8 ?_
    refine lv_iload_n hx hb dX8_lie_11 rfl (lv_at hl 2 rfl) ?_
    refine zcalli (va_runV (As := [.int x2]) (rest := []) ⟨hx, hb, hml, hown, hts⟩ (c_X1_hasHeir l dC dI cB cI cS cII a N hok hn σ H.size (x2) ) (cwV 1 hts gX8_lie_X1_hasHeir rfl rfl rfl (by decide +kernel) ⟨Nat.le_of_ble_eq_true rfl, Nat.le_of_ble_eq_true rfl⟩) (zpreV (wf := wX a cB cI cS cII) (q0 := 4) (ci := 1) hok hN hS hA hK hP hD rfl rfl) rfl rfl hl.1 rfl (lv_room (Nat.le_of_ble_eq_true rfl)) dX8_lie_12 ⟨Nat.zero_le _, Nat.zero_le _⟩) hD hS hA (fun v12 σ1 H locs hv12 hP hD hS => ?_)
    obtain ⟨es9, hv12⟩ := hv12
    subst σ1
    refine lv_if_eq (tgt := 40) hx hb dX8_lie_15 (by decide) (fun c15 => ?_) (fun c15 => ?_)
    · skip
      have ic15 := zeq (a := v12.toInt) (b := 0) rfl (by decide) c15
      refine lv_iconst (v := (-1)) hx hb dX8_lie_40 (by decide) ?_
      have hpost : ∃ u5 : Nat → Int32, ∃ u25 : Nat → Int32, ∃ u26 : Nat → Int32, σ = (upC (upC (upC σ 5 u5) 25 u25) 26 u26) ∧ True := by refine ⟨(σ 5), (σ 25), (σ 26), by first | rfl | (funext j; simp only [upC, upR]; (repeat' split) <;> first | rfl | (simp_all; done) | (congr 1; omega) | (exfalso; omega)), ?_⟩; trivial
      exact W.iret (v := (-1)) hx hb hr (fun t9 ht hW => ⟨⟨(-1), σ, rfl, hpost, by rw [ht]; exact hP, va_K.moved hW.alike hK, hD⟩, hS.F ht⟩) hS.2.2 dX8_lie_41
    · skip
      have ic15 := zneq (a := v12.toInt) (b := 0) rfl (by decide) c15
      refine lv_aload_n hx hb dX8_lie_18 rfl (lv_at hl 0 rfl) ?_
      refine va_get (D := (dC, dI)) (ci := 8) (v := .ref (a 4)) (C := RX8) (T := TX8) (N := 7) hx hb hts in8 hown hK hP 0 rfl rfl 2 (by decide) k30 (fun _ h9 => h9) rfl dX8_lie_19 ?_
      refine lv_iload_n hx hb dX8_lie_22 rfl (lv_at hl 3 rfl) ?_
      refine zcalli (va_runV (As := [.int x3]) (rest := []) ⟨hx, hb, hml, hown, hts⟩ (c_X1_hasThing l dC dI cB cI cS cII a N hok hn σ H.size (x3) ) (cwV 1 hts gX8_lie_X1_hasThing rfl rfl rfl (by decide +kernel) ⟨Nat.le_of_ble_eq_true rfl, Nat.le_of_ble_eq_true rfl⟩) (zpreV (wf := wX a cB cI cS cII) (q0 := 4) (ci := 1) hok hN hS hA hK hP hD rfl rfl) rfl rfl hl.1 rfl (lv_room (Nat.le_of_ble_eq_true rfl)) dX8_lie_23 ⟨Nat.zero_le _, Nat.zero_le _⟩) hD hS hA (fun v23 σ1 H locs hv23 hP hD hS => ?_)
      obtain ⟨es9, hv23⟩ := hv23
      subst σ1
      refine lv_if_eq (tgt := 40) hx hb dX8_lie_26 (by decide) (fun c26 => ?_) (fun c26 => ?_)
      · skip
        have ic26 := zeq (a := v23.toInt) (b := 0) rfl (by decide) c26
        refine lv_iconst (v := (-1)) hx hb dX8_lie_40 (by decide) ?_
        have hpost : ∃ u5 : Nat → Int32, ∃ u25 : Nat → Int32, ∃ u26 : Nat → Int32, σ = (upC (upC (upC σ 5 u5) 25 u25) 26 u26) ∧ True := by refine ⟨(σ 5), (σ 25), (σ 26), by first | rfl | (funext j; simp only [upC, upR]; (repeat' split) <;> first | rfl | (simp_all; done) | (congr 1; omega) | (exfalso; omega)), ?_⟩; trivial
        exact W.iret (v := (-1)) hx hb hr (fun t9 ht hW => ⟨⟨(-1), σ, rfl, hpost, by rw [ht]; exact hP, va_K.moved hW.alike hK, hD⟩, hS.F ht⟩) hS.2.2 dX8_lie_41
      · skip
        have ic26 := zneq (a := v23.toInt) (b := 0) rfl (by decide) c26
        refine lv_iload hx hb dX8_lie_29 (lv_at hl 4 rfl) ?_
        refine lv_iconst (v := 0) hx hb dX8_lie_31 (by decide) ?_
        refine lv_bipush (v := 100) hx hb dX8_lie_32 (by decide) ?_
        refine zcalli (va_runS (As := [.int x4, .int 0, .int 100]) (rest := []) ⟨hx, hb, hml, hown, hts⟩ (c_X8_isWithin l dC dI cB cI cS cII a N hok hn σ H.size (x4) (0) (100) ) (va_cwS 3 hts gX8_lie_X8_isWithin rfl rfl rfl (by decide +kernel) ⟨Nat.le_of_ble_eq_true rfl, Nat.le_of_ble_eq_true rfl⟩) (zpreS (wf := wX a cB cI cS cII) hok hN hS hA hK hP hD) rfl rfl hl.1 rfl (lv_room (Nat.le_of_ble_eq_true rfl)) dX8_lie_34 ⟨Nat.zero_le _, Nat.zero_le _⟩) hD hS hA (fun v34 σ1 H locs hv34 hP hD hS => ?_)
        obtain ⟨es9, hv34⟩ := hv34
        subst σ1
        try simp only [show (0 : Int32).toInt = 0 from by decide, show (100 : Int32).toInt = 100 from by decide] at hv34
        refine lv_if_ne (tgt := 42) hx hb dX8_lie_37 (by decide) (fun c37 => ?_) (fun c37 => ?_)
        · skip
          have ic37 := zneq (a := v34.toInt) (b := 0) rfl (by decide) c37
          refine lv_aload_n hx hb dX8_lie_42 rfl (lv_at hl 0 rfl) ?_
          refine va_get (D := (dC, dI)) (ci := 8) (v := .ref (a 5)) (C := RX8) (T := TX8) (N := 7) hx hb hts in8 hown hK hP 0 rfl rfl 3 (by decide) k39 (fun _ h9 => h9) rfl dX8_lie_43 ?_
          refine zcallv (va_runV (As := []) (rest := []) ⟨hx, hb, hml, hown, hts⟩ (c_X3_gather l dC dI cB cI cS cII a N hok hn σ H.size  h0 h2) (cwV 0 hts gX8_lie_X3_gather rfl rfl rfl (by decide +kernel) ⟨Nat.le_of_ble_eq_true rfl, Nat.le_of_ble_eq_true rfl⟩) (zpreV (wf := wX a cB cI cS cII) (q0 := 5) (ci := 3) hok hN hS hA hK hP hD rfl rfl) rfl rfl hl.1 rfl (lv_room (Nat.le_of_ble_eq_true rfl)) dX8_lie_46 ⟨Nat.zero_le _, Nat.zero_le _⟩) hD hS hA (fun σ1 H locs hv46 hP hD hS => ?_)
          obtain ⟨u5_46, u25_46, es9, hv46⟩ := hv46
          subst σ1
          have hP : va_P (dC, dI) vwCl (wX a cB cI cS cII (upC (upC σ 5 u5_46) 25 u25_46)) H := hP
          have hD : va_D A (wX a cB cI cS cII (upC (upC σ 5 u5_46) 25 u25_46)) := hD
          have hs : 0 ≤ (u5_46 2).toInt ∧ (u5_46 2).toInt ≤ 10 := by omega
          have hq : ∀ j : Nat, (j : Int) < (u5_46 2).toInt → 0 ≤ (u25_46 j).toInt ∧ (u25_46 j).toInt < 10 := fun j hj => by have q := hv46.2 j hj; omega
          refine lv_aload_n hx hb dX8_lie_49 rfl (lv_at hl 0 rfl) ?_
          refine va_get (D := (dC, dI)) (ci := 8) (v := .ref (a 5)) (C := RX8) (T := TX8) (N := 7) hx hb hts in8 hown hK hP 0 rfl rfl 3 (by decide) k39 (fun _ h9 => h9) rfl dX8_lie_50 ?_
          refine lv_iload_n hx hb dX8_lie_53 rfl (lv_at hl 1 rfl) ?_
          refine lv_iload_n hx hb dX8_lie_54 rfl (lv_at hl 2 rfl) ?_
          refine lv_iload_n hx hb dX8_lie_55 rfl (lv_at hl 3 rfl) ?_
          refine lv_iload hx hb dX8_lie_56 (lv_at hl 4 rfl) ?_
          refine zcallv (va_runV (As := [.int x1, .int x2, .int x3, .int x4]) (rest := []) ⟨hx, hb, hml, hown, hts⟩ (c_X3_takeTurnsWithLie l dC dI cB cI cS cII a N hok hn (upC (upC σ 5 u5_46) 25 u25_46) H.size (x1) (x2) (x3) (x4) h0 hs hq) (cwV 4 hts gX8_lie_X3_takeTurnsWithLie rfl rfl rfl (by decide +kernel) ⟨Nat.le_of_ble_eq_true rfl, Nat.le_of_ble_eq_true rfl⟩) (zpreV (wf := wX a cB cI cS cII) (q0 := 5) (ci := 3) hok hN hS hA hK hP hD rfl rfl) rfl rfl hl.1 rfl (lv_room (Nat.le_of_ble_eq_true rfl)) dX8_lie_58 ⟨Nat.zero_le _, Nat.zero_le _⟩) hD hS hA (fun σ1 H locs hv58 hP hD hS => ?_)
          obtain ⟨u26_58, es9, hv58⟩ := hv58
          subst σ1
          have hP : va_P (dC, dI) vwCl (wX a cB cI cS cII (upC (upC (upC σ 5 u5_46) 25 u25_46) 26 u26_58)) H := hP
          have hD : va_D A (wX a cB cI cS cII (upC (upC (upC σ 5 u5_46) 25 u25_46) 26 u26_58)) := hD
          refine lv_aload_n hx hb dX8_lie_61 rfl (lv_at hl 0 rfl) ?_
          refine va_get (D := (dC, dI)) (ci := 8) (v := .ref (a 5)) (C := RX8) (T := TX8) (N := 7) hx hb hts in8 hown hK hP 0 rfl rfl 3 (by decide) k39 (fun _ h9 => h9) rfl dX8_lie_62 ?_
          refine zcalli (va_runV (As := []) (rest := []) ⟨hx, hb, hml, hown, hts⟩ (c_X3_number l dC dI cB cI cS cII a N hok hn (upC (upC (upC σ 5 u5_46) 25 u25_46) 26 u26_58) H.size  hs) (cwV 0 hts gX8_lie_X3_number rfl rfl rfl (by decide +kernel) ⟨Nat.le_of_ble_eq_true rfl, Nat.le_of_ble_eq_true rfl⟩) (zpreV (wf := wX a cB cI cS cII) (q0 := 5) (ci := 3) hok hN hS hA hK hP hD rfl rfl) rfl rfl hl.1 rfl (lv_room (Nat.le_of_ble_eq_true rfl)) dX8_lie_65 ⟨Nat.zero_le _, Nat.zero_le _⟩) hD hS hA (fun v65 σ1 H locs hv65 hP hD hS => ?_)
          obtain ⟨es9, hv65⟩ := hv65
          subst σ1
          have hpost : ∃ u5 : Nat → Int32, ∃ u25 : Nat → Int32, ∃ u26 : Nat → Int32, (upC (upC (upC σ 5 u5_46) 25 u25_46) 26 u26_58) = (upC (upC (upC σ 5 u5) 25 u25) 26 u26) ∧ True := by refine ⟨(u5_46), (u25_46), (u26_58), by first | rfl | (funext j; simp only [upC, upR]; (repeat' split) <;> first | rfl | (simp_all; done) | (congr 1; omega) | (exfalso; omega)), ?_⟩; trivial
          exact W.iret (v := v65) hx hb hr (fun t9 ht hW => ⟨⟨v65, (upC (upC (upC σ 5 u5_46) 25 u25_46) 26 u26_58), rfl, hpost, by rw [ht]; exact hP, va_K.moved hW.alike hK, hD⟩, hS.F ht⟩) hS.2.2 dX8_lie_68
        · skip
          have ic37 := zeq (a := v34.toInt) (b := 0) rfl (by decide) c37
          refine lv_iconst (v := (-1)) hx hb dX8_lie_40 (by decide) ?_
          have hpost : ∃ u5 : Nat → Int32, ∃ u25 : Nat → Int32, ∃ u26 : Nat → Int32, σ = (upC (upC (upC σ 5 u5) 25 u25) 26 u26) ∧ True := by refine ⟨(σ 5), (σ 25), (σ 26), by first | rfl | (funext j; simp only [upC, upR]; (repeat' split) <;> first | rfl | (simp_all; done) | (congr 1; omega) | (exfalso; omega)), ?_⟩; trivial
          exact W.iret (v := (-1)) hx hb hr (fun t9 ht hW => ⟨⟨(-1), σ, rfl, hpost, by rw [ht]; exact hP, va_K.moved hW.alike hK, hD⟩, hS.F ht⟩) hS.2.2 dX8_lie_41

abbrev RM_X8_gain : Room := { frames := 5, cells := 0, slots := 0, locals := 123 }
set_option maxHeartbeats 4000000 in
set_option maxRecDepth 100000 in
theorem c_X8_gain (l : Launch) (dC : Nat → ClassId) (dI : Nat → Nat → Nat) (cB cI cS cII : ClassId) (a : Nat → Nat) (N : (Nat → Prop) → State → Prop) (hok : zNok N) (hn : ∀ A U, N A U → zN U) (σ : Cn) (sz : Nat) (x1 : Int32) (x2 : Int32) (h0 : 0 ≤ (σ 4 1).toInt ∧ (σ 4 1).toInt ≤ 4) (h2 : 0 ≤ (σ 4 2).toInt ∧ (σ 4 2).toInt ≤ 10) : Met l yX8_gain wsX8_gain RM_X8_gain (zPc (dC, dI) (zT cB cI cS cII) N (wX a cB cI cS cII) σ sz [.ref (a 0), .int x1, .int x2]) (zQi (dC, dI) (zT cB cI cS cII) (wX a cB cI cS cII) (va_A (wX a cB cI cS cII σ) sz) (fun (r : Int32) (σ1 : Cn) => ∃ u5 : Nat → Int32, ∃ u25 : Nat → Int32, ∃ u26 : Nat → Int32, σ1 = (upC (upC (upC σ 5 u5) 25 u25) 26 u26) ∧ True)) 0 0 (va_A (wX a cB cI cS cII σ) sz) := by
  refine Met.ofW (cc := cX8_gain) (maxL := 3) (ret := (some .int)) (by decide) rfl ?_
  intro p e s m args below meth c s₁ B hml hv
  obtain ⟨rfl, hsz, hP, hK, hD0, hN⟩ := hv
  have hx := B.exec
  have hb := B.bytes
  have hr := B.returns
  have hts := atoms_spec (ws := wsX8_gain) B.pre
  have hown : s.vm.findClass RX8 = some m.cls := findClass_of_methodNamed B.named
  have hlocks := B.notSynchronized
  subst hsz
  have hD := hD0.self (sz := s.heap.size)
  generalize hAe : va_A (wX a cB cI cS cII σ) s.heap.size = A at hD hN ⊢
  have hA : ∀ q : Nat, s.heap.size ≤ q → A q := fun q h => by rw [← hAe]; exact Or.inr h
  clear hAe hD0
  have hS : va_S A s.heap s.heap [] := va_S.rf
  have in8 : ∀ w ∈ u_ws RX8 TX8 7, w ∈ wsX8_gain := by decide +kernel
  have k30 := hts (.fieldLink RX8 30 "HouseSorted" "house" "LHouseSorted$House;") (by decide +kernel)
  have k39 := hts (.fieldLink RX8 39 "HouseSorted" "shares" "LHouseSorted$Sharing;") (by decide +kernel)
  have hl := lv_entry ([.ref (a 0), .int x1, .int x2]) (n := 3) (Nat.le_of_ble_eq_true rfl)
  rw [lg_entry_eq]
  generalize (lg_sl ([.ref (a 0), .int x1, .int x2]) ++ List.replicate (3 - (lg_sl ([.ref (a 0), .int x1, .int x2])).length) Slot.unset).toArray = ls at hl ⊢
  have hl : lv_has ls 3 [(0, .ref (a 0)), (1, .int x1), (2, .int x2)] := hl
  suffices main : ∀ (H : Heap) (locs : List Loc), va_P (dC, dI) vwCl (wX a cB cI cS cII σ) H → va_D A (wX a cB cI cS cII σ) → va_S A s.heap H locs → W p l e (headSpec wsX8_gain RM_X8_gain).room s m ([.ref (a 0), .int x1, .int x2] : List Value).toArray below meth c H locs 0 0 (MQ below (zQi (dC, dI) (zT cB cI cS cII) (wX a cB cI cS cII) A (fun (r : Int32) (σ1 : Cn) => ∃ u5 : Nat → Int32, ∃ u25 : Nat → Int32, ∃ u26 : Nat → Int32, σ1 = (upC (upC (upC σ 5 u5) 25 u25) 26 u26) ∧ True)) ([.ref (a 0), .int x1, .int x2] : List Value).toArray s 0 0 A) (F0 m 0 ls []) from main s.heap [] hP hD hS
  intro H locs hP hD hS
  refine lv_iload_n hx hb dX8_gain_0 rfl (lv_at hl 1 rfl) ?_
  refine zcalli (va_runS (As := [.int x1]) (rest := []) ⟨hx, hb, hml, hown, hts⟩ (c_X8_isRule l dC dI cB cI cS cII a N hok hn σ H.size (x1) ) (va_cwS 1 hts gX8_gain_X8_isRule rfl rfl rfl (by decide +kernel) ⟨Nat.le_of_ble_eq_true rfl, Nat.le_of_ble_eq_true rfl⟩) (zpreS (wf := wX a cB cI cS cII) hok hN hS hA hK hP hD) rfl rfl hl.1 rfl (lv_room (Nat.le_of_ble_eq_true rfl)) dX8_gain_1 ⟨Nat.zero_le _, Nat.zero_le _⟩) hD hS hA (fun v1 σ1 H locs hv1 hP hD hS => ?_)
  obtain ⟨es9, hv1⟩ := hv1
  subst σ1
  refine lv_if_eq (tgt := 18) hx hb dX8_gain_4 (by decide) (fun c4 => ?_) (fun c4 => ?_)
  · skip
    have ic4 := zeq (a := v1.toInt) (b := 0) rfl (by decide) c4
    refine lv_iconst (v := (-1)) hx hb dX8_gain_18 (by decide) ?_
    have hpost : ∃ u5 : Nat → Int32, ∃ u25 : Nat → Int32, ∃ u26 : Nat → Int32, σ = (upC (upC (upC σ 5 u5) 25 u25) 26 u26) ∧ True := by refine ⟨(σ 5), (σ 25), (σ 26), by first | rfl | (funext j; simp only [upC, upR]; (repeat' split) <;> first | rfl | (simp_all; done) | (congr 1; omega) | (exfalso; omega)), ?_⟩; trivial
    exact W.iret (v := (-1)) hx hb hr (fun t9 ht hW => ⟨⟨(-1), σ, rfl, hpost, by rw [ht]; exact hP, va_K.moved hW.alike hK, hD⟩, hS.F ht⟩) hS.2.2 dX8_gain_19
  · skip
    have ic4 := zneq (a := v1.toInt) (b := 0) rfl (by decide) c4
    refine lv_aload_n hx hb dX8_gain_7 rfl (lv_at hl 0 rfl) ?_
    refine va_get (D := (dC, dI)) (ci := 8) (v := .ref (a 4)) (C := RX8) (T := TX8) (N := 7) hx hb hts in8 hown hK hP 0 rfl rfl 2 (by decide) k30 (fun _ h9 => h9) rfl dX8_gain_8 ?_
    refine lv_iload_n hx hb dX8_gain_11 rfl (lv_at hl 2 rfl) ?_
    refine zcalli (va_runV (As := [.int x2]) (rest := []) ⟨hx, hb, hml, hown, hts⟩ (c_X1_hasHeir l dC dI cB cI cS cII a N hok hn σ H.size (x2) ) (cwV 1 hts gX8_gain_X1_hasHeir rfl rfl rfl (by decide +kernel) ⟨Nat.le_of_ble_eq_true rfl, Nat.le_of_ble_eq_true rfl⟩) (zpreV (wf := wX a cB cI cS cII) (q0 := 4) (ci := 1) hok hN hS hA hK hP hD rfl rfl) rfl rfl hl.1 rfl (lv_room (Nat.le_of_ble_eq_true rfl)) dX8_gain_12 ⟨Nat.zero_le _, Nat.zero_le _⟩) hD hS hA (fun v12 σ1 H locs hv12 hP hD hS => ?_)
    obtain ⟨es9, hv12⟩ := hv12
    subst σ1
    refine lv_if_ne (tgt := 20) hx hb dX8_gain_15 (by decide) (fun c15 => ?_) (fun c15 => ?_)
    · skip
      have ic15 := zneq (a := v12.toInt) (b := 0) rfl (by decide) c15
      replace hv12 := (hv12.resolve_right (fun q => by omega)).2
      refine lv_aload_n hx hb dX8_gain_20 rfl (lv_at hl 0 rfl) ?_
      refine va_get (D := (dC, dI)) (ci := 8) (v := .ref (a 5)) (C := RX8) (T := TX8) (N := 7) hx hb hts in8 hown hK hP 0 rfl rfl 3 (by decide) k39 (fun _ h9 => h9) rfl dX8_gain_21 ?_
      refine zcallv (va_runV (As := []) (rest := []) ⟨hx, hb, hml, hown, hts⟩ (c_X3_gather l dC dI cB cI cS cII a N hok hn σ H.size  h0 h2) (cwV 0 hts gX8_gain_X3_gather rfl rfl rfl (by decide +kernel) ⟨Nat.le_of_ble_eq_true rfl, Nat.le_of_ble_eq_true rfl⟩) (zpreV (wf := wX a cB cI cS cII) (q0 := 5) (ci := 3) hok hN hS hA hK hP hD rfl rfl) rfl rfl hl.1 rfl (lv_room (Nat.le_of_ble_eq_true rfl)) dX8_gain_24 ⟨Nat.zero_le _, Nat.zero_le _⟩) hD hS hA (fun σ1 H locs hv24 hP hD hS => ?_)
      obtain ⟨u5_24, u25_24, es9, hv24⟩ := hv24
      subst σ1
      have hP : va_P (dC, dI) vwCl (wX a cB cI cS cII (upC (upC σ 5 u5_24) 25 u25_24)) H := hP
      have hD : va_D A (wX a cB cI cS cII (upC (upC σ 5 u5_24) 25 u25_24)) := hD
      have hs : 0 ≤ (u5_24 2).toInt ∧ (u5_24 2).toInt ≤ 10 := by omega
      have hq : ∀ j : Nat, (j : Int) < (u5_24 2).toInt → 0 ≤ (u25_24 j).toInt ∧ (u25_24 j).toInt < 10 := fun j hj => by have q := hv24.2 j hj; omega
      refine lv_aload_n hx hb dX8_gain_27 rfl (lv_at hl 0 rfl) ?_
      refine va_get (D := (dC, dI)) (ci := 8) (v := .ref (a 5)) (C := RX8) (T := TX8) (N := 7) hx hb hts in8 hown hK hP 0 rfl rfl 3 (by decide) k39 (fun _ h9 => h9) rfl dX8_gain_28 ?_
      refine lv_iload_n hx hb dX8_gain_31 rfl (lv_at hl 1 rfl) ?_
      refine lv_iload_n hx hb dX8_gain_32 rfl (lv_at hl 2 rfl) ?_
      refine zcalli (va_runV (As := [.int x1, .int x2]) (rest := []) ⟨hx, hb, hml, hown, hts⟩ (c_X3_mostByLying l dC dI cB cI cS cII a N hok hn (upC (upC σ 5 u5_24) 25 u25_24) H.size (x1) (x2) h0 (by omega) hs hq) (cwV 2 hts gX8_gain_X3_mostByLying rfl rfl rfl (by decide +kernel) ⟨Nat.le_of_ble_eq_true rfl, Nat.le_of_ble_eq_true rfl⟩) (zpreV (wf := wX a cB cI cS cII) (q0 := 5) (ci := 3) hok hN hS hA hK hP hD rfl rfl) rfl rfl hl.1 rfl (lv_room (Nat.le_of_ble_eq_true rfl)) dX8_gain_33 ⟨Nat.zero_le _, Nat.zero_le _⟩) hD hS hA (fun v33 σ1 H locs hv33 hP hD hS => ?_)
      obtain ⟨u26_33, es9, hv33⟩ := hv33
      subst σ1
      have hP : va_P (dC, dI) vwCl (wX a cB cI cS cII (upC (upC (upC σ 5 u5_24) 25 u25_24) 26 u26_33)) H := hP
      have hD : va_D A (wX a cB cI cS cII (upC (upC (upC σ 5 u5_24) 25 u25_24) 26 u26_33)) := hD
      have hpost : ∃ u5 : Nat → Int32, ∃ u25 : Nat → Int32, ∃ u26 : Nat → Int32, (upC (upC (upC σ 5 u5_24) 25 u25_24) 26 u26_33) = (upC (upC (upC σ 5 u5) 25 u25) 26 u26) ∧ True := by refine ⟨(u5_24), (u25_24), (u26_33), by first | rfl | (funext j; simp only [upC, upR]; (repeat' split) <;> first | rfl | (simp_all; done) | (congr 1; omega) | (exfalso; omega)), ?_⟩; trivial
      exact W.iret (v := v33) hx hb hr (fun t9 ht hW => ⟨⟨v33, (upC (upC (upC σ 5 u5_24) 25 u25_24) 26 u26_33), rfl, hpost, by rw [ht]; exact hP, va_K.moved hW.alike hK, hD⟩, hS.F ht⟩) hS.2.2 dX8_gain_36
    · skip
      have ic15 := zeq (a := v12.toInt) (b := 0) rfl (by decide) c15
      replace hv12 := (hv12.resolve_left (fun q => by omega)).2
      refine lv_iconst (v := (-1)) hx hb dX8_gain_18 (by decide) ?_
      have hpost : ∃ u5 : Nat → Int32, ∃ u25 : Nat → Int32, ∃ u26 : Nat → Int32, σ = (upC (upC (upC σ 5 u5) 25 u25) 26 u26) ∧ True := by refine ⟨(σ 5), (σ 25), (σ 26), by first | rfl | (funext j; simp only [upC, upR]; (repeat' split) <;> first | rfl | (simp_all; done) | (congr 1; omega) | (exfalso; omega)), ?_⟩; trivial
      exact W.iret (v := (-1)) hx hb hr (fun t9 ht hW => ⟨⟨(-1), σ, rfl, hpost, by rw [ht]; exact hP, va_K.moved hW.alike hK, hD⟩, hS.F ht⟩) hS.2.2 dX8_gain_19

