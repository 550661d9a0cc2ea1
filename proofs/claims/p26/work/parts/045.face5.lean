abbrev RM_X8_worths : Room := { frames := 2, cells := 0, slots := 0, locals := 46 }
set_option maxHeartbeats 4000000 in
set_option maxRecDepth 100000 in
theorem c_X8_worths (l : Launch) (dC : Nat → ClassId) (dI : Nat → Nat → Nat) (cB cI cS cII : ClassId) (a : Nat → Nat) (N : (Nat → Prop) → State → Prop) (hok : zNok N) (hn : ∀ A U, N A U → zN U) (σ : Cn) (sz : Nat) (x1 : Int32) (x2 : Int32) (x3 : Int32) (x4 : Int32) (h0 : 0 ≤ (σ 4 1).toInt ∧ (σ 4 1).toInt ≤ 4) (h2 : 0 ≤ (σ 4 2).toInt ∧ (σ 4 2).toInt ≤ 10) (hz : (0 ≤ (σ 8 1).toInt ∧ (σ 8 1).toInt ≤ 60) ∧ (0 ≤ (σ 9 1).toInt ∧ (σ 9 1).toInt ≤ 60) ∧ (0 ≤ (σ 10 1).toInt ∧ (σ 10 1).toInt ≤ 60) ∧ (0 ≤ (σ 11 1).toInt ∧ (σ 11 1).toInt ≤ 60)) : Met l yX8_worths wsX8_worths RM_X8_worths (zPc (dC, dI) (zT cB cI cS cII) N (wX a cB cI cS cII) σ sz [.ref (a 0), .int x1, .int x2, .int x3, .int x4]) (zQi (dC, dI) (zT cB cI cS cII) (wX a cB cI cS cII) (va_A (wX a cB cI cS cII σ) sz) (fun (r : Int32) (σ1 : Cn) => ∃ u21 : Nat → Nat → Int32, σ1 = (upR σ 21 4 u21) ∧ True)) 0 0 (va_A (wX a cB cI cS cII σ) sz) := by
  refine Met.ofW (cc := cX8_worths) (maxL := 6) (ret := (some .int)) (by decide) rfl ?_
  intro p e s m args below meth c s₁ B hml hv
  obtain ⟨rfl, hsz, hP, hK, hD0, hN⟩ := hv
  have hx := B.exec
  have hb := B.bytes
  have hr := B.returns
  have hts := atoms_spec (ws := wsX8_worths) B.pre
  have hown : s.vm.findClass RX8 = some m.cls := findClass_of_methodNamed B.named
  have hlocks := B.notSynchronized
  subst hsz
  have hD := hD0.self (sz := s.heap.size)
  generalize hAe : va_A (wX a cB cI cS cII σ) s.heap.size = A at hD hN ⊢
  have hA : ∀ q : Nat, s.heap.size ≤ q → A q := fun q h => by rw [← hAe]; exact Or.inr h
  clear hAe hD0
  have hS : va_S A s.heap s.heap [] := va_S.rf
  have in1 : ∀ w ∈ u_ws RX1 TX1 9, w ∈ wsX8_worths := by decide +kernel
  have in8 : ∀ w ∈ u_ws RX8 TX8 7, w ∈ wsX8_worths := by decide +kernel
  have k30 := hts (.fieldLink RX8 30 "HouseSorted" "house" "LHouseSorted$House;") (by decide +kernel)
  have k63 := hts (.fieldLink RX8 63 "HouseSorted" "sheets" "[LHouseSorted$Sheet;") (by decide +kernel)
  have k94 := hts (.fieldLink RX8 94 "HouseSorted$House" "things" "I") (by decide +kernel)
  have hl := lv_entry ([.ref (a 0), .int x1, .int x2, .int x3, .int x4]) (n := 6) (Nat.le_of_ble_eq_true rfl)
  rw [lg_entry_eq]
  generalize (lg_sl ([.ref (a 0), .int x1, .int x2, .int x3, .int x4]) ++ List.replicate (6 - (lg_sl ([.ref (a 0), .int x1, .int x2, .int x3, .int x4])).length) Slot.unset).toArray = ls at hl ⊢
  have hl : lv_has ls 6 [(0, .ref (a 0)), (1, .int x1), (2, .int x2), (3, .int x3), (4, .int x4)] := hl
  suffices main : ∀ (H : Heap) (locs : List Loc), va_P (dC, dI) vwCl (wX a cB cI cS cII σ) H → va_D A (wX a cB cI cS cII σ) → va_S A s.heap H locs → W p l e (headSpec wsX8_worths RM_X8_worths).room s m ([.ref (a 0), .int x1, .int x2, .int x3, .int x4] : List Value).toArray below meth c H locs 0 0 (MQ below (zQi (dC, dI) (zT cB cI cS cII) (wX a cB cI cS cII) A (fun (r : Int32) (σ1 : Cn) => ∃ u21 : Nat → Nat → Int32, σ1 = (upR σ 21 4 u21) ∧ True)) ([.ref (a 0), .int x1, .int x2, .int x3, .int x4] : List Value).toArray s 0 0 A) (F0 m 0 ls []) from main s.heap [] hP hD hS
  intro H locs hP hD hS
  refine lv_aload_n hx hb dX8_worths_0 rfl (lv_at hl 0 rfl) ?_
  refine va_get (D := (dC, dI)) (ci := 8) (v := .ref (a 4)) (C := RX8) (T := TX8) (N := 7) hx hb hts in8 hown hK hP 0 rfl rfl 2 (by decide) k30 (fun _ h9 => h9) rfl dX8_worths_1 ?_
  refine lv_iload_n hx hb dX8_worths_4 rfl (lv_at hl 1 rfl) ?_
  refine zcalli (va_runV (As := [.int x1]) (rest := []) ⟨hx, hb, hml, hown, hts⟩ (c_X1_hasHeir l dC dI cB cI cS cII a N hok hn σ H.size (x1) ) (cwV 1 hts gX8_worths_X1_hasHeir rfl rfl rfl (by decide +kernel) ⟨Nat.le_of_ble_eq_true rfl, Nat.le_of_ble_eq_true rfl⟩) (zpreV (wf := wX a cB cI cS cII) (q0 := 4) (ci := 1) hok hN hS hA hK hP hD rfl rfl) rfl rfl hl.1 rfl (lv_room (Nat.le_of_ble_eq_true rfl)) dX8_worths_5 ⟨Nat.zero_le _, Nat.zero_le _⟩) hD hS hA (fun v5 σ1 H locs hv5 hP hD hS => ?_)
  obtain ⟨es9, hv5⟩ := hv5
  subst σ1
  refine lv_if_eq (tgt := 27) hx hb dX8_worths_8 (by decide) (fun c8 => ?_) (fun c8 => ?_)
  · skip
    have ic8 := zeq (a := v5.toInt) (b := 0) rfl (by decide) c8
    replace hv5 := (hv5.resolve_left (fun q => by omega)).2
    refine lv_iconst (v := (-1)) hx hb dX8_worths_27 (by decide) ?_
    have hpost : ∃ u21 : Nat → Nat → Int32, σ = (upR σ 21 4 u21) ∧ True := by refine ⟨(fun i => σ (21 + i)), by first | rfl | (funext j; simp only [upC, upR]; (repeat' split) <;> first | rfl | (simp_all; done) | (congr 1; omega) | (exfalso; omega)), ?_⟩; trivial
    exact W.iret (v := (-1)) hx hb hr (fun t9 ht hW => ⟨⟨(-1), σ, rfl, hpost, by rw [ht]; exact hP, va_K.moved hW.alike hK, hD⟩, hS.F ht⟩) hS.2.2 dX8_worths_28
  · skip
    have ic8 := zneq (a := v5.toInt) (b := 0) rfl (by decide) c8
    replace hv5 := (hv5.resolve_right (fun q => by omega)).2
    refine lv_iload_n hx hb dX8_worths_11 rfl (lv_at hl 2 rfl) ?_
    refine lv_iconst (v := 0) hx hb dX8_worths_12 (by decide) ?_
    refine lv_iconst (v := 3) hx hb dX8_worths_13 (by decide) ?_
    refine zcalli (va_runS (As := [.int x2, .int 0, .int 3]) (rest := []) ⟨hx, hb, hml, hown, hts⟩ (c_X8_isWithin l dC dI cB cI cS cII a N hok hn σ H.size (x2) (0) (3) ) (va_cwS 3 hts gX8_worths_X8_isWithin rfl rfl rfl (by decide +kernel) ⟨Nat.le_of_ble_eq_true rfl, Nat.le_of_ble_eq_true rfl⟩) (zpreS (wf := wX a cB cI cS cII) hok hN hS hA hK hP hD) rfl rfl hl.1 rfl (lv_room (Nat.le_of_ble_eq_true rfl)) dX8_worths_14 ⟨Nat.zero_le _, Nat.zero_le _⟩) hD hS hA (fun v14 σ1 H locs hv14 hP hD hS => ?_)
    obtain ⟨es9, hv14⟩ := hv14
    subst σ1
    try simp only [show (0 : Int32).toInt = 0 from by decide, show (3 : Int32).toInt = 3 from by decide] at hv14
    refine lv_if_eq (tgt := 27) hx hb dX8_worths_17 (by decide) (fun c17 => ?_) (fun c17 => ?_)
    · skip
      have ic17 := zeq (a := v14.toInt) (b := 0) rfl (by decide) c17
      replace hv14 := (hv14.resolve_left (fun q => by omega)).2
      refine lv_iconst (v := (-1)) hx hb dX8_worths_27 (by decide) ?_
      have hpost : ∃ u21 : Nat → Nat → Int32, σ = (upR σ 21 4 u21) ∧ True := by refine ⟨(fun i => σ (21 + i)), by first | rfl | (funext j; simp only [upC, upR]; (repeat' split) <;> first | rfl | (simp_all; done) | (congr 1; omega) | (exfalso; omega)), ?_⟩; trivial
      exact W.iret (v := (-1)) hx hb hr (fun t9 ht hW => ⟨⟨(-1), σ, rfl, hpost, by rw [ht]; exact hP, va_K.moved hW.alike hK, hD⟩, hS.F ht⟩) hS.2.2 dX8_worths_28
    · skip
      have ic17 := zneq (a := v14.toInt) (b := 0) rfl (by decide) c17
      replace hv14 := (hv14.resolve_right (fun q => by omega)).2
      refine lv_iload_n hx hb dX8_worths_20 rfl (lv_at hl 3 rfl) ?_
      refine zcalli (va_runS (As := [.int x3]) (rest := []) ⟨hx, hb, hml, hown, hts⟩ (c_X8_isLane l dC dI cB cI cS cII a N hok hn σ H.size (x3) ) (va_cwS 1 hts gX8_worths_X8_isLane rfl rfl rfl (by decide +kernel) ⟨Nat.le_of_ble_eq_true rfl, Nat.le_of_ble_eq_true rfl⟩) (zpreS (wf := wX a cB cI cS cII) hok hN hS hA hK hP hD) rfl rfl hl.1 rfl (lv_room (Nat.le_of_ble_eq_true rfl)) dX8_worths_21 ⟨Nat.zero_le _, Nat.zero_le _⟩) hD hS hA (fun v21 σ1 H locs hv21 hP hD hS => ?_)
      obtain ⟨es9, hv21⟩ := hv21
      subst σ1
      refine lv_if_ne (tgt := 29) hx hb dX8_worths_24 (by decide) (fun c24 => ?_) (fun c24 => ?_)
      · skip
        have ic24 := zneq (a := v21.toInt) (b := 0) rfl (by decide) c24
        replace hv21 := (hv21.resolve_right (fun q => by omega)).2
        refine lv_aload_n hx hb dX8_worths_29 rfl (lv_at hl 0 rfl) ?_
        refine va_get (D := (dC, dI)) (ci := 8) (v := .ref (a 37)) (C := RX8) (T := TX8) (N := 7) hx hb hts in8 hown hK hP 0 rfl rfl 6 (by decide) k63 (fun _ h9 => h9) rfl dX8_worths_30 ?_
        refine lv_iload_n hx hb dX8_worths_33 rfl (lv_at hl 2 rfl) ?_
        rcases (show x2.toInt = 0 ∨ x2.toInt = 1 ∨ x2.toInt = 2 ∨ x2.toInt = 3 from by omega) with q34 | q34 | q34 | q34
        · have hc34 : (x2).toNatClampNeg = 0 := by have h9 := zcl (x := x2) (by omega); omega
          refine zaldO hx hb hK hP 37 2 rfl rfl (i := x2) (n := 4) (zin (by omega) (by omega)) (b := a 8) (by rw [hc34]; rfl) dX8_worths_34 ?_
          refine lv_iload_n hx hb dX8_worths_35 rfl (lv_at hl 3 rfl) ?_
          refine lv_iload hx hb dX8_worths_36 (lv_at hl 4 rfl) ?_
          refine lv_aload_n hx hb dX8_worths_38 rfl (lv_at hl 0 rfl) ?_
          refine va_get (D := (dC, dI)) (ci := 8) (v := .ref (a 4)) (C := RX8) (T := TX8) (N := 7) hx hb hts in8 hown hK hP 0 rfl rfl 2 (by decide) k30 (fun _ h9 => h9) rfl dX8_worths_39 ?_
          refine va_get (D := (dC, dI)) (ci := 1) (v := .int (σ 4 2)) (C := RX1) (T := TX1) (N := 9) hx hb hts in1 hown hK hP 4 rfl rfl 2 (by decide) k94 (fun _ h9 => h9) rfl dX8_worths_42 ?_
          refine zcalli (va_runV (As := [.int x3, .int x4, .int (σ 4 2)]) (rest := []) ⟨hx, hb, hml, hown, hts⟩ (c_X4_refusal_8 l dC dI cB cI cS cII a N hok hn σ H.size (x3) (x4) (σ 4 2) (by omega) (by omega)) (cwV 3 hts gX8_worths_X4_refusal rfl rfl rfl (by decide +kernel) ⟨Nat.le_of_ble_eq_true rfl, Nat.le_of_ble_eq_true rfl⟩) (zpreV (wf := wX a cB cI cS cII) (q0 := 8) (ci := 4) hok hN hS hA hK hP hD rfl rfl) rfl rfl hl.1 rfl (lv_room (Nat.le_of_ble_eq_true rfl)) dX8_worths_45 ⟨Nat.zero_le _, Nat.zero_le _⟩) hD hS hA (fun v45 σ1 H locs hv45 hP hD hS => ?_)
          obtain ⟨es9, hv45⟩ := hv45
          subst σ1
          refine lv_istore (lv' := [(5, .int v45), (0, .ref (a 0)), (1, .int x1), (2, .int x2), (3, .int x3), (4, .int x4)]) hx hb dX8_worths_48 hl (by decide) rfl (fun ls hl => ?_)
          refine lv_iload hx hb dX8_worths_50 (lv_at hl 0 rfl) ?_
          refine lv_if_eq (tgt := 60) hx hb dX8_worths_52 (by decide) (fun c52 => ?_) (fun c52 => ?_)
          · skip
            have ic52 := zeq (a := v45.toInt) (b := 0) rfl (by decide) c52
            refine lv_aload_n hx hb dX8_worths_60 rfl (lv_at hl 1 rfl) ?_
            refine va_get (D := (dC, dI)) (ci := 8) (v := .ref (a 4)) (C := RX8) (T := TX8) (N := 7) hx hb hts in8 hown hK hP 0 rfl rfl 2 (by decide) k30 (fun _ h9 => h9) rfl dX8_worths_61 ?_
            refine lv_iload_n hx hb dX8_worths_64 rfl (lv_at hl 2 rfl) ?_
            refine lv_aload_n hx hb dX8_worths_65 rfl (lv_at hl 1 rfl) ?_
            refine va_get (D := (dC, dI)) (ci := 8) (v := .ref (a 37)) (C := RX8) (T := TX8) (N := 7) hx hb hts in8 hown hK hP 0 rfl rfl 6 (by decide) k63 (fun _ h9 => h9) rfl dX8_worths_66 ?_
            refine lv_iload_n hx hb dX8_worths_69 rfl (lv_at hl 3 rfl) ?_
            rcases (show x2.toInt = 0 ∨ x2.toInt = 1 ∨ x2.toInt = 2 ∨ x2.toInt = 3 from by omega) with q70 | q70 | q70 | q70
            · have hc70 : (x2).toNatClampNeg = 0 := by have h9 := zcl (x := x2) (by omega); omega
              refine zaldO hx hb hK hP 37 2 rfl rfl (i := x2) (n := 4) (zin (by omega) (by omega)) (b := a 8) (by rw [hc70]; rfl) dX8_worths_70 ?_
              refine lv_iload hx hb dX8_worths_71 (lv_at hl 5 rfl) ?_
              refine zcalli (va_runV (As := [.int x1, .ref (a 8), .int x4]) (rest := []) ⟨hx, hb, hml, hown, hts⟩ (c_X1_takeWorths_8 l dC dI cB cI cS cII a N hok hn σ H.size (x1) (x4) (by omega) h2 (fun t ht => hv45 (by omega) t ht)) (cwV 3 hts gX8_worths_X1_takeWorths rfl rfl rfl (by decide +kernel) ⟨Nat.le_of_ble_eq_true rfl, Nat.le_of_ble_eq_true rfl⟩) (zpreV (wf := wX a cB cI cS cII) (q0 := 4) (ci := 1) hok hN hS hA hK hP hD rfl rfl) rfl rfl hl.1 rfl (lv_room (Nat.le_of_ble_eq_true rfl)) dX8_worths_73 ⟨Nat.zero_le _, Nat.zero_le _⟩) hD hS hA (fun v73 σ1 H locs hv73 hP hD hS => ?_)
              obtain ⟨u21_73, es9, hv73⟩ := hv73
              subst σ1
              have hP : va_P (dC, dI) vwCl (wX a cB cI cS cII (upR σ 21 4 u21_73)) H := hP
              have hD : va_D A (wX a cB cI cS cII (upR σ 21 4 u21_73)) := hD
              have hpost : ∃ u21 : Nat → Nat → Int32, (upR σ 21 4 u21_73) = (upR σ 21 4 u21) ∧ True := by refine ⟨(u21_73), by first | rfl | (funext j; simp only [upC, upR]; (repeat' split) <;> first | rfl | (simp_all; done) | (congr 1; omega) | (exfalso; omega)), ?_⟩; trivial
              exact W.iret (v := v73) hx hb hr (fun t9 ht hW => ⟨⟨v73, (upR σ 21 4 u21_73), rfl, hpost, by rw [ht]; exact hP, va_K.moved hW.alike hK, hD⟩, hS.F ht⟩) hS.2.2 dX8_worths_76
            · have hc70 : (x2).toNatClampNeg = 1 := by have h9 := zcl (x := x2) (by omega); omega
              refine zaldO hx hb hK hP 37 2 rfl rfl (i := x2) (n := 4) (zin (by omega) (by omega)) (b := a 9) (by rw [hc70]; rfl) dX8_worths_70 ?_
              refine lv_iload hx hb dX8_worths_71 (lv_at hl 5 rfl) ?_
              refine zcalli (va_runV (As := [.int x1, .ref (a 9), .int x4]) (rest := []) ⟨hx, hb, hml, hown, hts⟩ (c_X1_takeWorths_9 l dC dI cB cI cS cII a N hok hn σ H.size (x1) (x4) (by omega) h2 (fun t ht => hv45 (by omega) t ht)) (cwV 3 hts gX8_worths_X1_takeWorths rfl rfl rfl (by decide +kernel) ⟨Nat.le_of_ble_eq_true rfl, Nat.le_of_ble_eq_true rfl⟩) (zpreV (wf := wX a cB cI cS cII) (q0 := 4) (ci := 1) hok hN hS hA hK hP hD rfl rfl) rfl rfl hl.1 rfl (lv_room (Nat.le_of_ble_eq_true rfl)) dX8_worths_73 ⟨Nat.zero_le _, Nat.zero_le _⟩) hD hS hA (fun v73 σ1 H locs hv73 hP hD hS => ?_)
              obtain ⟨u21_73, es9, hv73⟩ := hv73
              subst σ1
              have hP : va_P (dC, dI) vwCl (wX a cB cI cS cII (upR σ 21 4 u21_73)) H := hP
              have hD : va_D A (wX a cB cI cS cII (upR σ 21 4 u21_73)) := hD
              have hpost : ∃ u21 : Nat → Nat → Int32, (upR σ 21 4 u21_73) = (upR σ 21 4 u21) ∧ True := by refine ⟨(u21_73), by first | rfl | (funext j; simp only [upC, upR]; (repeat' split) <;> first | rfl | (simp_all; done) | (congr 1; omega) | (exfalso; omega)), ?_⟩; trivial
              exact W.iret (v := v73) hx hb hr (fun t9 ht hW => ⟨⟨v73, (upR σ 21 4 u21_73), rfl, hpost, by rw [ht]; exact hP, va_K.moved hW.alike hK, hD⟩, hS.F ht⟩) hS.2.2 dX8_worths_76
            · have hc70 : (x2).toNatClampNeg = 2 := by have h9 := zcl (x := x2) (by omega); omega
              refine zaldO hx hb hK hP 37 2 rfl rfl (i := x2) (n := 4) (zin (by omega) (by omega)) (b := a 10) (by rw [hc70]; rfl) dX8_worths_70 ?_
              refine lv_iload hx hb dX8_worths_71 (lv_at hl 5 rfl) ?_
              refine zcalli (va_runV (As := [.int x1, .ref (a 10), .int x4]) (rest := []) ⟨hx, hb, hml, hown, hts⟩ (c_X1_takeWorths_10 l dC dI cB cI cS cII a N hok hn σ H.size (x1) (x4) (by omega) h2 (fun t ht => hv45 (by omega) t ht)) (cwV 3 hts gX8_worths_X1_takeWorths rfl rfl rfl (by decide +kernel) ⟨Nat.le_of_ble_eq_true rfl, Nat.le_of_ble_eq_true rfl⟩) (zpreV (wf := wX a cB cI cS cII) (q0 := 4) (ci := 1) hok hN hS hA hK hP hD rfl rfl) rfl rfl hl.1 rfl (lv_room (Nat.le_of_ble_eq_true rfl)) dX8_worths_73 ⟨Nat.zero_le _, Nat.zero_le _⟩) hD hS hA (fun v73 σ1 H locs hv73 hP hD hS => ?_)
              obtain ⟨u21_73, es9, hv73⟩ := hv73
              subst σ1
              have hP : va_P (dC, dI) vwCl (wX a cB cI cS cII (upR σ 21 4 u21_73)) H := hP
              have hD : va_D A (wX a cB cI cS cII (upR σ 21 4 u21_73)) := hD
              have hpost : ∃ u21 : Nat → Nat → Int32, (upR σ 21 4 u21_73) = (upR σ 21 4 u21) ∧ True := by refine ⟨(u21_73), by first | rfl | (funext j; simp only [upC, upR]; (repeat' split) <;> first | rfl | (simp_all; done) | (congr 1; omega) | (exfalso; omega)), ?_⟩; trivial
              exact W.iret (v := v73) hx hb hr (fun t9 ht hW => ⟨⟨v73, (upR σ 21 4 u21_73), rfl, hpost, by rw [ht]; exact hP, va_K.moved hW.alike hK, hD⟩, hS.F ht⟩) hS.2.2 dX8_worths_76
            · have hc70 : (x2).toNatClampNeg = 3 := by have h9 := zcl (x := x2) (by omega); omega
              refine zaldO hx hb hK hP 37 2 rfl rfl (i := x2) (n := 4) (zin (by omega) (by omega)) (b := a 11) (by rw [hc70]; rfl) dX8_worths_70 ?_
              refine lv_iload hx hb dX8_worths_71 (lv_at hl 5 rfl) ?_
              refine zcalli (va_runV (As := [.int x1, .ref (a 11), .int x4]) (rest := []) ⟨hx, hb, hml, hown, hts⟩ (c_X1_takeWorths_11 l dC dI cB cI cS cII a N hok hn σ H.size (x1) (x4) (by omega) h2 (fun t ht => hv45 (by omega) t ht)) (cwV 3 hts gX8_worths_X1_takeWorths rfl rfl rfl (by decide +kernel) ⟨Nat.le_of_ble_eq_true rfl, Nat.le_of_ble_eq_true rfl⟩) (zpreV (wf := wX a cB cI cS cII) (q0 := 4) (ci := 1) hok hN hS hA hK hP hD rfl rfl) rfl rfl hl.1 rfl (lv_room (Nat.le_of_ble_eq_true rfl)) dX8_worths_73 ⟨Nat.zero_le _, Nat.zero_le _⟩) hD hS hA (fun v73 σ1 H locs hv73 hP hD hS => ?_)
              obtain ⟨u21_73, es9, hv73⟩ := hv73
              subst σ1
              have hP : va_P (dC, dI) vwCl (wX a cB cI cS cII (upR σ 21 4 u21_73)) H := hP
              have hD : va_D A (wX a cB cI cS cII (upR σ 21 4 u21_73)) := hD
              have hpost : ∃ u21 : Nat → Nat → Int32, (upR σ 21 4 u21_73) = (upR σ 21 4 u21) ∧ True := by refine ⟨(u21_73), by first | rfl | (funext j; simp only [upC, upR]; (repeat' split) <;> first | rfl | (simp_all; done) | (congr 1; omega) | (exfalso; omega)), ?_⟩; trivial
              exact W.iret (v := v73) hx hb hr (fun t9 ht hW => ⟨⟨v73, (upR σ 21 4 u21_73), rfl, hpost, by rw [ht]; exact hP, va_K.moved hW.alike hK, hD⟩, hS.F ht⟩) hS.2.2 dX8_worths_76
          · skip
            have ic52 := zneq (a := v45.toInt) (b := 0) rfl (by decide) c52
            refine lv_iload hx hb dX8_worths_55 (lv_at hl 0 rfl) ?_
            refine lv_goto (tgt := 76) hx hb dX8_worths_57 (by decide) ?_
            have hpost : ∃ u21 : Nat → Nat → Int32, σ = (upR σ 21 4 u21) ∧ True := by refine ⟨(fun i => σ (21 + i)), by first | rfl | (funext j; simp only [upC, upR]; (repeat' split) <;> first | rfl | (simp_all; done) | (congr 1; omega) | (exfalso; omega)), ?_⟩; trivial
            exact W.iret (v := v45) hx hb hr (fun t9 ht hW => ⟨⟨v45, σ, rfl, hpost, by rw [ht]; exact hP, va_K.moved hW.alike hK, hD⟩, hS.F ht⟩) hS.2.2 dX8_worths_76
        · have hc34 : (x2).toNatClampNeg = 1 := by have h9 := zcl (x := x2) (by omega); omega
          refine zaldO hx hb hK hP 37 2 rfl rfl (i := x2) (n := 4) (zin (by omega) (by omega)) (b := a 9) (by rw [hc34]; rfl) dX8_worths_34 ?_
          refine lv_iload_n hx hb dX8_worths_35 rfl (lv_at hl 3 rfl) ?_
          refine lv_iload hx hb dX8_worths_36 (lv_at hl 4 rfl) ?_
          refine lv_aload_n hx hb dX8_worths_38 rfl (lv_at hl 0 rfl) ?_
          refine va_get (D := (dC, dI)) (ci := 8) (v := .ref (a 4)) (C := RX8) (T := TX8) (N := 7) hx hb hts in8 hown hK hP 0 rfl rfl 2 (by decide) k30 (fun _ h9 => h9) rfl dX8_worths_39 ?_
          refine va_get (D := (dC, dI)) (ci := 1) (v := .int (σ 4 2)) (C := RX1) (T := TX1) (N := 9) hx hb hts in1 hown hK hP 4 rfl rfl 2 (by decide) k94 (fun _ h9 => h9) rfl dX8_worths_42 ?_
          refine zcalli (va_runV (As := [.int x3, .int x4, .int (σ 4 2)]) (rest := []) ⟨hx, hb, hml, hown, hts⟩ (c_X4_refusal_9 l dC dI cB cI cS cII a N hok hn σ H.size (x3) (x4) (σ 4 2) (by omega) (by omega)) (cwV 3 hts gX8_worths_X4_refusal rfl rfl rfl (by decide +kernel) ⟨Nat.le_of_ble_eq_true rfl, Nat.le_of_ble_eq_true rfl⟩) (zpreV (wf := wX a cB cI cS cII) (q0 := 9) (ci := 4) hok hN hS hA hK hP hD rfl rfl) rfl rfl hl.1 rfl (lv_room (Nat.le_of_ble_eq_true rfl)) dX8_worths_45 ⟨Nat.zero_le _, Nat.zero_le _⟩) hD hS hA (fun v45 σ1 H locs hv45 hP hD hS => ?_)
          obtain ⟨es9, hv45⟩ := hv45
          subst σ1
          refine lv_istore (lv' := [(5, .int v45), (0, .ref (a 0)), (1, .int x1), (2, .int x2), (3, .int x3), (4, .int x4)]) hx hb dX8_worths_48 hl (by decide) rfl (fun ls hl => ?_)
          refine lv_iload hx hb dX8_worths_50 (lv_at hl 0 rfl) ?_
          refine lv_if_eq (tgt := 60) hx hb dX8_worths_52 (by decide) (fun c52 => ?_) (fun c52 => ?_)
          · skip
            have ic52 := zeq (a := v45.toInt) (b := 0) rfl (by decide) c52
            refine lv_aload_n hx hb dX8_worths_60 rfl (lv_at hl 1 rfl) ?_
            refine va_get (D := (dC, dI)) (ci := 8) (v := .ref (a 4)) (C := RX8) (T := TX8) (N := 7) hx hb hts in8 hown hK hP 0 rfl rfl 2 (by decide) k30 (fun _ h9 => h9) rfl dX8_worths_61 ?_
            refine lv_iload_n hx hb dX8_worths_64 rfl (lv_at hl 2 rfl) ?_
            refine lv_aload_n hx hb dX8_worths_65 rfl (lv_at hl 1 rfl) ?_
            refine va_get (D := (dC, dI)) (ci := 8) (v := .ref (a 37)) (C := RX8) (T := TX8) (N := 7) hx hb hts in8 hown hK hP 0 rfl rfl 6 (by decide) k63 (fun _ h9 => h9) rfl dX8_worths_66 ?_
            refine lv_iload_n hx hb dX8_worths_69 rfl (lv_at hl 3 rfl) ?_
            rcases (show x2.toInt = 0 ∨ x2.toInt = 1 ∨ x2.toInt = 2 ∨ x2.toInt = 3 from by omega) with q70 | q70 | q70 | q70
            · have hc70 : (x2).toNatClampNeg = 0 := by have h9 := zcl (x := x2) (by omega); omega
              refine zaldO hx hb hK hP 37 2 rfl rfl (i := x2) (n := 4) (zin (by omega) (by omega)) (b := a 8) (by rw [hc70]; rfl) dX8_worths_70 ?_
              refine lv_iload hx hb dX8_worths_71 (lv_at hl 5 rfl) ?_
              refine zcalli (va_runV (As := [.int x1, .ref (a 8), .int x4]) (rest := []) ⟨hx, hb, hml, hown, hts⟩ (c_X1_takeWorths_8 l dC dI cB cI cS cII a N hok hn σ H.size (x1) (x4) (by omega) h2 (fun t ht => hv45 (by omega) t ht)) (cwV 3 hts gX8_worths_X1_takeWorths rfl rfl rfl (by decide +kernel) ⟨Nat.le_of_ble_eq_true rfl, Nat.le_of_ble_eq_true rfl⟩) (zpreV (wf := wX a cB cI cS cII) (q0 := 4) (ci := 1) hok hN hS hA hK hP hD rfl rfl) rfl rfl hl.1 rfl (lv_room (Nat.le_of_ble_eq_true rfl)) dX8_worths_73 ⟨Nat.zero_le _, Nat.zero_le _⟩) hD hS hA (fun v73 σ1 H locs hv73 hP hD hS => ?_)
              obtain ⟨u21_73, es9, hv73⟩ := hv73
              subst σ1
              have hP : va_P (dC, dI) vwCl (wX a cB cI cS cII (upR σ 21 4 u21_73)) H := hP
              have hD : va_D A (wX a cB cI cS cII (upR σ 21 4 u21_73)) := hD
              have hpost : ∃ u21 : Nat → Nat → Int32, (upR σ 21 4 u21_73) = (upR σ 21 4 u21) ∧ True := by refine ⟨(u21_73), by first | rfl | (funext j; simp only [upC, upR]; (repeat' split) <;> first | rfl | (simp_all; done) | (congr 1; omega) | (exfalso; omega)), ?_⟩; trivial
              exact W.iret (v := v73) hx hb hr (fun t9 ht hW => ⟨⟨v73, (upR σ 21 4 u21_73), rfl, hpost, by rw [ht]; exact hP, va_K.moved hW.alike hK, hD⟩, hS.F ht⟩) hS.2.2 dX8_worths_76
            · have hc70 : (x2).toNatClampNeg = 1 := by have h9 := zcl (x := x2) (by omega); omega
              refine zaldO hx hb hK hP 37 2 rfl rfl (i := x2) (n := 4) (zin (by omega) (by omega)) (b := a 9) (by rw [hc70]; rfl) dX8_worths_70 ?_
              refine lv_iload hx hb dX8_worths_71 (lv_at hl 5 rfl) ?_
              refine zcalli (va_runV (As := [.int x1, .ref (a 9), .int x4]) (rest := []) ⟨hx, hb, hml, hown, hts⟩ (c_X1_takeWorths_9 l dC dI cB cI cS cII a N hok hn σ H.size (x1) (x4) (by omega) h2 (fun t ht => hv45 (by omega) t ht)) (cwV 3 hts gX8_worths_X1_takeWorths rfl rfl rfl (by decide +kernel) ⟨Nat.le_of_ble_eq_true rfl, Nat.le_of_ble_eq_true rfl⟩) (zpreV (wf := wX a cB cI cS cII) (q0 := 4) (ci := 1) hok hN hS hA hK hP hD rfl rfl) rfl rfl hl.1 rfl (lv_room (Nat.le_of_ble_eq_true rfl)) dX8_worths_73 ⟨Nat.zero_le _, Nat.zero_le _⟩) hD hS hA (fun v73 σ1 H locs hv73 hP hD hS => ?_)
              obtain ⟨u21_73, es9, hv73⟩ := hv73
              subst σ1
              have hP : va_P (dC, dI) vwCl (wX a cB cI cS cII (upR σ 21 4 u21_73)) H := hP
              have hD : va_D A (wX a cB cI cS cII (upR σ 21 4 u21_73)) := hD
              have hpost : ∃ u21 : Nat → Nat → Int32, (upR σ 21 4 u21_73) = (upR σ 21 4 u21) ∧ True := by refine ⟨(u21_73), by first | rfl | (funext j; simp only [upC, upR]; (repeat' split) <;> first | rfl | (simp_all; done) | (congr 1; omega) | (exfalso; omega)), ?_⟩; trivial
              exact W.iret (v := v73) hx hb hr (fun t9 ht hW => ⟨⟨v73, (upR σ 21 4 u21_73), rfl, hpost, by rw [ht]; exact hP, va_K.moved hW.alike hK, hD⟩, hS.F ht⟩) hS.2.2 dX8_worths_76
            · have hc70 : (x2).toNatClampNeg = 2 := by have h9 := zcl (x := x2) (by omega); omega
              refine zaldO hx hb hK hP 37 2 rfl rfl (i := x2) (n := 4) (zin (by omega) (by omega)) (b := a 10) (by rw [hc70]; rfl) dX8_worths_70 ?_
              refine lv_iload hx hb dX8_worths_71 (lv_at hl 5 rfl) ?_
              refine zcalli (va_runV (As := [.int x1, .ref (a 10), .int x4]) (rest := []) ⟨hx, hb, hml, hown, hts⟩ (c_X1_takeWorths_10 l dC dI cB cI cS cII a N hok hn σ H.size (x1) (x4) (by omega) h2 (fun t ht => hv45 (by omega) t ht)) (cwV 3 hts gX8_worths_X1_takeWorths rfl rfl rfl (by decide +kernel) ⟨Nat.le_of_ble_eq_true rfl, Nat.le_of_ble_eq_true rfl⟩) (zpreV (wf := wX a cB cI cS cII) (q0 := 4) (ci := 1) hok hN hS hA hK hP hD rfl rfl) rfl rfl hl.1 rfl (lv_room (Nat.le_of_ble_eq_true rfl)) dX8_worths_73 ⟨Nat.zero_le _, Nat.zero_le _⟩) hD hS hA (fun v73 σ1 H locs hv73 hP hD hS => ?_)
              obtain ⟨u21_73, es9, hv73⟩ := hv73
              subst σ1
              have hP : va_P (dC, dI) vwCl (wX a cB cI cS cII (upR σ 21 4 u21_73)) H := hP
              have hD : va_D A (wX a cB cI cS cII (upR σ 21 4 u21_73)) := hD
              have hpost : ∃ u21 : Nat → Nat → Int32, (upR σ 21 4 u21_73) = (upR σ 21 4 u21) ∧ True := by refine ⟨(u21_73), by first | rfl | (funext j; simp only [upC, upR]; (repeat' split) <;> first | rfl | (simp_all; done) | (congr 1; omega) | (exfalso; omega)), ?_⟩; trivial
              exact W.iret (v := v73) hx hb hr (fun t9 ht hW => ⟨⟨v73, (upR σ 21 4 u21_73), rfl, hpost, by rw [ht]; exact hP, va_K.moved hW.alike hK, hD⟩, hS.F ht⟩) hS.2.2 dX8_worths_76
            · have hc70 : (x2).toNatClampNeg = 3 := by have h9 := zcl (x := x2) (by omega); omega
              refine zaldO hx hb hK hP 37 2 rfl rfl (i := x2) (n := 4) (zin (by omega) (by omega)) (b := a 11) (by rw [hc70]; rfl) dX8_worths_70 ?_
              refine lv_iload hx hb dX8_worths_71 (lv_at hl 5 rfl) ?_
              refine zcalli (va_runV (As := [.int x1, .ref (a 11), .int x4]) (rest := []) ⟨hx, hb, hml, hown, hts⟩ (c_X1_takeWorths_11 l dC dI cB cI cS cII a N hok hn σ H.size (x1) (x4) (by omega) h2 (fun t ht => hv45 (by omega) t ht)) (cwV 3 hts gX8_worths_X1_takeWorths rfl rfl rfl (by decide +kernel) ⟨Nat.le_of_ble_eq_true rfl, Nat.le_of_ble_eq_true rfl⟩) (zpreV (wf := wX a cB cI cS cII) (q0 := 4) (ci := 1) hok hN hS hA hK hP hD rfl rfl) rfl rfl hl.1 rfl (lv_room (Nat.le_of_ble_eq_true rfl)) dX8_worths_73 ⟨Nat.zero_le _, Nat.zero_le _⟩) hD hS hA (fun v73 σ1 H locs hv73 hP hD hS => ?_)
              obtain ⟨u21_73, es9, hv73⟩ := hv73
              subst σ1
              have hP : va_P (dC, dI) vwCl (wX a cB cI cS cII (upR σ 21 4 u21_73)) H := hP
              have hD : va_D A (wX a cB cI cS cII (upR σ 21 4 u21_73)) := hD
              have hpost : ∃ u21 : Nat → Nat → Int32, (upR σ 21 4 u21_73) = (upR σ 21 4 u21) ∧ True := by refine ⟨(u21_73), by first | rfl | (funext j; simp only [upC, upR]; (repeat' split) <;> first | rfl | (simp_all; done) | (congr 1; omega) | (exfalso; omega)), ?_⟩; trivial
              exact W.iret (v := v73) hx hb hr (fun t9 ht hW => ⟨⟨v73, (upR σ 21 4 u21_73), rfl, hpost, by rw [ht]; exact hP, va_K.moved hW.alike hK, hD⟩, hS.F ht⟩) hS.2.2 dX8_worths_76
          · skip
            have ic52 := zneq (a := v45.toInt) (b := 0) rfl (by decide) c52
            refine lv_iload hx hb dX8_worths_55 (lv_at hl 0 rfl) ?_
            refine lv_goto (tgt := 76) hx hb dX8_worths_57 (by decide) ?_
            have hpost : ∃ u21 : Nat → Nat → Int32, σ = (upR σ 21 4 u21) ∧ True := by refine ⟨(fun i => σ (21 + i)), by first | rfl | (funext j; simp only [upC, upR]; (repeat' split) <;> first | rfl | (simp_all; done) | (congr 1; omega) | (exfalso; omega)), ?_⟩; trivial
            exact W.iret (v := v45) hx hb hr (fun t9 ht hW => ⟨⟨v45, σ, rfl, hpost, by rw [ht]; exact hP, va_K.moved hW.alike hK, hD⟩, hS.F ht⟩) hS.2.2 dX8_worths_76
        · have hc34 : (x2).toNatClampNeg = 2 := by have h9 := zcl (x := x2) (by omega); omega
          refine zaldO hx hb hK hP 37 2 rfl rfl (i := x2) (n := 4) (zin (by omega) (by omega)) (b := a 10) (by rw [hc34]; rfl) dX8_worths_34 ?_
          refine lv_iload_n hx hb dX8_worths_35 rfl (lv_at hl 3 rfl) ?_
          refine lv_iload hx hb dX8_worths_36 (lv_at hl 4 rfl) ?_
          refine lv_aload_n hx hb dX8_worths_38 rfl (lv_at hl 0 rfl) ?_
          refine va_get (D := (dC, dI)) (ci := 8) (v := .ref (a 4)) (C := RX8) (T := TX8) (N := 7) hx hb hts in8 hown hK hP 0 rfl rfl 2 (by decide) k30 (fun _ h9 => h9) rfl dX8_worths_39 ?_
          refine va_get (D := (dC, dI)) (ci := 1) (v := .int (σ 4 2)) (C := RX1) (T := TX1) (N := 9) hx hb hts in1 hown hK hP 4 rfl rfl 2 (by decide) k94 (fun _ h9 => h9) rfl dX8_worths_42 ?_
          refine zcalli (va_runV (As := [.int x3, .int x4, .int (σ 4 2)]) (rest := []) ⟨hx, hb, hml, hown, hts⟩ (c_X4_refusal_10 l dC dI cB cI cS cII a N hok hn σ H.size (x3) (x4) (σ 4 2) (by omega) (by omega)) (cwV 3 hts gX8_worths_X4_refusal rfl rfl rfl (by decide +kernel) ⟨Nat.le_of_ble_eq_true rfl, Nat.le_of_ble_eq_true rfl⟩) (zpreV (wf := wX a cB cI cS cII) (q0 := 10) (ci := 4) hok hN hS hA hK hP hD rfl rfl) rfl rfl hl.1 rfl (lv_room (Nat.le_of_ble_eq_true rfl)) dX8_worths_45 ⟨Nat.zero_le _, Nat.zero_le _⟩) hD hS hA (fun v45 σ1 H locs hv45 hP hD hS => ?_)
          obtain ⟨es9, hv45⟩ := hv45
          subst σ1
          refine lv_istore (lv' := [(5, .int v45), (0, .ref (a 0)), (1, .int x1), (2, .int x2), (3, .int x3), (4, .int x4)]) hx hb dX8_worths_48 hl (by decide) rfl (fun ls hl => ?_)
          refine lv_iload hx hb dX8_worths_50 (lv_at hl 0 rfl) ?_
          refine lv_if_eq (tgt := 60) hx hb dX8_worths_52 (by decide) (fun c52 => ?_) (fun c52 => ?_)
          · skip
            have ic52 := zeq (a := v45.toInt) (b := 0) rfl (by decide) c52
            refine lv_aload_n hx hb dX8_worths_60 rfl (lv_at hl 1 rfl) ?_
            refine va_get (D := (dC, dI)) (ci := 8) (v := .ref (a 4)) (C := RX8) (T := TX8) (N := 7) hx hb hts in8 hown hK hP 0 rfl rfl 2 (by decide) k30 (fun _ h9 => h9) rfl dX8_worths_61 ?_
            refine lv_iload_n hx hb dX8_worths_64 rfl (lv_at hl 2 rfl) ?_
            refine lv_aload_n hx hb dX8_worths_65 rfl (lv_at hl 1 rfl) ?_
            refine va_get (D := (dC, dI)) (ci := 8) (v := .ref (a 37)) (C := RX8) (T := TX8) (N := 7) hx hb hts in8 hown hK hP 0 rfl rfl 6 (by decide) k63 (fun _ h9 => h9) rfl dX8_worths_66 ?_
            refine lv_iload_n hx hb dX8_worths_69 rfl (lv_at hl 3 rfl) ?_
            rcases (show x2.toInt = 0 ∨ x2.toInt = 1 ∨ x2.toInt = 2 ∨ x2.toInt = 3 from by omega) with q70 | q70 | q70 | q70
            · have hc70 : (x2).toNatClampNeg = 0 := by have h9 := zcl (x := x2) (by omega); omega
              refine zaldO hx hb hK hP 37 2 rfl rfl (i := x2) (n := 4) (zin (by omega) (by omega)) (b := a 8) (by rw [hc70]; rfl) dX8_worths_70 ?_
              refine lv_iload hx hb dX8_worths_71 (lv_at hl 5 rfl) ?_
              refine zcalli (va_runV (As := [.int x1, .ref (a 8), .int x4]) (rest := []) ⟨hx, hb, hml, hown, hts⟩ (c_X1_takeWorths_8 l dC dI cB cI cS cII a N hok hn σ H.size (x1) (x4) (by omega) h2 (fun t ht => hv45 (by omega) t ht)) (cwV 3 hts gX8_worths_X1_takeWorths rfl rfl rfl (by decide +kernel) ⟨Nat.le_of_ble_eq_true rfl, Nat.le_of_ble_eq_true rfl⟩) (zpreV (wf := wX a cB cI cS cII) (q0 := 4) (ci := 1) hok hN hS hA hK hP hD rfl rfl) rfl rfl hl.1 rfl (lv_room (Nat.le_of_ble_eq_true rfl)) dX8_worths_73 ⟨Nat.zero_le _, Nat.zero_le _⟩) hD hS hA (fun v73 σ1 H locs hv73 hP hD hS => ?_)
              obtain ⟨u21_73, es9, hv73⟩ := hv73
              subst σ1
              have hP : va_P (dC, dI) vwCl (wX a cB cI cS cII (upR σ 21 4 u21_73)) H := hP
              have hD : va_D A (wX a cB cI cS cII (upR σ 21 4 u21_73)) := hD
              have hpost : ∃ u21 : Nat → Nat → Int32, (upR σ 21 4 u21_73) = (upR σ 21 4 u21) ∧ True := by refine ⟨(u21_73), by first | rfl | (funext j; simp only [upC, upR]; (repeat' split) <;> first | rfl | (simp_all; done) | (congr 1; omega) | (exfalso; omega)), ?_⟩; trivial
              exact W.iret (v := v73) hx hb hr (fun t9 ht hW => ⟨⟨v73, (upR σ 21 4 u21_73), rfl, hpost, by rw [ht]; exact hP, va_K.moved hW.alike hK, hD⟩, hS.F ht⟩) hS.2.2 dX8_worths_76
            · have hc70 : (x2).toNatClampNeg = 1 := by have h9 := zcl (x := x2) (by omega); omega
              refine zaldO hx hb hK hP 37 2 rfl rfl (i := x2) (n := 4) (zin (by omega) (by omega)) (b := a 9) (by rw [hc70]; rfl) dX8_worths_70 ?_
              refine lv_iload hx hb dX8_worths_71 (lv_at hl 5 rfl) ?_
              refine zcalli (va_runV (As := [.int x1, .ref (a 9), .int x4]) (rest := []) ⟨hx, hb, hml, hown, hts⟩ (c_X1_takeWorths_9 l dC dI cB cI cS cII a N hok hn σ H.size (x1) (x4) (by omega) h2 (fun t ht => hv45 (by omega) t ht)) (cwV 3 hts gX8_worths_X1_takeWorths rfl rfl rfl (by decide +kernel) ⟨Nat.le_of_ble_eq_true rfl, Nat.le_of_ble_eq_true rfl⟩) (zpreV (wf := wX a cB cI cS cII) (q0 := 4) (ci := 1) hok hN hS hA hK hP hD rfl rfl) rfl rfl hl.1 rfl (lv_room (Nat.le_of_ble_eq_true rfl)) dX8_worths_73 ⟨Nat.zero_le _, Nat.zero_le _⟩) hD hS hA (fun v73 σ1 H locs hv73 hP hD hS => ?_)
              obtain ⟨u21_73, es9, hv73⟩ := hv73
              subst σ1
              have hP : va_P (dC, dI) vwCl (wX a cB cI cS cII (upR σ 21 4 u21_73)) H := hP
              have hD : va_D A (wX a cB cI cS cII (upR σ 21 4 u21_73)) := hD
              have hpost : ∃ u21 : Nat → Nat → Int32, (upR σ 21 4 u21_73) = (upR σ 21 4 u21) ∧ True := by refine ⟨(u21_73), by first | rfl | (funext j; simp only [upC, upR]; (repeat' split) <;> first | rfl | (simp_all; done) | (congr 1; omega) | (exfalso; omega)), ?_⟩; trivial
              exact W.iret (v := v73) hx hb hr (fun t9 ht hW => ⟨⟨v73, (upR σ 21 4 u21_73), rfl, hpost, by rw [ht]; exact hP, va_K.moved hW.alike hK, hD⟩, hS.F ht⟩) hS.2.2 dX8_worths_76
            · have hc70 : (x2).toNatClampNeg = 2 := by have h9 := zcl (x := x2) (by omega); omega
              refine zaldO hx hb hK hP 37 2 rfl rfl (i := x2) (n := 4) (zin (by omega) (by omega)) (b := a 10) (by rw [hc70]; rfl) dX8_worths_70 ?_
              refine lv_iload hx hb dX8_worths_71 (lv_at hl 5 rfl) ?_
              refine zcalli (va_runV (As := [.int x1, .ref (a 10), .int x4]) (rest := []) ⟨hx, hb, hml, hown, hts⟩ (c_X1_takeWorths_10 l dC dI cB cI cS cII a N hok hn σ H.size (x1) (x4) (by omega) h2 (fun t ht => hv45 (by omega) t ht)) (cwV 3 hts gX8_worths_X1_takeWorths rfl rfl rfl (by decide +kernel) ⟨Nat.le_of_ble_eq_true rfl, Nat.le_of_ble_eq_true rfl⟩) (zpreV (wf := wX a cB cI cS cII) (q0 := 4) (ci := 1) hok hN hS hA hK hP hD rfl rfl) rfl rfl hl.1 rfl (lv_room (Nat.le_of_ble_eq_true rfl)) dX8_worths_73 ⟨Nat.zero_le _, Nat.zero_le _⟩) hD hS hA (fun v73 σ1 H locs hv73 hP hD hS => ?_)
              obtain ⟨u21_73, es9, hv73⟩ := hv73
              subst σ1
              have hP : va_P (dC, dI) vwCl (wX a cB cI cS cII (upR σ 21 4 u21_73)) H := hP
              have hD : va_D A (wX a cB cI cS cII (upR σ 21 4 u21_73)) := hD
              have hpost : ∃ u21 : Nat → Nat → Int32, (upR σ 21 4 u21_73) = (upR σ 21 4 u21) ∧ True := by refine ⟨(u21_73), by first | rfl | (funext j; simp only [upC, upR]; (repeat' split) <;> first | rfl | (simp_all; done) | (congr 1; omega) | (exfalso; omega)), ?_⟩; trivial
              exact W.iret (v := v73) hx hb hr (fun t9 ht hW => ⟨⟨v73, (upR σ 21 4 u21_73), rfl, hpost, by rw [ht]; exact hP, va_K.moved hW.alike hK, hD⟩, hS.F ht⟩) hS.2.2 dX8_worths_76
            · have hc70 : (x2).toNatClampNeg = 3 := by have h9 := zcl (x := x2) (by omega); omega
              refine zaldO hx hb hK hP 37 2 rfl rfl (i := x2) (n := 4) (zin (by omega) (by omega)) (b := a 11) (by rw [hc70]; rfl) dX8_worths_70 ?_
              refine lv_iload hx hb dX8_worths_71 (lv_at hl 5 rfl) ?_
              refine zcalli (va_runV (As := [.int x1, .ref (a 11), .int x4]) (rest := []) ⟨hx, hb, hml, hown, hts⟩ (c_X1_takeWorths_11 l dC dI cB cI cS cII a N hok hn σ H.size (x1) (x4) (by omega) h2 (fun t ht => hv45 (by omega) t ht)) (cwV 3 hts gX8_worths_X1_takeWorths rfl rfl rfl (by decide +kernel) ⟨Nat.le_of_ble_eq_true rfl, Nat.le_of_ble_eq_true rfl⟩) (zpreV (wf := wX a cB cI cS cII) (q0 := 4) (ci := 1) hok hN hS hA hK hP hD rfl rfl) rfl rfl hl.1 rfl (lv_room (Nat.le_of_ble_eq_true rfl)) dX8_worths_73 ⟨Nat.zero_le _, Nat.zero_le _⟩) hD hS hA (fun v73 σ1 H locs hv73 hP hD hS => ?_)
              obtain ⟨u21_73, es9, hv73⟩ := hv73
              subst σ1
              have hP : va_P (dC, dI) vwCl (wX a cB cI cS cII (upR σ 21 4 u21_73)) H := hP
              have hD : va_D A (wX a cB cI cS cII (upR σ 21 4 u21_73)) := hD
              have hpost : ∃ u21 : Nat → Nat → Int32, (upR σ 21 4 u21_73) = (upR σ 21 4 u21) ∧ True := by refine ⟨(u21_73), by first | rfl | (funext j; simp only [upC, upR]; (repeat' split) <;> first | rfl | (simp_all; done) | (congr 1; omega) | (exfalso; omega)), ?_⟩; trivial
              exact W.iret (v := v73) hx hb hr (fun t9 ht hW => ⟨⟨v73, (upR σ 21 4 u21_73), rfl, hpost, by rw [ht]; exact hP, va_K.moved hW.alike hK, hD⟩, hS.F ht⟩) hS.2.2 dX8_worths_76
          · skip
            have ic52 := zneq (a := v45.toInt) (b := 0) rfl (by decide) c52
            refine lv_iload hx hb dX8_worths_55 (lv_at hl 0 rfl) ?_
            refine lv_goto (tgt := 76) hx hb dX8_worths_57 (by decide) ?_
            have hpost : ∃ u21 : Nat → Nat → Int32, σ = (upR σ 21 4 u21) ∧ True := by refine ⟨(fun i => σ (21 + i)), by first | rfl | (funext j; simp only [upC, upR]; (repeat' split) <;> first | rfl | (simp_all; done) | (congr 1; omega) | (exfalso; omega)), ?_⟩; trivial
            exact W.iret (v := v45) hx hb hr (fun t9 ht hW => ⟨⟨v45, σ, rfl, hpost, by rw [ht]; exact hP, va_K.moved hW.alike hK, hD⟩, hS.F ht⟩) hS.2.2 dX8_worths_76
        · have hc34 : (x2).toNatClampNeg = 3 := by have h9 := zcl (x := x2) (by omega); omega
          refine zaldO hx hb hK hP 37 2 rfl rfl (i := x2) (n := 4) (zin (by omega) (by omega)) (b := a 11) (by rw [hc34]; rfl) dX8_worths_34 ?_
          refine lv_iload_n hx hb dX8_worths_35 rfl (lv_at hl 3 rfl) ?_
          refine lv_iload hx hb dX8_worths_36 (lv_at hl 4 rfl) ?_
          refine lv_aload_n hx hb dX8_worths_38 rfl (lv_at hl 0 rfl) ?_
          refine va_get (D := (dC, dI)) (ci := 8) (v := .ref (a 4)) (C := RX8) (T := TX8) (N := 7) hx hb hts in8 hown hK hP 0 rfl rfl 2 (by decide) k30 (fun _ h9 => h9) rfl dX8_worths_39 ?_
          refine va_get (D := (dC, dI)) (ci := 1) (v := .int (σ 4 2)) (C := RX1) (T := TX1) (N := 9) hx hb hts in1 hown hK hP 4 rfl rfl 2 (by decide) k94 (fun _ h9 => h9) rfl dX8_worths_42 ?_
          refine zcalli (va_runV (As := [.int x3, .int x4, .int (σ 4 2)]) (rest := []) ⟨hx, hb, hml, hown, hts⟩ (c_X4_refusal_11 l dC dI cB cI cS cII a N hok hn σ H.size (x3) (x4) (σ 4 2) (by omega) (by omega)) (cwV 3 hts gX8_worths_X4_refusal rfl rfl rfl (by decide +kernel) ⟨Nat.le_of_ble_eq_true rfl, Nat.le_of_ble_eq_true rfl⟩) (zpreV (wf := wX a cB cI cS cII) (q0 := 11) (ci := 4) hok hN hS hA hK hP hD rfl rfl) rfl rfl hl.1 rfl (lv_room (Nat.le_of_ble_eq_true rfl)) dX8_worths_45 ⟨Nat.zero_le _, Nat.zero_le _⟩) hD hS hA (fun v45 σ1 H locs hv45 hP hD hS => ?_)
          obtain ⟨es9, hv45⟩ := hv45
          subst σ1
          refine lv_istore (lv' := [(5, .int v45), (0, .ref (a 0)), (1, .int x1), (2, .int x2), (3, .int x3), (4, .int x4)]) hx hb dX8_worths_48 hl (by decide) rfl (fun ls hl => ?_)
          refine lv_iload hx hb dX8_worths_50 (lv_at hl 0 rfl) ?_
          refine lv_if_eq (tgt := 60) hx hb dX8_worths_52 (by decide) (fun c52 => ?_) (fun c52 => ?_)
          · skip
            have ic52 := zeq (a := v45.toInt) (b := 0) rfl (by decide) c52
            refine lv_aload_n hx hb dX8_worths_60 rfl (lv_at hl 1 rfl) ?_
            refine va_get (D := (dC, dI)) (ci := 8) (v := .ref (a 4)) (C := RX8) (T := TX8) (N := 7) hx hb hts in8 hown hK hP 0 rfl rfl 2 (by decide) k30 (fun _ h9 => h9) rfl dX8_worths_61 ?_
            refine lv_iload_n hx hb dX8_worths_64 rfl (lv_at hl 2 rfl) ?_
            refine lv_aload_n hx hb dX8_worths_65 rfl (lv_at hl 1 rfl) ?_
            refine va_get (D := (dC, dI)) (ci := 8) (v := .ref (a 37)) (C := RX8) (T := TX8) (N := 7) hx hb hts in8 hown hK hP 0 rfl rfl 6 (by decide) k63 (fun _ h9 => h9) rfl dX8_worths_66 ?_
            refine lv_iload_n hx hb dX8_worths_69 rfl (lv_at hl 3 rfl) ?_
            rcases (show x2.toInt = 0 ∨ x2.toInt = 1 ∨ x2.toInt = 2 ∨ x2.toInt = 3 from by omega) with q70 | q70 | q70 | q70
            · have hc70 : (x2).toNatClampNeg = 0 := by have h9 := zcl (x := x2) (by omega); omega
              refine zaldO hx hb hK hP 37 2 rfl rfl (i := x2) (n := 4) (zin (by omega) (by omega)) (b := a 8) (by rw [hc70]; rfl) dX8_worths_70 ?_
              refine lv_iload hx hb dX8_worths_71 (lv_at hl 5 rfl) ?_
              refine zcalli (va_runV (As := [.int x1, .ref (a 8), .int x4]) (rest := []) ⟨hx, hb, hml, hown, hts⟩ (c_X1_takeWorths_8 l dC dI cB cI cS cII a N hok hn σ H.size (x1) (x4) (by omega) h2 (fun t ht => hv45 (by omega) t ht)) (cwV 3 hts gX8_worths_X1_takeWorths rfl rfl rfl (by decide +kernel) ⟨Nat.le_of_ble_eq_true rfl, Nat.le_of_ble_eq_true rfl⟩) (zpreV (wf := wX a cB cI cS cII) (q0 := 4) (ci := 1) hok hN hS hA hK hP hD rfl rfl) rfl rfl hl.1 rfl (lv_room (Nat.le_of_ble_eq_true rfl)) dX8_worths_73 ⟨Nat.zero_le _, Nat.zero_le _⟩) hD hS hA (fun v73 σ1 H locs hv73 hP hD hS => ?_)
              obtain ⟨u21_73, es9, hv73⟩ := hv73
              subst σ1
              have hP : va_P (dC, dI) vwCl (wX a cB cI cS cII (upR σ 21 4 u21_73)) H := hP
              have hD : va_D A (wX a cB cI cS cII (upR σ 21 4 u21_73)) := hD
              have hpost : ∃ u21 : Nat → Nat → Int32, (upR σ 21 4 u21_73) = (upR σ 21 4 u21) ∧ True := by refine ⟨(u21_73), by first | rfl | (funext j; simp only [upC, upR]; (repeat' split) <;> first | rfl | (simp_all; done) | (congr 1; omega) | (exfalso; omega)), ?_⟩; trivial
              exact W.iret (v := v73) hx hb hr (fun t9 ht hW => ⟨⟨v73, (upR σ 21 4 u21_73), rfl, hpost, by rw [ht]; exact hP, va_K.moved hW.alike hK, hD⟩, hS.F ht⟩) hS.2.2 dX8_worths_76
            · have hc70 : (x2).toNatClampNeg = 1 := by have h9 := zcl (x := x2) (by omega); omega
              refine zaldO hx hb hK hP 37 2 rfl rfl (i := x2) (n := 4) (zin (by omega) (by omega)) (b := a 9) (by rw [hc70]; rfl) dX8_worths_70 ?_
              refine lv_iload hx hb dX8_worths_71 (lv_at hl 5 rfl) ?_
              refine zcalli (va_runV (As := [.int x1, .ref (a 9), .int x4]) (rest := []) ⟨hx, hb, hml, hown, hts⟩ (c_X1_takeWorths_9 l dC dI cB cI cS cII a N hok hn σ H.size (x1) (x4) (by omega) h2 (fun t ht => hv45 (by omega) t ht)) (cwV 3 hts gX8_worths_X1_takeWorths rfl rfl rfl (by decide +kernel) ⟨Nat.le_of_ble_eq_true rfl, Nat.le_of_ble_eq_true rfl⟩) (zpreV (wf := wX a cB cI cS cII) (q0 := 4) (ci := 1) hok hN hS hA hK hP hD rfl rfl) rfl rfl hl.1 rfl (lv_room (Nat.le_of_ble_eq_true rfl)) dX8_worths_73 ⟨Nat.zero_le _, Nat.zero_le _⟩) hD hS hA (fun v73 σ1 H locs hv73 hP hD hS => ?_)
              obtain ⟨u21_73, es9, hv73⟩ := hv73
              subst σ1
              have hP : va_P (dC, dI) vwCl (wX a cB cI cS cII (upR σ 21 4 u21_73)) H := hP
              have hD : va_D A (wX a cB cI cS cII (upR σ 21 4 u21_73)) := hD
              have hpost : ∃ u21 : Nat → Nat → Int32, (upR σ 21 4 u21_73) = (upR σ 21 4 u21) ∧ True := by refine ⟨(u21_73), by first | rfl | (funext j; simp only [upC, upR]; (repeat' split) <;> first | rfl | (simp_all; done) | (congr 1; omega) | (exfalso; omega)), ?_⟩; trivial
              exact W.iret (v := v73) hx hb hr (fun t9 ht hW => ⟨⟨v73, (upR σ 21 4 u21_73), rfl, hpost, by rw [ht]; exact hP, va_K.moved hW.alike hK, hD⟩, hS.F ht⟩) hS.2.2 dX8_worths_76
            · have hc70 : (x2).toNatClampNeg = 2 := by have h9 := zcl (x := x2) (by omega); omega
              refine zaldO hx hb hK hP 37 2 rfl rfl (i := x2) (n := 4) (zin (by omega) (by omega)) (b := a 10) (by rw [hc70]; rfl) dX8_worths_70 ?_
              refine lv_iload hx hb dX8_worths_71 (lv_at hl 5 rfl) ?_
              refine zcalli (va_runV (As := [.int x1, .ref (a 10), .int x4]) (rest := []) ⟨hx, hb, hml, hown, hts⟩ (c_X1_takeWorths_10 l dC dI cB cI cS cII a N hok hn σ H.size (x1) (x4) (by omega) h2 (fun t ht => hv45 (by omega) t ht)) (cwV 3 hts gX8_worths_X1_takeWorths rfl rfl rfl (by decide +kernel) ⟨Nat.le_of_ble_eq_true rfl, Nat.le_of_ble_eq_true rfl⟩) (zpreV (wf := wX a cB cI cS cII) (q0 := 4) (ci := 1) hok hN hS hA hK hP hD rfl rfl) rfl rfl hl.1 rfl (lv_room (Nat.le_of_ble_eq_true rfl)) dX8_worths_73 ⟨Nat.zero_le _, Nat.zero_le _⟩) hD hS hA (fun v73 σ1 H locs hv73 hP hD hS => ?_)
              obtain ⟨u21_73, es9, hv73⟩ := hv73
              subst σ1
              have hP : va_P (dC, dI) vwCl (wX a cB cI cS cII (upR σ 21 4 u21_73)) H := hP
              have hD : va_D A (wX a cB cI cS cII (upR σ 21 4 u21_73)) := hD
              have hpost : ∃ u21 : Nat → Nat → Int32, (upR σ 21 4 u21_73) = (upR σ 21 4 u21) ∧ True := by refine ⟨(u21_73), by first | rfl | (funext j; simp only [upC, upR]; (repeat' split) <;> first | rfl | (simp_all; done) | (congr 1; omega) | (exfalso; omega)), ?_⟩; trivial
              exact W.iret (v := v73) hx hb hr (fun t9 ht hW => ⟨⟨v73, (upR σ 21 4 u21_73), rfl, hpost, by rw [ht]; exact hP, va_K.moved hW.alike hK, hD⟩, hS.F ht⟩) hS.2.2 dX8_worths_76
            · have hc70 : (x2).toNatClampNeg = 3 := by have h9 := zcl (x := x2) (by omega); omega
              refine zaldO hx hb hK hP 37 2 rfl rfl (i := x2) (n := 4) (zin (by omega) (by omega)) (b := a 11) (by rw [hc70]; rfl) dX8_worths_70 ?_
              refine lv_iload hx hb dX8_worths_71 (lv_at hl 5 rfl) ?_
              refine zcalli (va_runV (As := [.int x1, .ref (a 11), .int x4]) (rest := []) ⟨hx, hb, hml, hown, hts⟩ (c_X1_takeWorths_11 l dC dI cB cI cS cII a N hok hn σ H.size (x1) (x4) (by omega) h2 (fun t ht => hv45 (by omega) t ht)) (cwV 3 hts gX8_worths_X1_takeWorths rfl rfl rfl (by decide +kernel) ⟨Nat.le_of_ble_eq_true rfl, Nat.le_of_ble_eq_true rfl⟩) (zpreV (wf := wX a cB cI cS cII) (q0 := 4) (ci := 1) hok hN hS hA hK hP hD rfl rfl) rfl rfl hl.1 rfl (lv_room (Nat.le_of_ble_eq_true rfl)) dX8_worths_73 ⟨Nat.zero_le _, Nat.zero_le _⟩) hD hS hA (fun v73 σ1 H locs hv73 hP hD hS => ?_)
              obtain ⟨u21_73, es9, hv73⟩ := hv73
              subst σ1
              have hP : va_P (dC, dI) vwCl (wX a cB cI cS cII (upR σ 21 4 u21_73)) H := hP
              have hD : va_D A (wX a cB cI cS cII (upR σ 21 4 u21_73)) := hD
              have hpost : ∃ u21 : Nat → Nat → Int32, (upR σ 21 4 u21_73) = (upR σ 21 4 u21) ∧ True := by refine ⟨(u21_73), by first | rfl | (funext j; simp only [upC, upR]; (repeat' split) <;> first | rfl | (simp_all; done) | (congr 1; omega) | (exfalso; omega)), ?_⟩; trivial
              exact W.iret (v := v73) hx hb hr (fun t9 ht hW => ⟨⟨v73, (upR σ 21 4 u21_73), rfl, hpost, by rw [ht]; exact hP, va_K.moved hW.alike hK, hD⟩, hS.F ht⟩) hS.2.2 dX8_worths_76
          · skip
            have ic52 := zneq (a := v45.toInt) (b := 0) rfl (by decide) c52
            refine lv_iload hx hb dX8_worths_55 (lv_at hl 0 rfl) ?_
            refine lv_goto (tgt := 76) hx hb dX8_worths_57 (by decide) ?_
            have hpost : ∃ u21 : Nat → Nat → Int32, σ = (upR σ 21 4 u21) ∧ True := by refine ⟨(fun i => σ (21 + i)), by first | rfl | (funext j; simp only [upC, upR]; (repeat' split) <;> first | rfl | (simp_all; done) | (congr 1; omega) | (exfalso; omega)), ?_⟩; trivial
            exact W.iret (v := v45) hx hb hr (fun t9 ht hW => ⟨⟨v45, σ, rfl, hpost, by rw [ht]; exact hP, va_K.moved hW.alike hK, hD⟩, hS.F ht⟩) hS.2.2 dX8_worths_76
      · skip
        have ic24 := zeq (a := v21.toInt) (b := 0) rfl (by decide) c24
        replace hv21 := (hv21.resolve_left (fun q => by omega)).2
        refine lv_iconst (v := (-1)) hx hb dX8_worths_27 (by decide) ?_
        have hpost : ∃ u21 : Nat → Nat → Int32, σ = (upR σ 21 4 u21) ∧ True := by refine ⟨(fun i => σ (21 + i)), by first | rfl | (funext j; simp only [upC, upR]; (repeat' split) <;> first | rfl | (simp_all; done) | (congr 1; omega) | (exfalso; omega)), ?_⟩; trivial
        exact W.iret (v := (-1)) hx hb hr (fun t9 ht hW => ⟨⟨(-1), σ, rfl, hpost, by rw [ht]; exact hP, va_K.moved hW.alike hK, hD⟩, hS.F ht⟩) hS.2.2 dX8_worths_28

