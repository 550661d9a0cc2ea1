abbrev RM_X8_sum : Room := { frames := 5, cells := 0, slots := 0, locals := 108 }
set_option maxHeartbeats 4000000 in
set_option maxRecDepth 100000 in
theorem c_X8_sum (l : Launch) (dC : Nat → ClassId) (dI : Nat → Nat → Nat) (cB cI cS cII : ClassId) (a : Nat → Nat) (N : (Nat → Prop) → State → Prop) (hok : zNok N) (hn : ∀ A U, N A U → zN U) (σ : Cn) (sz : Nat) (x1 : Int32) (x2 : Int32) (x3 : Int32) (h0 : 0 ≤ (σ 4 1).toInt ∧ (σ 4 1).toInt ≤ 4) (h2 : 0 ≤ (σ 4 2).toInt ∧ (σ 4 2).toInt ≤ 10) : Met l yX8_sum wsX8_sum RM_X8_sum (zPc (dC, dI) (zT cB cI cS cII) N (wX a cB cI cS cII) σ sz [.ref (a 0), .int x1, .int x2, .int x3]) (zQi (dC, dI) (zT cB cI cS cII) (wX a cB cI cS cII) (va_A (wX a cB cI cS cII σ) sz) (fun (r : Int32) (σ1 : Cn) => ∃ u5 : Nat → Int32, ∃ u25 : Nat → Int32, ∃ u26 : Nat → Int32, σ1 = (upC (upC (upC σ 5 u5) 25 u25) 26 u26) ∧ True)) 0 0 (va_A (wX a cB cI cS cII σ) sz) := by
  refine Met.ofW (cc := cX8_sum) (maxL := 4) (ret := (some .int)) (by decide) rfl ?_
  intro p e s m args below meth c s₁ B hml hv
  obtain ⟨rfl, hsz, hP, hK, hD0, hN⟩ := hv
  have hx := B.exec
  have hb := B.bytes
  have hr := B.returns
  have hts := atoms_spec (ws := wsX8_sum) B.pre
  have hown : s.vm.findClass RX8 = some m.cls := findClass_of_methodNamed B.named
  have hlocks := B.notSynchronized
  subst hsz
  have hD := hD0.self (sz := s.heap.size)
  generalize hAe : va_A (wX a cB cI cS cII σ) s.heap.size = A at hD hN ⊢
  have hA : ∀ q : Nat, s.heap.size ≤ q → A q := fun q h => by rw [← hAe]; exact Or.inr h
  clear hAe hD0
  have hS : va_S A s.heap s.heap [] := va_S.rf
  have in8 : ∀ w ∈ u_ws RX8 TX8 7, w ∈ wsX8_sum := by decide +kernel
  have k30 := hts (.fieldLink RX8 30 "HouseSorted" "house" "LHouseSorted$House;") (by decide +kernel)
  have k39 := hts (.fieldLink RX8 39 "HouseSorted" "shares" "LHouseSorted$Sharing;") (by decide +kernel)
  have hl := lv_entry ([.ref (a 0), .int x1, .int x2, .int x3]) (n := 4) (Nat.le_of_ble_eq_true rfl)
  rw [lg_entry_eq]
  generalize (lg_sl ([.ref (a 0), .int x1, .int x2, .int x3]) ++ List.replicate (4 - (lg_sl ([.ref (a 0), .int x1, .int x2, .int x3])).length) Slot.unset).toArray = ls at hl ⊢
  have hl : lv_has ls 4 [(0, .ref (a 0)), (1, .int x1), (2, .int x2), (3, .int x3)] := hl
  suffices main : ∀ (H : Heap) (locs : List Loc), va_P (dC, dI) vwCl (wX a cB cI cS cII σ) H → va_D A (wX a cB cI cS cII σ) → va_S A s.heap H locs → W p l e (headSpec wsX8_sum RM_X8_sum).room s m ([.ref (a 0), .int x1, .int x2, .int x3] : List Value).toArray below meth c H locs 0 0 (MQ below (zQi (dC, dI) (zT cB cI cS cII) (wX a cB cI cS cII) A (fun (r : Int32) (σ1 : Cn) => ∃ u5 : Nat → Int32, ∃ u25 : Nat → Int32, ∃ u26 : Nat → Int32, σ1 = (upC (upC (upC σ 5 u5) 25 u25) 26 u26) ∧ True)) ([.ref (a 0), .int x1, .int x2, .int x3] : List Value).toArray s 0 0 A) (F0 m 0 ls []) from main s.heap [] hP hD hS
  intro H locs hP hD hS
  refine lv_aload_n hx hb dX8_sum_0 rfl (lv_at hl 0 rfl) ?_
  refine va_get (D := (dC, dI)) (ci := 8) (v := .ref (a 4)) (C := RX8) (T := TX8) (N := 7) hx hb hts in8 hown hK hP 0 rfl rfl 2 (by decide) k30 (fun _ h9 => h9) rfl dX8_sum_1 ?_
  refine lv_iload_n hx hb dX8_sum_4 rfl (lv_at hl 2 rfl) ?_
  refine zcalli (va_runV (As := [.int x2]) (rest := []) ⟨hx, hb, hml, hown, hts⟩ (c_X1_hasHeir l dC dI cB cI cS cII a N hok hn σ H.size (x2) ) (cwV 1 hts gX8_sum_X1_hasHeir rfl rfl rfl (by decide +kernel) ⟨Nat.le_of_ble_eq_true rfl, Nat.le_of_ble_eq_true rfl⟩) (zpreV (wf := wX a cB cI cS cII) (q0 := 4) (ci := 1) hok hN hS hA hK hP hD rfl rfl) rfl rfl hl.1 rfl (lv_room (Nat.le_of_ble_eq_true rfl)) dX8_sum_5 ⟨Nat.zero_le _, Nat.zero_le _⟩) hD hS hA (fun v5 σ1 H locs hv5 hP hD hS => ?_)
  obtain ⟨es9, hv5⟩ := hv5
  subst σ1
  refine lv_if_eq (tgt := 33) hx hb dX8_sum_8 (by decide) (fun c8 => ?_) (fun c8 => ?_)
  · skip
    have ic8 := zeq (a := v5.toInt) (b := 0) rfl (by decide) c8
    replace hv5 := (hv5.resolve_left (fun q => by omega)).2
    refine lv_iconst (v := (-1)) hx hb dX8_sum_33 (by decide) ?_
    have hpost : ∃ u5 : Nat → Int32, ∃ u25 : Nat → Int32, ∃ u26 : Nat → Int32, σ = (upC (upC (upC σ 5 u5) 25 u25) 26 u26) ∧ True := by refine ⟨(σ 5), (σ 25), (σ 26), by first | rfl | (funext j; simp only [upC, upR]; (repeat' split) <;> first | rfl | (simp_all; done) | (congr 1; omega) | (exfalso; omega)), ?_⟩; trivial
    exact W.iret (v := (-1)) hx hb hr (fun t9 ht hW => ⟨⟨(-1), σ, rfl, hpost, by rw [ht]; exact hP, va_K.moved hW.alike hK, hD⟩, hS.F ht⟩) hS.2.2 dX8_sum_34
  · skip
    have ic8 := zneq (a := v5.toInt) (b := 0) rfl (by decide) c8
    replace hv5 := (hv5.resolve_right (fun q => by omega)).2
    refine lv_aload_n hx hb dX8_sum_11 rfl (lv_at hl 0 rfl) ?_
    refine va_get (D := (dC, dI)) (ci := 8) (v := .ref (a 4)) (C := RX8) (T := TX8) (N := 7) hx hb hts in8 hown hK hP 0 rfl rfl 2 (by decide) k30 (fun _ h9 => h9) rfl dX8_sum_12 ?_
    refine lv_iload_n hx hb dX8_sum_15 rfl (lv_at hl 3 rfl) ?_
    refine zcalli (va_runV (As := [.int x3]) (rest := []) ⟨hx, hb, hml, hown, hts⟩ (c_X1_hasHeir l dC dI cB cI cS cII a N hok hn σ H.size (x3) ) (cwV 1 hts gX8_sum_X1_hasHeir rfl rfl rfl (by decide +kernel) ⟨Nat.le_of_ble_eq_true rfl, Nat.le_of_ble_eq_true rfl⟩) (zpreV (wf := wX a cB cI cS cII) (q0 := 4) (ci := 1) hok hN hS hA hK hP hD rfl rfl) rfl rfl hl.1 rfl (lv_room (Nat.le_of_ble_eq_true rfl)) dX8_sum_16 ⟨Nat.zero_le _, Nat.zero_le _⟩) hD hS hA (fun v16 σ1 H locs hv16 hP hD hS => ?_)
    obtain ⟨es9, hv16⟩ := hv16
    subst σ1
    refine lv_if_eq (tgt := 33) hx hb dX8_sum_19 (by decide) (fun c19 => ?_) (fun c19 => ?_)
    · skip
      have ic19 := zeq (a := v16.toInt) (b := 0) rfl (by decide) c19
      replace hv16 := (hv16.resolve_left (fun q => by omega)).2
      refine lv_iconst (v := (-1)) hx hb dX8_sum_33 (by decide) ?_
      have hpost : ∃ u5 : Nat → Int32, ∃ u25 : Nat → Int32, ∃ u26 : Nat → Int32, σ = (upC (upC (upC σ 5 u5) 25 u25) 26 u26) ∧ True := by refine ⟨(σ 5), (σ 25), (σ 26), by first | rfl | (funext j; simp only [upC, upR]; (repeat' split) <;> first | rfl | (simp_all; done) | (congr 1; omega) | (exfalso; omega)), ?_⟩; trivial
      exact W.iret (v := (-1)) hx hb hr (fun t9 ht hW => ⟨⟨(-1), σ, rfl, hpost, by rw [ht]; exact hP, va_K.moved hW.alike hK, hD⟩, hS.F ht⟩) hS.2.2 dX8_sum_34
    · skip
      have ic19 := zneq (a := v16.toInt) (b := 0) rfl (by decide) c19
      replace hv16 := (hv16.resolve_right (fun q => by omega)).2
      refine lv_aload_n hx hb dX8_sum_22 rfl (lv_at hl 0 rfl) ?_
      refine va_get (D := (dC, dI)) (ci := 8) (v := .ref (a 5)) (C := RX8) (T := TX8) (N := 7) hx hb hts in8 hown hK hP 0 rfl rfl 3 (by decide) k39 (fun _ h9 => h9) rfl dX8_sum_23 ?_
      refine lv_iload_n hx hb dX8_sum_26 rfl (lv_at hl 1 rfl) ?_
      refine zcalli (va_runV (As := [.int x1]) (rest := []) ⟨hx, hb, hml, hown, hts⟩ (c_X3_readNumber l dC dI cB cI cS cII a N hok hn σ H.size (x1) h0 h2) (cwV 1 hts gX8_sum_X3_readNumber rfl rfl rfl (by decide +kernel) ⟨Nat.le_of_ble_eq_true rfl, Nat.le_of_ble_eq_true rfl⟩) (zpreV (wf := wX a cB cI cS cII) (q0 := 5) (ci := 3) hok hN hS hA hK hP hD rfl rfl) rfl rfl hl.1 rfl (lv_room (Nat.le_of_ble_eq_true rfl)) dX8_sum_27 ⟨Nat.zero_le _, Nat.zero_le _⟩) hD hS hA (fun v27 σ1 H locs hv27 hP hD hS => ?_)
      obtain ⟨u5_27, u25_27, u26_27, es9, hv27⟩ := hv27
      subst σ1
      have hP : va_P (dC, dI) vwCl (wX a cB cI cS cII (upC (upC (upC σ 5 u5_27) 25 u25_27) 26 u26_27)) H := hP
      have hD : va_D A (wX a cB cI cS cII (upC (upC (upC σ 5 u5_27) 25 u25_27) 26 u26_27)) := hD
      have hs := hv27.2.1
      have hq := hv27.2.2
      refine lv_if_ne (tgt := 35) hx hb dX8_sum_30 (by decide) (fun c30 => ?_) (fun c30 => ?_)
      · skip
        have ic30 := zneq (a := v27.toInt) (b := 0) rfl (by decide) c30
        refine lv_aload_n hx hb dX8_sum_35 rfl (lv_at hl 0 rfl) ?_
        refine va_get (D := (dC, dI)) (ci := 8) (v := .ref (a 5)) (C := RX8) (T := TX8) (N := 7) hx hb hts in8 hown hK hP 0 rfl rfl 3 (by decide) k39 (fun _ h9 => h9) rfl dX8_sum_36 ?_
        refine lv_iload_n hx hb dX8_sum_39 rfl (lv_at hl 2 rfl) ?_
        refine lv_iload_n hx hb dX8_sum_40 rfl (lv_at hl 3 rfl) ?_
        refine zcalli (va_runV (As := [.int x2, .int x3]) (rest := []) ⟨hx, hb, hml, hown, hts⟩ (c_X3_sumOf l dC dI cB cI cS cII a N hok hn (upC (upC (upC σ 5 u5_27) 25 u25_27) 26 u26_27) H.size (x2) (x3) (by omega) hs hq) (cwV 2 hts gX8_sum_X3_sumOf rfl rfl rfl (by decide +kernel) ⟨Nat.le_of_ble_eq_true rfl, Nat.le_of_ble_eq_true rfl⟩) (zpreV (wf := wX a cB cI cS cII) (q0 := 5) (ci := 3) hok hN hS hA hK hP hD rfl rfl) rfl rfl hl.1 rfl (lv_room (Nat.le_of_ble_eq_true rfl)) dX8_sum_41 ⟨Nat.zero_le _, Nat.zero_le _⟩) hD hS hA (fun v41 σ1 H locs hv41 hP hD hS => ?_)
        obtain ⟨es9, hv41⟩ := hv41
        subst σ1
        have hpost : ∃ u5 : Nat → Int32, ∃ u25 : Nat → Int32, ∃ u26 : Nat → Int32, (upC (upC (upC σ 5 u5_27) 25 u25_27) 26 u26_27) = (upC (upC (upC σ 5 u5) 25 u25) 26 u26) ∧ True := by refine ⟨(u5_27), (u25_27), (u26_27), by first | rfl | (funext j; simp only [upC, upR]; (repeat' split) <;> first | rfl | (simp_all; done) | (congr 1; omega) | (exfalso; omega)), ?_⟩; trivial
        exact W.iret (v := v41) hx hb hr (fun t9 ht hW => ⟨⟨v41, (upC (upC (upC σ 5 u5_27) 25 u25_27) 26 u26_27), rfl, hpost, by rw [ht]; exact hP, va_K.moved hW.alike hK, hD⟩, hS.F ht⟩) hS.2.2 dX8_sum_44
      · skip
        have ic30 := zeq (a := v27.toInt) (b := 0) rfl (by decide) c30
        refine lv_iconst (v := (-1)) hx hb dX8_sum_33 (by decide) ?_
        have hpost : ∃ u5 : Nat → Int32, ∃ u25 : Nat → Int32, ∃ u26 : Nat → Int32, (upC (upC (upC σ 5 u5_27) 25 u25_27) 26 u26_27) = (upC (upC (upC σ 5 u5) 25 u25) 26 u26) ∧ True := by refine ⟨(u5_27), (u25_27), (u26_27), by first | rfl | (funext j; simp only [upC, upR]; (repeat' split) <;> first | rfl | (simp_all; done) | (congr 1; omega) | (exfalso; omega)), ?_⟩; trivial
        exact W.iret (v := (-1)) hx hb hr (fun t9 ht hW => ⟨⟨(-1), (upC (upC (upC σ 5 u5_27) 25 u25_27) 26 u26_27), rfl, hpost, by rw [ht]; exact hP, va_K.moved hW.alike hK, hD⟩, hS.F ht⟩) hS.2.2 dX8_sum_34

abbrev RM_X8_envies : Room := { frames := 5, cells := 0, slots := 0, locals := 108 }
set_option maxHeartbeats 4000000 in
set_option maxRecDepth 100000 in
theorem c_X8_envies (l : Launch) (dC : Nat → ClassId) (dI : Nat → Nat → Nat) (cB cI cS cII : ClassId) (a : Nat → Nat) (N : (Nat → Prop) → State → Prop) (hok : zNok N) (hn : ∀ A U, N A U → zN U) (σ : Cn) (sz : Nat) (x1 : Int32) (x2 : Int32) (x3 : Int32) (h0 : 0 ≤ (σ 4 1).toInt ∧ (σ 4 1).toInt ≤ 4) (h2 : 0 ≤ (σ 4 2).toInt ∧ (σ 4 2).toInt ≤ 10) : Met l yX8_envies wsX8_envies RM_X8_envies (zPc (dC, dI) (zT cB cI cS cII) N (wX a cB cI cS cII) σ sz [.ref (a 0), .int x1, .int x2, .int x3]) (zQi (dC, dI) (zT cB cI cS cII) (wX a cB cI cS cII) (va_A (wX a cB cI cS cII σ) sz) (fun (r : Int32) (σ1 : Cn) => ∃ u5 : Nat → Int32, ∃ u25 : Nat → Int32, ∃ u26 : Nat → Int32, σ1 = (upC (upC (upC σ 5 u5) 25 u25) 26 u26) ∧ True)) 0 0 (va_A (wX a cB cI cS cII σ) sz) := by
  refine Met.ofW (cc := cX8_envies) (maxL := 4) (ret := (some .int)) (by decide) rfl ?_
  intro p e s m args below meth c s₁ B hml hv
  obtain ⟨rfl, hsz, hP, hK, hD0, hN⟩ := hv
  have hx := B.exec
  have hb := B.bytes
  have hr := B.returns
  have hts := atoms_spec (ws := wsX8_envies) B.pre
  have hown : s.vm.findClass RX8 = some m.cls := findClass_of_methodNamed B.named
  have hlocks := B.notSynchronized
  subst hsz
  have hD := hD0.self (sz := s.heap.size)
  generalize hAe : va_A (wX a cB cI cS cII σ) s.heap.size = A at hD hN ⊢
  have hA : ∀ q : Nat, s.heap.size ≤ q → A q := fun q h => by rw [← hAe]; exact Or.inr h
  clear hAe hD0
  have hS : va_S A s.heap s.heap [] := va_S.rf
  have in8 : ∀ w ∈ u_ws RX8 TX8 7, w ∈ wsX8_envies := by decide +kernel
  have k30 := hts (.fieldLink RX8 30 "HouseSorted" "house" "LHouseSorted$House;") (by decide +kernel)
  have k39 := hts (.fieldLink RX8 39 "HouseSorted" "shares" "LHouseSorted$Sharing;") (by decide +kernel)
  have hl := lv_entry ([.ref (a 0), .int x1, .int x2, .int x3]) (n := 4) (Nat.le_of_ble_eq_true rfl)
  rw [lg_entry_eq]
  generalize (lg_sl ([.ref (a 0), .int x1, .int x2, .int x3]) ++ List.replicate (4 - (lg_sl ([.ref (a 0), .int x1, .int x2, .int x3])).length) Slot.unset).toArray = ls at hl ⊢
  have hl : lv_has ls 4 [(0, .ref (a 0)), (1, .int x1), (2, .int x2), (3, .int x3)] := hl
  suffices main : ∀ (H : Heap) (locs : List Loc), va_P (dC, dI) vwCl (wX a cB cI cS cII σ) H → va_D A (wX a cB cI cS cII σ) → va_S A s.heap H locs → W p l e (headSpec wsX8_envies RM_X8_envies).room s m ([.ref (a 0), .int x1, .int x2, .int x3] : List Value).toArray below meth c H locs 0 0 (MQ below (zQi (dC, dI) (zT cB cI cS cII) (wX a cB cI cS cII) A (fun (r : Int32) (σ1 : Cn) => ∃ u5 : Nat → Int32, ∃ u25 : Nat → Int32, ∃ u26 : Nat → Int32, σ1 = (upC (upC (upC σ 5 u5) 25 u25) 26 u26) ∧ True)) ([.ref (a 0), .int x1, .int x2, .int x3] : List Value).toArray s 0 0 A) (F0 m 0 ls []) from main s.heap [] hP hD hS
  intro H locs hP hD hS
  refine lv_aload_n hx hb dX8_envies_0 rfl (lv_at hl 0 rfl) ?_
  refine va_get (D := (dC, dI)) (ci := 8) (v := .ref (a 4)) (C := RX8) (T := TX8) (N := 7) hx hb hts in8 hown hK hP 0 rfl rfl 2 (by decide) k30 (fun _ h9 => h9) rfl dX8_envies_1 ?_
  refine lv_iload_n hx hb dX8_envies_4 rfl (lv_at hl 2 rfl) ?_
  refine zcalli (va_runV (As := [.int x2]) (rest := []) ⟨hx, hb, hml, hown, hts⟩ (c_X1_hasHeir l dC dI cB cI cS cII a N hok hn σ H.size (x2) ) (cwV 1 hts gX8_envies_X1_hasHeir rfl rfl rfl (by decide +kernel) ⟨Nat.le_of_ble_eq_true rfl, Nat.le_of_ble_eq_true rfl⟩) (zpreV (wf := wX a cB cI cS cII) (q0 := 4) (ci := 1) hok hN hS hA hK hP hD rfl rfl) rfl rfl hl.1 rfl (lv_room (Nat.le_of_ble_eq_true rfl)) dX8_envies_5 ⟨Nat.zero_le _, Nat.zero_le _⟩) hD hS hA (fun v5 σ1 H locs hv5 hP hD hS => ?_)
  obtain ⟨es9, hv5⟩ := hv5
  subst σ1
  refine lv_if_eq (tgt := 38) hx hb dX8_envies_8 (by decide) (fun c8 => ?_) (fun c8 => ?_)
  · skip
    have ic8 := zeq (a := v5.toInt) (b := 0) rfl (by decide) c8
    replace hv5 := (hv5.resolve_left (fun q => by omega)).2
    refine lv_iconst (v := (-1)) hx hb dX8_envies_38 (by decide) ?_
    have hpost : ∃ u5 : Nat → Int32, ∃ u25 : Nat → Int32, ∃ u26 : Nat → Int32, σ = (upC (upC (upC σ 5 u5) 25 u25) 26 u26) ∧ True := by refine ⟨(σ 5), (σ 25), (σ 26), by first | rfl | (funext j; simp only [upC, upR]; (repeat' split) <;> first | rfl | (simp_all; done) | (congr 1; omega) | (exfalso; omega)), ?_⟩; trivial
    exact W.iret (v := (-1)) hx hb hr (fun t9 ht hW => ⟨⟨(-1), σ, rfl, hpost, by rw [ht]; exact hP, va_K.moved hW.alike hK, hD⟩, hS.F ht⟩) hS.2.2 dX8_envies_39
  · skip
    have ic8 := zneq (a := v5.toInt) (b := 0) rfl (by decide) c8
    replace hv5 := (hv5.resolve_right (fun q => by omega)).2
    refine lv_aload_n hx hb dX8_envies_11 rfl (lv_at hl 0 rfl) ?_
    refine va_get (D := (dC, dI)) (ci := 8) (v := .ref (a 4)) (C := RX8) (T := TX8) (N := 7) hx hb hts in8 hown hK hP 0 rfl rfl 2 (by decide) k30 (fun _ h9 => h9) rfl dX8_envies_12 ?_
    refine lv_iload_n hx hb dX8_envies_15 rfl (lv_at hl 3 rfl) ?_
    refine zcalli (va_runV (As := [.int x3]) (rest := []) ⟨hx, hb, hml, hown, hts⟩ (c_X1_hasHeir l dC dI cB cI cS cII a N hok hn σ H.size (x3) ) (cwV 1 hts gX8_envies_X1_hasHeir rfl rfl rfl (by decide +kernel) ⟨Nat.le_of_ble_eq_true rfl, Nat.le_of_ble_eq_true rfl⟩) (zpreV (wf := wX a cB cI cS cII) (q0 := 4) (ci := 1) hok hN hS hA hK hP hD rfl rfl) rfl rfl hl.1 rfl (lv_room (Nat.le_of_ble_eq_true rfl)) dX8_envies_16 ⟨Nat.zero_le _, Nat.zero_le _⟩) hD hS hA (fun v16 σ1 H locs hv16 hP hD hS => ?_)
    obtain ⟨es9, hv16⟩ := hv16
    subst σ1
    refine lv_if_eq (tgt := 38) hx hb dX8_envies_19 (by decide) (fun c19 => ?_) (fun c19 => ?_)
    · skip
      have ic19 := zeq (a := v16.toInt) (b := 0) rfl (by decide) c19
      replace hv16 := (hv16.resolve_left (fun q => by omega)).2
      refine lv_iconst (v := (-1)) hx hb dX8_envies_38 (by decide) ?_
      have hpost : ∃ u5 : Nat → Int32, ∃ u25 : Nat → Int32, ∃ u26 : Nat → Int32, σ = (upC (upC (upC σ 5 u5) 25 u25) 26 u26) ∧ True := by refine ⟨(σ 5), (σ 25), (σ 26), by first | rfl | (funext j; simp only [upC, upR]; (repeat' split) <;> first | rfl | (simp_all; done) | (congr 1; omega) | (exfalso; omega)), ?_⟩; trivial
      exact W.iret (v := (-1)) hx hb hr (fun t9 ht hW => ⟨⟨(-1), σ, rfl, hpost, by rw [ht]; exact hP, va_K.moved hW.alike hK, hD⟩, hS.F ht⟩) hS.2.2 dX8_envies_39
    · skip
      have ic19 := zneq (a := v16.toInt) (b := 0) rfl (by decide) c19
      replace hv16 := (hv16.resolve_right (fun q => by omega)).2
      refine lv_iload_n hx hb dX8_envies_22 rfl (lv_at hl 2 rfl) ?_
      refine lv_iload_n hx hb dX8_envies_23 rfl (lv_at hl 3 rfl) ?_
      refine lv_icmp_eq (tgt := 38) hx hb dX8_envies_24 (by decide) (fun c24 => ?_) (fun c24 => ?_)
      · skip
        have ic24 := zeq (a := x2.toInt) (b := x3.toInt) rfl rfl c24
        refine lv_iconst (v := (-1)) hx hb dX8_envies_38 (by decide) ?_
        have hpost : ∃ u5 : Nat → Int32, ∃ u25 : Nat → Int32, ∃ u26 : Nat → Int32, σ = (upC (upC (upC σ 5 u5) 25 u25) 26 u26) ∧ True := by refine ⟨(σ 5), (σ 25), (σ 26), by first | rfl | (funext j; simp only [upC, upR]; (repeat' split) <;> first | rfl | (simp_all; done) | (congr 1; omega) | (exfalso; omega)), ?_⟩; trivial
        exact W.iret (v := (-1)) hx hb hr (fun t9 ht hW => ⟨⟨(-1), σ, rfl, hpost, by rw [ht]; exact hP, va_K.moved hW.alike hK, hD⟩, hS.F ht⟩) hS.2.2 dX8_envies_39
      · skip
        have ic24 := zneq (a := x2.toInt) (b := x3.toInt) rfl rfl c24
        refine lv_aload_n hx hb dX8_envies_27 rfl (lv_at hl 0 rfl) ?_
        refine va_get (D := (dC, dI)) (ci := 8) (v := .ref (a 5)) (C := RX8) (T := TX8) (N := 7) hx hb hts in8 hown hK hP 0 rfl rfl 3 (by decide) k39 (fun _ h9 => h9) rfl dX8_envies_28 ?_
        refine lv_iload_n hx hb dX8_envies_31 rfl (lv_at hl 1 rfl) ?_
        refine zcalli (va_runV (As := [.int x1]) (rest := []) ⟨hx, hb, hml, hown, hts⟩ (c_X3_readNumber l dC dI cB cI cS cII a N hok hn σ H.size (x1) h0 h2) (cwV 1 hts gX8_envies_X3_readNumber rfl rfl rfl (by decide +kernel) ⟨Nat.le_of_ble_eq_true rfl, Nat.le_of_ble_eq_true rfl⟩) (zpreV (wf := wX a cB cI cS cII) (q0 := 5) (ci := 3) hok hN hS hA hK hP hD rfl rfl) rfl rfl hl.1 rfl (lv_room (Nat.le_of_ble_eq_true rfl)) dX8_envies_32 ⟨Nat.zero_le _, Nat.zero_le _⟩) hD hS hA (fun v32 σ1 H locs hv32 hP hD hS => ?_)
        obtain ⟨u5_32, u25_32, u26_32, es9, hv32⟩ := hv32
        subst σ1
        have hP : va_P (dC, dI) vwCl (wX a cB cI cS cII (upC (upC (upC σ 5 u5_32) 25 u25_32) 26 u26_32)) H := hP
        have hD : va_D A (wX a cB cI cS cII (upC (upC (upC σ 5 u5_32) 25 u25_32) 26 u26_32)) := hD
        have hs := hv32.2.1
        have hq := hv32.2.2
        refine lv_if_ne (tgt := 40) hx hb dX8_envies_35 (by decide) (fun c35 => ?_) (fun c35 => ?_)
        · skip
          have ic35 := zneq (a := v32.toInt) (b := 0) rfl (by decide) c35
          refine lv_aload_n hx hb dX8_envies_40 rfl (lv_at hl 0 rfl) ?_
          refine va_get (D := (dC, dI)) (ci := 8) (v := .ref (a 5)) (C := RX8) (T := TX8) (N := 7) hx hb hts in8 hown hK hP 0 rfl rfl 3 (by decide) k39 (fun _ h9 => h9) rfl dX8_envies_41 ?_
          refine lv_iload_n hx hb dX8_envies_44 rfl (lv_at hl 2 rfl) ?_
          refine lv_iload_n hx hb dX8_envies_45 rfl (lv_at hl 3 rfl) ?_
          refine zcalli (va_runV (As := [.int x2, .int x3]) (rest := []) ⟨hx, hb, hml, hown, hts⟩ (c_X3_envyOf l dC dI cB cI cS cII a N hok hn (upC (upC (upC σ 5 u5_32) 25 u25_32) 26 u26_32) H.size (x2) (x3) (by omega) hs hq) (cwV 2 hts gX8_envies_X3_envyOf rfl rfl rfl (by decide +kernel) ⟨Nat.le_of_ble_eq_true rfl, Nat.le_of_ble_eq_true rfl⟩) (zpreV (wf := wX a cB cI cS cII) (q0 := 5) (ci := 3) hok hN hS hA hK hP hD rfl rfl) rfl rfl hl.1 rfl (lv_room (Nat.le_of_ble_eq_true rfl)) dX8_envies_46 ⟨Nat.zero_le _, Nat.zero_le _⟩) hD hS hA (fun v46 σ1 H locs hv46 hP hD hS => ?_)
          obtain ⟨es9, hv46⟩ := hv46
          subst σ1
          have hpost : ∃ u5 : Nat → Int32, ∃ u25 : Nat → Int32, ∃ u26 : Nat → Int32, (upC (upC (upC σ 5 u5_32) 25 u25_32) 26 u26_32) = (upC (upC (upC σ 5 u5) 25 u25) 26 u26) ∧ True := by refine ⟨(u5_32), (u25_32), (u26_32), by first | rfl | (funext j; simp only [upC, upR]; (repeat' split) <;> first | rfl | (simp_all; done) | (congr 1; omega) | (exfalso; omega)), ?_⟩; trivial
          exact W.iret (v := v46) hx hb hr (fun t9 ht hW => ⟨⟨v46, (upC (upC (upC σ 5 u5_32) 25 u25_32) 26 u26_32), rfl, hpost, by rw [ht]; exact hP, va_K.moved hW.alike hK, hD⟩, hS.F ht⟩) hS.2.2 dX8_envies_49
        · skip
          have ic35 := zeq (a := v32.toInt) (b := 0) rfl (by decide) c35
          refine lv_iconst (v := (-1)) hx hb dX8_envies_38 (by decide) ?_
          have hpost : ∃ u5 : Nat → Int32, ∃ u25 : Nat → Int32, ∃ u26 : Nat → Int32, (upC (upC (upC σ 5 u5_32) 25 u25_32) 26 u26_32) = (upC (upC (upC σ 5 u5) 25 u25) 26 u26) ∧ True := by refine ⟨(u5_32), (u25_32), (u26_32), by first | rfl | (funext j; simp only [upC, upR]; (repeat' split) <;> first | rfl | (simp_all; done) | (congr 1; omega) | (exfalso; omega)), ?_⟩; trivial
          exact W.iret (v := (-1)) hx hb hr (fun t9 ht hW => ⟨⟨(-1), (upC (upC (upC σ 5 u5_32) 25 u25_32) 26 u26_32), rfl, hpost, by rw [ht]; exact hP, va_K.moved hW.alike hK, hD⟩, hS.F ht⟩) hS.2.2 dX8_envies_39

abbrev RM_X8_envy : Room := { frames := 5, cells := 0, slots := 0, locals := 108 }
set_option maxHeartbeats 4000000 in
set_option maxRecDepth 100000 in
theorem c_X8_envy (l : Launch) (dC : Nat → ClassId) (dI : Nat → Nat → Nat) (cB cI cS cII : ClassId) (a : Nat → Nat) (N : (Nat → Prop) → State → Prop) (hok : zNok N) (hn : ∀ A U, N A U → zN U) (σ : Cn) (sz : Nat) (x1 : Int32) (h0 : 0 ≤ (σ 4 1).toInt ∧ (σ 4 1).toInt ≤ 4) (h2 : 0 ≤ (σ 4 2).toInt ∧ (σ 4 2).toInt ≤ 10) : Met l yX8_envy wsX8_envy RM_X8_envy (zPc (dC, dI) (zT cB cI cS cII) N (wX a cB cI cS cII) σ sz [.ref (a 0), .int x1]) (zQi (dC, dI) (zT cB cI cS cII) (wX a cB cI cS cII) (va_A (wX a cB cI cS cII σ) sz) (fun (r : Int32) (σ1 : Cn) => ∃ u5 : Nat → Int32, ∃ u25 : Nat → Int32, ∃ u26 : Nat → Int32, σ1 = (upC (upC (upC σ 5 u5) 25 u25) 26 u26) ∧ True)) 0 0 (va_A (wX a cB cI cS cII σ) sz) := by
  refine Met.ofW (cc := cX8_envy) (maxL := 2) (ret := (some .int)) (by decide) rfl ?_
  intro p e s m args below meth c s₁ B hml hv
  obtain ⟨rfl, hsz, hP, hK, hD0, hN⟩ := hv
  have hx := B.exec
  have hb := B.bytes
  have hr := B.returns
  have hts := atoms_spec (ws := wsX8_envy) B.pre
  have hown : s.vm.findClass RX8 = some m.cls := findClass_of_methodNamed B.named
  have hlocks := B.notSynchronized
  subst hsz
  have hD := hD0.self (sz := s.heap.size)
  generalize hAe : va_A (wX a cB cI cS cII σ) s.heap.size = A at hD hN ⊢
  have hA : ∀ q : Nat, s.heap.size ≤ q → A q := fun q h => by rw [← hAe]; exact Or.inr h
  clear hAe hD0
  have hS : va_S A s.heap s.heap [] := va_S.rf
  have in8 : ∀ w ∈ u_ws RX8 TX8 7, w ∈ wsX8_envy := by decide +kernel
  have k39 := hts (.fieldLink RX8 39 "HouseSorted" "shares" "LHouseSorted$Sharing;") (by decide +kernel)
  have hl := lv_entry ([.ref (a 0), .int x1]) (n := 2) (Nat.le_of_ble_eq_true rfl)
  rw [lg_entry_eq]
  generalize (lg_sl ([.ref (a 0), .int x1]) ++ List.replicate (2 - (lg_sl ([.ref (a 0), .int x1])).length) Slot.unset).toArray = ls at hl ⊢
  have hl : lv_has ls 2 [(0, .ref (a 0)), (1, .int x1)] := hl
  suffices main : ∀ (H : Heap) (locs : List Loc), va_P (dC, dI) vwCl (wX a cB cI cS cII σ) H → va_D A (wX a cB cI cS cII σ) → va_S A s.heap H locs → W p l e (headSpec wsX8_envy RM_X8_envy).room s m ([.ref (a 0), .int x1] : List Value).toArray below meth c H locs 0 0 (MQ below (zQi (dC, dI) (zT cB cI cS cII) (wX a cB cI cS cII) A (fun (r : Int32) (σ1 : Cn) => ∃ u5 : Nat → Int32, ∃ u25 : Nat → Int32, ∃ u26 : Nat → Int32, σ1 = (upC (upC (upC σ 5 u5) 25 u25) 26 u26) ∧ True)) ([.ref (a 0), .int x1] : List Value).toArray s 0 0 A) (F0 m 0 ls []) from main s.heap [] hP hD hS
  intro H locs hP hD hS
  refine lv_aload_n hx hb dX8_envy_0 rfl (lv_at hl 0 rfl) ?_
  refine va_get (D := (dC, dI)) (ci := 8) (v := .ref (a 5)) (C := RX8) (T := TX8) (N := 7) hx hb hts in8 hown hK hP 0 rfl rfl 3 (by decide) k39 (fun _ h9 => h9) rfl dX8_envy_1 ?_
  refine lv_iload_n hx hb dX8_envy_4 rfl (lv_at hl 1 rfl) ?_
  refine zcalli (va_runV (As := [.int x1]) (rest := []) ⟨hx, hb, hml, hown, hts⟩ (c_X3_readNumber l dC dI cB cI cS cII a N hok hn σ H.size (x1) h0 h2) (cwV 1 hts gX8_envy_X3_readNumber rfl rfl rfl (by decide +kernel) ⟨Nat.le_of_ble_eq_true rfl, Nat.le_of_ble_eq_true rfl⟩) (zpreV (wf := wX a cB cI cS cII) (q0 := 5) (ci := 3) hok hN hS hA hK hP hD rfl rfl) rfl rfl hl.1 rfl (lv_room (Nat.le_of_ble_eq_true rfl)) dX8_envy_5 ⟨Nat.zero_le _, Nat.zero_le _⟩) hD hS hA (fun v5 σ1 H locs hv5 hP hD hS => ?_)
  obtain ⟨u5_5, u25_5, u26_5, es9, hv5⟩ := hv5
  subst σ1
  have hP : va_P (dC, dI) vwCl (wX a cB cI cS cII (upC (upC (upC σ 5 u5_5) 25 u25_5) 26 u26_5)) H := hP
  have hD : va_D A (wX a cB cI cS cII (upC (upC (upC σ 5 u5_5) 25 u25_5) 26 u26_5)) := hD
  have hs := hv5.2.1
  have hq := hv5.2.2
  refine lv_if_eq (tgt := 21) hx hb dX8_envy_8 (by decide) (fun c8 => ?_) (fun c8 => ?_)
  · skip
    have ic8 := zeq (a := v5.toInt) (b := 0) rfl (by decide) c8
    refine lv_iconst (v := (-1)) hx hb dX8_envy_21 (by decide) ?_
    have hpost : ∃ u5 : Nat → Int32, ∃ u25 : Nat → Int32, ∃ u26 : Nat → Int32, (upC (upC (upC σ 5 u5_5) 25 u25_5) 26 u26_5) = (upC (upC (upC σ 5 u5) 25 u25) 26 u26) ∧ True := by refine ⟨(u5_5), (u25_5), (u26_5), by first | rfl | (funext j; simp only [upC, upR]; (repeat' split) <;> first | rfl | (simp_all; done) | (congr 1; omega) | (exfalso; omega)), ?_⟩; trivial
    exact W.iret (v := (-1)) hx hb hr (fun t9 ht hW => ⟨⟨(-1), (upC (upC (upC σ 5 u5_5) 25 u25_5) 26 u26_5), rfl, hpost, by rw [ht]; exact hP, va_K.moved hW.alike hK, hD⟩, hS.F ht⟩) hS.2.2 dX8_envy_22
  · skip
    have ic8 := zneq (a := v5.toInt) (b := 0) rfl (by decide) c8
    refine lv_aload_n hx hb dX8_envy_11 rfl (lv_at hl 0 rfl) ?_
    refine va_get (D := (dC, dI)) (ci := 8) (v := .ref (a 5)) (C := RX8) (T := TX8) (N := 7) hx hb hts in8 hown hK hP 0 rfl rfl 3 (by decide) k39 (fun _ h9 => h9) rfl dX8_envy_12 ?_
    refine zcalli (va_runV (As := []) (rest := []) ⟨hx, hb, hml, hown, hts⟩ (c_X3_envyPairs l dC dI cB cI cS cII a N hok hn (upC (upC (upC σ 5 u5_5) 25 u25_5) 26 u26_5) H.size  h0 hs hq) (cwV 0 hts gX8_envy_X3_envyPairs rfl rfl rfl (by decide +kernel) ⟨Nat.le_of_ble_eq_true rfl, Nat.le_of_ble_eq_true rfl⟩) (zpreV (wf := wX a cB cI cS cII) (q0 := 5) (ci := 3) hok hN hS hA hK hP hD rfl rfl) rfl rfl hl.1 rfl (lv_room (Nat.le_of_ble_eq_true rfl)) dX8_envy_15 ⟨Nat.zero_le _, Nat.zero_le _⟩) hD hS hA (fun v15 σ1 H locs hv15 hP hD hS => ?_)
    obtain ⟨es9, hv15⟩ := hv15
    subst σ1
    refine lv_goto (tgt := 22) hx hb dX8_envy_18 (by decide) ?_
    have hpost : ∃ u5 : Nat → Int32, ∃ u25 : Nat → Int32, ∃ u26 : Nat → Int32, (upC (upC (upC σ 5 u5_5) 25 u25_5) 26 u26_5) = (upC (upC (upC σ 5 u5) 25 u25) 26 u26) ∧ True := by refine ⟨(u5_5), (u25_5), (u26_5), by first | rfl | (funext j; simp only [upC, upR]; (repeat' split) <;> first | rfl | (simp_all; done) | (congr 1; omega) | (exfalso; omega)), ?_⟩; trivial
    exact W.iret (v := v15) hx hb hr (fun t9 ht hW => ⟨⟨v15, (upC (upC (upC σ 5 u5_5) 25 u25_5) 26 u26_5), rfl, hpost, by rw [ht]; exact hP, va_K.moved hW.alike hK, hD⟩, hS.F ht⟩) hS.2.2 dX8_envy_22

abbrev RM_X8_fairest : Room := { frames := 12, cells := 0, slots := 0, locals := 300 }
set_option maxHeartbeats 4000000 in
set_option maxRecDepth 100000 in
theorem c_X8_fairest (l : Launch) (dC : Nat → ClassId) (dI : Nat → Nat → Nat) (cB cI cS cII : ClassId) (a : Nat → Nat) (N : (Nat → Prop) → State → Prop) (hok : zNok N) (hn : ∀ A U, N A U → zN U) (σ : Cn) (sz : Nat)  (h0 : 0 ≤ (σ 4 1).toInt ∧ (σ 4 1).toInt ≤ 4) (h2 : 0 ≤ (σ 4 2).toInt ∧ (σ 4 2).toInt ≤ 10) : Met l yX8_fairest wsX8_fairest RM_X8_fairest (zPc (dC, dI) (zT cB cI cS cII) N (wX a cB cI cS cII) σ sz [.ref (a 0)]) (zQi (dC, dI) (zT cB cI cS cII) (wX a cB cI cS cII) (va_A (wX a cB cI cS cII σ) sz) (fun (r : Int32) (σ1 : Cn) => ∃ u5 : Nat → Int32, ∃ u6 : Nat → Int32, ∃ u25 : Nat → Int32, ∃ u27 : Nat → Int32, ∃ u29 : Nat → Nat → Int32, ∃ u33 : Nat → Int32, σ1 = (upC (upC (upC (upC (upC (upR σ 29 4 u29) 5 u5) 6 u6) 25 u25) 27 u27) 33 u33) ∧ True)) 0 0 (va_A (wX a cB cI cS cII σ) sz) := by
  refine Met.ofW (cc := cX8_fairest) (maxL := 1) (ret := (some .int)) (by decide) rfl ?_
  intro p e s m args below meth c s₁ B hml hv
  obtain ⟨rfl, hsz, hP, hK, hD0, hN⟩ := hv
  have hx := B.exec
  have hb := B.bytes
  have hr := B.returns
  have hts := atoms_spec (ws := wsX8_fairest) B.pre
  have hown : s.vm.findClass RX8 = some m.cls := findClass_of_methodNamed B.named
  have hlocks := B.notSynchronized
  subst hsz
  have hD := hD0.self (sz := s.heap.size)
  generalize hAe : va_A (wX a cB cI cS cII σ) s.heap.size = A at hD hN ⊢
  have hA : ∀ q : Nat, s.heap.size ≤ q → A q := fun q h => by rw [← hAe]; exact Or.inr h
  clear hAe hD0
  have hS : va_S A s.heap s.heap [] := va_S.rf
  have in1 : ∀ w ∈ u_ws RX1 TX1 9, w ∈ wsX8_fairest := by decide +kernel
  have in3 : ∀ w ∈ u_ws RX3 TX3 4, w ∈ wsX8_fairest := by decide +kernel
  have in8 : ∀ w ∈ u_ws RX8 TX8 7, w ∈ wsX8_fairest := by decide +kernel
  have k174 := hts (.fieldLink RX8 174 "HouseSorted$Sharing" "size" "I") (by decide +kernel)
  have k30 := hts (.fieldLink RX8 30 "HouseSorted" "house" "LHouseSorted$House;") (by decide +kernel)
  have k39 := hts (.fieldLink RX8 39 "HouseSorted" "shares" "LHouseSorted$Sharing;") (by decide +kernel)
  have k48 := hts (.fieldLink RX8 48 "HouseSorted" "search" "LHouseSorted$FairestSearch;") (by decide +kernel)
  have k91 := hts (.fieldLink RX8 91 "HouseSorted$House" "heirs" "I") (by decide +kernel)
  have hl := lv_entry ([.ref (a 0)]) (n := 1) (Nat.le_of_ble_eq_true rfl)
  rw [lg_entry_eq]
  generalize (lg_sl ([.ref (a 0)]) ++ List.replicate (1 - (lg_sl ([.ref (a 0)])).length) Slot.unset).toArray = ls at hl ⊢
  have hl : lv_has ls 1 [(0, .ref (a 0))] := hl
  suffices main : ∀ (H : Heap) (locs : List Loc), va_P (dC, dI) vwCl (wX a cB cI cS cII σ) H → va_D A (wX a cB cI cS cII σ) → va_S A s.heap H locs → W p l e (headSpec wsX8_fairest RM_X8_fairest).room s m ([.ref (a 0)] : List Value).toArray below meth c H locs 0 0 (MQ below (zQi (dC, dI) (zT cB cI cS cII) (wX a cB cI cS cII) A (fun (r : Int32) (σ1 : Cn) => ∃ u5 : Nat → Int32, ∃ u6 : Nat → Int32, ∃ u25 : Nat → Int32, ∃ u27 : Nat → Int32, ∃ u29 : Nat → Nat → Int32, ∃ u33 : Nat → Int32, σ1 = (upC (upC (upC (upC (upC (upR σ 29 4 u29) 5 u5) 6 u6) 25 u25) 27 u27) 33 u33) ∧ True)) ([.ref (a 0)] : List Value).toArray s 0 0 A) (F0 m 0 ls []) from main s.heap [] hP hD hS
  intro H locs hP hD hS
  refine lv_aload_n hx hb dX8_fairest_0 rfl (lv_at hl 0 rfl) ?_
  refine va_get (D := (dC, dI)) (ci := 8) (v := .ref (a 4)) (C := RX8) (T := TX8) (N := 7) hx hb hts in8 hown hK hP 0 rfl rfl 2 (by decide) k30 (fun _ h9 => h9) rfl dX8_fairest_1 ?_
  refine va_get (D := (dC, dI)) (ci := 1) (v := .int (σ 4 1)) (C := RX1) (T := TX1) (N := 9) hx hb hts in1 hown hK hP 4 rfl rfl 1 (by decide) k91 (fun _ h9 => h9) rfl dX8_fairest_4 ?_
  refine lv_if_ne (tgt := 13) hx hb dX8_fairest_7 (by decide) (fun c7 => ?_) (fun c7 => ?_)
  · skip
    have ic7 := zneq (a := (σ 4 1).toInt) (b := 0) rfl (by decide) c7
    refine lv_aload_n hx hb dX8_fairest_13 rfl (lv_at hl 0 rfl) ?_
    refine va_get (D := (dC, dI)) (ci := 8) (v := .ref (a 5)) (C := RX8) (T := TX8) (N := 7) hx hb hts in8 hown hK hP 0 rfl rfl 3 (by decide) k39 (fun _ h9 => h9) rfl dX8_fairest_14 ?_
    refine zcallv (va_runV (As := []) (rest := []) ⟨hx, hb, hml, hown, hts⟩ (c_X3_gather l dC dI cB cI cS cII a N hok hn σ H.size  h0 h2) (cwV 0 hts gX8_fairest_X3_gather rfl rfl rfl (by decide +kernel) ⟨Nat.le_of_ble_eq_true rfl, Nat.le_of_ble_eq_true rfl⟩) (zpreV (wf := wX a cB cI cS cII) (q0 := 5) (ci := 3) hok hN hS hA hK hP hD rfl rfl) rfl rfl hl.1 rfl (lv_room (Nat.le_of_ble_eq_true rfl)) dX8_fairest_17 ⟨Nat.zero_le _, Nat.zero_le _⟩) hD hS hA (fun σ1 H locs hv17 hP hD hS => ?_)
    obtain ⟨u5_17, u25_17, es9, hv17⟩ := hv17
    subst σ1
    have hP : va_P (dC, dI) vwCl (wX a cB cI cS cII (upC (upC σ 5 u5_17) 25 u25_17)) H := hP
    have hD : va_D A (wX a cB cI cS cII (upC (upC σ 5 u5_17) 25 u25_17)) := hD
    have hs : 0 ≤ (u5_17 2).toInt ∧ (u5_17 2).toInt ≤ 10 := by omega
    have hq : ∀ j : Nat, (j : Int) < (u5_17 2).toInt → 0 ≤ (u25_17 j).toInt ∧ (u25_17 j).toInt < 10 := fun j hj => by have q := hv17.2 j hj; omega
    refine lv_aload_n hx hb dX8_fairest_20 rfl (lv_at hl 0 rfl) ?_
    refine va_get (D := (dC, dI)) (ci := 8) (v := .ref (a 5)) (C := RX8) (T := TX8) (N := 7) hx hb hts in8 hown hK hP 0 rfl rfl 3 (by decide) k39 (fun _ h9 => h9) rfl dX8_fairest_21 ?_
    refine va_get (D := (dC, dI)) (ci := 3) (v := .int (u5_17 2)) (C := RX3) (T := TX3) (N := 4) hx hb hts in3 hown hK hP 5 rfl rfl 2 (by decide) k174 (fun _ h9 => h9) rfl dX8_fairest_24 ?_
    refine lv_bipush (v := 8) hx hb dX8_fairest_27 (by decide) ?_
    refine lv_icmp_le (tgt := 37) hx hb dX8_fairest_29 (by decide) (fun c29 => ?_) (fun c29 => ?_)
    · skip
      have ic29 := zle (a := (u5_17 2).toInt) (b := 8) rfl (by decide) c29
      refine lv_aload_n hx hb dX8_fairest_37 rfl (lv_at hl 0 rfl) ?_
      refine va_get (D := (dC, dI)) (ci := 8) (v := .ref (a 6)) (C := RX8) (T := TX8) (N := 7) hx hb hts in8 hown hK hP 0 rfl rfl 4 (by decide) k48 (fun _ h9 => h9) rfl dX8_fairest_38 ?_
      refine zcalli (va_runV (As := []) (rest := []) ⟨hx, hb, hml, hown, hts⟩ (c_X0_bestNumber l dC dI cB cI cS cII a N hok hn (upC (upC σ 5 u5_17) 25 u25_17) H.size  h0 hs hq) (cwV 0 hts gX8_fairest_X0_bestNumber rfl rfl rfl (by decide +kernel) ⟨Nat.le_of_ble_eq_true rfl, Nat.le_of_ble_eq_true rfl⟩) (zpreV (wf := wX a cB cI cS cII) (q0 := 6) (ci := 0) hok hN hS hA hK hP hD rfl rfl) rfl rfl hl.1 rfl (lv_room (Nat.le_of_ble_eq_true rfl)) dX8_fairest_41 ⟨Nat.zero_le _, Nat.zero_le _⟩) hD hS hA (fun v41 σ1 H locs hv41 hP hD hS => ?_)
      obtain ⟨u6_41, u27_41, u29_41, u33_41, es9, hv41⟩ := hv41
      subst σ1
      have hP : va_P (dC, dI) vwCl (wX a cB cI cS cII (upC (upC (upC (upC (upC (upR σ 29 4 u29_41) 5 u5_17) 6 u6_41) 25 u25_17) 27 u27_41) 33 u33_41)) H := hP
      have hD : va_D A (wX a cB cI cS cII (upC (upC (upC (upC (upC (upR σ 29 4 u29_41) 5 u5_17) 6 u6_41) 25 u25_17) 27 u27_41) 33 u33_41)) := hD
      have hpost : ∃ u5 : Nat → Int32, ∃ u6 : Nat → Int32, ∃ u25 : Nat → Int32, ∃ u27 : Nat → Int32, ∃ u29 : Nat → Nat → Int32, ∃ u33 : Nat → Int32, (upC (upC (upC (upC (upC (upR σ 29 4 u29_41) 5 u5_17) 6 u6_41) 25 u25_17) 27 u27_41) 33 u33_41) = (upC (upC (upC (upC (upC (upR σ 29 4 u29) 5 u5) 6 u6) 25 u25) 27 u27) 33 u33) ∧ True := by refine ⟨(u5_17), (u6_41), (u25_17), (u27_41), (u29_41), (u33_41), by first | rfl | (funext j; simp only [upC, upR]; (repeat' split) <;> first | rfl | (simp_all; done) | (congr 1; omega) | (exfalso; omega)), ?_⟩; trivial
      exact W.iret (v := v41) hx hb hr (fun t9 ht hW => ⟨⟨v41, (upC (upC (upC (upC (upC (upR σ 29 4 u29_41) 5 u5_17) 6 u6_41) 25 u25_17) 27 u27_41) 33 u33_41), rfl, hpost, by rw [ht]; exact hP, va_K.moved hW.alike hK, hD⟩, hS.F ht⟩) hS.2.2 dX8_fairest_44
    · skip
      have ic29 := znle (a := (u5_17 2).toInt) (b := 8) rfl (by decide) c29
      refine lv_bipush (v := (-2)) hx hb dX8_fairest_32 (by decide) ?_
      refine lv_goto (tgt := 44) hx hb dX8_fairest_34 (by decide) ?_
      have hpost : ∃ u5 : Nat → Int32, ∃ u6 : Nat → Int32, ∃ u25 : Nat → Int32, ∃ u27 : Nat → Int32, ∃ u29 : Nat → Nat → Int32, ∃ u33 : Nat → Int32, (upC (upC σ 5 u5_17) 25 u25_17) = (upC (upC (upC (upC (upC (upR σ 29 4 u29) 5 u5) 6 u6) 25 u25) 27 u27) 33 u33) ∧ True := by refine ⟨(u5_17), (σ 6), (u25_17), (σ 27), (fun i => σ (29 + i)), (σ 33), by first | rfl | (funext j; simp only [upC, upR]; (repeat' split) <;> first | rfl | (simp_all; done) | (congr 1; omega) | (exfalso; omega)), ?_⟩; trivial
      exact W.iret (v := (-2)) hx hb hr (fun t9 ht hW => ⟨⟨(-2), (upC (upC σ 5 u5_17) 25 u25_17), rfl, hpost, by rw [ht]; exact hP, va_K.moved hW.alike hK, hD⟩, hS.F ht⟩) hS.2.2 dX8_fairest_44
  · skip
    have ic7 := zeq (a := (σ 4 1).toInt) (b := 0) rfl (by decide) c7
    refine lv_bipush (v := (-2)) hx hb dX8_fairest_10 (by decide) ?_
    have hpost : ∃ u5 : Nat → Int32, ∃ u6 : Nat → Int32, ∃ u25 : Nat → Int32, ∃ u27 : Nat → Int32, ∃ u29 : Nat → Nat → Int32, ∃ u33 : Nat → Int32, σ = (upC (upC (upC (upC (upC (upR σ 29 4 u29) 5 u5) 6 u6) 25 u25) 27 u27) 33 u33) ∧ True := by refine ⟨(σ 5), (σ 6), (σ 25), (σ 27), (fun i => σ (29 + i)), (σ 33), by first | rfl | (funext j; simp only [upC, upR]; (repeat' split) <;> first | rfl | (simp_all; done) | (congr 1; omega) | (exfalso; omega)), ?_⟩; trivial
    exact W.iret (v := (-2)) hx hb hr (fun t9 ht hW => ⟨⟨(-2), σ, rfl, hpost, by rw [ht]; exact hP, va_K.moved hW.alike hK, hD⟩, hS.F ht⟩) hS.2.2 dX8_fairest_12

abbrev RM_X8_bid : Room := { frames := 3, cells := 0, slots := 0, locals := 64 }
set_option maxHeartbeats 4000000 in
set_option maxRecDepth 100000 in
theorem c_X8_bid (l : Launch) (dC : Nat → ClassId) (dI : Nat → Nat → Nat) (cB cI cS cII : ClassId) (a : Nat → Nat) (N : (Nat → Prop) → State → Prop) (hok : zNok N) (hn : ∀ A U, N A U → zN U) (σ : Cn) (sz : Nat) (x1 : Int32) (h0 : 0 ≤ (σ 4 1).toInt ∧ (σ 4 1).toInt ≤ 4) (h2 : 0 ≤ (σ 4 2).toInt ∧ (σ 4 2).toInt ≤ 10) : Met l yX8_bid wsX8_bid RM_X8_bid (zPc (dC, dI) (zT cB cI cS cII) N (wX a cB cI cS cII) σ sz [.ref (a 0), .int x1]) (zQi (dC, dI) (zT cB cI cS cII) (wX a cB cI cS cII) (va_A (wX a cB cI cS cII σ) sz) (fun (r : Int32) (σ1 : Cn) => σ1 = σ ∧ True)) 0 0 (va_A (wX a cB cI cS cII σ) sz) := by
  refine Met.ofW (cc := cX8_bid) (maxL := 2) (ret := (some .int)) (by decide) rfl ?_
  intro p e s m args below meth c s₁ B hml hv
  obtain ⟨rfl, hsz, hP, hK, hD0, hN⟩ := hv
  have hx := B.exec
  have hb := B.bytes
  have hr := B.returns
  have hts := atoms_spec (ws := wsX8_bid) B.pre
  have hown : s.vm.findClass RX8 = some m.cls := findClass_of_methodNamed B.named
  have hlocks := B.notSynchronized
  subst hsz
  have hD := hD0.self (sz := s.heap.size)
  generalize hAe : va_A (wX a cB cI cS cII σ) s.heap.size = A at hD hN ⊢
  have hA : ∀ q : Nat, s.heap.size ≤ q → A q := fun q h => by rw [← hAe]; exact Or.inr h
  clear hAe hD0
  have hS : va_S A s.heap s.heap [] := va_S.rf
  have in1 : ∀ w ∈ u_ws RX1 TX1 9, w ∈ wsX8_bid := by decide +kernel
  have in8 : ∀ w ∈ u_ws RX8 TX8 7, w ∈ wsX8_bid := by decide +kernel
  have k30 := hts (.fieldLink RX8 30 "HouseSorted" "house" "LHouseSorted$House;") (by decide +kernel)
  have k91 := hts (.fieldLink RX8 91 "HouseSorted$House" "heirs" "I") (by decide +kernel)
  have hl := lv_entry ([.ref (a 0), .int x1]) (n := 2) (Nat.le_of_ble_eq_true rfl)
  rw [lg_entry_eq]
  generalize (lg_sl ([.ref (a 0), .int x1]) ++ List.replicate (2 - (lg_sl ([.ref (a 0), .int x1])).length) Slot.unset).toArray = ls at hl ⊢
  have hl : lv_has ls 2 [(0, .ref (a 0)), (1, .int x1)] := hl
  suffices main : ∀ (H : Heap) (locs : List Loc), va_P (dC, dI) vwCl (wX a cB cI cS cII σ) H → va_D A (wX a cB cI cS cII σ) → va_S A s.heap H locs → W p l e (headSpec wsX8_bid RM_X8_bid).room s m ([.ref (a 0), .int x1] : List Value).toArray below meth c H locs 0 0 (MQ below (zQi (dC, dI) (zT cB cI cS cII) (wX a cB cI cS cII) A (fun (r : Int32) (σ1 : Cn) => σ1 = σ ∧ True)) ([.ref (a 0), .int x1] : List Value).toArray s 0 0 A) (F0 m 0 ls []) from main s.heap [] hP hD hS
  intro H locs hP hD hS
  refine lv_aload_n hx hb dX8_bid_0 rfl (lv_at hl 0 rfl) ?_
  refine va_get (D := (dC, dI)) (ci := 8) (v := .ref (a 4)) (C := RX8) (T := TX8) (N := 7) hx hb hts in8 hown hK hP 0 rfl rfl 2 (by decide) k30 (fun _ h9 => h9) rfl dX8_bid_1 ?_
  refine lv_iload_n hx hb dX8_bid_4 rfl (lv_at hl 1 rfl) ?_
  refine zcalli (va_runV (As := [.int x1]) (rest := []) ⟨hx, hb, hml, hown, hts⟩ (c_X1_hasThing l dC dI cB cI cS cII a N hok hn σ H.size (x1) ) (cwV 1 hts gX8_bid_X1_hasThing rfl rfl rfl (by decide +kernel) ⟨Nat.le_of_ble_eq_true rfl, Nat.le_of_ble_eq_true rfl⟩) (zpreV (wf := wX a cB cI cS cII) (q0 := 4) (ci := 1) hok hN hS hA hK hP hD rfl rfl) rfl rfl hl.1 rfl (lv_room (Nat.le_of_ble_eq_true rfl)) dX8_bid_5 ⟨Nat.zero_le _, Nat.zero_le _⟩) hD hS hA (fun v5 σ1 H locs hv5 hP hD hS => ?_)
  obtain ⟨es9, hv5⟩ := hv5
  subst σ1
  refine lv_if_ne (tgt := 13) hx hb dX8_bid_8 (by decide) (fun c8 => ?_) (fun c8 => ?_)
  · skip
    have ic8 := zneq (a := v5.toInt) (b := 0) rfl (by decide) c8
    replace hv5 := (hv5.resolve_right (fun q => by omega)).2
    refine lv_aload_n hx hb dX8_bid_13 rfl (lv_at hl 0 rfl) ?_
    refine va_get (D := (dC, dI)) (ci := 8) (v := .ref (a 4)) (C := RX8) (T := TX8) (N := 7) hx hb hts in8 hown hK hP 0 rfl rfl 2 (by decide) k30 (fun _ h9 => h9) rfl dX8_bid_14 ?_
    refine va_get (D := (dC, dI)) (ci := 1) (v := .int (σ 4 1)) (C := RX1) (T := TX1) (N := 9) hx hb hts in1 hown hK hP 4 rfl rfl 1 (by decide) k91 (fun _ h9 => h9) rfl dX8_bid_17 ?_
    refine lv_if_ne (tgt := 26) hx hb dX8_bid_20 (by decide) (fun c20 => ?_) (fun c20 => ?_)
    · skip
      have ic20 := zneq (a := (σ 4 1).toInt) (b := 0) rfl (by decide) c20
      refine lv_aload_n hx hb dX8_bid_26 rfl (lv_at hl 0 rfl) ?_
      refine va_get (D := (dC, dI)) (ci := 8) (v := .ref (a 4)) (C := RX8) (T := TX8) (N := 7) hx hb hts in8 hown hK hP 0 rfl rfl 2 (by decide) k30 (fun _ h9 => h9) rfl dX8_bid_27 ?_
      refine lv_iload_n hx hb dX8_bid_30 rfl (lv_at hl 1 rfl) ?_
      refine zcalli (va_runV (As := [.int x1]) (rest := []) ⟨hx, hb, hml, hown, hts⟩ (c_X1_wayOf l dC dI cB cI cS cII a N hok hn σ H.size (x1) h0 (by omega)) (cwV 1 hts gX8_bid_X1_wayOf rfl rfl rfl (by decide +kernel) ⟨Nat.le_of_ble_eq_true rfl, Nat.le_of_ble_eq_true rfl⟩) (zpreV (wf := wX a cB cI cS cII) (q0 := 4) (ci := 1) hok hN hS hA hK hP hD rfl rfl) rfl rfl hl.1 rfl (lv_room (Nat.le_of_ble_eq_true rfl)) dX8_bid_31 ⟨Nat.zero_le _, Nat.zero_le _⟩) hD hS hA (fun v31 σ1 H locs hv31 hP hD hS => ?_)
      obtain ⟨es9, hv31⟩ := hv31
      subst σ1
      refine lv_if_ne (tgt := 48) hx hb dX8_bid_34 (by decide) (fun c34 => ?_) (fun c34 => ?_)
      · skip
        have ic34 := zneq (a := v31.toInt) (b := 0) rfl (by decide) c34
        refine lv_bipush (v := (-4)) hx hb dX8_bid_48 (by decide) ?_
        have hpost : σ = σ ∧ True := by refine ⟨by first | rfl | (funext j; simp only [upC, upR]; (repeat' split) <;> first | rfl | (simp_all; done) | (congr 1; omega) | (exfalso; omega)), ?_⟩; trivial
        exact W.iret (v := (-4)) hx hb hr (fun t9 ht hW => ⟨⟨(-4), σ, rfl, hpost, by rw [ht]; exact hP, va_K.moved hW.alike hK, hD⟩, hS.F ht⟩) hS.2.2 dX8_bid_50
      · skip
        have ic34 := zeq (a := v31.toInt) (b := 0) rfl (by decide) c34
        refine lv_aload_n hx hb dX8_bid_37 rfl (lv_at hl 0 rfl) ?_
        refine va_get (D := (dC, dI)) (ci := 8) (v := .ref (a 4)) (C := RX8) (T := TX8) (N := 7) hx hb hts in8 hown hK hP 0 rfl rfl 2 (by decide) k30 (fun _ h9 => h9) rfl dX8_bid_38 ?_
        refine lv_iload_n hx hb dX8_bid_41 rfl (lv_at hl 1 rfl) ?_
        refine zcalli (va_runV (As := [.int x1]) (rest := []) ⟨hx, hb, hml, hown, hts⟩ (c_X1_keenest l dC dI cB cI cS cII a N hok hn σ H.size (x1) h0 (by omega)) (cwV 1 hts gX8_bid_X1_keenest rfl rfl rfl (by decide +kernel) ⟨Nat.le_of_ble_eq_true rfl, Nat.le_of_ble_eq_true rfl⟩) (zpreV (wf := wX a cB cI cS cII) (q0 := 4) (ci := 1) hok hN hS hA hK hP hD rfl rfl) rfl rfl hl.1 rfl (lv_room (Nat.le_of_ble_eq_true rfl)) dX8_bid_42 ⟨Nat.zero_le _, Nat.zero_le _⟩) hD hS hA (fun v42 σ1 H locs hv42 hP hD hS => ?_)
        obtain ⟨es9, hv42⟩ := hv42
        subst σ1
        refine lv_goto (tgt := 50) hx hb dX8_bid_45 (by decide) ?_
        have hpost : σ = σ ∧ True := by refine ⟨by first | rfl | (funext j; simp only [upC, upR]; (repeat' split) <;> first | rfl | (simp_all; done) | (congr 1; omega) | (exfalso; omega)), ?_⟩; trivial
        exact W.iret (v := v42) hx hb hr (fun t9 ht hW => ⟨⟨v42, σ, rfl, hpost, by rw [ht]; exact hP, va_K.moved hW.alike hK, hD⟩, hS.F ht⟩) hS.2.2 dX8_bid_50
    · skip
      have ic20 := zeq (a := (σ 4 1).toInt) (b := 0) rfl (by decide) c20
      refine lv_bipush (v := (-2)) hx hb dX8_bid_23 (by decide) ?_
      have hpost : σ = σ ∧ True := by refine ⟨by first | rfl | (funext j; simp only [upC, upR]; (repeat' split) <;> first | rfl | (simp_all; done) | (congr 1; omega) | (exfalso; omega)), ?_⟩; trivial
      exact W.iret (v := (-2)) hx hb hr (fun t9 ht hW => ⟨⟨(-2), σ, rfl, hpost, by rw [ht]; exact hP, va_K.moved hW.alike hK, hD⟩, hS.F ht⟩) hS.2.2 dX8_bid_25
  · skip
    have ic8 := zeq (a := v5.toInt) (b := 0) rfl (by decide) c8
    replace hv5 := (hv5.resolve_left (fun q => by omega)).2
    refine lv_iconst (v := (-1)) hx hb dX8_bid_11 (by decide) ?_
    have hpost : σ = σ ∧ True := by refine ⟨by first | rfl | (funext j; simp only [upC, upR]; (repeat' split) <;> first | rfl | (simp_all; done) | (congr 1; omega) | (exfalso; omega)), ?_⟩; trivial
    exact W.iret (v := (-1)) hx hb hr (fun t9 ht hW => ⟨⟨(-1), σ, rfl, hpost, by rw [ht]; exact hP, va_K.moved hW.alike hK, hD⟩, hS.F ht⟩) hS.2.2 dX8_bid_12

abbrev RM_X8_settled : Room := { frames := 4, cells := 0, slots := 0, locals := 87 }
set_option maxHeartbeats 4000000 in
set_option maxRecDepth 100000 in
theorem c_X8_settled (l : Launch) (dC : Nat → ClassId) (dI : Nat → Nat → Nat) (cB cI cS cII : ClassId) (a : Nat → Nat) (N : (Nat → Prop) → State → Prop) (hok : zNok N) (hn : ∀ A U, N A U → zN U) (σ : Cn) (sz : Nat) (x1 : Int32) (x2 : Int32) (h0 : 0 ≤ (σ 4 1).toInt ∧ (σ 4 1).toInt ≤ 4) (h2 : 0 ≤ (σ 4 2).toInt ∧ (σ 4 2).toInt ≤ 10) : Met l yX8_settled wsX8_settled RM_X8_settled (zPc (dC, dI) (zT cB cI cS cII) N (wX a cB cI cS cII) σ sz [.ref (a 0), .int x1, .int x2]) (zQi (dC, dI) (zT cB cI cS cII) (wX a cB cI cS cII) (va_A (wX a cB cI cS cII σ) sz) (fun (r : Int32) (σ1 : Cn) => ∃ u5 : Nat → Int32, ∃ u25 : Nat → Int32, ∃ u26 : Nat → Int32, σ1 = (upC (upC (upC σ 5 u5) 25 u25) 26 u26) ∧ True)) 0 0 (va_A (wX a cB cI cS cII σ) sz) := by
  refine Met.ofW (cc := cX8_settled) (maxL := 3) (ret := (some .int)) (by decide) rfl ?_
  intro p e s m args below meth c s₁ B hml hv
  obtain ⟨rfl, hsz, hP, hK, hD0, hN⟩ := hv
  have hx := B.exec
  have hb := B.bytes
  have hr := B.returns
  have hts := atoms_spec (ws := wsX8_settled) B.pre
  have hown : s.vm.findClass RX8 = some m.cls := findClass_of_methodNamed B.named
  have hlocks := B.notSynchronized
  subst hsz
  have hD := hD0.self (sz := s.heap.size)
  generalize hAe : va_A (wX a cB cI cS cII σ) s.heap.size = A at hD hN ⊢
  have hA : ∀ q : Nat, s.heap.size ≤ q → A q := fun q h => by rw [← hAe]; exact Or.inr h
  clear hAe hD0
  have hS : va_S A s.heap s.heap [] := va_S.rf
  have in8 : ∀ w ∈ u_ws RX8 TX8 7, w ∈ wsX8_settled := by decide +kernel
  have k30 := hts (.fieldLink RX8 30 "HouseSorted" "house" "LHouseSorted$House;") (by decide +kernel)
  have k39 := hts (.fieldLink RX8 39 "HouseSorted" "shares" "LHouseSorted$Sharing;") (by decide +kernel)
  have kl183 := hts (.constant RX8 183 (-100000)) (by decide +kernel)
  have hl := lv_entry ([.ref (a 0), .int x1, .int x2]) (n := 3) (Nat.le_of_ble_eq_true rfl)
  rw [lg_entry_eq]
  generalize (lg_sl ([.ref (a 0), .int x1, .int x2]) ++ List.replicate (3 - (lg_sl ([.ref (a 0), .int x1, .int x2])).length) Slot.unset).toArray = ls at hl ⊢
  have hl : lv_has ls 3 [(0, .ref (a 0)), (1, .int x1), (2, .int x2)] := hl
  suffices main : ∀ (H : Heap) (locs : List Loc), va_P (dC, dI) vwCl (wX a cB cI cS cII σ) H → va_D A (wX a cB cI cS cII σ) → va_S A s.heap H locs → W p l e (headSpec wsX8_settled RM_X8_settled).room s m ([.ref (a 0), .int x1, .int x2] : List Value).toArray below meth c H locs 0 0 (MQ below (zQi (dC, dI) (zT cB cI cS cII) (wX a cB cI cS cII) A (fun (r : Int32) (σ1 : Cn) => ∃ u5 : Nat → Int32, ∃ u25 : Nat → Int32, ∃ u26 : Nat → Int32, σ1 = (upC (upC (upC σ 5 u5) 25 u25) 26 u26) ∧ True)) ([.ref (a 0), .int x1, .int x2] : List Value).toArray s 0 0 A) (F0 m 0 ls []) from main s.heap [] hP hD hS
  intro H locs hP hD hS
  refine lv_aload_n hx hb dX8_settled_0 rfl (lv_at hl 0 rfl) ?_
  refine va_get (D := (dC, dI)) (ci := 8) (v := .ref (a 4)) (C := RX8) (T := TX8) (N := 7) hx hb hts in8 hown hK hP 0 rfl rfl 2 (by decide) k30 (fun _ h9 => h9) rfl dX8_settled_1 ?_
  refine lv_iload_n hx hb dX8_settled_4 rfl (lv_at hl 1 rfl) ?_
  refine zcalli (va_runV (As := [.int x1]) (rest := []) ⟨hx, hb, hml, hown, hts⟩ (c_X1_hasHeir l dC dI cB cI cS cII a N hok hn σ H.size (x1) ) (cwV 1 hts gX8_settled_X1_hasHeir rfl rfl rfl (by decide +kernel) ⟨Nat.le_of_ble_eq_true rfl, Nat.le_of_ble_eq_true rfl⟩) (zpreV (wf := wX a cB cI cS cII) (q0 := 4) (ci := 1) hok hN hS hA hK hP hD rfl rfl) rfl rfl hl.1 rfl (lv_room (Nat.le_of_ble_eq_true rfl)) dX8_settled_5 ⟨Nat.zero_le _, Nat.zero_le _⟩) hD hS hA (fun v5 σ1 H locs hv5 hP hD hS => ?_)
  obtain ⟨es9, hv5⟩ := hv5
  subst σ1
  refine lv_if_ne (tgt := 14) hx hb dX8_settled_8 (by decide) (fun c8 => ?_) (fun c8 => ?_)
  · skip
    have ic8 := zneq (a := v5.toInt) (b := 0) rfl (by decide) c8
    replace hv5 := (hv5.resolve_right (fun q => by omega)).2
    refine lv_aload_n hx hb dX8_settled_14 rfl (lv_at hl 0 rfl) ?_
    refine va_get (D := (dC, dI)) (ci := 8) (v := .ref (a 5)) (C := RX8) (T := TX8) (N := 7) hx hb hts in8 hown hK hP 0 rfl rfl 3 (by decide) k39 (fun _ h9 => h9) rfl dX8_settled_15 ?_
    refine zcallv (va_runV (As := []) (rest := []) ⟨hx, hb, hml, hown, hts⟩ (c_X3_gather l dC dI cB cI cS cII a N hok hn σ H.size  h0 h2) (cwV 0 hts gX8_settled_X3_gather rfl rfl rfl (by decide +kernel) ⟨Nat.le_of_ble_eq_true rfl, Nat.le_of_ble_eq_true rfl⟩) (zpreV (wf := wX a cB cI cS cII) (q0 := 5) (ci := 3) hok hN hS hA hK hP hD rfl rfl) rfl rfl hl.1 rfl (lv_room (Nat.le_of_ble_eq_true rfl)) dX8_settled_18 ⟨Nat.zero_le _, Nat.zero_le _⟩) hD hS hA (fun σ1 H locs hv18 hP hD hS => ?_)
    obtain ⟨u5_18, u25_18, es9, hv18⟩ := hv18
    subst σ1
    have hP : va_P (dC, dI) vwCl (wX a cB cI cS cII (upC (upC σ 5 u5_18) 25 u25_18)) H := hP
    have hD : va_D A (wX a cB cI cS cII (upC (upC σ 5 u5_18) 25 u25_18)) := hD
    have hs : 0 ≤ (u5_18 2).toInt ∧ (u5_18 2).toInt ≤ 10 := by omega
    have hq : ∀ j : Nat, (j : Int) < (u5_18 2).toInt → 0 ≤ (u25_18 j).toInt ∧ (u25_18 j).toInt < 10 := fun j hj => by have q := hv18.2 j hj; omega
    refine lv_aload_n hx hb dX8_settled_21 rfl (lv_at hl 0 rfl) ?_
    refine va_get (D := (dC, dI)) (ci := 8) (v := .ref (a 5)) (C := RX8) (T := TX8) (N := 7) hx hb hts in8 hown hK hP 0 rfl rfl 3 (by decide) k39 (fun _ h9 => h9) rfl dX8_settled_22 ?_
    refine zcallv (va_runV (As := []) (rest := []) ⟨hx, hb, hml, hown, hts⟩ (c_X3_giveToKeenest l dC dI cB cI cS cII a N hok hn (upC (upC σ 5 u5_18) 25 u25_18) H.size  h0 hs hq) (cwV 0 hts gX8_settled_X3_giveToKeenest rfl rfl rfl (by decide +kernel) ⟨Nat.le_of_ble_eq_true rfl, Nat.le_of_ble_eq_true rfl⟩) (zpreV (wf := wX a cB cI cS cII) (q0 := 5) (ci := 3) hok hN hS hA hK hP hD rfl rfl) rfl rfl hl.1 rfl (lv_room (Nat.le_of_ble_eq_true rfl)) dX8_settled_25 ⟨Nat.zero_le _, Nat.zero_le _⟩) hD hS hA (fun σ1 H locs hv25 hP hD hS => ?_)
    obtain ⟨u26_25, es9, hv25⟩ := hv25
    subst σ1
    have hP : va_P (dC, dI) vwCl (wX a cB cI cS cII (upC (upC (upC σ 5 u5_18) 25 u25_18) 26 u26_25)) H := hP
    have hD : va_D A (wX a cB cI cS cII (upC (upC (upC σ 5 u5_18) 25 u25_18) 26 u26_25)) := hD
    refine lv_iload_n hx hb dX8_settled_28 rfl (lv_at hl 2 rfl) ?_
    rcases (show x2.toInt = 0 ∨ x2.toInt = 1 ∨ x2.toInt = 2 ∨ x2.toInt = 3 ∨ (x2.toInt < 0 ∨ 3 < x2.toInt) from by omega) with hsw | hsw | hsw | hsw | hsw
    · refine lv_tableIn (tgt := 60) (off := 31) hx hb dX8_settled_29 (by rw [hsw]; decide) (by rw [hsw]; decide) (by rw [hsw]; decide) (by decide) ?_
      refine lv_aload_n hx hb dX8_settled_60 rfl (lv_at hl 0 rfl) ?_
      refine va_get (D := (dC, dI)) (ci := 8) (v := .ref (a 5)) (C := RX8) (T := TX8) (N := 7) hx hb hts in8 hown hK hP 0 rfl rfl 3 (by decide) k39 (fun _ h9 => h9) rfl dX8_settled_61 ?_
      refine lv_iload_n hx hb dX8_settled_64 rfl (lv_at hl 1 rfl) ?_
      refine lv_iload_n hx hb dX8_settled_65 rfl (lv_at hl 1 rfl) ?_
      refine zcalli (va_runV (As := [.int x1, .int x1]) (rest := []) ⟨hx, hb, hml, hown, hts⟩ (c_X3_sumOf l dC dI cB cI cS cII a N hok hn (upC (upC (upC σ 5 u5_18) 25 u25_18) 26 u26_25) H.size (x1) (x1) (by omega) hs hq) (cwV 2 hts gX8_settled_X3_sumOf rfl rfl rfl (by decide +kernel) ⟨Nat.le_of_ble_eq_true rfl, Nat.le_of_ble_eq_true rfl⟩) (zpreV (wf := wX a cB cI cS cII) (q0 := 5) (ci := 3) hok hN hS hA hK hP hD rfl rfl) rfl rfl hl.1 rfl (lv_room (Nat.le_of_ble_eq_true rfl)) dX8_settled_66 ⟨Nat.zero_le _, Nat.zero_le _⟩) hD hS hA (fun v66 σ1 H locs hv66 hP hD hS => ?_)
      obtain ⟨es9, hv66⟩ := hv66
      subst σ1
      have hpost : ∃ u5 : Nat → Int32, ∃ u25 : Nat → Int32, ∃ u26 : Nat → Int32, (upC (upC (upC σ 5 u5_18) 25 u25_18) 26 u26_25) = (upC (upC (upC σ 5 u5) 25 u25) 26 u26) ∧ True := by refine ⟨(u5_18), (u25_18), (u26_25), by first | rfl | (funext j; simp only [upC, upR]; (repeat' split) <;> first | rfl | (simp_all; done) | (congr 1; omega) | (exfalso; omega)), ?_⟩; trivial
      exact W.iret (v := v66) hx hb hr (fun t9 ht hW => ⟨⟨v66, (upC (upC (upC σ 5 u5_18) 25 u25_18) 26 u26_25), rfl, hpost, by rw [ht]; exact hP, va_K.moved hW.alike hK, hD⟩, hS.F ht⟩) hS.2.2 dX8_settled_69
    · refine lv_tableIn (tgt := 70) (off := 41) hx hb dX8_settled_29 (by rw [hsw]; decide) (by rw [hsw]; decide) (by rw [hsw]; decide) (by decide) ?_
      refine lv_aload_n hx hb dX8_settled_70 rfl (lv_at hl 0 rfl) ?_
      refine va_get (D := (dC, dI)) (ci := 8) (v := .ref (a 5)) (C := RX8) (T := TX8) (N := 7) hx hb hts in8 hown hK hP 0 rfl rfl 3 (by decide) k39 (fun _ h9 => h9) rfl dX8_settled_71 ?_
      refine lv_iload_n hx hb dX8_settled_74 rfl (lv_at hl 1 rfl) ?_
      refine zcalli (va_runV (As := [.int x1]) (rest := []) ⟨hx, hb, hml, hown, hts⟩ (c_X3_claimOf l dC dI cB cI cS cII a N hok hn (upC (upC (upC σ 5 u5_18) 25 u25_18) 26 u26_25) H.size (x1) h0 (by omega) hs hq) (cwV 1 hts gX8_settled_X3_claimOf rfl rfl rfl (by decide +kernel) ⟨Nat.le_of_ble_eq_true rfl, Nat.le_of_ble_eq_true rfl⟩) (zpreV (wf := wX a cB cI cS cII) (q0 := 5) (ci := 3) hok hN hS hA hK hP hD rfl rfl) rfl rfl hl.1 rfl (lv_room (Nat.le_of_ble_eq_true rfl)) dX8_settled_75 ⟨Nat.zero_le _, Nat.zero_le _⟩) hD hS hA (fun v75 σ1 H locs hv75 hP hD hS => ?_)
      obtain ⟨es9, hv75⟩ := hv75
      subst σ1
      have hpost : ∃ u5 : Nat → Int32, ∃ u25 : Nat → Int32, ∃ u26 : Nat → Int32, (upC (upC (upC σ 5 u5_18) 25 u25_18) 26 u26_25) = (upC (upC (upC σ 5 u5) 25 u25) 26 u26) ∧ True := by refine ⟨(u5_18), (u25_18), (u26_25), by first | rfl | (funext j; simp only [upC, upR]; (repeat' split) <;> first | rfl | (simp_all; done) | (congr 1; omega) | (exfalso; omega)), ?_⟩; trivial
      exact W.iret (v := v75) hx hb hr (fun t9 ht hW => ⟨⟨v75, (upC (upC (upC σ 5 u5_18) 25 u25_18) 26 u26_25), rfl, hpost, by rw [ht]; exact hP, va_K.moved hW.alike hK, hD⟩, hS.F ht⟩) hS.2.2 dX8_settled_78
    · refine lv_tableIn (tgt := 79) (off := 50) hx hb dX8_settled_29 (by rw [hsw]; decide) (by rw [hsw]; decide) (by rw [hsw]; decide) (by decide) ?_
      refine lv_aload_n hx hb dX8_settled_79 rfl (lv_at hl 0 rfl) ?_
      refine va_get (D := (dC, dI)) (ci := 8) (v := .ref (a 5)) (C := RX8) (T := TX8) (N := 7) hx hb hts in8 hown hK hP 0 rfl rfl 3 (by decide) k39 (fun _ h9 => h9) rfl dX8_settled_80 ?_
      refine lv_iload_n hx hb dX8_settled_83 rfl (lv_at hl 1 rfl) ?_
      refine zcalli (va_runV (As := [.int x1]) (rest := []) ⟨hx, hb, hml, hown, hts⟩ (c_X3_paymentOf l dC dI cB cI cS cII a N hok hn (upC (upC (upC σ 5 u5_18) 25 u25_18) 26 u26_25) H.size (x1) h0 (by omega) hs hq) (cwV 1 hts gX8_settled_X3_paymentOf rfl rfl rfl (by decide +kernel) ⟨Nat.le_of_ble_eq_true rfl, Nat.le_of_ble_eq_true rfl⟩) (zpreV (wf := wX a cB cI cS cII) (q0 := 5) (ci := 3) hok hN hS hA hK hP hD rfl rfl) rfl rfl hl.1 rfl (lv_room (Nat.le_of_ble_eq_true rfl)) dX8_settled_84 ⟨Nat.zero_le _, Nat.zero_le _⟩) hD hS hA (fun v84 σ1 H locs hv84 hP hD hS => ?_)
      obtain ⟨es9, hv84⟩ := hv84
      subst σ1
      have hpost : ∃ u5 : Nat → Int32, ∃ u25 : Nat → Int32, ∃ u26 : Nat → Int32, (upC (upC (upC σ 5 u5_18) 25 u25_18) 26 u26_25) = (upC (upC (upC σ 5 u5) 25 u25) 26 u26) ∧ True := by refine ⟨(u5_18), (u25_18), (u26_25), by first | rfl | (funext j; simp only [upC, upR]; (repeat' split) <;> first | rfl | (simp_all; done) | (congr 1; omega) | (exfalso; omega)), ?_⟩; trivial
      exact W.iret (v := v84) hx hb hr (fun t9 ht hW => ⟨⟨v84, (upC (upC (upC σ 5 u5_18) 25 u25_18) 26 u26_25), rfl, hpost, by rw [ht]; exact hP, va_K.moved hW.alike hK, hD⟩, hS.F ht⟩) hS.2.2 dX8_settled_87
    · refine lv_tableIn (tgt := 88) (off := 59) hx hb dX8_settled_29 (by rw [hsw]; decide) (by rw [hsw]; decide) (by rw [hsw]; decide) (by decide) ?_
      refine lv_aload_n hx hb dX8_settled_88 rfl (lv_at hl 0 rfl) ?_
      refine va_get (D := (dC, dI)) (ci := 8) (v := .ref (a 5)) (C := RX8) (T := TX8) (N := 7) hx hb hts in8 hown hK hP 0 rfl rfl 3 (by decide) k39 (fun _ h9 => h9) rfl dX8_settled_89 ?_
      refine lv_iload_n hx hb dX8_settled_92 rfl (lv_at hl 1 rfl) ?_
      refine zcalli (va_runV (As := [.int x1]) (rest := []) ⟨hx, hb, hml, hown, hts⟩ (c_X3_paymentOf l dC dI cB cI cS cII a N hok hn (upC (upC (upC σ 5 u5_18) 25 u25_18) 26 u26_25) H.size (x1) h0 (by omega) hs hq) (cwV 1 hts gX8_settled_X3_paymentOf rfl rfl rfl (by decide +kernel) ⟨Nat.le_of_ble_eq_true rfl, Nat.le_of_ble_eq_true rfl⟩) (zpreV (wf := wX a cB cI cS cII) (q0 := 5) (ci := 3) hok hN hS hA hK hP hD rfl rfl) rfl rfl hl.1 rfl (lv_room (Nat.le_of_ble_eq_true rfl)) dX8_settled_93 ⟨Nat.zero_le _, Nat.zero_le _⟩) hD hS hA (fun v93 σ1 H locs hv93 hP hD hS => ?_)
      obtain ⟨es9, hv93⟩ := hv93
      subst σ1
      refine lv_aload_n hx hb dX8_settled_96 rfl (lv_at hl 0 rfl) ?_
      refine va_get (D := (dC, dI)) (ci := 8) (v := .ref (a 5)) (C := RX8) (T := TX8) (N := 7) hx hb hts in8 hown hK hP 0 rfl rfl 3 (by decide) k39 (fun _ h9 => h9) rfl dX8_settled_97 ?_
      refine zcalli (va_runV (As := []) (rest := [.int v93]) ⟨hx, hb, hml, hown, hts⟩ (c_X3_partOfRest l dC dI cB cI cS cII a N hok hn (upC (upC (upC σ 5 u5_18) 25 u25_18) 26 u26_25) H.size  h0 hs hq) (cwV 0 hts gX8_settled_X3_partOfRest rfl rfl rfl (by decide +kernel) ⟨Nat.le_of_ble_eq_true rfl, Nat.le_of_ble_eq_true rfl⟩) (zpreV (wf := wX a cB cI cS cII) (q0 := 5) (ci := 3) hok hN hS hA hK hP hD rfl rfl) rfl rfl hl.1 rfl (lv_room (Nat.le_of_ble_eq_true rfl)) dX8_settled_100 ⟨Nat.zero_le _, Nat.zero_le _⟩) hD hS hA (fun v100 σ1 H locs hv100 hP hD hS => ?_)
      obtain ⟨es9, hv100⟩ := hv100
      subst σ1
      refine lv_isub hx hb dX8_settled_103 ?_
      refine lv_topi (fun v103 ev103 => ?_)
      have hpost : ∃ u5 : Nat → Int32, ∃ u25 : Nat → Int32, ∃ u26 : Nat → Int32, (upC (upC (upC σ 5 u5_18) 25 u25_18) 26 u26_25) = (upC (upC (upC σ 5 u5) 25 u25) 26 u26) ∧ True := by refine ⟨(u5_18), (u25_18), (u26_25), by first | rfl | (funext j; simp only [upC, upR]; (repeat' split) <;> first | rfl | (simp_all; done) | (congr 1; omega) | (exfalso; omega)), ?_⟩; trivial
      exact W.iret (v := v103) hx hb hr (fun t9 ht hW => ⟨⟨v103, (upC (upC (upC σ 5 u5_18) 25 u25_18) 26 u26_25), rfl, hpost, by rw [ht]; exact hP, va_K.moved hW.alike hK, hD⟩, hS.F ht⟩) hS.2.2 dX8_settled_104
    · refine lv_tableOut (tgt := 105) hx hb dX8_settled_29 hsw (by decide) ?_
      refine lv_ldc hx hb hown kl183 dX8_settled_105 ?_
      have hpost : ∃ u5 : Nat → Int32, ∃ u25 : Nat → Int32, ∃ u26 : Nat → Int32, (upC (upC (upC σ 5 u5_18) 25 u25_18) 26 u26_25) = (upC (upC (upC σ 5 u5) 25 u25) 26 u26) ∧ True := by refine ⟨(u5_18), (u25_18), (u26_25), by first | rfl | (funext j; simp only [upC, upR]; (repeat' split) <;> first | rfl | (simp_all; done) | (congr 1; omega) | (exfalso; omega)), ?_⟩; trivial
      exact W.iret (v := (-100000)) hx hb hr (fun t9 ht hW => ⟨⟨(-100000), (upC (upC (upC σ 5 u5_18) 25 u25_18) 26 u26_25), rfl, hpost, by rw [ht]; exact hP, va_K.moved hW.alike hK, hD⟩, hS.F ht⟩) hS.2.2 dX8_settled_107
  · skip
    have ic8 := zeq (a := v5.toInt) (b := 0) rfl (by decide) c8
    replace hv5 := (hv5.resolve_left (fun q => by omega)).2
    refine lv_ldc hx hb hown kl183 dX8_settled_11 ?_
    have hpost : ∃ u5 : Nat → Int32, ∃ u25 : Nat → Int32, ∃ u26 : Nat → Int32, σ = (upC (upC (upC σ 5 u5) 25 u25) 26 u26) ∧ True := by refine ⟨(σ 5), (σ 25), (σ 26), by first | rfl | (funext j; simp only [upC, upR]; (repeat' split) <;> first | rfl | (simp_all; done) | (congr 1; omega) | (exfalso; omega)), ?_⟩; trivial
    exact W.iret (v := (-100000)) hx hb hr (fun t9 ht hW => ⟨⟨(-100000), σ, rfl, hpost, by rw [ht]; exact hP, va_K.moved hW.alike hK, hD⟩, hS.F ht⟩) hS.2.2 dX8_settled_13

abbrev RM_X8_loads : Room := { frames := 13, cells := 0, slots := 0, locals := 322 }
set_option maxHeartbeats 4000000 in
set_option maxRecDepth 100000 in
theorem c_X8_loads (l : Launch) (dC : Nat → ClassId) (dI : Nat → Nat → Nat) (cB cI cS cII : ClassId) (a : Nat → Nat) (N : (Nat → Prop) → State → Prop) (hok : zNok N) (hn : ∀ A U, N A U → zN U) (σ : Cn) (sz : Nat) (x1 : Int32) (h0 : 0 ≤ (σ 4 1).toInt ∧ (σ 4 1).toInt ≤ 4) (h2 : 0 ≤ (σ 4 2).toInt ∧ (σ 4 2).toInt ≤ 10) : Met l yX8_loads wsX8_loads RM_X8_loads (zPc (dC, dI) (zT cB cI cS cII) N (wX a cB cI cS cII) σ sz [.ref (a 0), .int x1]) (zQi (dC, dI) (zT cB cI cS cII) (wX a cB cI cS cII) (va_A (wX a cB cI cS cII σ) sz) (fun (r : Int32) (σ1 : Cn) => ∃ u7 : Nat → Int32, ∃ u34 : Nat → Int32, ∃ u35 : Nat → Int32, ∃ u36 : Nat → Int32, σ1 = (upC (upC (upC (upC σ 7 u7) 34 u34) 35 u35) 36 u36) ∧ True)) 0 0 (va_A (wX a cB cI cS cII σ) sz) := by
  refine Met.ofW (cc := cX8_loads) (maxL := 2) (ret := (some .int)) (by decide) rfl ?_
  intro p e s m args below meth c s₁ B hml hv
  obtain ⟨rfl, hsz, hP, hK, hD0, hN⟩ := hv
  have hx := B.exec
  have hb := B.bytes
  have hr := B.returns
  have hts := atoms_spec (ws := wsX8_loads) B.pre
  have hown : s.vm.findClass RX8 = some m.cls := findClass_of_methodNamed B.named
  have hlocks := B.notSynchronized
  subst hsz
  have hD := hD0.self (sz := s.heap.size)
  generalize hAe : va_A (wX a cB cI cS cII σ) s.heap.size = A at hD hN ⊢
  have hA : ∀ q : Nat, s.heap.size ≤ q → A q := fun q h => by rw [← hAe]; exact Or.inr h
  clear hAe hD0
  have hS : va_S A s.heap s.heap [] := va_S.rf
  have in8 : ∀ w ∈ u_ws RX8 TX8 7, w ∈ wsX8_loads := by decide +kernel
  have k57 := hts (.fieldLink RX8 57 "HouseSorted" "vans" "LHouseSorted$Vans;") (by decide +kernel)
  have hl := lv_entry ([.ref (a 0), .int x1]) (n := 2) (Nat.le_of_ble_eq_true rfl)
  rw [lg_entry_eq]
  generalize (lg_sl ([.ref (a 0), .int x1]) ++ List.replicate (2 - (lg_sl ([.ref (a 0), .int x1])).length) Slot.unset).toArray = ls at hl ⊢
  have hl : lv_has ls 2 [(0, .ref (a 0)), (1, .int x1)] := hl
  suffices main : ∀ (H : Heap) (locs : List Loc), va_P (dC, dI) vwCl (wX a cB cI cS cII σ) H → va_D A (wX a cB cI cS cII σ) → va_S A s.heap H locs → W p l e (headSpec wsX8_loads RM_X8_loads).room s m ([.ref (a 0), .int x1] : List Value).toArray below meth c H locs 0 0 (MQ below (zQi (dC, dI) (zT cB cI cS cII) (wX a cB cI cS cII) A (fun (r : Int32) (σ1 : Cn) => ∃ u7 : Nat → Int32, ∃ u34 : Nat → Int32, ∃ u35 : Nat → Int32, ∃ u36 : Nat → Int32, σ1 = (upC (upC (upC (upC σ 7 u7) 34 u34) 35 u35) 36 u36) ∧ True)) ([.ref (a 0), .int x1] : List Value).toArray s 0 0 A) (F0 m 0 ls []) from main s.heap [] hP hD hS
  intro H locs hP hD hS
  refine lv_iload_n hx hb dX8_loads_0 rfl (lv_at hl 1 rfl) ?_
  refine lv_iconst (v := 0) hx hb dX8_loads_1 (by decide) ?_
  refine lv_iconst (v := 4) hx hb dX8_loads_2 (by decide) ?_
  refine zcalli (va_runS (As := [.int x1, .int 0, .int 4]) (rest := []) ⟨hx, hb, hml, hown, hts⟩ (c_X8_isWithin l dC dI cB cI cS cII a N hok hn σ H.size (x1) (0) (4) ) (va_cwS 3 hts gX8_loads_X8_isWithin rfl rfl rfl (by decide +kernel) ⟨Nat.le_of_ble_eq_true rfl, Nat.le_of_ble_eq_true rfl⟩) (zpreS (wf := wX a cB cI cS cII) hok hN hS hA hK hP hD) rfl rfl hl.1 rfl (lv_room (Nat.le_of_ble_eq_true rfl)) dX8_loads_3 ⟨Nat.zero_le _, Nat.zero_le _⟩) hD hS hA (fun v3 σ1 H locs hv3 hP hD hS => ?_)
  obtain ⟨es9, hv3⟩ := hv3
  subst σ1
  try simp only [show (0 : Int32).toInt = 0 from by decide, show (4 : Int32).toInt = 4 from by decide] at hv3
  refine lv_if_eq (tgt := 20) hx hb dX8_loads_6 (by decide) (fun c6 => ?_) (fun c6 => ?_)
  · skip
    have ic6 := zeq (a := v3.toInt) (b := 0) rfl (by decide) c6
    refine lv_iconst (v := (-1)) hx hb dX8_loads_20 (by decide) ?_
    have hpost : ∃ u7 : Nat → Int32, ∃ u34 : Nat → Int32, ∃ u35 : Nat → Int32, ∃ u36 : Nat → Int32, σ = (upC (upC (upC (upC σ 7 u7) 34 u34) 35 u35) 36 u36) ∧ True := by refine ⟨(σ 7), (σ 34), (σ 35), (σ 36), by first | rfl | (funext j; simp only [upC, upR]; (repeat' split) <;> first | rfl | (simp_all; done) | (congr 1; omega) | (exfalso; omega)), ?_⟩; trivial
    exact W.iret (v := (-1)) hx hb hr (fun t9 ht hW => ⟨⟨(-1), σ, rfl, hpost, by rw [ht]; exact hP, va_K.moved hW.alike hK, hD⟩, hS.F ht⟩) hS.2.2 dX8_loads_21
  · skip
    have ic6 := zneq (a := v3.toInt) (b := 0) rfl (by decide) c6
    refine lv_aload_n hx hb dX8_loads_9 rfl (lv_at hl 0 rfl) ?_
    refine va_get (D := (dC, dI)) (ci := 8) (v := .ref (a 7)) (C := RX8) (T := TX8) (N := 7) hx hb hts in8 hown hK hP 0 rfl rfl 5 (by decide) k57 (fun _ h9 => h9) rfl dX8_loads_10 ?_
    refine lv_iload_n hx hb dX8_loads_13 rfl (lv_at hl 1 rfl) ?_
    refine zcalli (va_runV (As := [.int x1]) (rest := []) ⟨hx, hb, hml, hown, hts⟩ (c_X7_fewest l dC dI cB cI cS cII a N hok hn σ H.size (x1) h0 h2) (cwV 1 hts gX8_loads_X7_fewest rfl rfl rfl (by decide +kernel) ⟨Nat.le_of_ble_eq_true rfl, Nat.le_of_ble_eq_true rfl⟩) (zpreV (wf := wX a cB cI cS cII) (q0 := 7) (ci := 7) hok hN hS hA hK hP hD rfl rfl) rfl rfl hl.1 rfl (lv_room (Nat.le_of_ble_eq_true rfl)) dX8_loads_14 ⟨Nat.zero_le _, Nat.zero_le _⟩) hD hS hA (fun v14 σ1 H locs hv14 hP hD hS => ?_)
    obtain ⟨u7_14, u34_14, u35_14, u36_14, es9, hv14⟩ := hv14
    subst σ1
    have hP : va_P (dC, dI) vwCl (wX a cB cI cS cII (upC (upC (upC (upC σ 7 u7_14) 34 u34_14) 35 u35_14) 36 u36_14)) H := hP
    have hD : va_D A (wX a cB cI cS cII (upC (upC (upC (upC σ 7 u7_14) 34 u34_14) 35 u35_14) 36 u36_14)) := hD
    refine lv_goto (tgt := 21) hx hb dX8_loads_17 (by decide) ?_
    have hpost : ∃ u7 : Nat → Int32, ∃ u34 : Nat → Int32, ∃ u35 : Nat → Int32, ∃ u36 : Nat → Int32, (upC (upC (upC (upC σ 7 u7_14) 34 u34_14) 35 u35_14) 36 u36_14) = (upC (upC (upC (upC σ 7 u7) 34 u34) 35 u35) 36 u36) ∧ True := by refine ⟨(u7_14), (u34_14), (u35_14), (u36_14), by first | rfl | (funext j; simp only [upC, upR]; (repeat' split) <;> first | rfl | (simp_all; done) | (congr 1; omega) | (exfalso; omega)), ?_⟩; trivial
    exact W.iret (v := v14) hx hb hr (fun t9 ht hW => ⟨⟨v14, (upC (upC (upC (upC σ 7 u7_14) 34 u34_14) 35 u35_14) 36 u36_14), rfl, hpost, by rw [ht]; exact hP, va_K.moved hW.alike hK, hD⟩, hS.F ht⟩) hS.2.2 dX8_loads_21

abbrev RM_X8_load : Room := { frames := 13, cells := 0, slots := 0, locals := 322 }
set_option maxHeartbeats 4000000 in
set_option maxRecDepth 100000 in
theorem c_X8_load (l : Launch) (dC : Nat → ClassId) (dI : Nat → Nat → Nat) (cB cI cS cII : ClassId) (a : Nat → Nat) (N : (Nat → Prop) → State → Prop) (hok : zNok N) (hn : ∀ A U, N A U → zN U) (σ : Cn) (sz : Nat) (x1 : Int32) (h0 : 0 ≤ (σ 4 1).toInt ∧ (σ 4 1).toInt ≤ 4) (h2 : 0 ≤ (σ 4 2).toInt ∧ (σ 4 2).toInt ≤ 10) : Met l yX8_load wsX8_load RM_X8_load (zPc (dC, dI) (zT cB cI cS cII) N (wX a cB cI cS cII) σ sz [.ref (a 0), .int x1]) (zQi (dC, dI) (zT cB cI cS cII) (wX a cB cI cS cII) (va_A (wX a cB cI cS cII σ) sz) (fun (r : Int32) (σ1 : Cn) => ∃ u7 : Nat → Int32, ∃ u34 : Nat → Int32, ∃ u35 : Nat → Int32, ∃ u36 : Nat → Int32, σ1 = (upC (upC (upC (upC σ 7 u7) 34 u34) 35 u35) 36 u36) ∧ True)) 0 0 (va_A (wX a cB cI cS cII σ) sz) := by
  refine Met.ofW (cc := cX8_load) (maxL := 2) (ret := (some .int)) (by decide) rfl ?_
  intro p e s m args below meth c s₁ B hml hv
  obtain ⟨rfl, hsz, hP, hK, hD0, hN⟩ := hv
  have hx := B.exec
  have hb := B.bytes
  have hr := B.returns
  have hts := atoms_spec (ws := wsX8_load) B.pre
  have hown : s.vm.findClass RX8 = some m.cls := findClass_of_methodNamed B.named
  have hlocks := B.notSynchronized
  subst hsz
  have hD := hD0.self (sz := s.heap.size)
  generalize hAe : va_A (wX a cB cI cS cII σ) s.heap.size = A at hD hN ⊢
  have hA : ∀ q : Nat, s.heap.size ≤ q → A q := fun q h => by rw [← hAe]; exact Or.inr h
  clear hAe hD0
  have hS : va_S A s.heap s.heap [] := va_S.rf
  have in8 : ∀ w ∈ u_ws RX8 TX8 7, w ∈ wsX8_load := by decide +kernel
  have k30 := hts (.fieldLink RX8 30 "HouseSorted" "house" "LHouseSorted$House;") (by decide +kernel)
  have k57 := hts (.fieldLink RX8 57 "HouseSorted" "vans" "LHouseSorted$Vans;") (by decide +kernel)
  have hl := lv_entry ([.ref (a 0), .int x1]) (n := 2) (Nat.le_of_ble_eq_true rfl)
  rw [lg_entry_eq]
  generalize (lg_sl ([.ref (a 0), .int x1]) ++ List.replicate (2 - (lg_sl ([.ref (a 0), .int x1])).length) Slot.unset).toArray = ls at hl ⊢
  have hl : lv_has ls 2 [(0, .ref (a 0)), (1, .int x1)] := hl
  suffices main : ∀ (H : Heap) (locs : List Loc), va_P (dC, dI) vwCl (wX a cB cI cS cII σ) H → va_D A (wX a cB cI cS cII σ) → va_S A s.heap H locs → W p l e (headSpec wsX8_load RM_X8_load).room s m ([.ref (a 0), .int x1] : List Value).toArray below meth c H locs 0 0 (MQ below (zQi (dC, dI) (zT cB cI cS cII) (wX a cB cI cS cII) A (fun (r : Int32) (σ1 : Cn) => ∃ u7 : Nat → Int32, ∃ u34 : Nat → Int32, ∃ u35 : Nat → Int32, ∃ u36 : Nat → Int32, σ1 = (upC (upC (upC (upC σ 7 u7) 34 u34) 35 u35) 36 u36) ∧ True)) ([.ref (a 0), .int x1] : List Value).toArray s 0 0 A) (F0 m 0 ls []) from main s.heap [] hP hD hS
  intro H locs hP hD hS
  refine lv_aload_n hx hb dX8_load_0 rfl (lv_at hl 0 rfl) ?_
  refine va_get (D := (dC, dI)) (ci := 8) (v := .ref (a 4)) (C := RX8) (T := TX8) (N := 7) hx hb hts in8 hown hK hP 0 rfl rfl 2 (by decide) k30 (fun _ h9 => h9) rfl dX8_load_1 ?_
  refine lv_iload_n hx hb dX8_load_4 rfl (lv_at hl 1 rfl) ?_
  refine zcalli (va_runV (As := [.int x1]) (rest := []) ⟨hx, hb, hml, hown, hts⟩ (c_X1_hasThing l dC dI cB cI cS cII a N hok hn σ H.size (x1) ) (cwV 1 hts gX8_load_X1_hasThing rfl rfl rfl (by decide +kernel) ⟨Nat.le_of_ble_eq_true rfl, Nat.le_of_ble_eq_true rfl⟩) (zpreV (wf := wX a cB cI cS cII) (q0 := 4) (ci := 1) hok hN hS hA hK hP hD rfl rfl) rfl rfl hl.1 rfl (lv_room (Nat.le_of_ble_eq_true rfl)) dX8_load_5 ⟨Nat.zero_le _, Nat.zero_le _⟩) hD hS hA (fun v5 σ1 H locs hv5 hP hD hS => ?_)
  obtain ⟨es9, hv5⟩ := hv5
  subst σ1
  refine lv_if_ne (tgt := 13) hx hb dX8_load_8 (by decide) (fun c8 => ?_) (fun c8 => ?_)
  · skip
    have ic8 := zneq (a := v5.toInt) (b := 0) rfl (by decide) c8
    replace hv5 := (hv5.resolve_right (fun q => by omega)).2
    refine lv_aload_n hx hb dX8_load_13 rfl (lv_at hl 0 rfl) ?_
    refine va_get (D := (dC, dI)) (ci := 8) (v := .ref (a 7)) (C := RX8) (T := TX8) (N := 7) hx hb hts in8 hown hK hP 0 rfl rfl 5 (by decide) k57 (fun _ h9 => h9) rfl dX8_load_14 ?_
    refine lv_aload_n hx hb dX8_load_17 rfl (lv_at hl 0 rfl) ?_
    refine va_get (D := (dC, dI)) (ci := 8) (v := .ref (a 4)) (C := RX8) (T := TX8) (N := 7) hx hb hts in8 hown hK hP 0 rfl rfl 2 (by decide) k30 (fun _ h9 => h9) rfl dX8_load_18 ?_
    refine lv_iload_n hx hb dX8_load_21 rfl (lv_at hl 1 rfl) ?_
    refine zcalli (va_runV (As := [.int x1]) (rest := [.ref (a 7)]) ⟨hx, hb, hml, hown, hts⟩ (c_X1_wayOf l dC dI cB cI cS cII a N hok hn σ H.size (x1) h0 (by omega)) (cwV 1 hts gX8_load_X1_wayOf rfl rfl rfl (by decide +kernel) ⟨Nat.le_of_ble_eq_true rfl, Nat.le_of_ble_eq_true rfl⟩) (zpreV (wf := wX a cB cI cS cII) (q0 := 4) (ci := 1) hok hN hS hA hK hP hD rfl rfl) rfl rfl hl.1 rfl (lv_room (Nat.le_of_ble_eq_true rfl)) dX8_load_22 ⟨Nat.zero_le _, Nat.zero_le _⟩) hD hS hA (fun v22 σ1 H locs hv22 hP hD hS => ?_)
    obtain ⟨es9, hv22⟩ := hv22
    subst σ1
    refine zcalli (va_runV (As := [.int v22]) (rest := []) ⟨hx, hb, hml, hown, hts⟩ (c_X7_fewest l dC dI cB cI cS cII a N hok hn σ H.size (v22) h0 h2) (cwV 1 hts gX8_load_X7_fewest rfl rfl rfl (by decide +kernel) ⟨Nat.le_of_ble_eq_true rfl, Nat.le_of_ble_eq_true rfl⟩) (zpreV (wf := wX a cB cI cS cII) (q0 := 7) (ci := 7) hok hN hS hA hK hP hD rfl rfl) rfl rfl hl.1 rfl (lv_room (Nat.le_of_ble_eq_true rfl)) dX8_load_25 ⟨Nat.zero_le _, Nat.zero_le _⟩) hD hS hA (fun v25 σ1 H locs hv25 hP hD hS => ?_)
    obtain ⟨u7_25, u34_25, u35_25, u36_25, es9, hv25⟩ := hv25
    subst σ1
    have hP : va_P (dC, dI) vwCl (wX a cB cI cS cII (upC (upC (upC (upC σ 7 u7_25) 34 u34_25) 35 u35_25) 36 u36_25)) H := hP
    have hD : va_D A (wX a cB cI cS cII (upC (upC (upC (upC σ 7 u7_25) 34 u34_25) 35 u35_25) 36 u36_25)) := hD
    have hw := hv25
    refine lv_bipush (v := (-4)) hx hb dX8_load_28 (by decide) ?_
    refine lv_icmp_ne (tgt := 38) hx hb dX8_load_30 (by decide) (fun c30 => ?_) (fun c30 => ?_)
    · skip
      have ic30 := zneq (a := v25.toInt) (b := (-4)) rfl (by decide) c30
      refine lv_aload_n hx hb dX8_load_38 rfl (lv_at hl 0 rfl) ?_
      refine va_get (D := (dC, dI)) (ci := 8) (v := .ref (a 7)) (C := RX8) (T := TX8) (N := 7) hx hb hts in8 hown hK hP 0 rfl rfl 5 (by decide) k57 (fun _ h9 => h9) rfl dX8_load_39 ?_
      refine lv_iload_n hx hb dX8_load_42 rfl (lv_at hl 1 rfl) ?_
      refine zcalli (va_runV (As := [.int x1]) (rest := []) ⟨hx, hb, hml, hown, hts⟩ (c_X7_loadOf l dC dI cB cI cS cII a N hok hn (upC (upC (upC (upC σ 7 u7_25) 34 u34_25) 35 u35_25) 36 u36_25) H.size (x1) hw) (cwV 1 hts gX8_load_X7_loadOf rfl rfl rfl (by decide +kernel) ⟨Nat.le_of_ble_eq_true rfl, Nat.le_of_ble_eq_true rfl⟩) (zpreV (wf := wX a cB cI cS cII) (q0 := 7) (ci := 7) hok hN hS hA hK hP hD rfl rfl) rfl rfl hl.1 rfl (lv_room (Nat.le_of_ble_eq_true rfl)) dX8_load_43 ⟨Nat.zero_le _, Nat.zero_le _⟩) hD hS hA (fun v43 σ1 H locs hv43 hP hD hS => ?_)
      obtain ⟨es9, hv43⟩ := hv43
      subst σ1
      have hpost : ∃ u7 : Nat → Int32, ∃ u34 : Nat → Int32, ∃ u35 : Nat → Int32, ∃ u36 : Nat → Int32, (upC (upC (upC (upC σ 7 u7_25) 34 u34_25) 35 u35_25) 36 u36_25) = (upC (upC (upC (upC σ 7 u7) 34 u34) 35 u35) 36 u36) ∧ True := by refine ⟨(u7_25), (u34_25), (u35_25), (u36_25), by first | rfl | (funext j; simp only [upC, upR]; (repeat' split) <;> first | rfl | (simp_all; done) | (congr 1; omega) | (exfalso; omega)), ?_⟩; trivial
      exact W.iret (v := v43) hx hb hr (fun t9 ht hW => ⟨⟨v43, (upC (upC (upC (upC σ 7 u7_25) 34 u34_25) 35 u35_25) 36 u36_25), rfl, hpost, by rw [ht]; exact hP, va_K.moved hW.alike hK, hD⟩, hS.F ht⟩) hS.2.2 dX8_load_46
    · skip
      have ic30 := zeq (a := v25.toInt) (b := (-4)) rfl (by decide) c30
      refine lv_bipush (v := (-4)) hx hb dX8_load_33 (by decide) ?_
      refine lv_goto (tgt := 46) hx hb dX8_load_35 (by decide) ?_
      have hpost : ∃ u7 : Nat → Int32, ∃ u34 : Nat → Int32, ∃ u35 : Nat → Int32, ∃ u36 : Nat → Int32, (upC (upC (upC (upC σ 7 u7_25) 34 u34_25) 35 u35_25) 36 u36_25) = (upC (upC (upC (upC σ 7 u7) 34 u34) 35 u35) 36 u36) ∧ True := by refine ⟨(u7_25), (u34_25), (u35_25), (u36_25), by first | rfl | (funext j; simp only [upC, upR]; (repeat' split) <;> first | rfl | (simp_all; done) | (congr 1; omega) | (exfalso; omega)), ?_⟩; trivial
      exact W.iret (v := (-4)) hx hb hr (fun t9 ht hW => ⟨⟨(-4), (upC (upC (upC (upC σ 7 u7_25) 34 u34_25) 35 u35_25) 36 u36_25), rfl, hpost, by rw [ht]; exact hP, va_K.moved hW.alike hK, hD⟩, hS.F ht⟩) hS.2.2 dX8_load_46
  · skip
    have ic8 := zeq (a := v5.toInt) (b := 0) rfl (by decide) c8
    replace hv5 := (hv5.resolve_left (fun q => by omega)).2
    refine lv_iconst (v := (-1)) hx hb dX8_load_11 (by decide) ?_
    have hpost : ∃ u7 : Nat → Int32, ∃ u34 : Nat → Int32, ∃ u35 : Nat → Int32, ∃ u36 : Nat → Int32, σ = (upC (upC (upC (upC σ 7 u7) 34 u34) 35 u35) 36 u36) ∧ True := by refine ⟨(σ 7), (σ 34), (σ 35), (σ 36), by first | rfl | (funext j; simp only [upC, upR]; (repeat' split) <;> first | rfl | (simp_all; done) | (congr 1; omega) | (exfalso; omega)), ?_⟩; trivial
    exact W.iret (v := (-1)) hx hb hr (fun t9 ht hW => ⟨⟨(-1), σ, rfl, hpost, by rw [ht]; exact hP, va_K.moved hW.alike hK, hD⟩, hS.F ht⟩) hS.2.2 dX8_load_12

abbrev RM_X8_count : Room := { frames := 4, cells := 0, slots := 0, locals := 87 }
set_option maxHeartbeats 4000000 in
set_option maxRecDepth 100000 in
theorem c_X8_count (l : Launch) (dC : Nat → ClassId) (dI : Nat → Nat → Nat) (cB cI cS cII : ClassId) (a : Nat → Nat) (N : (Nat → Prop) → State → Prop) (hok : zNok N) (hn : ∀ A U, N A U → zN U) (σ : Cn) (sz : Nat) (x1 : Int32) (h0 : 0 ≤ (σ 4 1).toInt ∧ (σ 4 1).toInt ≤ 4) (h2 : 0 ≤ (σ 4 2).toInt ∧ (σ 4 2).toInt ≤ 10) : Met l yX8_count wsX8_count RM_X8_count (zPc (dC, dI) (zT cB cI cS cII) N (wX a cB cI cS cII) σ sz [.ref (a 0), .int x1]) (zQi (dC, dI) (zT cB cI cS cII) (wX a cB cI cS cII) (va_A (wX a cB cI cS cII σ) sz) (fun (r : Int32) (σ1 : Cn) => σ1 = σ ∧ True)) 0 0 (va_A (wX a cB cI cS cII σ) sz) := by
  refine Met.ofW (cc := cX8_count) (maxL := 2) (ret := (some .int)) (by decide) rfl ?_
  intro p e s m args below meth c s₁ B hml hv
  obtain ⟨rfl, hsz, hP, hK, hD0, hN⟩ := hv
  have hx := B.exec
  have hb := B.bytes
  have hr := B.returns
  have hts := atoms_spec (ws := wsX8_count) B.pre
  have hown : s.vm.findClass RX8 = some m.cls := findClass_of_methodNamed B.named
  have hlocks := B.notSynchronized
  subst hsz
  have hD := hD0.self (sz := s.heap.size)
  generalize hAe : va_A (wX a cB cI cS cII σ) s.heap.size = A at hD hN ⊢
  have hA : ∀ q : Nat, s.heap.size ≤ q → A q := fun q h => by rw [← hAe]; exact Or.inr h
  clear hAe hD0
  have hS : va_S A s.heap s.heap [] := va_S.rf
  have in1 : ∀ w ∈ u_ws RX1 TX1 9, w ∈ wsX8_count := by decide +kernel
  have in2 : ∀ w ∈ u_ws RX2 TX2 6, w ∈ wsX8_count := by decide +kernel
  have in8 : ∀ w ∈ u_ws RX8 TX8 7, w ∈ wsX8_count := by decide +kernel
  have k21 := hts (.fieldLink RX8 21 "HouseSorted" "book" "LHouseSorted$LawBook;") (by decide +kernel)
  have k226 := hts (.fieldLink RX8 226 "HouseSorted$LawBook" "told" "I") (by decide +kernel)
  have k30 := hts (.fieldLink RX8 30 "HouseSorted" "house" "LHouseSorted$House;") (by decide +kernel)
  have k91 := hts (.fieldLink RX8 91 "HouseSorted$House" "heirs" "I") (by decide +kernel)
  have k94 := hts (.fieldLink RX8 94 "HouseSorted$House" "things" "I") (by decide +kernel)
  have hl := lv_entry ([.ref (a 0), .int x1]) (n := 2) (Nat.le_of_ble_eq_true rfl)
  rw [lg_entry_eq]
  generalize (lg_sl ([.ref (a 0), .int x1]) ++ List.replicate (2 - (lg_sl ([.ref (a 0), .int x1])).length) Slot.unset).toArray = ls at hl ⊢
  have hl : lv_has ls 2 [(0, .ref (a 0)), (1, .int x1)] := hl
  suffices main : ∀ (H : Heap) (locs : List Loc), va_P (dC, dI) vwCl (wX a cB cI cS cII σ) H → va_D A (wX a cB cI cS cII σ) → va_S A s.heap H locs → W p l e (headSpec wsX8_count RM_X8_count).room s m ([.ref (a 0), .int x1] : List Value).toArray below meth c H locs 0 0 (MQ below (zQi (dC, dI) (zT cB cI cS cII) (wX a cB cI cS cII) A (fun (r : Int32) (σ1 : Cn) => σ1 = σ ∧ True)) ([.ref (a 0), .int x1] : List Value).toArray s 0 0 A) (F0 m 0 ls []) from main s.heap [] hP hD hS
  intro H locs hP hD hS
  refine lv_iload_n hx hb dX8_count_0 rfl (lv_at hl 1 rfl) ?_
  rcases (show x1.toInt = 0 ∨ x1.toInt = 1 ∨ x1.toInt = 2 ∨ x1.toInt = 3 ∨ (x1.toInt < 0 ∨ 3 < x1.toInt) from by omega) with hsw | hsw | hsw | hsw | hsw
  · refine lv_tableIn (tgt := 32) (off := 31) hx hb dX8_count_1 (by rw [hsw]; decide) (by rw [hsw]; decide) (by rw [hsw]; decide) (by decide) ?_
    refine lv_aload_n hx hb dX8_count_32 rfl (lv_at hl 0 rfl) ?_
    refine va_get (D := (dC, dI)) (ci := 8) (v := .ref (a 4)) (C := RX8) (T := TX8) (N := 7) hx hb hts in8 hown hK hP 0 rfl rfl 2 (by decide) k30 (fun _ h9 => h9) rfl dX8_count_33 ?_
    refine va_get (D := (dC, dI)) (ci := 1) (v := .int (σ 4 1)) (C := RX1) (T := TX1) (N := 9) hx hb hts in1 hown hK hP 4 rfl rfl 1 (by decide) k91 (fun _ h9 => h9) rfl dX8_count_36 ?_
    have hpost : σ = σ ∧ True := by refine ⟨by first | rfl | (funext j; simp only [upC, upR]; (repeat' split) <;> first | rfl | (simp_all; done) | (congr 1; omega) | (exfalso; omega)), ?_⟩; trivial
    exact W.iret (v := σ 4 1) hx hb hr (fun t9 ht hW => ⟨⟨σ 4 1, σ, rfl, hpost, by rw [ht]; exact hP, va_K.moved hW.alike hK, hD⟩, hS.F ht⟩) hS.2.2 dX8_count_39
  · refine lv_tableIn (tgt := 40) (off := 39) hx hb dX8_count_1 (by rw [hsw]; decide) (by rw [hsw]; decide) (by rw [hsw]; decide) (by decide) ?_
    refine lv_aload_n hx hb dX8_count_40 rfl (lv_at hl 0 rfl) ?_
    refine va_get (D := (dC, dI)) (ci := 8) (v := .ref (a 4)) (C := RX8) (T := TX8) (N := 7) hx hb hts in8 hown hK hP 0 rfl rfl 2 (by decide) k30 (fun _ h9 => h9) rfl dX8_count_41 ?_
    refine va_get (D := (dC, dI)) (ci := 1) (v := .int (σ 4 2)) (C := RX1) (T := TX1) (N := 9) hx hb hts in1 hown hK hP 4 rfl rfl 2 (by decide) k94 (fun _ h9 => h9) rfl dX8_count_44 ?_
    have hpost : σ = σ ∧ True := by refine ⟨by first | rfl | (funext j; simp only [upC, upR]; (repeat' split) <;> first | rfl | (simp_all; done) | (congr 1; omega) | (exfalso; omega)), ?_⟩; trivial
    exact W.iret (v := σ 4 2) hx hb hr (fun t9 ht hW => ⟨⟨σ 4 2, σ, rfl, hpost, by rw [ht]; exact hP, va_K.moved hW.alike hK, hD⟩, hS.F ht⟩) hS.2.2 dX8_count_47
  · refine lv_tableIn (tgt := 48) (off := 47) hx hb dX8_count_1 (by rw [hsw]; decide) (by rw [hsw]; decide) (by rw [hsw]; decide) (by decide) ?_
    refine lv_aload_n hx hb dX8_count_48 rfl (lv_at hl 0 rfl) ?_
    refine va_get (D := (dC, dI)) (ci := 8) (v := .ref (a 2)) (C := RX8) (T := TX8) (N := 7) hx hb hts in8 hown hK hP 0 rfl rfl 1 (by decide) k21 (fun _ h9 => h9) rfl dX8_count_49 ?_
    refine va_get (D := (dC, dI)) (ci := 2) (v := .int (σ 2 1)) (C := RX2) (T := TX2) (N := 6) hx hb hts in2 hown hK hP 2 rfl rfl 1 (by decide) k226 (fun _ h9 => h9) rfl dX8_count_52 ?_
    have hpost : σ = σ ∧ True := by refine ⟨by first | rfl | (funext j; simp only [upC, upR]; (repeat' split) <;> first | rfl | (simp_all; done) | (congr 1; omega) | (exfalso; omega)), ?_⟩; trivial
    exact W.iret (v := σ 2 1) hx hb hr (fun t9 ht hW => ⟨⟨σ 2 1, σ, rfl, hpost, by rw [ht]; exact hP, va_K.moved hW.alike hK, hD⟩, hS.F ht⟩) hS.2.2 dX8_count_55
  · refine lv_tableIn (tgt := 56) (off := 55) hx hb dX8_count_1 (by rw [hsw]; decide) (by rw [hsw]; decide) (by rw [hsw]; decide) (by decide) ?_
    refine lv_aload_n hx hb dX8_count_56 rfl (lv_at hl 0 rfl) ?_
    refine va_get (D := (dC, dI)) (ci := 8) (v := .ref (a 4)) (C := RX8) (T := TX8) (N := 7) hx hb hts in8 hown hK hP 0 rfl rfl 2 (by decide) k30 (fun _ h9 => h9) rfl dX8_count_57 ?_
    refine lv_iconst (v := 0) hx hb dX8_count_60 (by decide) ?_
    refine zcalli (va_runV (As := [.int 0]) (rest := []) ⟨hx, hb, hml, hown, hts⟩ (c_X1_countOnWay l dC dI cB cI cS cII a N hok hn σ H.size (0) h0 h2) (cwV 1 hts gX8_count_X1_countOnWay rfl rfl rfl (by decide +kernel) ⟨Nat.le_of_ble_eq_true rfl, Nat.le_of_ble_eq_true rfl⟩) (zpreV (wf := wX a cB cI cS cII) (q0 := 4) (ci := 1) hok hN hS hA hK hP hD rfl rfl) rfl rfl hl.1 rfl (lv_room (Nat.le_of_ble_eq_true rfl)) dX8_count_61 ⟨Nat.zero_le _, Nat.zero_le _⟩) hD hS hA (fun v61 σ1 H locs hv61 hP hD hS => ?_)
    obtain ⟨es9, hv61⟩ := hv61
    subst σ1
    try simp only [show (0 : Int32).toInt = 0 from by decide] at hv61
    have hpost : σ = σ ∧ True := by refine ⟨by first | rfl | (funext j; simp only [upC, upR]; (repeat' split) <;> first | rfl | (simp_all; done) | (congr 1; omega) | (exfalso; omega)), ?_⟩; trivial
    exact W.iret (v := v61) hx hb hr (fun t9 ht hW => ⟨⟨v61, σ, rfl, hpost, by rw [ht]; exact hP, va_K.moved hW.alike hK, hD⟩, hS.F ht⟩) hS.2.2 dX8_count_64
  · refine lv_tableOut (tgt := 65) hx hb dX8_count_1 hsw (by decide) ?_
    refine lv_iconst (v := (-1)) hx hb dX8_count_65 (by decide) ?_
    have hpost : σ = σ ∧ True := by refine ⟨by first | rfl | (funext j; simp only [upC, upR]; (repeat' split) <;> first | rfl | (simp_all; done) | (congr 1; omega) | (exfalso; omega)), ?_⟩; trivial
    exact W.iret (v := (-1)) hx hb hr (fun t9 ht hW => ⟨⟨(-1), σ, rfl, hpost, by rw [ht]; exact hP, va_K.moved hW.alike hK, hD⟩, hS.F ht⟩) hS.2.2 dX8_count_66

