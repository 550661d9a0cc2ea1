abbrev RM_X8_sheet : Room := { frames := 2, cells := 0, slots := 0, locals := 42 }
set_option maxHeartbeats 4000000 in
set_option maxRecDepth 100000 in
theorem c_X8_sheet (l : Launch) (dC : Nat → ClassId) (dI : Nat → Nat → Nat) (cB cI cS cII : ClassId) (a : Nat → Nat) (N : (Nat → Prop) → State → Prop) (hok : zNok N) (hn : ∀ A U, N A U → zN U) (σ : Cn) (sz : Nat) (x1 : Int32) (x2 : Int32) (x3 : Int32) (hz : (0 ≤ (σ 8 1).toInt ∧ (σ 8 1).toInt ≤ 60) ∧ (0 ≤ (σ 9 1).toInt ∧ (σ 9 1).toInt ≤ 60) ∧ (0 ≤ (σ 10 1).toInt ∧ (σ 10 1).toInt ≤ 60) ∧ (0 ≤ (σ 11 1).toInt ∧ (σ 11 1).toInt ≤ 60)) : Met l yX8_sheet wsX8_sheet RM_X8_sheet (zPc (dC, dI) (zT cB cI cS cII) N (wX a cB cI cS cII) σ sz [.ref (a 0), .int x1, .int x2, .int x3]) (zQi (dC, dI) (zT cB cI cS cII) (wX a cB cI cS cII) (va_A (wX a cB cI cS cII σ) sz) (fun (r : Int32) (σ1 : Cn) => ∃ u8 : Nat → Int32, ∃ u9 : Nat → Int32, ∃ u10 : Nat → Int32, ∃ u11 : Nat → Int32, ∃ u38 : Nat → Int32, ∃ u39 : Nat → Int32, ∃ u40 : Nat → Int32, ∃ u41 : Nat → Int32, σ1 = (upC (upC (upC (upC (upC (upC (upC (upC σ 8 u8) 9 u9) 10 u10) 11 u11) 38 u38) 39 u39) 40 u40) 41 u41) ∧ ((0 ≤ (u8 1).toInt ∧ (u8 1).toInt ≤ 60) ∧ (0 ≤ (u9 1).toInt ∧ (u9 1).toInt ≤ 60) ∧ (0 ≤ (u10 1).toInt ∧ (u10 1).toInt ≤ 60) ∧ (0 ≤ (u11 1).toInt ∧ (u11 1).toInt ≤ 60)) ∧ ((¬ (0 ≤ x1.toInt ∧ x1.toInt ≤ 3 ∧ 0 ≤ x2.toInt ∧ x2.toInt ≤ 2 ∧ x3.toInt ≤ 60) ∧ (r : Int32).toInt = -1) ∨ ((0 ≤ x1.toInt ∧ x1.toInt ≤ 3 ∧ 0 ≤ x2.toInt ∧ x2.toInt ≤ 2 ∧ x3.toInt ≤ 60) ∧ x3.toInt < 0 ∧ (r : Int32).toInt = -14) ∨ ((0 ≤ x1.toInt ∧ x1.toInt ≤ 3 ∧ 0 ≤ x2.toInt ∧ x2.toInt ≤ 2 ∧ x3.toInt ≤ 60) ∧ 0 ≤ x3.toInt ∧ (r : Int32).toInt = 1)))) 0 0 (va_A (wX a cB cI cS cII σ) sz) := by
  refine Met.ofW (cc := cX8_sheet) (maxL := 4) (ret := (some .int)) (by decide) rfl ?_
  intro p e s m args below meth c s₁ B hml hv
  obtain ⟨rfl, hsz, hP, hK, hD0, hN⟩ := hv
  have hx := B.exec
  have hb := B.bytes
  have hr := B.returns
  have hts := atoms_spec (ws := wsX8_sheet) B.pre
  have hown : s.vm.findClass RX8 = some m.cls := findClass_of_methodNamed B.named
  have hlocks := B.notSynchronized
  subst hsz
  have hD := hD0.self (sz := s.heap.size)
  generalize hAe : va_A (wX a cB cI cS cII σ) s.heap.size = A at hD hN ⊢
  have hA : ∀ q : Nat, s.heap.size ≤ q → A q := fun q h => by rw [← hAe]; exact Or.inr h
  clear hAe hD0
  have hS : va_S A s.heap s.heap [] := va_S.rf
  have in8 : ∀ w ∈ u_ws RX8 TX8 7, w ∈ wsX8_sheet := by decide +kernel
  have k63 := hts (.fieldLink RX8 63 "HouseSorted" "sheets" "[LHouseSorted$Sheet;") (by decide +kernel)
  have hl := lv_entry ([.ref (a 0), .int x1, .int x2, .int x3]) (n := 4) (Nat.le_of_ble_eq_true rfl)
  rw [lg_entry_eq]
  generalize (lg_sl ([.ref (a 0), .int x1, .int x2, .int x3]) ++ List.replicate (4 - (lg_sl ([.ref (a 0), .int x1, .int x2, .int x3])).length) Slot.unset).toArray = ls at hl ⊢
  have hl : lv_has ls 4 [(0, .ref (a 0)), (1, .int x1), (2, .int x2), (3, .int x3)] := hl
  suffices main : ∀ (H : Heap) (locs : List Loc), va_P (dC, dI) vwCl (wX a cB cI cS cII σ) H → va_D A (wX a cB cI cS cII σ) → va_S A s.heap H locs → W p l e (headSpec wsX8_sheet RM_X8_sheet).room s m ([.ref (a 0), .int x1, .int x2, .int x3] : List Value).toArray below meth c H locs 0 0 (MQ below (zQi (dC, dI) (zT cB cI cS cII) (wX a cB cI cS cII) A (fun (r : Int32) (σ1 : Cn) => ∃ u8 : Nat → Int32, ∃ u9 : Nat → Int32, ∃ u10 : Nat → Int32, ∃ u11 : Nat → Int32, ∃ u38 : Nat → Int32, ∃ u39 : Nat → Int32, ∃ u40 : Nat → Int32, ∃ u41 : Nat → Int32, σ1 = (upC (upC (upC (upC (upC (upC (upC (upC σ 8 u8) 9 u9) 10 u10) 11 u11) 38 u38) 39 u39) 40 u40) 41 u41) ∧ ((0 ≤ (u8 1).toInt ∧ (u8 1).toInt ≤ 60) ∧ (0 ≤ (u9 1).toInt ∧ (u9 1).toInt ≤ 60) ∧ (0 ≤ (u10 1).toInt ∧ (u10 1).toInt ≤ 60) ∧ (0 ≤ (u11 1).toInt ∧ (u11 1).toInt ≤ 60)) ∧ ((¬ (0 ≤ x1.toInt ∧ x1.toInt ≤ 3 ∧ 0 ≤ x2.toInt ∧ x2.toInt ≤ 2 ∧ x3.toInt ≤ 60) ∧ (r : Int32).toInt = -1) ∨ ((0 ≤ x1.toInt ∧ x1.toInt ≤ 3 ∧ 0 ≤ x2.toInt ∧ x2.toInt ≤ 2 ∧ x3.toInt ≤ 60) ∧ x3.toInt < 0 ∧ (r : Int32).toInt = -14) ∨ ((0 ≤ x1.toInt ∧ x1.toInt ≤ 3 ∧ 0 ≤ x2.toInt ∧ x2.toInt ≤ 2 ∧ x3.toInt ≤ 60) ∧ 0 ≤ x3.toInt ∧ (r : Int32).toInt = 1)))) ([.ref (a 0), .int x1, .int x2, .int x3] : List Value).toArray s 0 0 A) (F0 m 0 ls []) from main s.heap [] hP hD hS
  intro H locs hP hD hS
  refine lv_iload_n hx hb dX8_sheet_0 rfl (lv_at hl 1 rfl) ?_
  refine lv_iconst (v := 0) hx hb dX8_sheet_1 (by decide) ?_
  refine lv_iconst (v := 3) hx hb dX8_sheet_2 (by decide) ?_
  refine zcalli (va_runS (As := [.int x1, .int 0, .int 3]) (rest := []) ⟨hx, hb, hml, hown, hts⟩ (c_X8_isWithin l dC dI cB cI cS cII a N hok hn σ H.size (x1) (0) (3) ) (va_cwS 3 hts gX8_sheet_X8_isWithin rfl rfl rfl (by decide +kernel) ⟨Nat.le_of_ble_eq_true rfl, Nat.le_of_ble_eq_true rfl⟩) (zpreS (wf := wX a cB cI cS cII) hok hN hS hA hK hP hD) rfl rfl hl.1 rfl (lv_room (Nat.le_of_ble_eq_true rfl)) dX8_sheet_3 ⟨Nat.zero_le _, Nat.zero_le _⟩) hD hS hA (fun v3 σ1 H locs hv3 hP hD hS => ?_)
  obtain ⟨es9, hv3⟩ := hv3
  subst σ1
  try simp only [show (0 : Int32).toInt = 0 from by decide, show (3 : Int32).toInt = 3 from by decide] at hv3
  refine lv_if_eq (tgt := 22) hx hb dX8_sheet_6 (by decide) (fun c6 => ?_) (fun c6 => ?_)
  · skip
    have ic6 := zeq (a := v3.toInt) (b := 0) rfl (by decide) c6
    replace hv3 := (hv3.resolve_left (fun q => by omega)).2
    refine lv_iconst (v := (-1)) hx hb dX8_sheet_22 (by decide) ?_
    have hpost : ∃ u8 : Nat → Int32, ∃ u9 : Nat → Int32, ∃ u10 : Nat → Int32, ∃ u11 : Nat → Int32, ∃ u38 : Nat → Int32, ∃ u39 : Nat → Int32, ∃ u40 : Nat → Int32, ∃ u41 : Nat → Int32, σ = (upC (upC (upC (upC (upC (upC (upC (upC σ 8 u8) 9 u9) 10 u10) 11 u11) 38 u38) 39 u39) 40 u40) 41 u41) ∧ ((0 ≤ (u8 1).toInt ∧ (u8 1).toInt ≤ 60) ∧ (0 ≤ (u9 1).toInt ∧ (u9 1).toInt ≤ 60) ∧ (0 ≤ (u10 1).toInt ∧ (u10 1).toInt ≤ 60) ∧ (0 ≤ (u11 1).toInt ∧ (u11 1).toInt ≤ 60)) ∧ ((¬ (0 ≤ x1.toInt ∧ x1.toInt ≤ 3 ∧ 0 ≤ x2.toInt ∧ x2.toInt ≤ 2 ∧ x3.toInt ≤ 60) ∧ ((-1) : Int32).toInt = -1) ∨ ((0 ≤ x1.toInt ∧ x1.toInt ≤ 3 ∧ 0 ≤ x2.toInt ∧ x2.toInt ≤ 2 ∧ x3.toInt ≤ 60) ∧ x3.toInt < 0 ∧ ((-1) : Int32).toInt = -14) ∨ ((0 ≤ x1.toInt ∧ x1.toInt ≤ 3 ∧ 0 ≤ x2.toInt ∧ x2.toInt ≤ 2 ∧ x3.toInt ≤ 60) ∧ 0 ≤ x3.toInt ∧ ((-1) : Int32).toInt = 1)) := by refine ⟨(σ 8), (σ 9), (σ 10), (σ 11), (σ 38), (σ 39), (σ 40), (σ 41), by first | rfl | (funext j; simp only [upC, upR]; (repeat' split) <;> first | rfl | (simp_all; done) | (congr 1; omega) | (exfalso; omega)), ?_⟩; first | exact ⟨hz, Or.inl ⟨by omega, by decide⟩⟩ | exact ⟨hz, Or.inr (Or.inl ⟨by omega, by omega, by decide⟩)⟩
    exact W.iret (v := (-1)) hx hb hr (fun t9 ht hW => ⟨⟨(-1), σ, rfl, hpost, by rw [ht]; exact hP, va_K.moved hW.alike hK, hD⟩, hS.F ht⟩) hS.2.2 dX8_sheet_23
  · skip
    have ic6 := zneq (a := v3.toInt) (b := 0) rfl (by decide) c6
    replace hv3 := (hv3.resolve_right (fun q => by omega)).2
    refine lv_iload_n hx hb dX8_sheet_9 rfl (lv_at hl 2 rfl) ?_
    refine zcalli (va_runS (As := [.int x2]) (rest := []) ⟨hx, hb, hml, hown, hts⟩ (c_X8_isLane l dC dI cB cI cS cII a N hok hn σ H.size (x2) ) (va_cwS 1 hts gX8_sheet_X8_isLane rfl rfl rfl (by decide +kernel) ⟨Nat.le_of_ble_eq_true rfl, Nat.le_of_ble_eq_true rfl⟩) (zpreS (wf := wX a cB cI cS cII) hok hN hS hA hK hP hD) rfl rfl hl.1 rfl (lv_room (Nat.le_of_ble_eq_true rfl)) dX8_sheet_10 ⟨Nat.zero_le _, Nat.zero_le _⟩) hD hS hA (fun v10 σ1 H locs hv10 hP hD hS => ?_)
    obtain ⟨es9, hv10⟩ := hv10
    subst σ1
    refine lv_if_eq (tgt := 22) hx hb dX8_sheet_13 (by decide) (fun c13 => ?_) (fun c13 => ?_)
    · skip
      have ic13 := zeq (a := v10.toInt) (b := 0) rfl (by decide) c13
      replace hv10 := (hv10.resolve_left (fun q => by omega)).2
      refine lv_iconst (v := (-1)) hx hb dX8_sheet_22 (by decide) ?_
      have hpost : ∃ u8 : Nat → Int32, ∃ u9 : Nat → Int32, ∃ u10 : Nat → Int32, ∃ u11 : Nat → Int32, ∃ u38 : Nat → Int32, ∃ u39 : Nat → Int32, ∃ u40 : Nat → Int32, ∃ u41 : Nat → Int32, σ = (upC (upC (upC (upC (upC (upC (upC (upC σ 8 u8) 9 u9) 10 u10) 11 u11) 38 u38) 39 u39) 40 u40) 41 u41) ∧ ((0 ≤ (u8 1).toInt ∧ (u8 1).toInt ≤ 60) ∧ (0 ≤ (u9 1).toInt ∧ (u9 1).toInt ≤ 60) ∧ (0 ≤ (u10 1).toInt ∧ (u10 1).toInt ≤ 60) ∧ (0 ≤ (u11 1).toInt ∧ (u11 1).toInt ≤ 60)) ∧ ((¬ (0 ≤ x1.toInt ∧ x1.toInt ≤ 3 ∧ 0 ≤ x2.toInt ∧ x2.toInt ≤ 2 ∧ x3.toInt ≤ 60) ∧ ((-1) : Int32).toInt = -1) ∨ ((0 ≤ x1.toInt ∧ x1.toInt ≤ 3 ∧ 0 ≤ x2.toInt ∧ x2.toInt ≤ 2 ∧ x3.toInt ≤ 60) ∧ x3.toInt < 0 ∧ ((-1) : Int32).toInt = -14) ∨ ((0 ≤ x1.toInt ∧ x1.toInt ≤ 3 ∧ 0 ≤ x2.toInt ∧ x2.toInt ≤ 2 ∧ x3.toInt ≤ 60) ∧ 0 ≤ x3.toInt ∧ ((-1) : Int32).toInt = 1)) := by refine ⟨(σ 8), (σ 9), (σ 10), (σ 11), (σ 38), (σ 39), (σ 40), (σ 41), by first | rfl | (funext j; simp only [upC, upR]; (repeat' split) <;> first | rfl | (simp_all; done) | (congr 1; omega) | (exfalso; omega)), ?_⟩; first | exact ⟨hz, Or.inl ⟨by omega, by decide⟩⟩ | exact ⟨hz, Or.inr (Or.inl ⟨by omega, by omega, by decide⟩)⟩
      exact W.iret (v := (-1)) hx hb hr (fun t9 ht hW => ⟨⟨(-1), σ, rfl, hpost, by rw [ht]; exact hP, va_K.moved hW.alike hK, hD⟩, hS.F ht⟩) hS.2.2 dX8_sheet_23
    · skip
      have ic13 := zneq (a := v10.toInt) (b := 0) rfl (by decide) c13
      replace hv10 := (hv10.resolve_right (fun q => by omega)).2
      refine lv_iload_n hx hb dX8_sheet_16 rfl (lv_at hl 3 rfl) ?_
      refine lv_bipush (v := 60) hx hb dX8_sheet_17 (by decide) ?_
      refine lv_icmp_le (tgt := 24) hx hb dX8_sheet_19 (by decide) (fun c19 => ?_) (fun c19 => ?_)
      · skip
        have ic19 := zle (a := x3.toInt) (b := 60) rfl (by decide) c19
        refine lv_iload_n hx hb dX8_sheet_24 rfl (lv_at hl 3 rfl) ?_
        refine lv_if_ge (tgt := 31) hx hb dX8_sheet_25 (by decide) (fun c25 => ?_) (fun c25 => ?_)
        · skip
          have ic25 := zle (a := 0) (b := x3.toInt) (by decide) rfl c25
          refine lv_aload_n hx hb dX8_sheet_31 rfl (lv_at hl 0 rfl) ?_
          refine va_get (D := (dC, dI)) (ci := 8) (v := .ref (a 37)) (C := RX8) (T := TX8) (N := 7) hx hb hts in8 hown hK hP 0 rfl rfl 6 (by decide) k63 (fun _ h9 => h9) rfl dX8_sheet_32 ?_
          refine lv_iload_n hx hb dX8_sheet_35 rfl (lv_at hl 1 rfl) ?_
          rcases (show x1.toInt = 0 ∨ x1.toInt = 1 ∨ x1.toInt = 2 ∨ x1.toInt = 3 from by omega) with q36 | q36 | q36 | q36
          · have hc36 : (x1).toNatClampNeg = 0 := by have h9 := zcl (x := x1) (by omega); omega
            refine zaldO hx hb hK hP 37 2 rfl rfl (i := x1) (n := 4) (zin (by omega) (by omega)) (b := a 8) (by rw [hc36]; rfl) dX8_sheet_36 ?_
            refine lv_iload_n hx hb dX8_sheet_37 rfl (lv_at hl 2 rfl) ?_
            refine lv_iload_n hx hb dX8_sheet_38 rfl (lv_at hl 3 rfl) ?_
            refine zcallv (va_runV (As := [.int x2, .int x3]) (rest := []) ⟨hx, hb, hml, hown, hts⟩ (c_X4_renew_8 l dC dI cB cI cS cII a N hok hn σ H.size (x2) (x3) ) (cwV 2 hts gX8_sheet_X4_renew rfl rfl rfl (by decide +kernel) ⟨Nat.le_of_ble_eq_true rfl, Nat.le_of_ble_eq_true rfl⟩) (zpreV (wf := wX a cB cI cS cII) (q0 := 8) (ci := 4) hok hN hS hA hK hP hD rfl rfl) rfl rfl hl.1 rfl (lv_room (Nat.le_of_ble_eq_true rfl)) dX8_sheet_39 ⟨Nat.zero_le _, Nat.zero_le _⟩) hD hS hA (fun σ1 H locs hv39 hP hD hS => ?_)
            obtain ⟨u8_39, u38_39, es9, hv39⟩ := hv39
            subst σ1
            have hP : va_P (dC, dI) vwCl (wX a cB cI cS cII (upC (upC σ 8 u8_39) 38 u38_39)) H := hP
            have hD : va_D A (wX a cB cI cS cII (upC (upC σ 8 u8_39) 38 u38_39)) := hD
            have hz9 := congrArg Int32.toInt hv39.2
            refine lv_iconst (v := 1) hx hb dX8_sheet_42 (by decide) ?_
            have hpost : ∃ u8 : Nat → Int32, ∃ u9 : Nat → Int32, ∃ u10 : Nat → Int32, ∃ u11 : Nat → Int32, ∃ u38 : Nat → Int32, ∃ u39 : Nat → Int32, ∃ u40 : Nat → Int32, ∃ u41 : Nat → Int32, (upC (upC σ 8 u8_39) 38 u38_39) = (upC (upC (upC (upC (upC (upC (upC (upC σ 8 u8) 9 u9) 10 u10) 11 u11) 38 u38) 39 u39) 40 u40) 41 u41) ∧ ((0 ≤ (u8 1).toInt ∧ (u8 1).toInt ≤ 60) ∧ (0 ≤ (u9 1).toInt ∧ (u9 1).toInt ≤ 60) ∧ (0 ≤ (u10 1).toInt ∧ (u10 1).toInt ≤ 60) ∧ (0 ≤ (u11 1).toInt ∧ (u11 1).toInt ≤ 60)) ∧ ((¬ (0 ≤ x1.toInt ∧ x1.toInt ≤ 3 ∧ 0 ≤ x2.toInt ∧ x2.toInt ≤ 2 ∧ x3.toInt ≤ 60) ∧ (1 : Int32).toInt = -1) ∨ ((0 ≤ x1.toInt ∧ x1.toInt ≤ 3 ∧ 0 ≤ x2.toInt ∧ x2.toInt ≤ 2 ∧ x3.toInt ≤ 60) ∧ x3.toInt < 0 ∧ (1 : Int32).toInt = -14) ∨ ((0 ≤ x1.toInt ∧ x1.toInt ≤ 3 ∧ 0 ≤ x2.toInt ∧ x2.toInt ≤ 2 ∧ x3.toInt ≤ 60) ∧ 0 ≤ x3.toInt ∧ (1 : Int32).toInt = 1)) := by refine ⟨(u8_39), (σ 9), (σ 10), (σ 11), (u38_39), (σ 39), (σ 40), (σ 41), by first | rfl | (funext j; simp only [upC, upR]; (repeat' split) <;> first | rfl | (simp_all; done) | (congr 1; omega) | (exfalso; omega)), ?_⟩; exact ⟨by omega, Or.inr (Or.inr ⟨by omega, by omega, by decide⟩)⟩
            exact W.iret (v := 1) hx hb hr (fun t9 ht hW => ⟨⟨1, (upC (upC σ 8 u8_39) 38 u38_39), rfl, hpost, by rw [ht]; exact hP, va_K.moved hW.alike hK, hD⟩, hS.F ht⟩) hS.2.2 dX8_sheet_43
          · have hc36 : (x1).toNatClampNeg = 1 := by have h9 := zcl (x := x1) (by omega); omega
            refine zaldO hx hb hK hP 37 2 rfl rfl (i := x1) (n := 4) (zin (by omega) (by omega)) (b := a 9) (by rw [hc36]; rfl) dX8_sheet_36 ?_
            refine lv_iload_n hx hb dX8_sheet_37 rfl (lv_at hl 2 rfl) ?_
            refine lv_iload_n hx hb dX8_sheet_38 rfl (lv_at hl 3 rfl) ?_
            refine zcallv (va_runV (As := [.int x2, .int x3]) (rest := []) ⟨hx, hb, hml, hown, hts⟩ (c_X4_renew_9 l dC dI cB cI cS cII a N hok hn σ H.size (x2) (x3) ) (cwV 2 hts gX8_sheet_X4_renew rfl rfl rfl (by decide +kernel) ⟨Nat.le_of_ble_eq_true rfl, Nat.le_of_ble_eq_true rfl⟩) (zpreV (wf := wX a cB cI cS cII) (q0 := 9) (ci := 4) hok hN hS hA hK hP hD rfl rfl) rfl rfl hl.1 rfl (lv_room (Nat.le_of_ble_eq_true rfl)) dX8_sheet_39 ⟨Nat.zero_le _, Nat.zero_le _⟩) hD hS hA (fun σ1 H locs hv39 hP hD hS => ?_)
            obtain ⟨u9_39, u39_39, es9, hv39⟩ := hv39
            subst σ1
            have hP : va_P (dC, dI) vwCl (wX a cB cI cS cII (upC (upC σ 9 u9_39) 39 u39_39)) H := hP
            have hD : va_D A (wX a cB cI cS cII (upC (upC σ 9 u9_39) 39 u39_39)) := hD
            have hz9 := congrArg Int32.toInt hv39.2
            refine lv_iconst (v := 1) hx hb dX8_sheet_42 (by decide) ?_
            have hpost : ∃ u8 : Nat → Int32, ∃ u9 : Nat → Int32, ∃ u10 : Nat → Int32, ∃ u11 : Nat → Int32, ∃ u38 : Nat → Int32, ∃ u39 : Nat → Int32, ∃ u40 : Nat → Int32, ∃ u41 : Nat → Int32, (upC (upC σ 9 u9_39) 39 u39_39) = (upC (upC (upC (upC (upC (upC (upC (upC σ 8 u8) 9 u9) 10 u10) 11 u11) 38 u38) 39 u39) 40 u40) 41 u41) ∧ ((0 ≤ (u8 1).toInt ∧ (u8 1).toInt ≤ 60) ∧ (0 ≤ (u9 1).toInt ∧ (u9 1).toInt ≤ 60) ∧ (0 ≤ (u10 1).toInt ∧ (u10 1).toInt ≤ 60) ∧ (0 ≤ (u11 1).toInt ∧ (u11 1).toInt ≤ 60)) ∧ ((¬ (0 ≤ x1.toInt ∧ x1.toInt ≤ 3 ∧ 0 ≤ x2.toInt ∧ x2.toInt ≤ 2 ∧ x3.toInt ≤ 60) ∧ (1 : Int32).toInt = -1) ∨ ((0 ≤ x1.toInt ∧ x1.toInt ≤ 3 ∧ 0 ≤ x2.toInt ∧ x2.toInt ≤ 2 ∧ x3.toInt ≤ 60) ∧ x3.toInt < 0 ∧ (1 : Int32).toInt = -14) ∨ ((0 ≤ x1.toInt ∧ x1.toInt ≤ 3 ∧ 0 ≤ x2.toInt ∧ x2.toInt ≤ 2 ∧ x3.toInt ≤ 60) ∧ 0 ≤ x3.toInt ∧ (1 : Int32).toInt = 1)) := by refine ⟨(σ 8), (u9_39), (σ 10), (σ 11), (σ 38), (u39_39), (σ 40), (σ 41), by first | rfl | (funext j; simp only [upC, upR]; (repeat' split) <;> first | rfl | (simp_all; done) | (congr 1; omega) | (exfalso; omega)), ?_⟩; exact ⟨by omega, Or.inr (Or.inr ⟨by omega, by omega, by decide⟩)⟩
            exact W.iret (v := 1) hx hb hr (fun t9 ht hW => ⟨⟨1, (upC (upC σ 9 u9_39) 39 u39_39), rfl, hpost, by rw [ht]; exact hP, va_K.moved hW.alike hK, hD⟩, hS.F ht⟩) hS.2.2 dX8_sheet_43
          · have hc36 : (x1).toNatClampNeg = 2 := by have h9 := zcl (x := x1) (by omega); omega
            refine zaldO hx hb hK hP 37 2 rfl rfl (i := x1) (n := 4) (zin (by omega) (by omega)) (b := a 10) (by rw [hc36]; rfl) dX8_sheet_36 ?_
            refine lv_iload_n hx hb dX8_sheet_37 rfl (lv_at hl 2 rfl) ?_
            refine lv_iload_n hx hb dX8_sheet_38 rfl (lv_at hl 3 rfl) ?_
            refine zcallv (va_runV (As := [.int x2, .int x3]) (rest := []) ⟨hx, hb, hml, hown, hts⟩ (c_X4_renew_10 l dC dI cB cI cS cII a N hok hn σ H.size (x2) (x3) ) (cwV 2 hts gX8_sheet_X4_renew rfl rfl rfl (by decide +kernel) ⟨Nat.le_of_ble_eq_true rfl, Nat.le_of_ble_eq_true rfl⟩) (zpreV (wf := wX a cB cI cS cII) (q0 := 10) (ci := 4) hok hN hS hA hK hP hD rfl rfl) rfl rfl hl.1 rfl (lv_room (Nat.le_of_ble_eq_true rfl)) dX8_sheet_39 ⟨Nat.zero_le _, Nat.zero_le _⟩) hD hS hA (fun σ1 H locs hv39 hP hD hS => ?_)
            obtain ⟨u10_39, u40_39, es9, hv39⟩ := hv39
            subst σ1
            have hP : va_P (dC, dI) vwCl (wX a cB cI cS cII (upC (upC σ 10 u10_39) 40 u40_39)) H := hP
            have hD : va_D A (wX a cB cI cS cII (upC (upC σ 10 u10_39) 40 u40_39)) := hD
            have hz9 := congrArg Int32.toInt hv39.2
            refine lv_iconst (v := 1) hx hb dX8_sheet_42 (by decide) ?_
            have hpost : ∃ u8 : Nat → Int32, ∃ u9 : Nat → Int32, ∃ u10 : Nat → Int32, ∃ u11 : Nat → Int32, ∃ u38 : Nat → Int32, ∃ u39 : Nat → Int32, ∃ u40 : Nat → Int32, ∃ u41 : Nat → Int32, (upC (upC σ 10 u10_39) 40 u40_39) = (upC (upC (upC (upC (upC (upC (upC (upC σ 8 u8) 9 u9) 10 u10) 11 u11) 38 u38) 39 u39) 40 u40) 41 u41) ∧ ((0 ≤ (u8 1).toInt ∧ (u8 1).toInt ≤ 60) ∧ (0 ≤ (u9 1).toInt ∧ (u9 1).toInt ≤ 60) ∧ (0 ≤ (u10 1).toInt ∧ (u10 1).toInt ≤ 60) ∧ (0 ≤ (u11 1).toInt ∧ (u11 1).toInt ≤ 60)) ∧ ((¬ (0 ≤ x1.toInt ∧ x1.toInt ≤ 3 ∧ 0 ≤ x2.toInt ∧ x2.toInt ≤ 2 ∧ x3.toInt ≤ 60) ∧ (1 : Int32).toInt = -1) ∨ ((0 ≤ x1.toInt ∧ x1.toInt ≤ 3 ∧ 0 ≤ x2.toInt ∧ x2.toInt ≤ 2 ∧ x3.toInt ≤ 60) ∧ x3.toInt < 0 ∧ (1 : Int32).toInt = -14) ∨ ((0 ≤ x1.toInt ∧ x1.toInt ≤ 3 ∧ 0 ≤ x2.toInt ∧ x2.toInt ≤ 2 ∧ x3.toInt ≤ 60) ∧ 0 ≤ x3.toInt ∧ (1 : Int32).toInt = 1)) := by refine ⟨(σ 8), (σ 9), (u10_39), (σ 11), (σ 38), (σ 39), (u40_39), (σ 41), by first | rfl | (funext j; simp only [upC, upR]; (repeat' split) <;> first | rfl | (simp_all; done) | (congr 1; omega) | (exfalso; omega)), ?_⟩; exact ⟨by omega, Or.inr (Or.inr ⟨by omega, by omega, by decide⟩)⟩
            exact W.iret (v := 1) hx hb hr (fun t9 ht hW => ⟨⟨1, (upC (upC σ 10 u10_39) 40 u40_39), rfl, hpost, by rw [ht]; exact hP, va_K.moved hW.alike hK, hD⟩, hS.F ht⟩) hS.2.2 dX8_sheet_43
          · have hc36 : (x1).toNatClampNeg = 3 := by have h9 := zcl (x := x1) (by omega); omega
            refine zaldO hx hb hK hP 37 2 rfl rfl (i := x1) (n := 4) (zin (by omega) (by omega)) (b := a 11) (by rw [hc36]; rfl) dX8_sheet_36 ?_
            refine lv_iload_n hx hb dX8_sheet_37 rfl (lv_at hl 2 rfl) ?_
            refine lv_iload_n hx hb dX8_sheet_38 rfl (lv_at hl 3 rfl) ?_
            refine zcallv (va_runV (As := [.int x2, .int x3]) (rest := []) ⟨hx, hb, hml, hown, hts⟩ (c_X4_renew_11 l dC dI cB cI cS cII a N hok hn σ H.size (x2) (x3) ) (cwV 2 hts gX8_sheet_X4_renew rfl rfl rfl (by decide +kernel) ⟨Nat.le_of_ble_eq_true rfl, Nat.le_of_ble_eq_true rfl⟩) (zpreV (wf := wX a cB cI cS cII) (q0 := 11) (ci := 4) hok hN hS hA hK hP hD rfl rfl) rfl rfl hl.1 rfl (lv_room (Nat.le_of_ble_eq_true rfl)) dX8_sheet_39 ⟨Nat.zero_le _, Nat.zero_le _⟩) hD hS hA (fun σ1 H locs hv39 hP hD hS => ?_)
            obtain ⟨u11_39, u41_39, es9, hv39⟩ := hv39
            subst σ1
            have hP : va_P (dC, dI) vwCl (wX a cB cI cS cII (upC (upC σ 11 u11_39) 41 u41_39)) H := hP
            have hD : va_D A (wX a cB cI cS cII (upC (upC σ 11 u11_39) 41 u41_39)) := hD
            have hz9 := congrArg Int32.toInt hv39.2
            refine lv_iconst (v := 1) hx hb dX8_sheet_42 (by decide) ?_
            have hpost : ∃ u8 : Nat → Int32, ∃ u9 : Nat → Int32, ∃ u10 : Nat → Int32, ∃ u11 : Nat → Int32, ∃ u38 : Nat → Int32, ∃ u39 : Nat → Int32, ∃ u40 : Nat → Int32, ∃ u41 : Nat → Int32, (upC (upC σ 11 u11_39) 41 u41_39) = (upC (upC (upC (upC (upC (upC (upC (upC σ 8 u8) 9 u9) 10 u10) 11 u11) 38 u38) 39 u39) 40 u40) 41 u41) ∧ ((0 ≤ (u8 1).toInt ∧ (u8 1).toInt ≤ 60) ∧ (0 ≤ (u9 1).toInt ∧ (u9 1).toInt ≤ 60) ∧ (0 ≤ (u10 1).toInt ∧ (u10 1).toInt ≤ 60) ∧ (0 ≤ (u11 1).toInt ∧ (u11 1).toInt ≤ 60)) ∧ ((¬ (0 ≤ x1.toInt ∧ x1.toInt ≤ 3 ∧ 0 ≤ x2.toInt ∧ x2.toInt ≤ 2 ∧ x3.toInt ≤ 60) ∧ (1 : Int32).toInt = -1) ∨ ((0 ≤ x1.toInt ∧ x1.toInt ≤ 3 ∧ 0 ≤ x2.toInt ∧ x2.toInt ≤ 2 ∧ x3.toInt ≤ 60) ∧ x3.toInt < 0 ∧ (1 : Int32).toInt = -14) ∨ ((0 ≤ x1.toInt ∧ x1.toInt ≤ 3 ∧ 0 ≤ x2.toInt ∧ x2.toInt ≤ 2 ∧ x3.toInt ≤ 60) ∧ 0 ≤ x3.toInt ∧ (1 : Int32).toInt = 1)) := by refine ⟨(σ 8), (σ 9), (σ 10), (u11_39), (σ 38), (σ 39), (σ 40), (u41_39), by first | rfl | (funext j; simp only [upC, upR]; (repeat' split) <;> first | rfl | (simp_all; done) | (congr 1; omega) | (exfalso; omega)), ?_⟩; exact ⟨by omega, Or.inr (Or.inr ⟨by omega, by omega, by decide⟩)⟩
            exact W.iret (v := 1) hx hb hr (fun t9 ht hW => ⟨⟨1, (upC (upC σ 11 u11_39) 41 u41_39), rfl, hpost, by rw [ht]; exact hP, va_K.moved hW.alike hK, hD⟩, hS.F ht⟩) hS.2.2 dX8_sheet_43
        · skip
          have ic25 := znle (a := 0) (b := x3.toInt) (by decide) rfl c25
          refine lv_bipush (v := (-14)) hx hb dX8_sheet_28 (by decide) ?_
          have hpost : ∃ u8 : Nat → Int32, ∃ u9 : Nat → Int32, ∃ u10 : Nat → Int32, ∃ u11 : Nat → Int32, ∃ u38 : Nat → Int32, ∃ u39 : Nat → Int32, ∃ u40 : Nat → Int32, ∃ u41 : Nat → Int32, σ = (upC (upC (upC (upC (upC (upC (upC (upC σ 8 u8) 9 u9) 10 u10) 11 u11) 38 u38) 39 u39) 40 u40) 41 u41) ∧ ((0 ≤ (u8 1).toInt ∧ (u8 1).toInt ≤ 60) ∧ (0 ≤ (u9 1).toInt ∧ (u9 1).toInt ≤ 60) ∧ (0 ≤ (u10 1).toInt ∧ (u10 1).toInt ≤ 60) ∧ (0 ≤ (u11 1).toInt ∧ (u11 1).toInt ≤ 60)) ∧ ((¬ (0 ≤ x1.toInt ∧ x1.toInt ≤ 3 ∧ 0 ≤ x2.toInt ∧ x2.toInt ≤ 2 ∧ x3.toInt ≤ 60) ∧ ((-14) : Int32).toInt = -1) ∨ ((0 ≤ x1.toInt ∧ x1.toInt ≤ 3 ∧ 0 ≤ x2.toInt ∧ x2.toInt ≤ 2 ∧ x3.toInt ≤ 60) ∧ x3.toInt < 0 ∧ ((-14) : Int32).toInt = -14) ∨ ((0 ≤ x1.toInt ∧ x1.toInt ≤ 3 ∧ 0 ≤ x2.toInt ∧ x2.toInt ≤ 2 ∧ x3.toInt ≤ 60) ∧ 0 ≤ x3.toInt ∧ ((-14) : Int32).toInt = 1)) := by refine ⟨(σ 8), (σ 9), (σ 10), (σ 11), (σ 38), (σ 39), (σ 40), (σ 41), by first | rfl | (funext j; simp only [upC, upR]; (repeat' split) <;> first | rfl | (simp_all; done) | (congr 1; omega) | (exfalso; omega)), ?_⟩; first | exact ⟨hz, Or.inl ⟨by omega, by decide⟩⟩ | exact ⟨hz, Or.inr (Or.inl ⟨by omega, by omega, by decide⟩)⟩
          exact W.iret (v := (-14)) hx hb hr (fun t9 ht hW => ⟨⟨(-14), σ, rfl, hpost, by rw [ht]; exact hP, va_K.moved hW.alike hK, hD⟩, hS.F ht⟩) hS.2.2 dX8_sheet_30
      · skip
        have ic19 := znle (a := x3.toInt) (b := 60) rfl (by decide) c19
        refine lv_iconst (v := (-1)) hx hb dX8_sheet_22 (by decide) ?_
        have hpost : ∃ u8 : Nat → Int32, ∃ u9 : Nat → Int32, ∃ u10 : Nat → Int32, ∃ u11 : Nat → Int32, ∃ u38 : Nat → Int32, ∃ u39 : Nat → Int32, ∃ u40 : Nat → Int32, ∃ u41 : Nat → Int32, σ = (upC (upC (upC (upC (upC (upC (upC (upC σ 8 u8) 9 u9) 10 u10) 11 u11) 38 u38) 39 u39) 40 u40) 41 u41) ∧ ((0 ≤ (u8 1).toInt ∧ (u8 1).toInt ≤ 60) ∧ (0 ≤ (u9 1).toInt ∧ (u9 1).toInt ≤ 60) ∧ (0 ≤ (u10 1).toInt ∧ (u10 1).toInt ≤ 60) ∧ (0 ≤ (u11 1).toInt ∧ (u11 1).toInt ≤ 60)) ∧ ((¬ (0 ≤ x1.toInt ∧ x1.toInt ≤ 3 ∧ 0 ≤ x2.toInt ∧ x2.toInt ≤ 2 ∧ x3.toInt ≤ 60) ∧ ((-1) : Int32).toInt = -1) ∨ ((0 ≤ x1.toInt ∧ x1.toInt ≤ 3 ∧ 0 ≤ x2.toInt ∧ x2.toInt ≤ 2 ∧ x3.toInt ≤ 60) ∧ x3.toInt < 0 ∧ ((-1) : Int32).toInt = -14) ∨ ((0 ≤ x1.toInt ∧ x1.toInt ≤ 3 ∧ 0 ≤ x2.toInt ∧ x2.toInt ≤ 2 ∧ x3.toInt ≤ 60) ∧ 0 ≤ x3.toInt ∧ ((-1) : Int32).toInt = 1)) := by refine ⟨(σ 8), (σ 9), (σ 10), (σ 11), (σ 38), (σ 39), (σ 40), (σ 41), by first | rfl | (funext j; simp only [upC, upR]; (repeat' split) <;> first | rfl | (simp_all; done) | (congr 1; omega) | (exfalso; omega)), ?_⟩; first | exact ⟨hz, Or.inl ⟨by omega, by decide⟩⟩ | exact ⟨hz, Or.inr (Or.inl ⟨by omega, by omega, by decide⟩)⟩
        exact W.iret (v := (-1)) hx hb hr (fun t9 ht hW => ⟨⟨(-1), σ, rfl, hpost, by rw [ht]; exact hP, va_K.moved hW.alike hK, hD⟩, hS.F ht⟩) hS.2.2 dX8_sheet_23

abbrev RM_X8_lay : Room := { frames := 1, cells := 0, slots := 0, locals := 22 }
set_option maxHeartbeats 4000000 in
set_option maxRecDepth 100000 in
theorem c_X8_lay (l : Launch) (dC : Nat → ClassId) (dI : Nat → Nat → Nat) (cB cI cS cII : ClassId) (a : Nat → Nat) (N : (Nat → Prop) → State → Prop) (hok : zNok N) (hn : ∀ A U, N A U → zN U) (σ : Cn) (sz : Nat) (x1 : Int32) (x2 : Int32) (x3 : Int32) (hz : (0 ≤ (σ 8 1).toInt ∧ (σ 8 1).toInt ≤ 60) ∧ (0 ≤ (σ 9 1).toInt ∧ (σ 9 1).toInt ≤ 60) ∧ (0 ≤ (σ 10 1).toInt ∧ (σ 10 1).toInt ≤ 60) ∧ (0 ≤ (σ 11 1).toInt ∧ (σ 11 1).toInt ≤ 60)) : Met l yX8_lay wsX8_lay RM_X8_lay (zPc (dC, dI) (zT cB cI cS cII) N (wX a cB cI cS cII) σ sz [.ref (a 0), .int x1, .int x2, .int x3]) (zQi (dC, dI) (zT cB cI cS cII) (wX a cB cI cS cII) (va_A (wX a cB cI cS cII σ) sz) (fun (r : Int32) (σ1 : Cn) => ∃ u38 : Nat → Int32, ∃ u39 : Nat → Int32, ∃ u40 : Nat → Int32, ∃ u41 : Nat → Int32, σ1 = (upC (upC (upC (upC σ 38 u38) 39 u39) 40 u40) 41 u41) ∧ True)) 0 0 (va_A (wX a cB cI cS cII σ) sz) := by
  refine Met.ofW (cc := cX8_lay) (maxL := 5) (ret := (some .int)) (by decide) rfl ?_
  intro p e s m args below meth c s₁ B hml hv
  obtain ⟨rfl, hsz, hP, hK, hD0, hN⟩ := hv
  have hx := B.exec
  have hb := B.bytes
  have hr := B.returns
  have hts := atoms_spec (ws := wsX8_lay) B.pre
  have hown : s.vm.findClass RX8 = some m.cls := findClass_of_methodNamed B.named
  have hlocks := B.notSynchronized
  subst hsz
  have hD := hD0.self (sz := s.heap.size)
  generalize hAe : va_A (wX a cB cI cS cII σ) s.heap.size = A at hD hN ⊢
  have hA : ∀ q : Nat, s.heap.size ≤ q → A q := fun q h => by rw [← hAe]; exact Or.inr h
  clear hAe hD0
  have hS : va_S A s.heap s.heap [] := va_S.rf
  have in4 : ∀ w ∈ u_ws RX4 TX4 3, w ∈ wsX8_lay := by decide +kernel
  have in8 : ∀ w ∈ u_ws RX8 TX8 7, w ∈ wsX8_lay := by decide +kernel
  have k209 := hts (.fieldLink RX8 209 "HouseSorted$Sheet" "lane" "I") (by decide +kernel)
  have k63 := hts (.fieldLink RX8 63 "HouseSorted" "sheets" "[LHouseSorted$Sheet;") (by decide +kernel)
  have hl := lv_entry ([.ref (a 0), .int x1, .int x2, .int x3]) (n := 5) (Nat.le_of_ble_eq_true rfl)
  rw [lg_entry_eq]
  generalize (lg_sl ([.ref (a 0), .int x1, .int x2, .int x3]) ++ List.replicate (5 - (lg_sl ([.ref (a 0), .int x1, .int x2, .int x3])).length) Slot.unset).toArray = ls at hl ⊢
  have hl : lv_has ls 5 [(0, .ref (a 0)), (1, .int x1), (2, .int x2), (3, .int x3)] := hl
  suffices main : ∀ (H : Heap) (locs : List Loc), va_P (dC, dI) vwCl (wX a cB cI cS cII σ) H → va_D A (wX a cB cI cS cII σ) → va_S A s.heap H locs → W p l e (headSpec wsX8_lay RM_X8_lay).room s m ([.ref (a 0), .int x1, .int x2, .int x3] : List Value).toArray below meth c H locs 0 0 (MQ below (zQi (dC, dI) (zT cB cI cS cII) (wX a cB cI cS cII) A (fun (r : Int32) (σ1 : Cn) => ∃ u38 : Nat → Int32, ∃ u39 : Nat → Int32, ∃ u40 : Nat → Int32, ∃ u41 : Nat → Int32, σ1 = (upC (upC (upC (upC σ 38 u38) 39 u39) 40 u40) 41 u41) ∧ True)) ([.ref (a 0), .int x1, .int x2, .int x3] : List Value).toArray s 0 0 A) (F0 m 0 ls []) from main s.heap [] hP hD hS
  intro H locs hP hD hS
  refine lv_iload_n hx hb dX8_lay_0 rfl (lv_at hl 1 rfl) ?_
  refine lv_iconst (v := 0) hx hb dX8_lay_1 (by decide) ?_
  refine lv_iconst (v := 3) hx hb dX8_lay_2 (by decide) ?_
  refine zcalli (va_runS (As := [.int x1, .int 0, .int 3]) (rest := []) ⟨hx, hb, hml, hown, hts⟩ (c_X8_isWithin l dC dI cB cI cS cII a N hok hn σ H.size (x1) (0) (3) ) (va_cwS 3 hts gX8_lay_X8_isWithin rfl rfl rfl (by decide +kernel) ⟨Nat.le_of_ble_eq_true rfl, Nat.le_of_ble_eq_true rfl⟩) (zpreS (wf := wX a cB cI cS cII) hok hN hS hA hK hP hD) rfl rfl hl.1 rfl (lv_room (Nat.le_of_ble_eq_true rfl)) dX8_lay_3 ⟨Nat.zero_le _, Nat.zero_le _⟩) hD hS hA (fun v3 σ1 H locs hv3 hP hD hS => ?_)
  obtain ⟨es9, hv3⟩ := hv3
  subst σ1
  try simp only [show (0 : Int32).toInt = 0 from by decide, show (3 : Int32).toInt = 3 from by decide] at hv3
  refine lv_if_ne (tgt := 11) hx hb dX8_lay_6 (by decide) (fun c6 => ?_) (fun c6 => ?_)
  · skip
    have ic6 := zneq (a := v3.toInt) (b := 0) rfl (by decide) c6
    replace hv3 := (hv3.resolve_right (fun q => by omega)).2
    refine lv_aload_n hx hb dX8_lay_11 rfl (lv_at hl 0 rfl) ?_
    refine va_get (D := (dC, dI)) (ci := 8) (v := .ref (a 37)) (C := RX8) (T := TX8) (N := 7) hx hb hts in8 hown hK hP 0 rfl rfl 6 (by decide) k63 (fun _ h9 => h9) rfl dX8_lay_12 ?_
    refine lv_iload_n hx hb dX8_lay_15 rfl (lv_at hl 1 rfl) ?_
    rcases (show x1.toInt = 0 ∨ x1.toInt = 1 ∨ x1.toInt = 2 ∨ x1.toInt = 3 from by omega) with q16 | q16 | q16 | q16
    · have hc16 : (x1).toNatClampNeg = 0 := by have h9 := zcl (x := x1) (by omega); omega
      refine zaldO hx hb hK hP 37 2 rfl rfl (i := x1) (n := 4) (zin (by omega) (by omega)) (b := a 8) (by rw [hc16]; rfl) dX8_lay_16 ?_
      refine lv_astore (lv' := [(4, .ref (a 8)), (0, .ref (a 0)), (1, .int x1), (2, .int x2), (3, .int x3)]) hx hb dX8_lay_17 hl (by decide) rfl (fun ls hl => ?_)
      refine lv_aload hx hb dX8_lay_19 (lv_at hl 0 rfl) ?_
      refine va_get (D := (dC, dI)) (ci := 4) (v := .int (σ 8 0)) (C := RX4) (T := TX4) (N := 3) hx hb hts in4 hown hK hP 8 rfl rfl 0 (by decide) k209 (fun _ h9 => h9) rfl dX8_lay_21 ?_
      refine lv_iconst (v := (-1)) hx hb dX8_lay_24 (by decide) ?_
      refine lv_icmp_ne (tgt := 31) hx hb dX8_lay_25 (by decide) (fun c25 => ?_) (fun c25 => ?_)
      · skip
        have ic25 := zneq (a := (σ 8 0).toInt) (b := (-1)) rfl (by decide) c25
        refine lv_aload hx hb dX8_lay_31 (lv_at hl 0 rfl) ?_
        refine lv_iload_n hx hb dX8_lay_33 rfl (lv_at hl 3 rfl) ?_
        refine zcalli (va_runV (As := [.int x2]) (rest := []) ⟨hx, hb, hml, hown, hts⟩ (c_X4_hasCell_8 l dC dI cB cI cS cII a N hok hn σ H.size (x2) ) (cwV 1 hts gX8_lay_X4_hasCell rfl rfl rfl (by decide +kernel) ⟨Nat.le_of_ble_eq_true rfl, Nat.le_of_ble_eq_true rfl⟩) (zpreV (wf := wX a cB cI cS cII) (q0 := 8) (ci := 4) hok hN hS hA hK hP hD rfl rfl) rfl rfl hl.1 rfl (lv_room (Nat.le_of_ble_eq_true rfl)) dX8_lay_34 ⟨Nat.zero_le _, Nat.zero_le _⟩) hD hS hA (fun v34 σ1 H locs hv34 hP hD hS => ?_)
        obtain ⟨es9, hv34⟩ := hv34
        subst σ1
        refine lv_if_ne (tgt := 43) hx hb dX8_lay_37 (by decide) (fun c37 => ?_) (fun c37 => ?_)
        · skip
          have ic37 := zneq (a := v34.toInt) (b := 0) rfl (by decide) c37
          replace hv34 := (hv34.resolve_right (fun q => by omega)).2
          refine lv_aload hx hb dX8_lay_43 (lv_at hl 0 rfl) ?_
          refine lv_iload_n hx hb dX8_lay_45 rfl (lv_at hl 3 rfl) ?_
          refine lv_iload_n hx hb dX8_lay_46 rfl (lv_at hl 4 rfl) ?_
          refine zcallv (va_runV (As := [.int x2, .int x3]) (rest := []) ⟨hx, hb, hml, hown, hts⟩ (c_X4_put_8 l dC dI cB cI cS cII a N hok hn σ H.size (x2) (x3) (by omega)) (cwV 2 hts gX8_lay_X4_put rfl rfl rfl (by decide +kernel) ⟨Nat.le_of_ble_eq_true rfl, Nat.le_of_ble_eq_true rfl⟩) (zpreV (wf := wX a cB cI cS cII) (q0 := 8) (ci := 4) hok hN hS hA hK hP hD rfl rfl) rfl rfl hl.1 rfl (lv_room (Nat.le_of_ble_eq_true rfl)) dX8_lay_47 ⟨Nat.zero_le _, Nat.zero_le _⟩) hD hS hA (fun σ1 H locs hv47 hP hD hS => ?_)
          obtain ⟨u38_47, es9, hv47⟩ := hv47
          subst σ1
          have hP : va_P (dC, dI) vwCl (wX a cB cI cS cII (upC σ 38 u38_47)) H := hP
          have hD : va_D A (wX a cB cI cS cII (upC σ 38 u38_47)) := hD
          refine lv_iconst (v := 1) hx hb dX8_lay_50 (by decide) ?_
          have hpost : ∃ u38 : Nat → Int32, ∃ u39 : Nat → Int32, ∃ u40 : Nat → Int32, ∃ u41 : Nat → Int32, (upC σ 38 u38_47) = (upC (upC (upC (upC σ 38 u38) 39 u39) 40 u40) 41 u41) ∧ True := by refine ⟨(u38_47), (σ 39), (σ 40), (σ 41), by first | rfl | (funext j; simp only [upC, upR]; (repeat' split) <;> first | rfl | (simp_all; done) | (congr 1; omega) | (exfalso; omega)), ?_⟩; trivial
          exact W.iret (v := 1) hx hb hr (fun t9 ht hW => ⟨⟨1, (upC σ 38 u38_47), rfl, hpost, by rw [ht]; exact hP, va_K.moved hW.alike hK, hD⟩, hS.F ht⟩) hS.2.2 dX8_lay_51
        · skip
          have ic37 := zeq (a := v34.toInt) (b := 0) rfl (by decide) c37
          replace hv34 := (hv34.resolve_left (fun q => by omega)).2
          refine lv_bipush (v := (-12)) hx hb dX8_lay_40 (by decide) ?_
          have hpost : ∃ u38 : Nat → Int32, ∃ u39 : Nat → Int32, ∃ u40 : Nat → Int32, ∃ u41 : Nat → Int32, σ = (upC (upC (upC (upC σ 38 u38) 39 u39) 40 u40) 41 u41) ∧ True := by refine ⟨(σ 38), (σ 39), (σ 40), (σ 41), by first | rfl | (funext j; simp only [upC, upR]; (repeat' split) <;> first | rfl | (simp_all; done) | (congr 1; omega) | (exfalso; omega)), ?_⟩; trivial
          exact W.iret (v := (-12)) hx hb hr (fun t9 ht hW => ⟨⟨(-12), σ, rfl, hpost, by rw [ht]; exact hP, va_K.moved hW.alike hK, hD⟩, hS.F ht⟩) hS.2.2 dX8_lay_42
      · skip
        have ic25 := zeq (a := (σ 8 0).toInt) (b := (-1)) rfl (by decide) c25
        refine lv_bipush (v := (-11)) hx hb dX8_lay_28 (by decide) ?_
        have hpost : ∃ u38 : Nat → Int32, ∃ u39 : Nat → Int32, ∃ u40 : Nat → Int32, ∃ u41 : Nat → Int32, σ = (upC (upC (upC (upC σ 38 u38) 39 u39) 40 u40) 41 u41) ∧ True := by refine ⟨(σ 38), (σ 39), (σ 40), (σ 41), by first | rfl | (funext j; simp only [upC, upR]; (repeat' split) <;> first | rfl | (simp_all; done) | (congr 1; omega) | (exfalso; omega)), ?_⟩; trivial
        exact W.iret (v := (-11)) hx hb hr (fun t9 ht hW => ⟨⟨(-11), σ, rfl, hpost, by rw [ht]; exact hP, va_K.moved hW.alike hK, hD⟩, hS.F ht⟩) hS.2.2 dX8_lay_30
    · have hc16 : (x1).toNatClampNeg = 1 := by have h9 := zcl (x := x1) (by omega); omega
      refine zaldO hx hb hK hP 37 2 rfl rfl (i := x1) (n := 4) (zin (by omega) (by omega)) (b := a 9) (by rw [hc16]; rfl) dX8_lay_16 ?_
      refine lv_astore (lv' := [(4, .ref (a 9)), (0, .ref (a 0)), (1, .int x1), (2, .int x2), (3, .int x3)]) hx hb dX8_lay_17 hl (by decide) rfl (fun ls hl => ?_)
      refine lv_aload hx hb dX8_lay_19 (lv_at hl 0 rfl) ?_
      refine va_get (D := (dC, dI)) (ci := 4) (v := .int (σ 9 0)) (C := RX4) (T := TX4) (N := 3) hx hb hts in4 hown hK hP 9 rfl rfl 0 (by decide) k209 (fun _ h9 => h9) rfl dX8_lay_21 ?_
      refine lv_iconst (v := (-1)) hx hb dX8_lay_24 (by decide) ?_
      refine lv_icmp_ne (tgt := 31) hx hb dX8_lay_25 (by decide) (fun c25 => ?_) (fun c25 => ?_)
      · skip
        have ic25 := zneq (a := (σ 9 0).toInt) (b := (-1)) rfl (by decide) c25
        refine lv_aload hx hb dX8_lay_31 (lv_at hl 0 rfl) ?_
        refine lv_iload_n hx hb dX8_lay_33 rfl (lv_at hl 3 rfl) ?_
        refine zcalli (va_runV (As := [.int x2]) (rest := []) ⟨hx, hb, hml, hown, hts⟩ (c_X4_hasCell_9 l dC dI cB cI cS cII a N hok hn σ H.size (x2) ) (cwV 1 hts gX8_lay_X4_hasCell rfl rfl rfl (by decide +kernel) ⟨Nat.le_of_ble_eq_true rfl, Nat.le_of_ble_eq_true rfl⟩) (zpreV (wf := wX a cB cI cS cII) (q0 := 9) (ci := 4) hok hN hS hA hK hP hD rfl rfl) rfl rfl hl.1 rfl (lv_room (Nat.le_of_ble_eq_true rfl)) dX8_lay_34 ⟨Nat.zero_le _, Nat.zero_le _⟩) hD hS hA (fun v34 σ1 H locs hv34 hP hD hS => ?_)
        obtain ⟨es9, hv34⟩ := hv34
        subst σ1
        refine lv_if_ne (tgt := 43) hx hb dX8_lay_37 (by decide) (fun c37 => ?_) (fun c37 => ?_)
        · skip
          have ic37 := zneq (a := v34.toInt) (b := 0) rfl (by decide) c37
          replace hv34 := (hv34.resolve_right (fun q => by omega)).2
          refine lv_aload hx hb dX8_lay_43 (lv_at hl 0 rfl) ?_
          refine lv_iload_n hx hb dX8_lay_45 rfl (lv_at hl 3 rfl) ?_
          refine lv_iload_n hx hb dX8_lay_46 rfl (lv_at hl 4 rfl) ?_
          refine zcallv (va_runV (As := [.int x2, .int x3]) (rest := []) ⟨hx, hb, hml, hown, hts⟩ (c_X4_put_9 l dC dI cB cI cS cII a N hok hn σ H.size (x2) (x3) (by omega)) (cwV 2 hts gX8_lay_X4_put rfl rfl rfl (by decide +kernel) ⟨Nat.le_of_ble_eq_true rfl, Nat.le_of_ble_eq_true rfl⟩) (zpreV (wf := wX a cB cI cS cII) (q0 := 9) (ci := 4) hok hN hS hA hK hP hD rfl rfl) rfl rfl hl.1 rfl (lv_room (Nat.le_of_ble_eq_true rfl)) dX8_lay_47 ⟨Nat.zero_le _, Nat.zero_le _⟩) hD hS hA (fun σ1 H locs hv47 hP hD hS => ?_)
          obtain ⟨u39_47, es9, hv47⟩ := hv47
          subst σ1
          have hP : va_P (dC, dI) vwCl (wX a cB cI cS cII (upC σ 39 u39_47)) H := hP
          have hD : va_D A (wX a cB cI cS cII (upC σ 39 u39_47)) := hD
          refine lv_iconst (v := 1) hx hb dX8_lay_50 (by decide) ?_
          have hpost : ∃ u38 : Nat → Int32, ∃ u39 : Nat → Int32, ∃ u40 : Nat → Int32, ∃ u41 : Nat → Int32, (upC σ 39 u39_47) = (upC (upC (upC (upC σ 38 u38) 39 u39) 40 u40) 41 u41) ∧ True := by refine ⟨(σ 38), (u39_47), (σ 40), (σ 41), by first | rfl | (funext j; simp only [upC, upR]; (repeat' split) <;> first | rfl | (simp_all; done) | (congr 1; omega) | (exfalso; omega)), ?_⟩; trivial
          exact W.iret (v := 1) hx hb hr (fun t9 ht hW => ⟨⟨1, (upC σ 39 u39_47), rfl, hpost, by rw [ht]; exact hP, va_K.moved hW.alike hK, hD⟩, hS.F ht⟩) hS.2.2 dX8_lay_51
        · skip
          have ic37 := zeq (a := v34.toInt) (b := 0) rfl (by decide) c37
          replace hv34 := (hv34.resolve_left (fun q => by omega)).2
          refine lv_bipush (v := (-12)) hx hb dX8_lay_40 (by decide) ?_
          have hpost : ∃ u38 : Nat → Int32, ∃ u39 : Nat → Int32, ∃ u40 : Nat → Int32, ∃ u41 : Nat → Int32, σ = (upC (upC (upC (upC σ 38 u38) 39 u39) 40 u40) 41 u41) ∧ True := by refine ⟨(σ 38), (σ 39), (σ 40), (σ 41), by first | rfl | (funext j; simp only [upC, upR]; (repeat' split) <;> first | rfl | (simp_all; done) | (congr 1; omega) | (exfalso; omega)), ?_⟩; trivial
          exact W.iret (v := (-12)) hx hb hr (fun t9 ht hW => ⟨⟨(-12), σ, rfl, hpost, by rw [ht]; exact hP, va_K.moved hW.alike hK, hD⟩, hS.F ht⟩) hS.2.2 dX8_lay_42
      · skip
        have ic25 := zeq (a := (σ 9 0).toInt) (b := (-1)) rfl (by decide) c25
        refine lv_bipush (v := (-11)) hx hb dX8_lay_28 (by decide) ?_
        have hpost : ∃ u38 : Nat → Int32, ∃ u39 : Nat → Int32, ∃ u40 : Nat → Int32, ∃ u41 : Nat → Int32, σ = (upC (upC (upC (upC σ 38 u38) 39 u39) 40 u40) 41 u41) ∧ True := by refine ⟨(σ 38), (σ 39), (σ 40), (σ 41), by first | rfl | (funext j; simp only [upC, upR]; (repeat' split) <;> first | rfl | (simp_all; done) | (congr 1; omega) | (exfalso; omega)), ?_⟩; trivial
        exact W.iret (v := (-11)) hx hb hr (fun t9 ht hW => ⟨⟨(-11), σ, rfl, hpost, by rw [ht]; exact hP, va_K.moved hW.alike hK, hD⟩, hS.F ht⟩) hS.2.2 dX8_lay_30
    · have hc16 : (x1).toNatClampNeg = 2 := by have h9 := zcl (x := x1) (by omega); omega
      refine zaldO hx hb hK hP 37 2 rfl rfl (i := x1) (n := 4) (zin (by omega) (by omega)) (b := a 10) (by rw [hc16]; rfl) dX8_lay_16 ?_
      refine lv_astore (lv' := [(4, .ref (a 10)), (0, .ref (a 0)), (1, .int x1), (2, .int x2), (3, .int x3)]) hx hb dX8_lay_17 hl (by decide) rfl (fun ls hl => ?_)
      refine lv_aload hx hb dX8_lay_19 (lv_at hl 0 rfl) ?_
      refine va_get (D := (dC, dI)) (ci := 4) (v := .int (σ 10 0)) (C := RX4) (T := TX4) (N := 3) hx hb hts in4 hown hK hP 10 rfl rfl 0 (by decide) k209 (fun _ h9 => h9) rfl dX8_lay_21 ?_
      refine lv_iconst (v := (-1)) hx hb dX8_lay_24 (by decide) ?_
      refine lv_icmp_ne (tgt := 31) hx hb dX8_lay_25 (by decide) (fun c25 => ?_) (fun c25 => ?_)
      · skip
        have ic25 := zneq (a := (σ 10 0).toInt) (b := (-1)) rfl (by decide) c25
        refine lv_aload hx hb dX8_lay_31 (lv_at hl 0 rfl) ?_
        refine lv_iload_n hx hb dX8_lay_33 rfl (lv_at hl 3 rfl) ?_
        refine zcalli (va_runV (As := [.int x2]) (rest := []) ⟨hx, hb, hml, hown, hts⟩ (c_X4_hasCell_10 l dC dI cB cI cS cII a N hok hn σ H.size (x2) ) (cwV 1 hts gX8_lay_X4_hasCell rfl rfl rfl (by decide +kernel) ⟨Nat.le_of_ble_eq_true rfl, Nat.le_of_ble_eq_true rfl⟩) (zpreV (wf := wX a cB cI cS cII) (q0 := 10) (ci := 4) hok hN hS hA hK hP hD rfl rfl) rfl rfl hl.1 rfl (lv_room (Nat.le_of_ble_eq_true rfl)) dX8_lay_34 ⟨Nat.zero_le _, Nat.zero_le _⟩) hD hS hA (fun v34 σ1 H locs hv34 hP hD hS => ?_)
        obtain ⟨es9, hv34⟩ := hv34
        subst σ1
        refine lv_if_ne (tgt := 43) hx hb dX8_lay_37 (by decide) (fun c37 => ?_) (fun c37 => ?_)
        · skip
          have ic37 := zneq (a := v34.toInt) (b := 0) rfl (by decide) c37
          replace hv34 := (hv34.resolve_right (fun q => by omega)).2
          refine lv_aload hx hb dX8_lay_43 (lv_at hl 0 rfl) ?_
          refine lv_iload_n hx hb dX8_lay_45 rfl (lv_at hl 3 rfl) ?_
          refine lv_iload_n hx hb dX8_lay_46 rfl (lv_at hl 4 rfl) ?_
          refine zcallv (va_runV (As := [.int x2, .int x3]) (rest := []) ⟨hx, hb, hml, hown, hts⟩ (c_X4_put_10 l dC dI cB cI cS cII a N hok hn σ H.size (x2) (x3) (by omega)) (cwV 2 hts gX8_lay_X4_put rfl rfl rfl (by decide +kernel) ⟨Nat.le_of_ble_eq_true rfl, Nat.le_of_ble_eq_true rfl⟩) (zpreV (wf := wX a cB cI cS cII) (q0 := 10) (ci := 4) hok hN hS hA hK hP hD rfl rfl) rfl rfl hl.1 rfl (lv_room (Nat.le_of_ble_eq_true rfl)) dX8_lay_47 ⟨Nat.zero_le _, Nat.zero_le _⟩) hD hS hA (fun σ1 H locs hv47 hP hD hS => ?_)
          obtain ⟨u40_47, es9, hv47⟩ := hv47
          subst σ1
          have hP : va_P (dC, dI) vwCl (wX a cB cI cS cII (upC σ 40 u40_47)) H := hP
          have hD : va_D A (wX a cB cI cS cII (upC σ 40 u40_47)) := hD
          refine lv_iconst (v := 1) hx hb dX8_lay_50 (by decide) ?_
          have hpost : ∃ u38 : Nat → Int32, ∃ u39 : Nat → Int32, ∃ u40 : Nat → Int32, ∃ u41 : Nat → Int32, (upC σ 40 u40_47) = (upC (upC (upC (upC σ 38 u38) 39 u39) 40 u40) 41 u41) ∧ True := by refine ⟨(σ 38), (σ 39), (u40_47), (σ 41), by first | rfl | (funext j; simp only [upC, upR]; (repeat' split) <;> first | rfl | (simp_all; done) | (congr 1; omega) | (exfalso; omega)), ?_⟩; trivial
          exact W.iret (v := 1) hx hb hr (fun t9 ht hW => ⟨⟨1, (upC σ 40 u40_47), rfl, hpost, by rw [ht]; exact hP, va_K.moved hW.alike hK, hD⟩, hS.F ht⟩) hS.2.2 dX8_lay_51
        · skip
          have ic37 := zeq (a := v34.toInt) (b := 0) rfl (by decide) c37
          replace hv34 := (hv34.resolve_left (fun q => by omega)).2
          refine lv_bipush (v := (-12)) hx hb dX8_lay_40 (by decide) ?_
          have hpost : ∃ u38 : Nat → Int32, ∃ u39 : Nat → Int32, ∃ u40 : Nat → Int32, ∃ u41 : Nat → Int32, σ = (upC (upC (upC (upC σ 38 u38) 39 u39) 40 u40) 41 u41) ∧ True := by refine ⟨(σ 38), (σ 39), (σ 40), (σ 41), by first | rfl | (funext j; simp only [upC, upR]; (repeat' split) <;> first | rfl | (simp_all; done) | (congr 1; omega) | (exfalso; omega)), ?_⟩; trivial
          exact W.iret (v := (-12)) hx hb hr (fun t9 ht hW => ⟨⟨(-12), σ, rfl, hpost, by rw [ht]; exact hP, va_K.moved hW.alike hK, hD⟩, hS.F ht⟩) hS.2.2 dX8_lay_42
      · skip
        have ic25 := zeq (a := (σ 10 0).toInt) (b := (-1)) rfl (by decide) c25
        refine lv_bipush (v := (-11)) hx hb dX8_lay_28 (by decide) ?_
        have hpost : ∃ u38 : Nat → Int32, ∃ u39 : Nat → Int32, ∃ u40 : Nat → Int32, ∃ u41 : Nat → Int32, σ = (upC (upC (upC (upC σ 38 u38) 39 u39) 40 u40) 41 u41) ∧ True := by refine ⟨(σ 38), (σ 39), (σ 40), (σ 41), by first | rfl | (funext j; simp only [upC, upR]; (repeat' split) <;> first | rfl | (simp_all; done) | (congr 1; omega) | (exfalso; omega)), ?_⟩; trivial
        exact W.iret (v := (-11)) hx hb hr (fun t9 ht hW => ⟨⟨(-11), σ, rfl, hpost, by rw [ht]; exact hP, va_K.moved hW.alike hK, hD⟩, hS.F ht⟩) hS.2.2 dX8_lay_30
    · have hc16 : (x1).toNatClampNeg = 3 := by have h9 := zcl (x := x1) (by omega); omega
      refine zaldO hx hb hK hP 37 2 rfl rfl (i := x1) (n := 4) (zin (by omega) (by omega)) (b := a 11) (by rw [hc16]; rfl) dX8_lay_16 ?_
      refine lv_astore (lv' := [(4, .ref (a 11)), (0, .ref (a 0)), (1, .int x1), (2, .int x2), (3, .int x3)]) hx hb dX8_lay_17 hl (by decide) rfl (fun ls hl => ?_)
      refine lv_aload hx hb dX8_lay_19 (lv_at hl 0 rfl) ?_
      refine va_get (D := (dC, dI)) (ci := 4) (v := .int (σ 11 0)) (C := RX4) (T := TX4) (N := 3) hx hb hts in4 hown hK hP 11 rfl rfl 0 (by decide) k209 (fun _ h9 => h9) rfl dX8_lay_21 ?_
      refine lv_iconst (v := (-1)) hx hb dX8_lay_24 (by decide) ?_
      refine lv_icmp_ne (tgt := 31) hx hb dX8_lay_25 (by decide) (fun c25 => ?_) (fun c25 => ?_)
      · skip
        have ic25 := zneq (a := (σ 11 0).toInt) (b := (-1)) rfl (by decide) c25
        refine lv_aload hx hb dX8_lay_31 (lv_at hl 0 rfl) ?_
        refine lv_iload_n hx hb dX8_lay_33 rfl (lv_at hl 3 rfl) ?_
        refine zcalli (va_runV (As := [.int x2]) (rest := []) ⟨hx, hb, hml, hown, hts⟩ (c_X4_hasCell_11 l dC dI cB cI cS cII a N hok hn σ H.size (x2) ) (cwV 1 hts gX8_lay_X4_hasCell rfl rfl rfl (by decide +kernel) ⟨Nat.le_of_ble_eq_true rfl, Nat.le_of_ble_eq_true rfl⟩) (zpreV (wf := wX a cB cI cS cII) (q0 := 11) (ci := 4) hok hN hS hA hK hP hD rfl rfl) rfl rfl hl.1 rfl (lv_room (Nat.le_of_ble_eq_true rfl)) dX8_lay_34 ⟨Nat.zero_le _, Nat.zero_le _⟩) hD hS hA (fun v34 σ1 H locs hv34 hP hD hS => ?_)
        obtain ⟨es9, hv34⟩ := hv34
        subst σ1
        refine lv_if_ne (tgt := 43) hx hb dX8_lay_37 (by decide) (fun c37 => ?_) (fun c37 => ?_)
        · skip
          have ic37 := zneq (a := v34.toInt) (b := 0) rfl (by decide) c37
          replace hv34 := (hv34.resolve_right (fun q => by omega)).2
          refine lv_aload hx hb dX8_lay_43 (lv_at hl 0 rfl) ?_
          refine lv_iload_n hx hb dX8_lay_45 rfl (lv_at hl 3 rfl) ?_
          refine lv_iload_n hx hb dX8_lay_46 rfl (lv_at hl 4 rfl) ?_
          refine zcallv (va_runV (As := [.int x2, .int x3]) (rest := []) ⟨hx, hb, hml, hown, hts⟩ (c_X4_put_11 l dC dI cB cI cS cII a N hok hn σ H.size (x2) (x3) (by omega)) (cwV 2 hts gX8_lay_X4_put rfl rfl rfl (by decide +kernel) ⟨Nat.le_of_ble_eq_true rfl, Nat.le_of_ble_eq_true rfl⟩) (zpreV (wf := wX a cB cI cS cII) (q0 := 11) (ci := 4) hok hN hS hA hK hP hD rfl rfl) rfl rfl hl.1 rfl (lv_room (Nat.le_of_ble_eq_true rfl)) dX8_lay_47 ⟨Nat.zero_le _, Nat.zero_le _⟩) hD hS hA (fun σ1 H locs hv47 hP hD hS => ?_)
          obtain ⟨u41_47, es9, hv47⟩ := hv47
          subst σ1
          have hP : va_P (dC, dI) vwCl (wX a cB cI cS cII (upC σ 41 u41_47)) H := hP
          have hD : va_D A (wX a cB cI cS cII (upC σ 41 u41_47)) := hD
          refine lv_iconst (v := 1) hx hb dX8_lay_50 (by decide) ?_
          have hpost : ∃ u38 : Nat → Int32, ∃ u39 : Nat → Int32, ∃ u40 : Nat → Int32, ∃ u41 : Nat → Int32, (upC σ 41 u41_47) = (upC (upC (upC (upC σ 38 u38) 39 u39) 40 u40) 41 u41) ∧ True := by refine ⟨(σ 38), (σ 39), (σ 40), (u41_47), by first | rfl | (funext j; simp only [upC, upR]; (repeat' split) <;> first | rfl | (simp_all; done) | (congr 1; omega) | (exfalso; omega)), ?_⟩; trivial
          exact W.iret (v := 1) hx hb hr (fun t9 ht hW => ⟨⟨1, (upC σ 41 u41_47), rfl, hpost, by rw [ht]; exact hP, va_K.moved hW.alike hK, hD⟩, hS.F ht⟩) hS.2.2 dX8_lay_51
        · skip
          have ic37 := zeq (a := v34.toInt) (b := 0) rfl (by decide) c37
          replace hv34 := (hv34.resolve_left (fun q => by omega)).2
          refine lv_bipush (v := (-12)) hx hb dX8_lay_40 (by decide) ?_
          have hpost : ∃ u38 : Nat → Int32, ∃ u39 : Nat → Int32, ∃ u40 : Nat → Int32, ∃ u41 : Nat → Int32, σ = (upC (upC (upC (upC σ 38 u38) 39 u39) 40 u40) 41 u41) ∧ True := by refine ⟨(σ 38), (σ 39), (σ 40), (σ 41), by first | rfl | (funext j; simp only [upC, upR]; (repeat' split) <;> first | rfl | (simp_all; done) | (congr 1; omega) | (exfalso; omega)), ?_⟩; trivial
          exact W.iret (v := (-12)) hx hb hr (fun t9 ht hW => ⟨⟨(-12), σ, rfl, hpost, by rw [ht]; exact hP, va_K.moved hW.alike hK, hD⟩, hS.F ht⟩) hS.2.2 dX8_lay_42
      · skip
        have ic25 := zeq (a := (σ 11 0).toInt) (b := (-1)) rfl (by decide) c25
        refine lv_bipush (v := (-11)) hx hb dX8_lay_28 (by decide) ?_
        have hpost : ∃ u38 : Nat → Int32, ∃ u39 : Nat → Int32, ∃ u40 : Nat → Int32, ∃ u41 : Nat → Int32, σ = (upC (upC (upC (upC σ 38 u38) 39 u39) 40 u40) 41 u41) ∧ True := by refine ⟨(σ 38), (σ 39), (σ 40), (σ 41), by first | rfl | (funext j; simp only [upC, upR]; (repeat' split) <;> first | rfl | (simp_all; done) | (congr 1; omega) | (exfalso; omega)), ?_⟩; trivial
        exact W.iret (v := (-11)) hx hb hr (fun t9 ht hW => ⟨⟨(-11), σ, rfl, hpost, by rw [ht]; exact hP, va_K.moved hW.alike hK, hD⟩, hS.F ht⟩) hS.2.2 dX8_lay_30
  · skip
    have ic6 := zeq (a := v3.toInt) (b := 0) rfl (by decide) c6
    replace hv3 := (hv3.resolve_left (fun q => by omega)).2
    refine lv_iconst (v := (-1)) hx hb dX8_lay_9 (by decide) ?_
    have hpost : ∃ u38 : Nat → Int32, ∃ u39 : Nat → Int32, ∃ u40 : Nat → Int32, ∃ u41 : Nat → Int32, σ = (upC (upC (upC (upC σ 38 u38) 39 u39) 40 u40) 41 u41) ∧ True := by refine ⟨(σ 38), (σ 39), (σ 40), (σ 41), by first | rfl | (funext j; simp only [upC, upR]; (repeat' split) <;> first | rfl | (simp_all; done) | (congr 1; omega) | (exfalso; omega)), ?_⟩; trivial
    exact W.iret (v := (-1)) hx hb hr (fun t9 ht hW => ⟨⟨(-1), σ, rfl, hpost, by rw [ht]; exact hP, va_K.moved hW.alike hK, hD⟩, hS.F ht⟩) hS.2.2 dX8_lay_10

