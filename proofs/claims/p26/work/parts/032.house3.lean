abbrev RM_X1_wayOf : Room := { frames := 2, cells := 0, slots := 0, locals := 43 }
set_option maxHeartbeats 4000000 in
set_option maxRecDepth 100000 in
theorem c_X1_wayOf (l : Launch) (dC : Nat → ClassId) (dI : Nat → Nat → Nat) (cB cI cS cII : ClassId) (a : Nat → Nat) (N : (Nat → Prop) → State → Prop) (hok : zNok N) (hn : ∀ A U, N A U → zN U) (σ : Cn) (sz : Nat) (x1 : Int32) (h0 : 0 ≤ (σ 4 1).toInt ∧ (σ 4 1).toInt ≤ 4) (h1 : 0 ≤ x1.toInt ∧ x1.toInt < 10) : Met l yX1_wayOf wsX1_wayOf RM_X1_wayOf (zPc (dC, dI) (zT cB cI cS cII) N (wX a cB cI cS cII) σ sz [.ref (a 4), .int x1]) (zQi (dC, dI) (zT cB cI cS cII) (wX a cB cI cS cII) (va_A (wX a cB cI cS cII σ) sz) (fun (r : Int32) (σ1 : Cn) => σ1 = σ ∧ xWay σ x1.toNatClampNeg r)) 0 0 (va_A (wX a cB cI cS cII σ) sz) := by
  refine Met.ofW (cc := cX1_wayOf) (maxL := 2) (ret := (some .int)) (by decide) rfl ?_
  intro p e s m args below meth c s₁ B hml hv
  obtain ⟨rfl, hsz, hP, hK, hD0, hN⟩ := hv
  have hx := B.exec
  have hb := B.bytes
  have hr := B.returns
  have hts := atoms_spec (ws := wsX1_wayOf) B.pre
  have hown : s.vm.findClass RX1 = some m.cls := findClass_of_methodNamed B.named
  have hlocks := B.notSynchronized
  subst hsz
  have hD := hD0.self (sz := s.heap.size)
  generalize hAe : va_A (wX a cB cI cS cII σ) s.heap.size = A at hD hN ⊢
  have hA : ∀ q : Nat, s.heap.size ≤ q → A q := fun q h => by rw [← hAe]; exact Or.inr h
  clear hAe hD0
  have hS : va_S A s.heap s.heap [] := va_S.rf
  have in1 : ∀ w ∈ u_ws RX1 TX1 9, w ∈ wsX1_wayOf := by decide +kernel
  have in2 : ∀ w ∈ u_ws RX2 TX2 6, w ∈ wsX1_wayOf := by decide +kernel
  have k15 := hts (.fieldLink RX1 15 "HouseSorted$House" "low" "[I") (by decide +kernel)
  have k32 := hts (.fieldLink RX1 32 "HouseSorted$House" "book" "LHouseSorted$LawBook;") (by decide +kernel)
  have k47 := hts (.fieldLink RX1 47 "HouseSorted$LawBook" "value" "[I") (by decide +kernel)
  have hl := lv_entry ([.ref (a 4), .int x1]) (n := 2) (Nat.le_of_ble_eq_true rfl)
  rw [lg_entry_eq]
  generalize (lg_sl ([.ref (a 4), .int x1]) ++ List.replicate (2 - (lg_sl ([.ref (a 4), .int x1])).length) Slot.unset).toArray = ls at hl ⊢
  have hl : lv_has ls 2 [(0, .ref (a 4)), (1, .int x1)] := hl
  suffices main : ∀ (H : Heap) (locs : List Loc), va_P (dC, dI) vwCl (wX a cB cI cS cII σ) H → va_D A (wX a cB cI cS cII σ) → va_S A s.heap H locs → W p l e (headSpec wsX1_wayOf RM_X1_wayOf).room s m ([.ref (a 4), .int x1] : List Value).toArray below meth c H locs 0 0 (MQ below (zQi (dC, dI) (zT cB cI cS cII) (wX a cB cI cS cII) A (fun (r : Int32) (σ1 : Cn) => σ1 = σ ∧ xWay σ x1.toNatClampNeg r)) ([.ref (a 4), .int x1] : List Value).toArray s 0 0 A) (F0 m 0 ls []) from main s.heap [] hP hD hS
  intro H locs hP hD hS
  refine lv_aload_n hx hb dX1_wayOf_0 rfl (lv_at hl 0 rfl) ?_
  refine lv_iload_n hx hb dX1_wayOf_1 rfl (lv_at hl 1 rfl) ?_
  refine lv_iconst (v := 4) hx hb dX1_wayOf_2 (by decide) ?_
  refine zcalli (va_runV (As := [.int x1, .int 4]) (rest := []) ⟨hx, hb, hml, hown, hts⟩ (c_X1_hasMark l dC dI cB cI cS cII a N hok hn σ H.size (x1) (4) (by omega)) (cwV 2 hts gX1_wayOf_X1_hasMark rfl rfl rfl (by decide +kernel) ⟨Nat.le_of_ble_eq_true rfl, Nat.le_of_ble_eq_true rfl⟩) (zpreV (wf := wX a cB cI cS cII) (q0 := 4) (ci := 1) hok hN hS hA hK hP hD rfl rfl) rfl rfl hl.1 rfl (lv_room (Nat.le_of_ble_eq_true rfl)) dX1_wayOf_3 ⟨Nat.zero_le _, Nat.zero_le _⟩) hD hS hA (fun v3 σ1 H locs hv3 hP hD hS => ?_)
  obtain ⟨es9, hv3⟩ := hv3
  subst σ1
  try simp only [show (4 : Int32).toInt = 4 from by decide] at hv3
  refine lv_if_eq (tgt := 20) hx hb dX1_wayOf_6 (by decide) (fun c6 => ?_) (fun c6 => ?_)
  · skip
    have ic6 := zeq (a := v3.toInt) (b := 0) rfl (by decide) c6
    replace hv3 := (hv3.resolve_left (fun q => by omega)).2
    refine lv_aload_n hx hb dX1_wayOf_20 rfl (lv_at hl 0 rfl) ?_
    refine lv_iload_n hx hb dX1_wayOf_21 rfl (lv_at hl 1 rfl) ?_
    refine lv_iconst (v := 2) hx hb dX1_wayOf_22 (by decide) ?_
    refine zcalli (va_runV (As := [.int x1, .int 2]) (rest := []) ⟨hx, hb, hml, hown, hts⟩ (c_X1_hasMark l dC dI cB cI cS cII a N hok hn σ H.size (x1) (2) (by omega)) (cwV 2 hts gX1_wayOf_X1_hasMark rfl rfl rfl (by decide +kernel) ⟨Nat.le_of_ble_eq_true rfl, Nat.le_of_ble_eq_true rfl⟩) (zpreV (wf := wX a cB cI cS cII) (q0 := 4) (ci := 1) hok hN hS hA hK hP hD rfl rfl) rfl rfl hl.1 rfl (lv_room (Nat.le_of_ble_eq_true rfl)) dX1_wayOf_23 ⟨Nat.zero_le _, Nat.zero_le _⟩) hD hS hA (fun v23 σ1 H locs hv23 hP hD hS => ?_)
    obtain ⟨es9, hv23⟩ := hv23
    subst σ1
    try simp only [show (2 : Int32).toInt = 2 from by decide] at hv23
    refine lv_if_eq (tgt := 39) hx hb dX1_wayOf_26 (by decide) (fun c26 => ?_) (fun c26 => ?_)
    · skip
      have ic26 := zeq (a := v23.toInt) (b := 0) rfl (by decide) c26
      replace hv23 := (hv23.resolve_left (fun q => by omega)).2
      refine lv_aload_n hx hb dX1_wayOf_39 rfl (lv_at hl 0 rfl) ?_
      refine lv_iload_n hx hb dX1_wayOf_40 rfl (lv_at hl 1 rfl) ?_
      refine zcalli (va_runV (As := [.int x1]) (rest := []) ⟨hx, hb, hml, hown, hts⟩ (c_X1_isKeptPaper l dC dI cB cI cS cII a N hok hn σ H.size (x1) (by omega)) (cwV 1 hts gX1_wayOf_X1_isKeptPaper rfl rfl rfl (by decide +kernel) ⟨Nat.le_of_ble_eq_true rfl, Nat.le_of_ble_eq_true rfl⟩) (zpreV (wf := wX a cB cI cS cII) (q0 := 4) (ci := 1) hok hN hS hA hK hP hD rfl rfl) rfl rfl hl.1 rfl (lv_room (Nat.le_of_ble_eq_true rfl)) dX1_wayOf_41 ⟨Nat.zero_le _, Nat.zero_le _⟩) hD hS hA (fun v41 σ1 H locs hv41 hP hD hS => ?_)
      obtain ⟨es9, hv41⟩ := hv41
      subst σ1
      refine lv_if_eq (tgt := 49) hx hb dX1_wayOf_44 (by decide) (fun c44 => ?_) (fun c44 => ?_)
      · skip
        have ic44 := zeq (a := v41.toInt) (b := 0) rfl (by decide) c44
        replace hv41 := (hv41.resolve_left (fun q => by omega)).2
        refine lv_aload_n hx hb dX1_wayOf_49 rfl (lv_at hl 0 rfl) ?_
        refine lv_iload_n hx hb dX1_wayOf_50 rfl (lv_at hl 1 rfl) ?_
        refine lv_bipush (v := 8) hx hb dX1_wayOf_51 (by decide) ?_
        refine zcalli (va_runV (As := [.int x1, .int 8]) (rest := []) ⟨hx, hb, hml, hown, hts⟩ (c_X1_hasMark l dC dI cB cI cS cII a N hok hn σ H.size (x1) (8) (by omega)) (cwV 2 hts gX1_wayOf_X1_hasMark rfl rfl rfl (by decide +kernel) ⟨Nat.le_of_ble_eq_true rfl, Nat.le_of_ble_eq_true rfl⟩) (zpreV (wf := wX a cB cI cS cII) (q0 := 4) (ci := 1) hok hN hS hA hK hP hD rfl rfl) rfl rfl hl.1 rfl (lv_room (Nat.le_of_ble_eq_true rfl)) dX1_wayOf_53 ⟨Nat.zero_le _, Nat.zero_le _⟩) hD hS hA (fun v53 σ1 H locs hv53 hP hD hS => ?_)
        obtain ⟨es9, hv53⟩ := hv53
        subst σ1
        try simp only [show (8 : Int32).toInt = 8 from by decide] at hv53
        refine lv_if_eq (tgt := 61) hx hb dX1_wayOf_56 (by decide) (fun c56 => ?_) (fun c56 => ?_)
        · skip
          have ic56 := zeq (a := v53.toInt) (b := 0) rfl (by decide) c56
          replace hv53 := (hv53.resolve_left (fun q => by omega)).2
          refine lv_aload_n hx hb dX1_wayOf_61 rfl (lv_at hl 0 rfl) ?_
          refine va_get (D := (dC, dI)) (ci := 1) (v := .ref (a 16)) (C := RX1) (T := TX1) (N := 9) hx hb hts in1 hown hK hP 4 rfl rfl 4 (by decide) k15 (fun _ h9 => h9) rfl dX1_wayOf_62 ?_
          refine lv_iload_n hx hb dX1_wayOf_65 rfl (lv_at hl 1 rfl) ?_
          refine va_iald (D := (dC, dI)) (f := σ 16) hx hb hK hP 16 1 rfl rfl (i := x1) (n := 10) (zin (by omega) (by omega)) dX1_wayOf_66 ?_
          refine lv_topi (fun v66 ev66 => ?_)
          have tv66 := congrArg Int32.toInt ev66
          refine lv_aload_n hx hb dX1_wayOf_67 rfl (lv_at hl 0 rfl) ?_
          refine va_get (D := (dC, dI)) (ci := 1) (v := .ref (a 2)) (C := RX1) (T := TX1) (N := 9) hx hb hts in1 hown hK hP 4 rfl rfl 0 (by decide) k32 (fun _ h9 => h9) rfl dX1_wayOf_68 ?_
          refine va_get (D := (dC, dI)) (ci := 2) (v := .ref (a 13)) (C := RX2) (T := TX2) (N := 6) hx hb hts in2 hown hK hP 2 rfl rfl 0 (by decide) k47 (fun _ h9 => h9) rfl dX1_wayOf_71 ?_
          refine lv_iconst (v := 1) hx hb dX1_wayOf_74 (by decide) ?_
          refine va_iald (D := (dC, dI)) (f := σ 13) hx hb hK hP 13 1 rfl rfl (i := 1) (n := 7) (zin (by decide) (by decide)) dX1_wayOf_75 ?_
          refine lv_topi (fun v75 ev75 => ?_)
          have tv75 := congrArg Int32.toInt ev75
          refine lv_icmp_lt (tgt := 81) hx hb dX1_wayOf_76 (by decide) (fun c76 => ?_) (fun c76 => ?_)
          · skip
            have ic76 := zlt (a := v66.toInt) (b := v75.toInt) rfl rfl c76
            refine lv_aload_n hx hb dX1_wayOf_81 rfl (lv_at hl 0 rfl) ?_
            refine lv_iload_n hx hb dX1_wayOf_82 rfl (lv_at hl 1 rfl) ?_
            refine zcalli (va_runV (As := [.int x1]) (rest := []) ⟨hx, hb, hml, hown, hts⟩ (c_X1_isWanted l dC dI cB cI cS cII a N hok hn σ H.size (x1) h0 (by omega)) (cwV 1 hts gX1_wayOf_X1_isWanted rfl rfl rfl (by decide +kernel) ⟨Nat.le_of_ble_eq_true rfl, Nat.le_of_ble_eq_true rfl⟩) (zpreV (wf := wX a cB cI cS cII) (q0 := 4) (ci := 1) hok hN hS hA hK hP hD rfl rfl) rfl rfl hl.1 rfl (lv_room (Nat.le_of_ble_eq_true rfl)) dX1_wayOf_83 ⟨Nat.zero_le _, Nat.zero_le _⟩) hD hS hA (fun v83 σ1 H locs hv83 hP hD hS => ?_)
            obtain ⟨es9, hv83⟩ := hv83
            subst σ1
            refine lv_if_eq (tgt := 91) hx hb dX1_wayOf_86 (by decide) (fun c86 => ?_) (fun c86 => ?_)
            · skip
              have ic86 := zeq (a := v83.toInt) (b := 0) rfl (by decide) c86
              replace hv83 := (hv83.resolve_left (fun q => by omega)).2
              refine lv_aload_n hx hb dX1_wayOf_91 rfl (lv_at hl 0 rfl) ?_
              refine va_get (D := (dC, dI)) (ci := 1) (v := .ref (a 16)) (C := RX1) (T := TX1) (N := 9) hx hb hts in1 hown hK hP 4 rfl rfl 4 (by decide) k15 (fun _ h9 => h9) rfl dX1_wayOf_92 ?_
              refine lv_iload_n hx hb dX1_wayOf_95 rfl (lv_at hl 1 rfl) ?_
              refine va_iald (D := (dC, dI)) (f := σ 16) hx hb hK hP 16 1 rfl rfl (i := x1) (n := 10) (zin (by omega) (by omega)) dX1_wayOf_96 ?_
              refine lv_topi (fun v96 ev96 => ?_)
              have tv96 := congrArg Int32.toInt ev96
              refine lv_aload_n hx hb dX1_wayOf_97 rfl (lv_at hl 0 rfl) ?_
              refine va_get (D := (dC, dI)) (ci := 1) (v := .ref (a 2)) (C := RX1) (T := TX1) (N := 9) hx hb hts in1 hown hK hP 4 rfl rfl 0 (by decide) k32 (fun _ h9 => h9) rfl dX1_wayOf_98 ?_
              refine va_get (D := (dC, dI)) (ci := 2) (v := .ref (a 13)) (C := RX2) (T := TX2) (N := 6) hx hb hts in2 hown hK hP 2 rfl rfl 0 (by decide) k47 (fun _ h9 => h9) rfl dX1_wayOf_101 ?_
              refine lv_iconst (v := 2) hx hb dX1_wayOf_104 (by decide) ?_
              refine va_iald (D := (dC, dI)) (f := σ 13) hx hb hK hP 13 1 rfl rfl (i := 2) (n := 7) (zin (by decide) (by decide)) dX1_wayOf_105 ?_
              refine lv_topi (fun v105 ev105 => ?_)
              have tv105 := congrArg Int32.toInt ev105
              refine lv_icmp_lt (tgt := 113) hx hb dX1_wayOf_106 (by decide) (fun c106 => ?_) (fun c106 => ?_)
              · skip
                have ic106 := zlt (a := v96.toInt) (b := v105.toInt) rfl rfl c106
                refine lv_iconst (v := 3) hx hb dX1_wayOf_113 (by decide) ?_
                have hpost : σ = σ ∧ xWay σ x1.toNatClampNeg 3 := by refine ⟨rfl, Or.inr (Or.inr (Or.inr (Or.inr (Or.inr (Or.inr ?_)))))⟩; rw [ev66, show (v75 : Int32) = σ 13 1 from ev75] at c76; rw [ev96, show (v105 : Int32) = σ 13 2 from ev105] at c106; first | exact Or.inl ⟨hv3, hv23, hv41, hv53, c76, hv83, c106, rfl⟩ | exact Or.inr ⟨hv3, hv23, hv41, hv53, c76, hv83, c106, rfl⟩
                exact W.iret (v := 3) hx hb hr (fun t9 ht hW => ⟨⟨3, σ, rfl, hpost, by rw [ht]; exact hP, va_K.moved hW.alike hK, hD⟩, hS.F ht⟩) hS.2.2 dX1_wayOf_114
              · skip
                have ic106 := znlt (a := v96.toInt) (b := v105.toInt) rfl rfl c106
                refine lv_iconst (v := 2) hx hb dX1_wayOf_109 (by decide) ?_
                refine lv_goto (tgt := 114) hx hb dX1_wayOf_110 (by decide) ?_
                have hpost : σ = σ ∧ xWay σ x1.toNatClampNeg 2 := by refine ⟨rfl, Or.inr (Or.inr (Or.inr (Or.inr (Or.inr (Or.inr ?_)))))⟩; rw [ev66, show (v75 : Int32) = σ 13 1 from ev75] at c76; rw [ev96, show (v105 : Int32) = σ 13 2 from ev105] at c106; first | exact Or.inl ⟨hv3, hv23, hv41, hv53, c76, hv83, c106, rfl⟩ | exact Or.inr ⟨hv3, hv23, hv41, hv53, c76, hv83, c106, rfl⟩
                exact W.iret (v := 2) hx hb hr (fun t9 ht hW => ⟨⟨2, σ, rfl, hpost, by rw [ht]; exact hP, va_K.moved hW.alike hK, hD⟩, hS.F ht⟩) hS.2.2 dX1_wayOf_114
            · skip
              have ic86 := zneq (a := v83.toInt) (b := 0) rfl (by decide) c86
              replace hv83 := (hv83.resolve_right (fun q => by omega)).2
              refine lv_iconst (v := 0) hx hb dX1_wayOf_89 (by decide) ?_
              have hpost : σ = σ ∧ xWay σ x1.toNatClampNeg 0 := by exact ⟨rfl, Or.inr (Or.inr (Or.inr (Or.inr (Or.inr (Or.inl ⟨hv3, hv23, hv41, hv53, by rw [← ev66, ← show (v75 : Int32) = σ 13 1 from ev75]; exact c76, hv83, rfl⟩)))))⟩
              exact W.iret (v := 0) hx hb hr (fun t9 ht hW => ⟨⟨0, σ, rfl, hpost, by rw [ht]; exact hP, va_K.moved hW.alike hK, hD⟩, hS.F ht⟩) hS.2.2 dX1_wayOf_90
          · skip
            have ic76 := znlt (a := v66.toInt) (b := v75.toInt) rfl rfl c76
            refine lv_iconst (v := 1) hx hb dX1_wayOf_79 (by decide) ?_
            have hpost : σ = σ ∧ xWay σ x1.toNatClampNeg 1 := by exact ⟨rfl, Or.inr (Or.inr (Or.inr (Or.inr (Or.inl ⟨hv3, hv23, hv41, hv53, by rw [← ev66, ← show (v75 : Int32) = σ 13 1 from ev75]; exact c76, rfl⟩))))⟩
            exact W.iret (v := 1) hx hb hr (fun t9 ht hW => ⟨⟨1, σ, rfl, hpost, by rw [ht]; exact hP, va_K.moved hW.alike hK, hD⟩, hS.F ht⟩) hS.2.2 dX1_wayOf_80
        · skip
          have ic56 := zneq (a := v53.toInt) (b := 0) rfl (by decide) c56
          replace hv53 := (hv53.resolve_right (fun q => by omega)).2
          refine lv_iconst (v := 0) hx hb dX1_wayOf_59 (by decide) ?_
          have hpost : σ = σ ∧ xWay σ x1.toNatClampNeg 0 := by exact ⟨rfl, Or.inr (Or.inr (Or.inr (Or.inl ⟨hv3, hv23, hv41, hv53, rfl⟩)))⟩
          exact W.iret (v := 0) hx hb hr (fun t9 ht hW => ⟨⟨0, σ, rfl, hpost, by rw [ht]; exact hP, va_K.moved hW.alike hK, hD⟩, hS.F ht⟩) hS.2.2 dX1_wayOf_60
      · skip
        have ic44 := zneq (a := v41.toInt) (b := 0) rfl (by decide) c44
        replace hv41 := (hv41.resolve_right (fun q => by omega)).2
        refine lv_iconst (v := 4) hx hb dX1_wayOf_47 (by decide) ?_
        have hpost : σ = σ ∧ xWay σ x1.toNatClampNeg 4 := by exact ⟨rfl, Or.inr (Or.inr (Or.inl ⟨hv3, hv23, hv41, rfl⟩))⟩
        exact W.iret (v := 4) hx hb hr (fun t9 ht hW => ⟨⟨4, σ, rfl, hpost, by rw [ht]; exact hP, va_K.moved hW.alike hK, hD⟩, hS.F ht⟩) hS.2.2 dX1_wayOf_48
    · skip
      have ic26 := zneq (a := v23.toInt) (b := 0) rfl (by decide) c26
      replace hv23 := (hv23.resolve_right (fun q => by omega)).2
      refine lv_aload_n hx hb dX1_wayOf_29 rfl (lv_at hl 0 rfl) ?_
      refine va_get (D := (dC, dI)) (ci := 1) (v := .ref (a 2)) (C := RX1) (T := TX1) (N := 9) hx hb hts in1 hown hK hP 4 rfl rfl 0 (by decide) k32 (fun _ h9 => h9) rfl dX1_wayOf_30 ?_
      refine va_get (D := (dC, dI)) (ci := 2) (v := .ref (a 13)) (C := RX2) (T := TX2) (N := 6) hx hb hts in2 hown hK hP 2 rfl rfl 0 (by decide) k47 (fun _ h9 => h9) rfl dX1_wayOf_33 ?_
      refine lv_iconst (v := 5) hx hb dX1_wayOf_36 (by decide) ?_
      refine va_iald (D := (dC, dI)) (f := σ 13) hx hb hK hP 13 1 rfl rfl (i := 5) (n := 7) (zin (by decide) (by decide)) dX1_wayOf_37 ?_
      refine lv_topi (fun v37 ev37 => ?_)
      have tv37 := congrArg Int32.toInt ev37
      have hpost : σ = σ ∧ xWay σ x1.toNatClampNeg v37 := by exact ⟨rfl, Or.inr (Or.inl ⟨hv3, hv23, ev37⟩)⟩
      exact W.iret (v := v37) hx hb hr (fun t9 ht hW => ⟨⟨v37, σ, rfl, hpost, by rw [ht]; exact hP, va_K.moved hW.alike hK, hD⟩, hS.F ht⟩) hS.2.2 dX1_wayOf_38
  · skip
    have ic6 := zneq (a := v3.toInt) (b := 0) rfl (by decide) c6
    replace hv3 := (hv3.resolve_right (fun q => by omega)).2
    refine lv_aload_n hx hb dX1_wayOf_9 rfl (lv_at hl 0 rfl) ?_
    refine va_get (D := (dC, dI)) (ci := 1) (v := .ref (a 2)) (C := RX1) (T := TX1) (N := 9) hx hb hts in1 hown hK hP 4 rfl rfl 0 (by decide) k32 (fun _ h9 => h9) rfl dX1_wayOf_10 ?_
    refine va_get (D := (dC, dI)) (ci := 2) (v := .ref (a 13)) (C := RX2) (T := TX2) (N := 6) hx hb hts in2 hown hK hP 2 rfl rfl 0 (by decide) k47 (fun _ h9 => h9) rfl dX1_wayOf_13 ?_
    refine lv_bipush (v := 6) hx hb dX1_wayOf_16 (by decide) ?_
    refine va_iald (D := (dC, dI)) (f := σ 13) hx hb hK hP 13 1 rfl rfl (i := 6) (n := 7) (zin (by decide) (by decide)) dX1_wayOf_18 ?_
    refine lv_topi (fun v18 ev18 => ?_)
    have tv18 := congrArg Int32.toInt ev18
    have hpost : σ = σ ∧ xWay σ x1.toNatClampNeg v18 := by exact ⟨rfl, Or.inl ⟨hv3, ev18⟩⟩
    exact W.iret (v := v18) hx hb hr (fun t9 ht hW => ⟨⟨v18, σ, rfl, hpost, by rw [ht]; exact hP, va_K.moved hW.alike hK, hD⟩, hS.F ht⟩) hS.2.2 dX1_wayOf_19

abbrev RM_X1_keenest : Room := { frames := 0, cells := 0, slots := 0, locals := 0 }
set_option maxHeartbeats 4000000 in
set_option maxRecDepth 100000 in
theorem c_X1_keenest (l : Launch) (dC : Nat → ClassId) (dI : Nat → Nat → Nat) (cB cI cS cII : ClassId) (a : Nat → Nat) (N : (Nat → Prop) → State → Prop) (hok : zNok N) (hn : ∀ A U, N A U → zN U) (σ : Cn) (sz : Nat) (x1 : Int32) (h0 : 0 ≤ (σ 4 1).toInt ∧ (σ 4 1).toInt ≤ 4) (h1 : 0 ≤ x1.toInt ∧ x1.toInt < 10) : Met l yX1_keenest wsX1_keenest RM_X1_keenest (zPc (dC, dI) (zT cB cI cS cII) N (wX a cB cI cS cII) σ sz [.ref (a 4), .int x1]) (zQi (dC, dI) (zT cB cI cS cII) (wX a cB cI cS cII) (va_A (wX a cB cI cS cII σ) sz) (fun (r : Int32) (σ1 : Cn) => σ1 = σ ∧ 0 ≤ (r : Int32).toInt ∧ (r : Int32).toInt < 4)) 0 0 (va_A (wX a cB cI cS cII σ) sz) := by
  refine Met.ofW (cc := cX1_keenest) (maxL := 4) (ret := (some .int)) (by decide) rfl ?_
  intro p e s m args below meth c s₁ B hml hv
  obtain ⟨rfl, hsz, hP, hK, hD0, hN⟩ := hv
  have hx := B.exec
  have hb := B.bytes
  have hr := B.returns
  have hts := atoms_spec (ws := wsX1_keenest) B.pre
  have hown : s.vm.findClass RX1 = some m.cls := findClass_of_methodNamed B.named
  have hlocks := B.notSynchronized
  subst hsz
  have hD := hD0.self (sz := s.heap.size)
  generalize hAe : va_A (wX a cB cI cS cII σ) s.heap.size = A at hD hN ⊢
  have hA : ∀ q : Nat, s.heap.size ≤ q → A q := fun q h => by rw [← hAe]; exact Or.inr h
  clear hAe hD0
  have hS : va_S A s.heap s.heap [] := va_S.rf
  have in1 : ∀ w ∈ u_ws RX1 TX1 9, w ∈ wsX1_keenest := by decide +kernel
  have k29 := hts (.fieldLink RX1 29 "HouseSorted$House" "worth" "[[I") (by decide +kernel)
  have k36 := hts (.fieldLink RX1 36 "HouseSorted$House" "heirs" "I") (by decide +kernel)
  have LP : ∀ n : Nat, (∀ (b : Int32) (j : Int32) (H : Heap) (locs : List Loc) (ls : Array Slot), 0 ≤ b.toInt ∧ b.toInt < 4 → 1 ≤ j.toInt ∧ j.toInt ≤ 5 → (5 - j.toInt).toNat < n → va_P (dC, dI) vwCl (wX a cB cI cS cII σ) H → va_D A (wX a cB cI cS cII σ) → va_S A s.heap H locs → lv_has ls 4 [(0, .ref (a 4)), (1, .int x1), (2, .int b), (3, .int j)] → W p l e (headSpec wsX1_keenest RM_X1_keenest).room s m ([.ref (a 4), .int x1] : List Value).toArray below meth c H locs 0 0 (MQ below (zQi (dC, dI) (zT cB cI cS cII) (wX a cB cI cS cII) A (fun (r : Int32) (σ1 : Cn) => σ1 = σ ∧ 0 ≤ (r : Int32).toInt ∧ (r : Int32).toInt < 4)) ([.ref (a 4), .int x1] : List Value).toArray s 0 0 A) (F0 m 4 ls [])) := by
    intro n
    induction n with
    | zero => exact by intros; omega
    | succ n ih =>
      · intro b j H locs ls g1 g2 hmu hP hD hS hl
        refine lv_iload_n hx hb dX1_keenest_4 rfl (lv_at hl 3 rfl) ?_
        refine lv_aload_n hx hb dX1_keenest_5 rfl (lv_at hl 0 rfl) ?_
        refine va_get (D := (dC, dI)) (ci := 1) (v := .int (σ 4 1)) (C := RX1) (T := TX1) (N := 9) hx hb hts in1 hown hK hP 4 rfl rfl 1 (by decide) k36 (fun _ h9 => h9) rfl dX1_keenest_6 ?_
        refine lv_icmp_ge (tgt := 39) hx hb dX1_keenest_9 (by decide) (fun c9 => ?_) (fun c9 => ?_)
        · skip
          have ic9 := zle (a := (σ 4 1).toInt) (b := j.toInt) rfl rfl c9
          refine lv_iload_n hx hb dX1_keenest_39 rfl (lv_at hl 2 rfl) ?_
          have hpost : σ = σ ∧ 0 ≤ (b : Int32).toInt ∧ (b : Int32).toInt < 4 := by exact ⟨rfl, by omega⟩
          exact W.iret (v := b) hx hb hr (fun t9 ht hW => ⟨⟨b, σ, rfl, hpost, by rw [ht]; exact hP, va_K.moved hW.alike hK, hD⟩, hS.F ht⟩) hS.2.2 dX1_keenest_40
        · skip
          have ic9 := znle (a := (σ 4 1).toInt) (b := j.toInt) rfl rfl c9
          refine lv_aload_n hx hb dX1_keenest_12 rfl (lv_at hl 0 rfl) ?_
          refine va_get (D := (dC, dI)) (ci := 1) (v := .ref (a 20)) (C := RX1) (T := TX1) (N := 9) hx hb hts in1 hown hK hP 4 rfl rfl 8 (by decide) k29 (fun _ h9 => h9) rfl dX1_keenest_13 ?_
          refine lv_iload_n hx hb dX1_keenest_16 rfl (lv_at hl 3 rfl) ?_
          have hr17 : (j).toNatClampNeg < 4 := by have h9 := zcl (x := j) (by omega); omega
          refine zald hx hb hK hP 20 3 rfl rfl (i := j) (n := 4) (zin (by omega) (by omega)) (zro_in hr17) dX1_keenest_17 ?_
          refine lv_iload_n hx hb dX1_keenest_18 rfl (lv_at hl 1 rfl) ?_
          refine va_iald (D := (dC, dI)) (f := σ (21 + (j).toNatClampNeg)) hx hb hK hP (21 + (j).toNatClampNeg) 1 (wX_row21 hr17) rfl (i := x1) (n := 10) (zin (by omega) (by omega)) dX1_keenest_19 ?_
          refine lv_topi (fun v19 ev19 => ?_)
          have tv19 := congrArg Int32.toInt ev19
          refine lv_aload_n hx hb dX1_keenest_20 rfl (lv_at hl 0 rfl) ?_
          refine va_get (D := (dC, dI)) (ci := 1) (v := .ref (a 20)) (C := RX1) (T := TX1) (N := 9) hx hb hts in1 hown hK hP 4 rfl rfl 8 (by decide) k29 (fun _ h9 => h9) rfl dX1_keenest_21 ?_
          refine lv_iload_n hx hb dX1_keenest_24 rfl (lv_at hl 2 rfl) ?_
          have hr25 : (b).toNatClampNeg < 4 := by have h9 := zcl (x := b) (by omega); omega
          refine zald hx hb hK hP 20 3 rfl rfl (i := b) (n := 4) (zin (by omega) (by omega)) (zro_in hr25) dX1_keenest_25 ?_
          refine lv_iload_n hx hb dX1_keenest_26 rfl (lv_at hl 1 rfl) ?_
          refine va_iald (D := (dC, dI)) (f := σ (21 + (b).toNatClampNeg)) hx hb hK hP (21 + (b).toNatClampNeg) 1 (wX_row21 hr25) rfl (i := x1) (n := 10) (zin (by omega) (by omega)) dX1_keenest_27 ?_
          refine lv_topi (fun v27 ev27 => ?_)
          have tv27 := congrArg Int32.toInt ev27
          refine lv_icmp_le (tgt := 33) hx hb dX1_keenest_28 (by decide) (fun c28 => ?_) (fun c28 => ?_)
          · skip
            have ic28 := zle (a := v19.toInt) (b := v27.toInt) rfl rfl c28
            obtain ⟨v33, ev33⟩ : ∃ y : Int32, y = j + 1 := ⟨_, rfl⟩
            refine lv_iinc (v := v33) (lv' := [(3, .int v33), (0, .ref (a 4)), (1, .int x1), (2, .int b)]) hx hb dX1_keenest_33 hl (k := 3) rfl (by rw [ev33]; rfl) (by decide) rfl (fun ls hl => ?_)
            have tv33 : v33.toInt = j.toInt + 1 := by rw [ev33, zadd, show (1 : Int32).toInt = 1 from by decide]; omega
            refine lv_goto (tgt := 4) hx hb dX1_keenest_36 (by decide) ?_
            exact ih (b) (v33)  H locs ls (by omega) (by omega) (by omega) hP hD hS (lv_sub hl [1, 2, 3, 0] rfl)
          · skip
            have ic28 := znle (a := v19.toInt) (b := v27.toInt) rfl rfl c28
            refine lv_iload_n hx hb dX1_keenest_31 rfl (lv_at hl 3 rfl) ?_
            refine lv_istore_n (lv' := [(2, .int j), (0, .ref (a 4)), (1, .int x1), (3, .int j)]) hx hb dX1_keenest_32 rfl hl (by decide) rfl (fun ls hl => ?_)
            obtain ⟨v33, ev33⟩ : ∃ y : Int32, y = j + 1 := ⟨_, rfl⟩
            refine lv_iinc (v := v33) (lv' := [(3, .int v33), (2, .int j), (0, .ref (a 4)), (1, .int x1)]) hx hb dX1_keenest_33 hl (k := 3) rfl (by rw [ev33]; rfl) (by decide) rfl (fun ls hl => ?_)
            have tv33 : v33.toInt = j.toInt + 1 := by rw [ev33, zadd, show (1 : Int32).toInt = 1 from by decide]; omega
            refine lv_goto (tgt := 4) hx hb dX1_keenest_36 (by decide) ?_
            exact ih (j) (v33)  H locs ls (by omega) (by omega) (by omega) hP hD hS (lv_sub hl [2, 3, 1, 0] rfl)
  have hl := lv_entry ([.ref (a 4), .int x1]) (n := 4) (Nat.le_of_ble_eq_true rfl)
  rw [lg_entry_eq]
  generalize (lg_sl ([.ref (a 4), .int x1]) ++ List.replicate (4 - (lg_sl ([.ref (a 4), .int x1])).length) Slot.unset).toArray = ls at hl ⊢
  have hl : lv_has ls 4 [(0, .ref (a 4)), (1, .int x1)] := hl
  suffices main : ∀ (H : Heap) (locs : List Loc), va_P (dC, dI) vwCl (wX a cB cI cS cII σ) H → va_D A (wX a cB cI cS cII σ) → va_S A s.heap H locs → W p l e (headSpec wsX1_keenest RM_X1_keenest).room s m ([.ref (a 4), .int x1] : List Value).toArray below meth c H locs 0 0 (MQ below (zQi (dC, dI) (zT cB cI cS cII) (wX a cB cI cS cII) A (fun (r : Int32) (σ1 : Cn) => σ1 = σ ∧ 0 ≤ (r : Int32).toInt ∧ (r : Int32).toInt < 4)) ([.ref (a 4), .int x1] : List Value).toArray s 0 0 A) (F0 m 0 ls []) from main s.heap [] hP hD hS
  intro H locs hP hD hS
  refine lv_iconst (v := 0) hx hb dX1_keenest_0 (by decide) ?_
  refine lv_istore_n (lv' := [(2, .int 0), (0, .ref (a 4)), (1, .int x1)]) hx hb dX1_keenest_1 rfl hl (by decide) rfl (fun ls hl => ?_)
  refine lv_iconst (v := 1) hx hb dX1_keenest_2 (by decide) ?_
  refine lv_istore_n (lv' := [(3, .int 1), (2, .int 0), (0, .ref (a 4)), (1, .int x1)]) hx hb dX1_keenest_3 rfl hl (by decide) rfl (fun ls hl => ?_)
  exact (LP _) (0) (1)  H locs ls (by decide) (by decide) (Nat.lt_succ_self _) hP hD hS (lv_sub hl [2, 3, 1, 0] rfl)

abbrev RM_X1_countOnWay : Room := { frames := 3, cells := 0, slots := 0, locals := 64 }
set_option maxHeartbeats 4000000 in
set_option maxRecDepth 100000 in
theorem c_X1_countOnWay (l : Launch) (dC : Nat → ClassId) (dI : Nat → Nat → Nat) (cB cI cS cII : ClassId) (a : Nat → Nat) (N : (Nat → Prop) → State → Prop) (hok : zNok N) (hn : ∀ A U, N A U → zN U) (σ : Cn) (sz : Nat) (x1 : Int32) (h0 : 0 ≤ (σ 4 1).toInt ∧ (σ 4 1).toInt ≤ 4) (h2 : 0 ≤ (σ 4 2).toInt ∧ (σ 4 2).toInt ≤ 10) : Met l yX1_countOnWay wsX1_countOnWay RM_X1_countOnWay (zPc (dC, dI) (zT cB cI cS cII) N (wX a cB cI cS cII) σ sz [.ref (a 4), .int x1]) (zQi (dC, dI) (zT cB cI cS cII) (wX a cB cI cS cII) (va_A (wX a cB cI cS cII σ) sz) (fun (r : Int32) (σ1 : Cn) => σ1 = σ ∧ True)) 0 0 (va_A (wX a cB cI cS cII σ) sz) := by
  refine Met.ofW (cc := cX1_countOnWay) (maxL := 4) (ret := (some .int)) (by decide) rfl ?_
  intro p e s m args below meth c s₁ B hml hv
  obtain ⟨rfl, hsz, hP, hK, hD0, hN⟩ := hv
  have hx := B.exec
  have hb := B.bytes
  have hr := B.returns
  have hts := atoms_spec (ws := wsX1_countOnWay) B.pre
  have hown : s.vm.findClass RX1 = some m.cls := findClass_of_methodNamed B.named
  have hlocks := B.notSynchronized
  subst hsz
  have hD := hD0.self (sz := s.heap.size)
  generalize hAe : va_A (wX a cB cI cS cII σ) s.heap.size = A at hD hN ⊢
  have hA : ∀ q : Nat, s.heap.size ≤ q → A q := fun q h => by rw [← hAe]; exact Or.inr h
  clear hAe hD0
  have hS : va_S A s.heap s.heap [] := va_S.rf
  have in1 : ∀ w ∈ u_ws RX1 TX1 9, w ∈ wsX1_countOnWay := by decide +kernel
  have k40 := hts (.fieldLink RX1 40 "HouseSorted$House" "things" "I") (by decide +kernel)
  have LP : ∀ n : Nat, (∀ (f : Int32) (j : Int32) (H : Heap) (locs : List Loc) (ls : Array Slot), 0 ≤ j.toInt ∧ j.toInt ≤ 10 → (10 - j.toInt).toNat < n → va_P (dC, dI) vwCl (wX a cB cI cS cII σ) H → va_D A (wX a cB cI cS cII σ) → va_S A s.heap H locs → lv_has ls 4 [(0, .ref (a 4)), (1, .int x1), (2, .int f), (3, .int j)] → W p l e (headSpec wsX1_countOnWay RM_X1_countOnWay).room s m ([.ref (a 4), .int x1] : List Value).toArray below meth c H locs 0 0 (MQ below (zQi (dC, dI) (zT cB cI cS cII) (wX a cB cI cS cII) A (fun (r : Int32) (σ1 : Cn) => σ1 = σ ∧ True)) ([.ref (a 4), .int x1] : List Value).toArray s 0 0 A) (F0 m 4 ls [])) := by
    intro n
    induction n with
    | zero => exact by intros; omega
    | succ n ih =>
      · intro f j H locs ls g1 hmu hP hD hS hl
        refine lv_iload_n hx hb dX1_countOnWay_4 rfl (lv_at hl 3 rfl) ?_
        refine lv_aload_n hx hb dX1_countOnWay_5 rfl (lv_at hl 0 rfl) ?_
        refine va_get (D := (dC, dI)) (ci := 1) (v := .int (σ 4 2)) (C := RX1) (T := TX1) (N := 9) hx hb hts in1 hown hK hP 4 rfl rfl 2 (by decide) k40 (fun _ h9 => h9) rfl dX1_countOnWay_6 ?_
        refine lv_icmp_ge (tgt := 30) hx hb dX1_countOnWay_9 (by decide) (fun c9 => ?_) (fun c9 => ?_)
        · skip
          have ic9 := zle (a := (σ 4 2).toInt) (b := j.toInt) rfl rfl c9
          refine lv_iload_n hx hb dX1_countOnWay_30 rfl (lv_at hl 2 rfl) ?_
          have hpost : σ = σ ∧ True := by exact ⟨rfl, trivial⟩
          exact W.iret (v := f) hx hb hr (fun t9 ht hW => ⟨⟨f, σ, rfl, hpost, by rw [ht]; exact hP, va_K.moved hW.alike hK, hD⟩, hS.F ht⟩) hS.2.2 dX1_countOnWay_31
        · skip
          have ic9 := znle (a := (σ 4 2).toInt) (b := j.toInt) rfl rfl c9
          refine lv_aload_n hx hb dX1_countOnWay_12 rfl (lv_at hl 0 rfl) ?_
          refine lv_iload_n hx hb dX1_countOnWay_13 rfl (lv_at hl 3 rfl) ?_
          refine zcalli (va_runV (As := [.int j]) (rest := []) ⟨hx, hb, hml, hown, hts⟩ (c_X1_wayOf l dC dI cB cI cS cII a N hok hn σ H.size (j) h0 (by omega)) (cwV 1 hts gX1_countOnWay_X1_wayOf rfl rfl rfl (by decide +kernel) ⟨Nat.le_of_ble_eq_true rfl, Nat.le_of_ble_eq_true rfl⟩) (zpreV (wf := wX a cB cI cS cII) (q0 := 4) (ci := 1) hok hN hS hA hK hP hD rfl rfl) rfl rfl hl.1 rfl (lv_room (Nat.le_of_ble_eq_true rfl)) dX1_countOnWay_14 ⟨Nat.zero_le _, Nat.zero_le _⟩) hD hS hA (fun v14 σ1 H locs hv14 hP hD hS => ?_)
          obtain ⟨es9, hv14⟩ := hv14
          subst σ1
          refine lv_iload_n hx hb dX1_countOnWay_17 rfl (lv_at hl 1 rfl) ?_
          refine lv_icmp_ne (tgt := 24) hx hb dX1_countOnWay_18 (by decide) (fun c18 => ?_) (fun c18 => ?_)
          · skip
            have ic18 := zneq (a := v14.toInt) (b := x1.toInt) rfl rfl c18
            obtain ⟨v24, ev24⟩ : ∃ y : Int32, y = j + 1 := ⟨_, rfl⟩
            refine lv_iinc (v := v24) (lv' := [(3, .int v24), (0, .ref (a 4)), (1, .int x1), (2, .int f)]) hx hb dX1_countOnWay_24 hl (k := 3) rfl (by rw [ev24]; rfl) (by decide) rfl (fun ls hl => ?_)
            have tv24 : v24.toInt = j.toInt + 1 := by rw [ev24, zadd, show (1 : Int32).toInt = 1 from by decide]; omega
            refine lv_goto (tgt := 4) hx hb dX1_countOnWay_27 (by decide) ?_
            exact ih (f) (v24)  H locs ls (by omega) (by omega) hP hD hS (lv_sub hl [1, 2, 3, 0] rfl)
          · skip
            have ic18 := zeq (a := v14.toInt) (b := x1.toInt) rfl rfl c18
            obtain ⟨v21, ev21⟩ : ∃ y : Int32, y = f + 1 := ⟨_, rfl⟩
            refine lv_iinc (v := v21) (lv' := [(2, .int v21), (0, .ref (a 4)), (1, .int x1), (3, .int j)]) hx hb dX1_countOnWay_21 hl (k := 2) rfl (by rw [ev21]; rfl) (by decide) rfl (fun ls hl => ?_)
            obtain ⟨v24, ev24⟩ : ∃ y : Int32, y = j + 1 := ⟨_, rfl⟩
            refine lv_iinc (v := v24) (lv' := [(3, .int v24), (2, .int v21), (0, .ref (a 4)), (1, .int x1)]) hx hb dX1_countOnWay_24 hl (k := 3) rfl (by rw [ev24]; rfl) (by decide) rfl (fun ls hl => ?_)
            have tv24 : v24.toInt = j.toInt + 1 := by rw [ev24, zadd, show (1 : Int32).toInt = 1 from by decide]; omega
            refine lv_goto (tgt := 4) hx hb dX1_countOnWay_27 (by decide) ?_
            exact ih (v21) (v24)  H locs ls (by omega) (by omega) hP hD hS (lv_sub hl [2, 3, 1, 0] rfl)
  have hl := lv_entry ([.ref (a 4), .int x1]) (n := 4) (Nat.le_of_ble_eq_true rfl)
  rw [lg_entry_eq]
  generalize (lg_sl ([.ref (a 4), .int x1]) ++ List.replicate (4 - (lg_sl ([.ref (a 4), .int x1])).length) Slot.unset).toArray = ls at hl ⊢
  have hl : lv_has ls 4 [(0, .ref (a 4)), (1, .int x1)] := hl
  suffices main : ∀ (H : Heap) (locs : List Loc), va_P (dC, dI) vwCl (wX a cB cI cS cII σ) H → va_D A (wX a cB cI cS cII σ) → va_S A s.heap H locs → W p l e (headSpec wsX1_countOnWay RM_X1_countOnWay).room s m ([.ref (a 4), .int x1] : List Value).toArray below meth c H locs 0 0 (MQ below (zQi (dC, dI) (zT cB cI cS cII) (wX a cB cI cS cII) A (fun (r : Int32) (σ1 : Cn) => σ1 = σ ∧ True)) ([.ref (a 4), .int x1] : List Value).toArray s 0 0 A) (F0 m 0 ls []) from main s.heap [] hP hD hS
  intro H locs hP hD hS
  refine lv_iconst (v := 0) hx hb dX1_countOnWay_0 (by decide) ?_
  refine lv_istore_n (lv' := [(2, .int 0), (0, .ref (a 4)), (1, .int x1)]) hx hb dX1_countOnWay_1 rfl hl (by decide) rfl (fun ls hl => ?_)
  refine lv_iconst (v := 0) hx hb dX1_countOnWay_2 (by decide) ?_
  refine lv_istore_n (lv' := [(3, .int 0), (2, .int 0), (0, .ref (a 4)), (1, .int x1)]) hx hb dX1_countOnWay_3 rfl hl (by decide) rfl (fun ls hl => ?_)
  exact (LP _) (0) (0)  H locs ls (by decide) (Nat.lt_succ_self _) hP hD hS (lv_sub hl [2, 3, 1, 0] rfl)

abbrev RM_X1_sumOnWay : Room := { frames := 3, cells := 0, slots := 0, locals := 64 }
set_option maxHeartbeats 4000000 in
set_option maxRecDepth 100000 in
theorem c_X1_sumOnWay_15 (l : Launch) (dC : Nat → ClassId) (dI : Nat → Nat → Nat) (cB cI cS cII : ClassId) (a : Nat → Nat) (N : (Nat → Prop) → State → Prop) (hok : zNok N) (hn : ∀ A U, N A U → zN U) (σ : Cn) (sz : Nat) (x1 : Int32) (h0 : 0 ≤ (σ 4 1).toInt ∧ (σ 4 1).toInt ≤ 4) (h2 : 0 ≤ (σ 4 2).toInt ∧ (σ 4 2).toInt ≤ 10) : Met l yX1_sumOnWay wsX1_sumOnWay RM_X1_sumOnWay (zPc (dC, dI) (zT cB cI cS cII) N (wX a cB cI cS cII) σ sz [.ref (a 4), .int x1, .ref (a 15)]) (zQi (dC, dI) (zT cB cI cS cII) (wX a cB cI cS cII) (va_A (wX a cB cI cS cII σ) sz) (fun (r : Int32) (σ1 : Cn) => σ1 = σ ∧ True)) 0 0 (va_A (wX a cB cI cS cII σ) sz) := by
  refine Met.ofW (cc := cX1_sumOnWay) (maxL := 5) (ret := (some .int)) (by decide) rfl ?_
  intro p e s m args below meth c s₁ B hml hv
  obtain ⟨rfl, hsz, hP, hK, hD0, hN⟩ := hv
  have hx := B.exec
  have hb := B.bytes
  have hr := B.returns
  have hts := atoms_spec (ws := wsX1_sumOnWay) B.pre
  have hown : s.vm.findClass RX1 = some m.cls := findClass_of_methodNamed B.named
  have hlocks := B.notSynchronized
  subst hsz
  have hD := hD0.self (sz := s.heap.size)
  generalize hAe : va_A (wX a cB cI cS cII σ) s.heap.size = A at hD hN ⊢
  have hA : ∀ q : Nat, s.heap.size ≤ q → A q := fun q h => by rw [← hAe]; exact Or.inr h
  clear hAe hD0
  have hS : va_S A s.heap s.heap [] := va_S.rf
  have in1 : ∀ w ∈ u_ws RX1 TX1 9, w ∈ wsX1_sumOnWay := by decide +kernel
  have k40 := hts (.fieldLink RX1 40 "HouseSorted$House" "things" "I") (by decide +kernel)
  have LP : ∀ n : Nat, (∀ (f : Int32) (j : Int32) (H : Heap) (locs : List Loc) (ls : Array Slot), 0 ≤ j.toInt ∧ j.toInt ≤ 10 → (10 - j.toInt).toNat < n → va_P (dC, dI) vwCl (wX a cB cI cS cII σ) H → va_D A (wX a cB cI cS cII σ) → va_S A s.heap H locs → lv_has ls 5 [(0, .ref (a 4)), (1, .int x1), (2, .ref (a 15)), (3, .int f), (4, .int j)] → W p l e (headSpec wsX1_sumOnWay RM_X1_sumOnWay).room s m ([.ref (a 4), .int x1, .ref (a 15)] : List Value).toArray below meth c H locs 0 0 (MQ below (zQi (dC, dI) (zT cB cI cS cII) (wX a cB cI cS cII) A (fun (r : Int32) (σ1 : Cn) => σ1 = σ ∧ True)) ([.ref (a 4), .int x1, .ref (a 15)] : List Value).toArray s 0 0 A) (F0 m 5 ls [])) := by
    intro n
    induction n with
    | zero => exact by intros; omega
    | succ n ih =>
      · intro f j H locs ls g1 hmu hP hD hS hl
        refine lv_iload hx hb dX1_sumOnWay_5 (lv_at hl 4 rfl) ?_
        refine lv_aload_n hx hb dX1_sumOnWay_7 rfl (lv_at hl 0 rfl) ?_
        refine va_get (D := (dC, dI)) (ci := 1) (v := .int (σ 4 2)) (C := RX1) (T := TX1) (N := 9) hx hb hts in1 hown hK hP 4 rfl rfl 2 (by decide) k40 (fun _ h9 => h9) rfl dX1_sumOnWay_8 ?_
        refine lv_icmp_ge (tgt := 37) hx hb dX1_sumOnWay_11 (by decide) (fun c11 => ?_) (fun c11 => ?_)
        · skip
          have ic11 := zle (a := (σ 4 2).toInt) (b := j.toInt) rfl rfl c11
          refine lv_iload_n hx hb dX1_sumOnWay_37 rfl (lv_at hl 3 rfl) ?_
          have hpost : σ = σ ∧ True := by exact ⟨rfl, trivial⟩
          exact W.iret (v := f) hx hb hr (fun t9 ht hW => ⟨⟨f, σ, rfl, hpost, by rw [ht]; exact hP, va_K.moved hW.alike hK, hD⟩, hS.F ht⟩) hS.2.2 dX1_sumOnWay_38
        · skip
          have ic11 := znle (a := (σ 4 2).toInt) (b := j.toInt) rfl rfl c11
          refine lv_aload_n hx hb dX1_sumOnWay_14 rfl (lv_at hl 0 rfl) ?_
          refine lv_iload hx hb dX1_sumOnWay_15 (lv_at hl 4 rfl) ?_
          refine zcalli (va_runV (As := [.int j]) (rest := []) ⟨hx, hb, hml, hown, hts⟩ (c_X1_wayOf l dC dI cB cI cS cII a N hok hn σ H.size (j) h0 (by omega)) (cwV 1 hts gX1_sumOnWay_X1_wayOf rfl rfl rfl (by decide +kernel) ⟨Nat.le_of_ble_eq_true rfl, Nat.le_of_ble_eq_true rfl⟩) (zpreV (wf := wX a cB cI cS cII) (q0 := 4) (ci := 1) hok hN hS hA hK hP hD rfl rfl) rfl rfl hl.1 rfl (lv_room (Nat.le_of_ble_eq_true rfl)) dX1_sumOnWay_17 ⟨Nat.zero_le _, Nat.zero_le _⟩) hD hS hA (fun v17 σ1 H locs hv17 hP hD hS => ?_)
          obtain ⟨es9, hv17⟩ := hv17
          subst σ1
          refine lv_iload_n hx hb dX1_sumOnWay_20 rfl (lv_at hl 1 rfl) ?_
          refine lv_icmp_ne (tgt := 31) hx hb dX1_sumOnWay_21 (by decide) (fun c21 => ?_) (fun c21 => ?_)
          · skip
            have ic21 := zneq (a := v17.toInt) (b := x1.toInt) rfl rfl c21
            obtain ⟨v31, ev31⟩ : ∃ y : Int32, y = j + 1 := ⟨_, rfl⟩
            refine lv_iinc (v := v31) (lv' := [(4, .int v31), (0, .ref (a 4)), (1, .int x1), (2, .ref (a 15)), (3, .int f)]) hx hb dX1_sumOnWay_31 hl (k := 4) rfl (by rw [ev31]; rfl) (by decide) rfl (fun ls hl => ?_)
            have tv31 : v31.toInt = j.toInt + 1 := by rw [ev31, zadd, show (1 : Int32).toInt = 1 from by decide]; omega
            refine lv_goto (tgt := 5) hx hb dX1_sumOnWay_34 (by decide) ?_
            exact ih (f) (v31)  H locs ls (by omega) (by omega) hP hD hS (lv_sub hl [1, 2, 3, 4, 0] rfl)
          · skip
            have ic21 := zeq (a := v17.toInt) (b := x1.toInt) rfl rfl c21
            refine lv_iload_n hx hb dX1_sumOnWay_24 rfl (lv_at hl 3 rfl) ?_
            refine lv_aload_n hx hb dX1_sumOnWay_25 rfl (lv_at hl 2 rfl) ?_
            refine lv_iload hx hb dX1_sumOnWay_26 (lv_at hl 4 rfl) ?_
            refine va_iald (D := (dC, dI)) (f := σ 15) hx hb hK hP 15 1 rfl rfl (i := j) (n := 10) (zin (by omega) (by omega)) dX1_sumOnWay_28 ?_
            refine lv_topi (fun v28 ev28 => ?_)
            have tv28 := congrArg Int32.toInt ev28
            refine lv_iadd hx hb dX1_sumOnWay_29 ?_
            refine lv_topi (fun v29 ev29 => ?_)
            refine lv_istore_n (lv' := [(3, .int v29), (0, .ref (a 4)), (1, .int x1), (2, .ref (a 15)), (4, .int j)]) hx hb dX1_sumOnWay_30 rfl hl (by decide) rfl (fun ls hl => ?_)
            obtain ⟨v31, ev31⟩ : ∃ y : Int32, y = j + 1 := ⟨_, rfl⟩
            refine lv_iinc (v := v31) (lv' := [(4, .int v31), (3, .int v29), (0, .ref (a 4)), (1, .int x1), (2, .ref (a 15))]) hx hb dX1_sumOnWay_31 hl (k := 4) rfl (by rw [ev31]; rfl) (by decide) rfl (fun ls hl => ?_)
            have tv31 : v31.toInt = j.toInt + 1 := by rw [ev31, zadd, show (1 : Int32).toInt = 1 from by decide]; omega
            refine lv_goto (tgt := 5) hx hb dX1_sumOnWay_34 (by decide) ?_
            exact ih (v29) (v31)  H locs ls (by omega) (by omega) hP hD hS (lv_sub hl [2, 3, 4, 1, 0] rfl)
  have hl := lv_entry ([.ref (a 4), .int x1, .ref (a 15)]) (n := 5) (Nat.le_of_ble_eq_true rfl)
  rw [lg_entry_eq]
  generalize (lg_sl ([.ref (a 4), .int x1, .ref (a 15)]) ++ List.replicate (5 - (lg_sl ([.ref (a 4), .int x1, .ref (a 15)])).length) Slot.unset).toArray = ls at hl ⊢
  have hl : lv_has ls 5 [(0, .ref (a 4)), (1, .int x1), (2, .ref (a 15))] := hl
  suffices main : ∀ (H : Heap) (locs : List Loc), va_P (dC, dI) vwCl (wX a cB cI cS cII σ) H → va_D A (wX a cB cI cS cII σ) → va_S A s.heap H locs → W p l e (headSpec wsX1_sumOnWay RM_X1_sumOnWay).room s m ([.ref (a 4), .int x1, .ref (a 15)] : List Value).toArray below meth c H locs 0 0 (MQ below (zQi (dC, dI) (zT cB cI cS cII) (wX a cB cI cS cII) A (fun (r : Int32) (σ1 : Cn) => σ1 = σ ∧ True)) ([.ref (a 4), .int x1, .ref (a 15)] : List Value).toArray s 0 0 A) (F0 m 0 ls []) from main s.heap [] hP hD hS
  intro H locs hP hD hS
  refine lv_iconst (v := 0) hx hb dX1_sumOnWay_0 (by decide) ?_
  refine lv_istore_n (lv' := [(3, .int 0), (0, .ref (a 4)), (1, .int x1), (2, .ref (a 15))]) hx hb dX1_sumOnWay_1 rfl hl (by decide) rfl (fun ls hl => ?_)
  refine lv_iconst (v := 0) hx hb dX1_sumOnWay_2 (by decide) ?_
  refine lv_istore (lv' := [(4, .int 0), (3, .int 0), (0, .ref (a 4)), (1, .int x1), (2, .ref (a 15))]) hx hb dX1_sumOnWay_3 hl (by decide) rfl (fun ls hl => ?_)
  exact (LP _) (0) (0)  H locs ls (by decide) (Nat.lt_succ_self _) hP hD hS (lv_sub hl [2, 3, 4, 1, 0] rfl)

set_option maxHeartbeats 4000000 in
set_option maxRecDepth 100000 in
theorem c_X1_sumOnWay_16 (l : Launch) (dC : Nat → ClassId) (dI : Nat → Nat → Nat) (cB cI cS cII : ClassId) (a : Nat → Nat) (N : (Nat → Prop) → State → Prop) (hok : zNok N) (hn : ∀ A U, N A U → zN U) (σ : Cn) (sz : Nat) (x1 : Int32) (h0 : 0 ≤ (σ 4 1).toInt ∧ (σ 4 1).toInt ≤ 4) (h2 : 0 ≤ (σ 4 2).toInt ∧ (σ 4 2).toInt ≤ 10) : Met l yX1_sumOnWay wsX1_sumOnWay RM_X1_sumOnWay (zPc (dC, dI) (zT cB cI cS cII) N (wX a cB cI cS cII) σ sz [.ref (a 4), .int x1, .ref (a 16)]) (zQi (dC, dI) (zT cB cI cS cII) (wX a cB cI cS cII) (va_A (wX a cB cI cS cII σ) sz) (fun (r : Int32) (σ1 : Cn) => σ1 = σ ∧ True)) 0 0 (va_A (wX a cB cI cS cII σ) sz) := by
  refine Met.ofW (cc := cX1_sumOnWay) (maxL := 5) (ret := (some .int)) (by decide) rfl ?_
  intro p e s m args below meth c s₁ B hml hv
  obtain ⟨rfl, hsz, hP, hK, hD0, hN⟩ := hv
  have hx := B.exec
  have hb := B.bytes
  have hr := B.returns
  have hts := atoms_spec (ws := wsX1_sumOnWay) B.pre
  have hown : s.vm.findClass RX1 = some m.cls := findClass_of_methodNamed B.named
  have hlocks := B.notSynchronized
  subst hsz
  have hD := hD0.self (sz := s.heap.size)
  generalize hAe : va_A (wX a cB cI cS cII σ) s.heap.size = A at hD hN ⊢
  have hA : ∀ q : Nat, s.heap.size ≤ q → A q := fun q h => by rw [← hAe]; exact Or.inr h
  clear hAe hD0
  have hS : va_S A s.heap s.heap [] := va_S.rf
  have in1 : ∀ w ∈ u_ws RX1 TX1 9, w ∈ wsX1_sumOnWay := by decide +kernel
  have k40 := hts (.fieldLink RX1 40 "HouseSorted$House" "things" "I") (by decide +kernel)
  have LP : ∀ n : Nat, (∀ (f : Int32) (j : Int32) (H : Heap) (locs : List Loc) (ls : Array Slot), 0 ≤ j.toInt ∧ j.toInt ≤ 10 → (10 - j.toInt).toNat < n → va_P (dC, dI) vwCl (wX a cB cI cS cII σ) H → va_D A (wX a cB cI cS cII σ) → va_S A s.heap H locs → lv_has ls 5 [(0, .ref (a 4)), (1, .int x1), (2, .ref (a 16)), (3, .int f), (4, .int j)] → W p l e (headSpec wsX1_sumOnWay RM_X1_sumOnWay).room s m ([.ref (a 4), .int x1, .ref (a 16)] : List Value).toArray below meth c H locs 0 0 (MQ below (zQi (dC, dI) (zT cB cI cS cII) (wX a cB cI cS cII) A (fun (r : Int32) (σ1 : Cn) => σ1 = σ ∧ True)) ([.ref (a 4), .int x1, .ref (a 16)] : List Value).toArray s 0 0 A) (F0 m 5 ls [])) := by
    intro n
    induction n with
    | zero => exact by intros; omega
    | succ n ih =>
      · intro f j H locs ls g1 hmu hP hD hS hl
        refine lv_iload hx hb dX1_sumOnWay_5 (lv_at hl 4 rfl) ?_
        refine lv_aload_n hx hb dX1_sumOnWay_7 rfl (lv_at hl 0 rfl) ?_
        refine va_get (D := (dC, dI)) (ci := 1) (v := .int (σ 4 2)) (C := RX1) (T := TX1) (N := 9) hx hb hts in1 hown hK hP 4 rfl rfl 2 (by decide) k40 (fun _ h9 => h9) rfl dX1_sumOnWay_8 ?_
        refine lv_icmp_ge (tgt := 37) hx hb dX1_sumOnWay_11 (by decide) (fun c11 => ?_) (fun c11 => ?_)
        · skip
          have ic11 := zle (a := (σ 4 2).toInt) (b := j.toInt) rfl rfl c11
          refine lv_iload_n hx hb dX1_sumOnWay_37 rfl (lv_at hl 3 rfl) ?_
          have hpost : σ = σ ∧ True := by exact ⟨rfl, trivial⟩
          exact W.iret (v := f) hx hb hr (fun t9 ht hW => ⟨⟨f, σ, rfl, hpost, by rw [ht]; exact hP, va_K.moved hW.alike hK, hD⟩, hS.F ht⟩) hS.2.2 dX1_sumOnWay_38
        · skip
          have ic11 := znle (a := (σ 4 2).toInt) (b := j.toInt) rfl rfl c11
          refine lv_aload_n hx hb dX1_sumOnWay_14 rfl (lv_at hl 0 rfl) ?_
          refine lv_iload hx hb dX1_sumOnWay_15 (lv_at hl 4 rfl) ?_
          refine zcalli (va_runV (As := [.int j]) (rest := []) ⟨hx, hb, hml, hown, hts⟩ (c_X1_wayOf l dC dI cB cI cS cII a N hok hn σ H.size (j) h0 (by omega)) (cwV 1 hts gX1_sumOnWay_X1_wayOf rfl rfl rfl (by decide +kernel) ⟨Nat.le_of_ble_eq_true rfl, Nat.le_of_ble_eq_true rfl⟩) (zpreV (wf := wX a cB cI cS cII) (q0 := 4) (ci := 1) hok hN hS hA hK hP hD rfl rfl) rfl rfl hl.1 rfl (lv_room (Nat.le_of_ble_eq_true rfl)) dX1_sumOnWay_17 ⟨Nat.zero_le _, Nat.zero_le _⟩) hD hS hA (fun v17 σ1 H locs hv17 hP hD hS => ?_)
          obtain ⟨es9, hv17⟩ := hv17
          subst σ1
          refine lv_iload_n hx hb dX1_sumOnWay_20 rfl (lv_at hl 1 rfl) ?_
          refine lv_icmp_ne (tgt := 31) hx hb dX1_sumOnWay_21 (by decide) (fun c21 => ?_) (fun c21 => ?_)
          · skip
            have ic21 := zneq (a := v17.toInt) (b := x1.toInt) rfl rfl c21
            obtain ⟨v31, ev31⟩ : ∃ y : Int32, y = j + 1 := ⟨_, rfl⟩
            refine lv_iinc (v := v31) (lv' := [(4, .int v31), (0, .ref (a 4)), (1, .int x1), (2, .ref (a 16)), (3, .int f)]) hx hb dX1_sumOnWay_31 hl (k := 4) rfl (by rw [ev31]; rfl) (by decide) rfl (fun ls hl => ?_)
            have tv31 : v31.toInt = j.toInt + 1 := by rw [ev31, zadd, show (1 : Int32).toInt = 1 from by decide]; omega
            refine lv_goto (tgt := 5) hx hb dX1_sumOnWay_34 (by decide) ?_
            exact ih (f) (v31)  H locs ls (by omega) (by omega) hP hD hS (lv_sub hl [1, 2, 3, 4, 0] rfl)
          · skip
            have ic21 := zeq (a := v17.toInt) (b := x1.toInt) rfl rfl c21
            refine lv_iload_n hx hb dX1_sumOnWay_24 rfl (lv_at hl 3 rfl) ?_
            refine lv_aload_n hx hb dX1_sumOnWay_25 rfl (lv_at hl 2 rfl) ?_
            refine lv_iload hx hb dX1_sumOnWay_26 (lv_at hl 4 rfl) ?_
            refine va_iald (D := (dC, dI)) (f := σ 16) hx hb hK hP 16 1 rfl rfl (i := j) (n := 10) (zin (by omega) (by omega)) dX1_sumOnWay_28 ?_
            refine lv_topi (fun v28 ev28 => ?_)
            have tv28 := congrArg Int32.toInt ev28
            refine lv_iadd hx hb dX1_sumOnWay_29 ?_
            refine lv_topi (fun v29 ev29 => ?_)
            refine lv_istore_n (lv' := [(3, .int v29), (0, .ref (a 4)), (1, .int x1), (2, .ref (a 16)), (4, .int j)]) hx hb dX1_sumOnWay_30 rfl hl (by decide) rfl (fun ls hl => ?_)
            obtain ⟨v31, ev31⟩ : ∃ y : Int32, y = j + 1 := ⟨_, rfl⟩
            refine lv_iinc (v := v31) (lv' := [(4, .int v31), (3, .int v29), (0, .ref (a 4)), (1, .int x1), (2, .ref (a 16))]) hx hb dX1_sumOnWay_31 hl (k := 4) rfl (by rw [ev31]; rfl) (by decide) rfl (fun ls hl => ?_)
            have tv31 : v31.toInt = j.toInt + 1 := by rw [ev31, zadd, show (1 : Int32).toInt = 1 from by decide]; omega
            refine lv_goto (tgt := 5) hx hb dX1_sumOnWay_34 (by decide) ?_
            exact ih (v29) (v31)  H locs ls (by omega) (by omega) hP hD hS (lv_sub hl [2, 3, 4, 1, 0] rfl)
  have hl := lv_entry ([.ref (a 4), .int x1, .ref (a 16)]) (n := 5) (Nat.le_of_ble_eq_true rfl)
  rw [lg_entry_eq]
  generalize (lg_sl ([.ref (a 4), .int x1, .ref (a 16)]) ++ List.replicate (5 - (lg_sl ([.ref (a 4), .int x1, .ref (a 16)])).length) Slot.unset).toArray = ls at hl ⊢
  have hl : lv_has ls 5 [(0, .ref (a 4)), (1, .int x1), (2, .ref (a 16))] := hl
  suffices main : ∀ (H : Heap) (locs : List Loc), va_P (dC, dI) vwCl (wX a cB cI cS cII σ) H → va_D A (wX a cB cI cS cII σ) → va_S A s.heap H locs → W p l e (headSpec wsX1_sumOnWay RM_X1_sumOnWay).room s m ([.ref (a 4), .int x1, .ref (a 16)] : List Value).toArray below meth c H locs 0 0 (MQ below (zQi (dC, dI) (zT cB cI cS cII) (wX a cB cI cS cII) A (fun (r : Int32) (σ1 : Cn) => σ1 = σ ∧ True)) ([.ref (a 4), .int x1, .ref (a 16)] : List Value).toArray s 0 0 A) (F0 m 0 ls []) from main s.heap [] hP hD hS
  intro H locs hP hD hS
  refine lv_iconst (v := 0) hx hb dX1_sumOnWay_0 (by decide) ?_
  refine lv_istore_n (lv' := [(3, .int 0), (0, .ref (a 4)), (1, .int x1), (2, .ref (a 16))]) hx hb dX1_sumOnWay_1 rfl hl (by decide) rfl (fun ls hl => ?_)
  refine lv_iconst (v := 0) hx hb dX1_sumOnWay_2 (by decide) ?_
  refine lv_istore (lv' := [(4, .int 0), (3, .int 0), (0, .ref (a 4)), (1, .int x1), (2, .ref (a 16))]) hx hb dX1_sumOnWay_3 hl (by decide) rfl (fun ls hl => ?_)
  exact (LP _) (0) (0)  H locs ls (by decide) (Nat.lt_succ_self _) hP hD hS (lv_sub hl [2, 3, 4, 1, 0] rfl)

set_option maxHeartbeats 4000000 in
set_option maxRecDepth 100000 in
theorem c_X1_sumOnWay_17 (l : Launch) (dC : Nat → ClassId) (dI : Nat → Nat → Nat) (cB cI cS cII : ClassId) (a : Nat → Nat) (N : (Nat → Prop) → State → Prop) (hok : zNok N) (hn : ∀ A U, N A U → zN U) (σ : Cn) (sz : Nat) (x1 : Int32) (h0 : 0 ≤ (σ 4 1).toInt ∧ (σ 4 1).toInt ≤ 4) (h2 : 0 ≤ (σ 4 2).toInt ∧ (σ 4 2).toInt ≤ 10) : Met l yX1_sumOnWay wsX1_sumOnWay RM_X1_sumOnWay (zPc (dC, dI) (zT cB cI cS cII) N (wX a cB cI cS cII) σ sz [.ref (a 4), .int x1, .ref (a 17)]) (zQi (dC, dI) (zT cB cI cS cII) (wX a cB cI cS cII) (va_A (wX a cB cI cS cII σ) sz) (fun (r : Int32) (σ1 : Cn) => σ1 = σ ∧ True)) 0 0 (va_A (wX a cB cI cS cII σ) sz) := by
  refine Met.ofW (cc := cX1_sumOnWay) (maxL := 5) (ret := (some .int)) (by decide) rfl ?_
  intro p e s m args below meth c s₁ B hml hv
  obtain ⟨rfl, hsz, hP, hK, hD0, hN⟩ := hv
  have hx := B.exec
  have hb := B.bytes
  have hr := B.returns
  have hts := atoms_spec (ws := wsX1_sumOnWay) B.pre
  have hown : s.vm.findClass RX1 = some m.cls := findClass_of_methodNamed B.named
  have hlocks := B.notSynchronized
  subst hsz
  have hD := hD0.self (sz := s.heap.size)
  generalize hAe : va_A (wX a cB cI cS cII σ) s.heap.size = A at hD hN ⊢
  have hA : ∀ q : Nat, s.heap.size ≤ q → A q := fun q h => by rw [← hAe]; exact Or.inr h
  clear hAe hD0
  have hS : va_S A s.heap s.heap [] := va_S.rf
  have in1 : ∀ w ∈ u_ws RX1 TX1 9, w ∈ wsX1_sumOnWay := by decide +kernel
  have k40 := hts (.fieldLink RX1 40 "HouseSorted$House" "things" "I") (by decide +kernel)
  have LP : ∀ n : Nat, (∀ (f : Int32) (j : Int32) (H : Heap) (locs : List Loc) (ls : Array Slot), 0 ≤ j.toInt ∧ j.toInt ≤ 10 → (10 - j.toInt).toNat < n → va_P (dC, dI) vwCl (wX a cB cI cS cII σ) H → va_D A (wX a cB cI cS cII σ) → va_S A s.heap H locs → lv_has ls 5 [(0, .ref (a 4)), (1, .int x1), (2, .ref (a 17)), (3, .int f), (4, .int j)] → W p l e (headSpec wsX1_sumOnWay RM_X1_sumOnWay).room s m ([.ref (a 4), .int x1, .ref (a 17)] : List Value).toArray below meth c H locs 0 0 (MQ below (zQi (dC, dI) (zT cB cI cS cII) (wX a cB cI cS cII) A (fun (r : Int32) (σ1 : Cn) => σ1 = σ ∧ True)) ([.ref (a 4), .int x1, .ref (a 17)] : List Value).toArray s 0 0 A) (F0 m 5 ls [])) := by
    intro n
    induction n with
    | zero => exact by intros; omega
    | succ n ih =>
      · intro f j H locs ls g1 hmu hP hD hS hl
        refine lv_iload hx hb dX1_sumOnWay_5 (lv_at hl 4 rfl) ?_
        refine lv_aload_n hx hb dX1_sumOnWay_7 rfl (lv_at hl 0 rfl) ?_
        refine va_get (D := (dC, dI)) (ci := 1) (v := .int (σ 4 2)) (C := RX1) (T := TX1) (N := 9) hx hb hts in1 hown hK hP 4 rfl rfl 2 (by decide) k40 (fun _ h9 => h9) rfl dX1_sumOnWay_8 ?_
        refine lv_icmp_ge (tgt := 37) hx hb dX1_sumOnWay_11 (by decide) (fun c11 => ?_) (fun c11 => ?_)
        · skip
          have ic11 := zle (a := (σ 4 2).toInt) (b := j.toInt) rfl rfl c11
          refine lv_iload_n hx hb dX1_sumOnWay_37 rfl (lv_at hl 3 rfl) ?_
          have hpost : σ = σ ∧ True := by exact ⟨rfl, trivial⟩
          exact W.iret (v := f) hx hb hr (fun t9 ht hW => ⟨⟨f, σ, rfl, hpost, by rw [ht]; exact hP, va_K.moved hW.alike hK, hD⟩, hS.F ht⟩) hS.2.2 dX1_sumOnWay_38
        · skip
          have ic11 := znle (a := (σ 4 2).toInt) (b := j.toInt) rfl rfl c11
          refine lv_aload_n hx hb dX1_sumOnWay_14 rfl (lv_at hl 0 rfl) ?_
          refine lv_iload hx hb dX1_sumOnWay_15 (lv_at hl 4 rfl) ?_
          refine zcalli (va_runV (As := [.int j]) (rest := []) ⟨hx, hb, hml, hown, hts⟩ (c_X1_wayOf l dC dI cB cI cS cII a N hok hn σ H.size (j) h0 (by omega)) (cwV 1 hts gX1_sumOnWay_X1_wayOf rfl rfl rfl (by decide +kernel) ⟨Nat.le_of_ble_eq_true rfl, Nat.le_of_ble_eq_true rfl⟩) (zpreV (wf := wX a cB cI cS cII) (q0 := 4) (ci := 1) hok hN hS hA hK hP hD rfl rfl) rfl rfl hl.1 rfl (lv_room (Nat.le_of_ble_eq_true rfl)) dX1_sumOnWay_17 ⟨Nat.zero_le _, Nat.zero_le _⟩) hD hS hA (fun v17 σ1 H locs hv17 hP hD hS => ?_)
          obtain ⟨es9, hv17⟩ := hv17
          subst σ1
          refine lv_iload_n hx hb dX1_sumOnWay_20 rfl (lv_at hl 1 rfl) ?_
          refine lv_icmp_ne (tgt := 31) hx hb dX1_sumOnWay_21 (by decide) (fun c21 => ?_) (fun c21 => ?_)
          · skip
            have ic21 := zneq (a := v17.toInt) (b := x1.toInt) rfl rfl c21
            obtain ⟨v31, ev31⟩ : ∃ y : Int32, y = j + 1 := ⟨_, rfl⟩
            refine lv_iinc (v := v31) (lv' := [(4, .int v31), (0, .ref (a 4)), (1, .int x1), (2, .ref (a 17)), (3, .int f)]) hx hb dX1_sumOnWay_31 hl (k := 4) rfl (by rw [ev31]; rfl) (by decide) rfl (fun ls hl => ?_)
            have tv31 : v31.toInt = j.toInt + 1 := by rw [ev31, zadd, show (1 : Int32).toInt = 1 from by decide]; omega
            refine lv_goto (tgt := 5) hx hb dX1_sumOnWay_34 (by decide) ?_
            exact ih (f) (v31)  H locs ls (by omega) (by omega) hP hD hS (lv_sub hl [1, 2, 3, 4, 0] rfl)
          · skip
            have ic21 := zeq (a := v17.toInt) (b := x1.toInt) rfl rfl c21
            refine lv_iload_n hx hb dX1_sumOnWay_24 rfl (lv_at hl 3 rfl) ?_
            refine lv_aload_n hx hb dX1_sumOnWay_25 rfl (lv_at hl 2 rfl) ?_
            refine lv_iload hx hb dX1_sumOnWay_26 (lv_at hl 4 rfl) ?_
            refine va_iald (D := (dC, dI)) (f := σ 17) hx hb hK hP 17 1 rfl rfl (i := j) (n := 10) (zin (by omega) (by omega)) dX1_sumOnWay_28 ?_
            refine lv_topi (fun v28 ev28 => ?_)
            have tv28 := congrArg Int32.toInt ev28
            refine lv_iadd hx hb dX1_sumOnWay_29 ?_
            refine lv_topi (fun v29 ev29 => ?_)
            refine lv_istore_n (lv' := [(3, .int v29), (0, .ref (a 4)), (1, .int x1), (2, .ref (a 17)), (4, .int j)]) hx hb dX1_sumOnWay_30 rfl hl (by decide) rfl (fun ls hl => ?_)
            obtain ⟨v31, ev31⟩ : ∃ y : Int32, y = j + 1 := ⟨_, rfl⟩
            refine lv_iinc (v := v31) (lv' := [(4, .int v31), (3, .int v29), (0, .ref (a 4)), (1, .int x1), (2, .ref (a 17))]) hx hb dX1_sumOnWay_31 hl (k := 4) rfl (by rw [ev31]; rfl) (by decide) rfl (fun ls hl => ?_)
            have tv31 : v31.toInt = j.toInt + 1 := by rw [ev31, zadd, show (1 : Int32).toInt = 1 from by decide]; omega
            refine lv_goto (tgt := 5) hx hb dX1_sumOnWay_34 (by decide) ?_
            exact ih (v29) (v31)  H locs ls (by omega) (by omega) hP hD hS (lv_sub hl [2, 3, 4, 1, 0] rfl)
  have hl := lv_entry ([.ref (a 4), .int x1, .ref (a 17)]) (n := 5) (Nat.le_of_ble_eq_true rfl)
  rw [lg_entry_eq]
  generalize (lg_sl ([.ref (a 4), .int x1, .ref (a 17)]) ++ List.replicate (5 - (lg_sl ([.ref (a 4), .int x1, .ref (a 17)])).length) Slot.unset).toArray = ls at hl ⊢
  have hl : lv_has ls 5 [(0, .ref (a 4)), (1, .int x1), (2, .ref (a 17))] := hl
  suffices main : ∀ (H : Heap) (locs : List Loc), va_P (dC, dI) vwCl (wX a cB cI cS cII σ) H → va_D A (wX a cB cI cS cII σ) → va_S A s.heap H locs → W p l e (headSpec wsX1_sumOnWay RM_X1_sumOnWay).room s m ([.ref (a 4), .int x1, .ref (a 17)] : List Value).toArray below meth c H locs 0 0 (MQ below (zQi (dC, dI) (zT cB cI cS cII) (wX a cB cI cS cII) A (fun (r : Int32) (σ1 : Cn) => σ1 = σ ∧ True)) ([.ref (a 4), .int x1, .ref (a 17)] : List Value).toArray s 0 0 A) (F0 m 0 ls []) from main s.heap [] hP hD hS
  intro H locs hP hD hS
  refine lv_iconst (v := 0) hx hb dX1_sumOnWay_0 (by decide) ?_
  refine lv_istore_n (lv' := [(3, .int 0), (0, .ref (a 4)), (1, .int x1), (2, .ref (a 17))]) hx hb dX1_sumOnWay_1 rfl hl (by decide) rfl (fun ls hl => ?_)
  refine lv_iconst (v := 0) hx hb dX1_sumOnWay_2 (by decide) ?_
  refine lv_istore (lv' := [(4, .int 0), (3, .int 0), (0, .ref (a 4)), (1, .int x1), (2, .ref (a 17))]) hx hb dX1_sumOnWay_3 hl (by decide) rfl (fun ls hl => ?_)
  exact (LP _) (0) (0)  H locs ls (by decide) (Nat.lt_succ_self _) hP hD hS (lv_sub hl [2, 3, 4, 1, 0] rfl)

abbrev RM_X1_secondLook : Room := { frames := 2, cells := 0, slots := 0, locals := 43 }
set_option maxHeartbeats 4000000 in
set_option maxRecDepth 100000 in
theorem c_X1_secondLook (l : Launch) (dC : Nat → ClassId) (dI : Nat → Nat → Nat) (cB cI cS cII : ClassId) (a : Nat → Nat) (N : (Nat → Prop) → State → Prop) (hok : zNok N) (hn : ∀ A U, N A U → zN U) (σ : Cn) (sz : Nat) (x1 : Int32) (h1 : 0 ≤ x1.toInt ∧ x1.toInt < 10) : Met l yX1_secondLook wsX1_secondLook RM_X1_secondLook (zPc (dC, dI) (zT cB cI cS cII) N (wX a cB cI cS cII) σ sz [.ref (a 4), .int x1]) (zQi (dC, dI) (zT cB cI cS cII) (wX a cB cI cS cII) (va_A (wX a cB cI cS cII σ) sz) (fun (r : Int32) (σ1 : Cn) => σ1 = σ ∧ True)) 0 0 (va_A (wX a cB cI cS cII σ) sz) := by
  refine Met.ofW (cc := cX1_secondLook) (maxL := 3) (ret := (some .int)) (by decide) rfl ?_
  intro p e s m args below meth c s₁ B hml hv
  obtain ⟨rfl, hsz, hP, hK, hD0, hN⟩ := hv
  have hx := B.exec
  have hb := B.bytes
  have hr := B.returns
  have hts := atoms_spec (ws := wsX1_secondLook) B.pre
  have hown : s.vm.findClass RX1 = some m.cls := findClass_of_methodNamed B.named
  have hlocks := B.notSynchronized
  subst hsz
  have hD := hD0.self (sz := s.heap.size)
  generalize hAe : va_A (wX a cB cI cS cII σ) s.heap.size = A at hD hN ⊢
  have hA : ∀ q : Nat, s.heap.size ≤ q → A q := fun q h => by rw [← hAe]; exact Or.inr h
  clear hAe hD0
  have hS : va_S A s.heap s.heap [] := va_S.rf
  have in1 : ∀ w ∈ u_ws RX1 TX1 9, w ∈ wsX1_secondLook := by decide +kernel
  have in2 : ∀ w ∈ u_ws RX2 TX2 6, w ∈ wsX1_secondLook := by decide +kernel
  have k15 := hts (.fieldLink RX1 15 "HouseSorted$House" "low" "[I") (by decide +kernel)
  have k18 := hts (.fieldLink RX1 18 "HouseSorted$House" "high" "[I") (by decide +kernel)
  have k32 := hts (.fieldLink RX1 32 "HouseSorted$House" "book" "LHouseSorted$LawBook;") (by decide +kernel)
  have k47 := hts (.fieldLink RX1 47 "HouseSorted$LawBook" "value" "[I") (by decide +kernel)
  have kcmax := hts (.code Lib.Math.max.name Lib.Math.max.code 2 (some .int)) (by decide +kernel)
  have kiM := hts (.initialized "java/lang/Math") (by decide +kernel)
  have km63 := hts (.methodLink RX1 63 Lib.Math.max.name) (by decide +kernel)
  have ksmax := hts (.static Lib.Math.max.name) (by decide +kernel)
  have hl := lv_entry ([.ref (a 4), .int x1]) (n := 3) (Nat.le_of_ble_eq_true rfl)
  rw [lg_entry_eq]
  generalize (lg_sl ([.ref (a 4), .int x1]) ++ List.replicate (3 - (lg_sl ([.ref (a 4), .int x1])).length) Slot.unset).toArray = ls at hl ⊢
  have hl : lv_has ls 3 [(0, .ref (a 4)), (1, .int x1)] := hl
  suffices main : ∀ (H : Heap) (locs : List Loc), va_P (dC, dI) vwCl (wX a cB cI cS cII σ) H → va_D A (wX a cB cI cS cII σ) → va_S A s.heap H locs → W p l e (headSpec wsX1_secondLook RM_X1_secondLook).room s m ([.ref (a 4), .int x1] : List Value).toArray below meth c H locs 0 0 (MQ below (zQi (dC, dI) (zT cB cI cS cII) (wX a cB cI cS cII) A (fun (r : Int32) (σ1 : Cn) => σ1 = σ ∧ True)) ([.ref (a 4), .int x1] : List Value).toArray s 0 0 A) (F0 m 0 ls []) from main s.heap [] hP hD hS
  intro H locs hP hD hS
  refine lv_aload_n hx hb dX1_secondLook_0 rfl (lv_at hl 0 rfl) ?_
  refine lv_iload_n hx hb dX1_secondLook_1 rfl (lv_at hl 1 rfl) ?_
  refine lv_bipush (v := 14) hx hb dX1_secondLook_2 (by decide) ?_
  refine zcalli (va_runV (As := [.int x1, .int 14]) (rest := []) ⟨hx, hb, hml, hown, hts⟩ (c_X1_hasMark l dC dI cB cI cS cII a N hok hn σ H.size (x1) (14) (by omega)) (cwV 2 hts gX1_secondLook_X1_hasMark rfl rfl rfl (by decide +kernel) ⟨Nat.le_of_ble_eq_true rfl, Nat.le_of_ble_eq_true rfl⟩) (zpreV (wf := wX a cB cI cS cII) (q0 := 4) (ci := 1) hok hN hS hA hK hP hD rfl rfl) rfl rfl hl.1 rfl (lv_room (Nat.le_of_ble_eq_true rfl)) dX1_secondLook_4 ⟨Nat.zero_le _, Nat.zero_le _⟩) hD hS hA (fun v4 σ1 H locs hv4 hP hD hS => ?_)
  obtain ⟨es9, hv4⟩ := hv4
  subst σ1
  try simp only [show (14 : Int32).toInt = 14 from by decide] at hv4
  refine lv_if_ne (tgt := 18) hx hb dX1_secondLook_7 (by decide) (fun c7 => ?_) (fun c7 => ?_)
  · skip
    have ic7 := zneq (a := v4.toInt) (b := 0) rfl (by decide) c7
    refine lv_iconst (v := 0) hx hb dX1_secondLook_18 (by decide) ?_
    have hpost : σ = σ ∧ True := by exact ⟨rfl, trivial⟩
    exact W.iret (v := 0) hx hb hr (fun t9 ht hW => ⟨⟨0, σ, rfl, hpost, by rw [ht]; exact hP, va_K.moved hW.alike hK, hD⟩, hS.F ht⟩) hS.2.2 dX1_secondLook_19
  · skip
    have ic7 := zeq (a := v4.toInt) (b := 0) rfl (by decide) c7
    refine lv_aload_n hx hb dX1_secondLook_10 rfl (lv_at hl 0 rfl) ?_
    refine lv_iload_n hx hb dX1_secondLook_11 rfl (lv_at hl 1 rfl) ?_
    refine zcalli (va_runV (As := [.int x1]) (rest := []) ⟨hx, hb, hml, hown, hts⟩ (c_X1_isKeptPaper l dC dI cB cI cS cII a N hok hn σ H.size (x1) (by omega)) (cwV 1 hts gX1_secondLook_X1_isKeptPaper rfl rfl rfl (by decide +kernel) ⟨Nat.le_of_ble_eq_true rfl, Nat.le_of_ble_eq_true rfl⟩) (zpreV (wf := wX a cB cI cS cII) (q0 := 4) (ci := 1) hok hN hS hA hK hP hD rfl rfl) rfl rfl hl.1 rfl (lv_room (Nat.le_of_ble_eq_true rfl)) dX1_secondLook_12 ⟨Nat.zero_le _, Nat.zero_le _⟩) hD hS hA (fun v12 σ1 H locs hv12 hP hD hS => ?_)
    obtain ⟨es9, hv12⟩ := hv12
    subst σ1
    refine lv_if_eq (tgt := 20) hx hb dX1_secondLook_15 (by decide) (fun c15 => ?_) (fun c15 => ?_)
    · skip
      have ic15 := zeq (a := v12.toInt) (b := 0) rfl (by decide) c15
      refine lv_aload_n hx hb dX1_secondLook_20 rfl (lv_at hl 0 rfl) ?_
      refine va_get (D := (dC, dI)) (ci := 1) (v := .ref (a 2)) (C := RX1) (T := TX1) (N := 9) hx hb hts in1 hown hK hP 4 rfl rfl 0 (by decide) k32 (fun _ h9 => h9) rfl dX1_secondLook_21 ?_
      refine va_get (D := (dC, dI)) (ci := 2) (v := .ref (a 13)) (C := RX2) (T := TX2) (N := 6) hx hb hts in2 hown hK hP 2 rfl rfl 0 (by decide) k47 (fun _ h9 => h9) rfl dX1_secondLook_24 ?_
      refine lv_iconst (v := 1) hx hb dX1_secondLook_27 (by decide) ?_
      refine va_iald (D := (dC, dI)) (f := σ 13) hx hb hK hP 13 1 rfl rfl (i := 1) (n := 7) (zin (by decide) (by decide)) dX1_secondLook_28 ?_
      refine lv_topi (fun v28 ev28 => ?_)
      have tv28 := congrArg Int32.toInt ev28
      refine lv_istore_n (lv' := [(2, .int v28), (0, .ref (a 4)), (1, .int x1)]) hx hb dX1_secondLook_29 rfl hl (by decide) rfl (fun ls hl => ?_)
      refine lv_aload_n hx hb dX1_secondLook_30 rfl (lv_at hl 1 rfl) ?_
      refine va_get (D := (dC, dI)) (ci := 1) (v := .ref (a 16)) (C := RX1) (T := TX1) (N := 9) hx hb hts in1 hown hK hP 4 rfl rfl 4 (by decide) k15 (fun _ h9 => h9) rfl dX1_secondLook_31 ?_
      refine lv_iload_n hx hb dX1_secondLook_34 rfl (lv_at hl 2 rfl) ?_
      refine va_iald (D := (dC, dI)) (f := σ 16) hx hb hK hP 16 1 rfl rfl (i := x1) (n := 10) (zin (by omega) (by omega)) dX1_secondLook_35 ?_
      refine lv_topi (fun v35 ev35 => ?_)
      have tv35 := congrArg Int32.toInt ev35
      refine lv_iload_n hx hb dX1_secondLook_36 rfl (lv_at hl 0 rfl) ?_
      refine lv_icmp_ge (tgt := 50) hx hb dX1_secondLook_37 (by decide) (fun c37 => ?_) (fun c37 => ?_)
      · skip
        have ic37 := zle (a := v28.toInt) (b := v35.toInt) rfl rfl c37
        refine lv_iconst (v := 0) hx hb dX1_secondLook_50 (by decide) ?_
        have hpost : σ = σ ∧ True := by exact ⟨rfl, trivial⟩
        exact W.iret (v := 0) hx hb hr (fun t9 ht hW => ⟨⟨0, σ, rfl, hpost, by rw [ht]; exact hP, va_K.moved hW.alike hK, hD⟩, hS.F ht⟩) hS.2.2 dX1_secondLook_51
      · skip
        have ic37 := znle (a := v28.toInt) (b := v35.toInt) rfl rfl c37
        refine lv_aload_n hx hb dX1_secondLook_40 rfl (lv_at hl 1 rfl) ?_
        refine va_get (D := (dC, dI)) (ci := 1) (v := .ref (a 17)) (C := RX1) (T := TX1) (N := 9) hx hb hts in1 hown hK hP 4 rfl rfl 5 (by decide) k18 (fun _ h9 => h9) rfl dX1_secondLook_41 ?_
        refine lv_iload_n hx hb dX1_secondLook_44 rfl (lv_at hl 2 rfl) ?_
        refine va_iald (D := (dC, dI)) (f := σ 17) hx hb hK hP 17 1 rfl rfl (i := x1) (n := 10) (zin (by omega) (by omega)) dX1_secondLook_45 ?_
        refine lv_topi (fun v45 ev45 => ?_)
        have tv45 := congrArg Int32.toInt ev45
        refine lv_iload_n hx hb dX1_secondLook_46 rfl (lv_at hl 0 rfl) ?_
        refine lv_icmp_ge (tgt := 52) hx hb dX1_secondLook_47 (by decide) (fun c47 => ?_) (fun c47 => ?_)
        · skip
          have ic47 := zle (a := v28.toInt) (b := v45.toInt) rfl rfl c47
          refine lv_iconst (v := 0) hx hb dX1_secondLook_52 (by decide) ?_
          refine lv_aload_n hx hb dX1_secondLook_53 rfl (lv_at hl 1 rfl) ?_
          refine va_get (D := (dC, dI)) (ci := 1) (v := .ref (a 17)) (C := RX1) (T := TX1) (N := 9) hx hb hts in1 hown hK hP 4 rfl rfl 5 (by decide) k18 (fun _ h9 => h9) rfl dX1_secondLook_54 ?_
          refine lv_iload_n hx hb dX1_secondLook_57 rfl (lv_at hl 2 rfl) ?_
          refine va_iald (D := (dC, dI)) (f := σ 17) hx hb hK hP 17 1 rfl rfl (i := x1) (n := 10) (zin (by omega) (by omega)) dX1_secondLook_58 ?_
          refine lv_topi (fun v58 ev58 => ?_)
          have tv58 := congrArg Int32.toInt ev58
          refine lv_iload_n hx hb dX1_secondLook_59 rfl (lv_at hl 0 rfl) ?_
          refine lv_isub hx hb dX1_secondLook_60 ?_
          refine lv_topi (fun v60 ev60 => ?_)
          refine lv_aload_n hx hb dX1_secondLook_61 rfl (lv_at hl 1 rfl) ?_
          refine va_get (D := (dC, dI)) (ci := 1) (v := .ref (a 2)) (C := RX1) (T := TX1) (N := 9) hx hb hts in1 hown hK hP 4 rfl rfl 0 (by decide) k32 (fun _ h9 => h9) rfl dX1_secondLook_62 ?_
          refine va_get (D := (dC, dI)) (ci := 2) (v := .ref (a 13)) (C := RX2) (T := TX2) (N := 6) hx hb hts in2 hown hK hP 2 rfl rfl 0 (by decide) k47 (fun _ h9 => h9) rfl dX1_secondLook_65 ?_
          refine lv_iconst (v := 4) hx hb dX1_secondLook_68 (by decide) ?_
          refine va_iald (D := (dC, dI)) (f := σ 13) hx hb hK hP 13 1 rfl rfl (i := 4) (n := 7) (zin (by decide) (by decide)) dX1_secondLook_69 ?_
          refine lv_topi (fun v69 ev69 => ?_)
          have tv69 := congrArg Int32.toInt ev69
          refine lv_isub hx hb dX1_secondLook_70 ?_
          refine lv_topi (fun v70 ev70 => ?_)
          refine va_mmax hx hb (hml.trans hl.1.symm) hown km63 ksmax kiM kcmax (Nat.le_of_ble_eq_true rfl) (Nat.le_of_ble_eq_true rfl) (Nat.zero_le _) (Nat.zero_le _) dX1_secondLook_71 ?_
          refine lv_topi (fun v71 ev71 => ?_)
          have tv71 := zmax (x := 0) (y := v70) (a := 0) (b := v70.toInt) (by decide) rfl ev71
          have hpost : σ = σ ∧ True := by exact ⟨rfl, trivial⟩
          exact W.iret (v := v71) hx hb hr (fun t9 ht hW => ⟨⟨v71, σ, rfl, hpost, by rw [ht]; exact hP, va_K.moved hW.alike hK, hD⟩, hS.F ht⟩) hS.2.2 dX1_secondLook_74
        · skip
          have ic47 := znle (a := v28.toInt) (b := v45.toInt) rfl rfl c47
          refine lv_iconst (v := 0) hx hb dX1_secondLook_50 (by decide) ?_
          have hpost : σ = σ ∧ True := by exact ⟨rfl, trivial⟩
          exact W.iret (v := 0) hx hb hr (fun t9 ht hW => ⟨⟨0, σ, rfl, hpost, by rw [ht]; exact hP, va_K.moved hW.alike hK, hD⟩, hS.F ht⟩) hS.2.2 dX1_secondLook_51
    · skip
      have ic15 := zneq (a := v12.toInt) (b := 0) rfl (by decide) c15
      refine lv_iconst (v := 0) hx hb dX1_secondLook_18 (by decide) ?_
      have hpost : σ = σ ∧ True := by exact ⟨rfl, trivial⟩
      exact W.iret (v := 0) hx hb hr (fun t9 ht hW => ⟨⟨0, σ, rfl, hpost, by rw [ht]; exact hP, va_K.moved hW.alike hK, hD⟩, hS.F ht⟩) hS.2.2 dX1_secondLook_19

abbrev RM_X1_addThing : Room := { frames := 0, cells := 0, slots := 0, locals := 0 }
set_option maxHeartbeats 4000000 in
set_option maxRecDepth 100000 in
theorem c_X1_addThing (l : Launch) (dC : Nat → ClassId) (dI : Nat → Nat → Nat) (cB cI cS cII : ClassId) (a : Nat → Nat) (N : (Nat → Prop) → State → Prop) (hok : zNok N) (hn : ∀ A U, N A U → zN U) (σ : Cn) (sz : Nat) (x1 : Int32) (x2 : Int32) (x3 : Int32) (x4 : Int32) (x5 : Int32) (h2 : 0 ≤ (σ 4 2).toInt ∧ (σ 4 2).toInt < 10) : Met l yX1_addThing wsX1_addThing RM_X1_addThing (zPc (dC, dI) (zT cB cI cS cII) N (wX a cB cI cS cII) σ sz [.ref (a 4), .int x1, .int x2, .int x3, .int x4, .int x5]) (zQi (dC, dI) (zT cB cI cS cII) (wX a cB cI cS cII) (va_A (wX a cB cI cS cII σ) sz) (fun (r : Int32) (σ1 : Cn) => ∃ u4 : Nat → Int32, ∃ u15 : Nat → Int32, ∃ u16 : Nat → Int32, ∃ u17 : Nat → Int32, ∃ u18 : Nat → Int32, ∃ u19 : Nat → Int32, ∃ u21 : Nat → Nat → Int32, σ1 = (upC (upC (upC (upC (upC (upC (upR σ 21 4 u21) 4 u4) 15 u15) 16 u16) 17 u17) 18 u18) 19 u19) ∧ u4 1 = σ 4 1 ∧ (u4 2).toInt = (σ 4 2).toInt + 1 ∧ (r : Int32) = σ 4 2)) 0 0 (va_A (wX a cB cI cS cII σ) sz) := by
  refine Met.ofW (cc := cX1_addThing) (maxL := 8) (ret := (some .int)) (by decide) rfl ?_
  intro p e s m args below meth c s₁ B hml hv
  obtain ⟨rfl, hsz, hP, hK, hD0, hN⟩ := hv
  have hx := B.exec
  have hb := B.bytes
  have hr := B.returns
  have hts := atoms_spec (ws := wsX1_addThing) B.pre
  have hown : s.vm.findClass RX1 = some m.cls := findClass_of_methodNamed B.named
  have hlocks := B.notSynchronized
  subst hsz
  have hD := hD0.self (sz := s.heap.size)
  generalize hAe : va_A (wX a cB cI cS cII σ) s.heap.size = A at hD hN ⊢
  have hA : ∀ q : Nat, s.heap.size ≤ q → A q := fun q h => by rw [← hAe]; exact Or.inr h
  clear hAe hD0
  have hS : va_S A s.heap s.heap [] := va_S.rf
  have in1 : ∀ w ∈ u_ws RX1 TX1 9, w ∈ wsX1_addThing := by decide +kernel
  have k15 := hts (.fieldLink RX1 15 "HouseSorted$House" "low" "[I") (by decide +kernel)
  have k18 := hts (.fieldLink RX1 18 "HouseSorted$House" "high" "[I") (by decide +kernel)
  have k21 := hts (.fieldLink RX1 21 "HouseSorted$House" "age" "[I") (by decide +kernel)
  have k24 := hts (.fieldLink RX1 24 "HouseSorted$House" "marks" "[I") (by decide +kernel)
  have k29 := hts (.fieldLink RX1 29 "HouseSorted$House" "worth" "[[I") (by decide +kernel)
  have k40 := hts (.fieldLink RX1 40 "HouseSorted$House" "things" "I") (by decide +kernel)
  have k9 := hts (.fieldLink RX1 9 "HouseSorted$House" "weight" "[I") (by decide +kernel)
  have LP : ∀ n : Nat, (∀ (t : Int32) (j : Int32) (w15 : Nat → Int32) (w16 : Nat → Int32) (w17 : Nat → Int32) (w18 : Nat → Int32) (w19 : Nat → Int32) (w21 : Nat → Nat → Int32) (H : Heap) (locs : List Loc) (ls : Array Slot), 0 ≤ j.toInt ∧ j.toInt ≤ 4 → t = σ 4 2 → (4 - j.toInt).toNat < n → va_P (dC, dI) vwCl (wX a cB cI cS cII (upC (upC (upC (upC (upC (upR σ 21 4 w21) 15 w15) 16 w16) 17 w17) 18 w18) 19 w19)) H → va_D A (wX a cB cI cS cII (upC (upC (upC (upC (upC (upR σ 21 4 w21) 15 w15) 16 w16) 17 w17) 18 w18) 19 w19)) → va_S A s.heap H locs → lv_has ls 8 [(0, .ref (a 4)), (6, .int t), (7, .int j)] → W p l e (headSpec wsX1_addThing RM_X1_addThing).room s m ([.ref (a 4), .int x1, .int x2, .int x3, .int x4, .int x5] : List Value).toArray below meth c H locs 0 0 (MQ below (zQi (dC, dI) (zT cB cI cS cII) (wX a cB cI cS cII) A (fun (r : Int32) (σ1 : Cn) => ∃ u4 : Nat → Int32, ∃ u15 : Nat → Int32, ∃ u16 : Nat → Int32, ∃ u17 : Nat → Int32, ∃ u18 : Nat → Int32, ∃ u19 : Nat → Int32, ∃ u21 : Nat → Nat → Int32, σ1 = (upC (upC (upC (upC (upC (upC (upR σ 21 4 u21) 4 u4) 15 u15) 16 u16) 17 u17) 18 u18) 19 u19) ∧ u4 1 = σ 4 1 ∧ (u4 2).toInt = (σ 4 2).toInt + 1 ∧ (r : Int32) = σ 4 2)) ([.ref (a 4), .int x1, .int x2, .int x3, .int x4, .int x5] : List Value).toArray s 0 0 A) (F0 m 51 ls [])) := by
    intro n
    induction n with
    | zero => exact by intros; omega
    | succ n ih =>
      · intro t j w15 w16 w17 w18 w19 w21 H locs ls g1 g2 hmu hP hD hS hl
        have ht6 : 0 ≤ t.toInt ∧ t.toInt < 10 := by rw [g2]; exact h2
        refine lv_iload hx hb dX1_addThing_51 (lv_at hl 2 rfl) ?_
        refine lv_iconst (v := 4) hx hb dX1_addThing_53 (by decide) ?_
        refine lv_icmp_ge (tgt := 74) hx hb dX1_addThing_54 (by decide) (fun c54 => ?_) (fun c54 => ?_)
        · skip
          have ic54 := zle (a := 4) (b := j.toInt) (by decide) rfl c54
          refine lv_aload_n hx hb dX1_addThing_74 rfl (lv_at hl 0 rfl) ?_
          refine lv_dup hx hb dX1_addThing_75 rfl ?_
          refine va_get (D := (dC, dI)) (ci := 1) (v := .int (σ 4 2)) (C := RX1) (T := TX1) (N := 9) hx hb hts in1 hown hK hP 4 rfl rfl 2 (by decide) k40 (fun _ h9 => h9) rfl dX1_addThing_76 ?_
          refine lv_iconst (v := 1) hx hb dX1_addThing_79 (by decide) ?_
          refine lv_iadd hx hb dX1_addThing_80 ?_
          refine lv_topi (fun v80 ev80 => ?_)
          have tv80 : v80.toInt = (σ 4 2).toInt + 1 := by rw [ev80, zadd, show (1 : Int32).toInt = 1 from by decide]; omega
          refine va_put (D := (dC, dI)) (ci := 1) (v := .int v80) (ty := .int) (C := RX1) (T := TX1) (N := 9) hx hb hts in1 tyX1 tyX1_ok nmX1 hown hK hP hD hS 4 rfl rfl 2 (by decide) k40 (fun _ h9 => h9) rfl (by decide +kernel) rfl rfl (Nat.le_of_ble_eq_true rfl) dX1_addThing_81 (fun H locs hP hD hS => ?_)
          have hP : va_P (dC, dI) vwCl (wX a cB cI cS cII (upC (upC (upC (upC (upC (upC (upR σ 21 4 w21) 4 (upd (σ 4) 2 v80)) 15 w15) 16 w16) 17 w17) 18 w18) 19 w19)) H := hP
          have hD : va_D A (wX a cB cI cS cII (upC (upC (upC (upC (upC (upC (upR σ 21 4 w21) 4 (upd (σ 4) 2 v80)) 15 w15) 16 w16) 17 w17) 18 w18) 19 w19)) := hD
          refine lv_iload hx hb dX1_addThing_84 (lv_at hl 1 rfl) ?_
          have hpost : ∃ u4 : Nat → Int32, ∃ u15 : Nat → Int32, ∃ u16 : Nat → Int32, ∃ u17 : Nat → Int32, ∃ u18 : Nat → Int32, ∃ u19 : Nat → Int32, ∃ u21 : Nat → Nat → Int32, (upC (upC (upC (upC (upC (upC (upR σ 21 4 w21) 4 (upd (σ 4) 2 v80)) 15 w15) 16 w16) 17 w17) 18 w18) 19 w19) = (upC (upC (upC (upC (upC (upC (upR σ 21 4 u21) 4 u4) 15 u15) 16 u16) 17 u17) 18 u18) 19 u19) ∧ u4 1 = σ 4 1 ∧ (u4 2).toInt = (σ 4 2).toInt + 1 ∧ (t : Int32) = σ 4 2 := by exact ⟨_, _, _, _, _, _, _, rfl, rfl, tv80, g2⟩
          exact W.iret (v := t) hx hb hr (fun t9 ht hW => ⟨⟨t, (upC (upC (upC (upC (upC (upC (upR σ 21 4 w21) 4 (upd (σ 4) 2 v80)) 15 w15) 16 w16) 17 w17) 18 w18) 19 w19), rfl, hpost, by rw [ht]; exact hP, va_K.moved hW.alike hK, hD⟩, hS.F ht⟩) hS.2.2 dX1_addThing_86
        · skip
          have ic54 := znle (a := 4) (b := j.toInt) (by decide) rfl c54
          refine lv_aload_n hx hb dX1_addThing_57 rfl (lv_at hl 0 rfl) ?_
          refine va_get (D := (dC, dI)) (ci := 1) (v := .ref (a 20)) (C := RX1) (T := TX1) (N := 9) hx hb hts in1 hown hK hP 4 rfl rfl 8 (by decide) k29 (fun _ h9 => h9) rfl dX1_addThing_58 ?_
          refine lv_iload hx hb dX1_addThing_61 (lv_at hl 2 rfl) ?_
          have hr63 : (j).toNatClampNeg < 4 := by have h9 := zcl (x := j) (by omega); omega
          refine zald hx hb hK hP 20 3 rfl rfl (i := j) (n := 4) (zin (by omega) (by omega)) (zro_in hr63) dX1_addThing_63 ?_
          refine lv_iload hx hb dX1_addThing_64 (lv_at hl 1 rfl) ?_
          refine lv_iconst (v := 0) hx hb dX1_addThing_66 (by decide) ?_
          refine va_iast (D := (dC, dI)) (f := (upC (upC (upC (upC (upC (upR σ 21 4 w21) 15 w15) 16 w16) 17 w17) 18 w18) 19 w19) (21 + (j).toNatClampNeg)) hx hb hK hP hD hS (21 + (j).toNatClampNeg) 1 (wX_row21 hr63) rfl (i := t) (n := 10) (zin (by omega) (by omega)) dX1_addThing_67 (fun H locs hP hD hS => ?_)
          rw [wX_set21 hr63] at hP hD
          obtain ⟨g67, eg67, hP, hD⟩ : ∃ g67 : Nat → Nat → Int32, g67 = (fun i => if i = (j).toNatClampNeg then upd ((upC (upC (upC (upC (upC (upR σ 21 4 w21) 15 w15) 16 w16) 17 w17) 18 w18) 19 w19) (21 + (j).toNatClampNeg)) (t).toNatClampNeg 0 else (upC (upC (upC (upC (upC (upR σ 21 4 w21) 15 w15) 16 w16) 17 w17) 18 w18) 19 w19) (21 + i)) ∧ va_P (dC, dI) vwCl (wX a cB cI cS cII (upC (upC (upC (upC (upC (upR σ 21 4 g67) 15 w15) 16 w16) 17 w17) 18 w18) 19 w19)) H ∧ va_D A (wX a cB cI cS cII (upC (upC (upC (upC (upC (upR σ 21 4 g67) 15 w15) 16 w16) 17 w17) 18 w18) 19 w19)) := ⟨_, rfl, hP, hD⟩
          obtain ⟨v68, ev68⟩ : ∃ y : Int32, y = j + 1 := ⟨_, rfl⟩
          refine lv_iinc (v := v68) (lv' := [(7, .int v68), (0, .ref (a 4)), (6, .int t)]) hx hb dX1_addThing_68 hl (k := 2) rfl (by rw [ev68]; rfl) (by decide) rfl (fun ls hl => ?_)
          have tv68 : v68.toInt = j.toInt + 1 := by rw [ev68, zadd, show (1 : Int32).toInt = 1 from by decide]; omega
          refine lv_goto (tgt := 51) hx hb dX1_addThing_71 (by decide) ?_
          exact ih (t) (v68) (w15) (w16) (w17) (w18) (w19) (g67) H locs ls (by omega) (by assumption) (by omega) hP hD hS (lv_sub hl [1, 2, 0] rfl)
  have hl := lv_entry ([.ref (a 4), .int x1, .int x2, .int x3, .int x4, .int x5]) (n := 8) (Nat.le_of_ble_eq_true rfl)
  rw [lg_entry_eq]
  generalize (lg_sl ([.ref (a 4), .int x1, .int x2, .int x3, .int x4, .int x5]) ++ List.replicate (8 - (lg_sl ([.ref (a 4), .int x1, .int x2, .int x3, .int x4, .int x5])).length) Slot.unset).toArray = ls at hl ⊢
  have hl : lv_has ls 8 [(0, .ref (a 4)), (1, .int x1), (2, .int x2), (3, .int x3), (4, .int x4), (5, .int x5)] := hl
  suffices main : ∀ (H : Heap) (locs : List Loc), va_P (dC, dI) vwCl (wX a cB cI cS cII σ) H → va_D A (wX a cB cI cS cII σ) → va_S A s.heap H locs → W p l e (headSpec wsX1_addThing RM_X1_addThing).room s m ([.ref (a 4), .int x1, .int x2, .int x3, .int x4, .int x5] : List Value).toArray below meth c H locs 0 0 (MQ below (zQi (dC, dI) (zT cB cI cS cII) (wX a cB cI cS cII) A (fun (r : Int32) (σ1 : Cn) => ∃ u4 : Nat → Int32, ∃ u15 : Nat → Int32, ∃ u16 : Nat → Int32, ∃ u17 : Nat → Int32, ∃ u18 : Nat → Int32, ∃ u19 : Nat → Int32, ∃ u21 : Nat → Nat → Int32, σ1 = (upC (upC (upC (upC (upC (upC (upR σ 21 4 u21) 4 u4) 15 u15) 16 u16) 17 u17) 18 u18) 19 u19) ∧ u4 1 = σ 4 1 ∧ (u4 2).toInt = (σ 4 2).toInt + 1 ∧ (r : Int32) = σ 4 2)) ([.ref (a 4), .int x1, .int x2, .int x3, .int x4, .int x5] : List Value).toArray s 0 0 A) (F0 m 0 ls []) from main s.heap [] hP hD hS
  intro H locs hP hD hS
  refine lv_aload_n hx hb dX1_addThing_0 rfl (lv_at hl 0 rfl) ?_
  refine va_get (D := (dC, dI)) (ci := 1) (v := .int (σ 4 2)) (C := RX1) (T := TX1) (N := 9) hx hb hts in1 hown hK hP 4 rfl rfl 2 (by decide) k40 (fun _ h9 => h9) rfl dX1_addThing_1 ?_
  refine lv_istore (lv' := [(6, .int (σ 4 2)), (0, .ref (a 4)), (1, .int x1), (2, .int x2), (3, .int x3), (4, .int x4), (5, .int x5)]) hx hb dX1_addThing_4 hl (by decide) rfl (fun ls hl => ?_)
  refine lv_aload_n hx hb dX1_addThing_6 rfl (lv_at hl 1 rfl) ?_
  refine va_get (D := (dC, dI)) (ci := 1) (v := .ref (a 15)) (C := RX1) (T := TX1) (N := 9) hx hb hts in1 hown hK hP 4 rfl rfl 3 (by decide) k9 (fun _ h9 => h9) rfl dX1_addThing_7 ?_
  refine lv_iload hx hb dX1_addThing_10 (lv_at hl 0 rfl) ?_
  refine lv_iload_n hx hb dX1_addThing_12 rfl (lv_at hl 2 rfl) ?_
  refine va_iast (D := (dC, dI)) (f := σ 15) hx hb hK hP hD hS 15 1 rfl rfl (i := σ 4 2) (n := 10) (zin (by omega) (by omega)) dX1_addThing_13 (fun H locs hP hD hS => ?_)
  have hP : va_P (dC, dI) vwCl (wX a cB cI cS cII (upC σ 15 (upd (σ 15) (σ 4 2 : Int32).toNatClampNeg x1))) H := hP
  have hD : va_D A (wX a cB cI cS cII (upC σ 15 (upd (σ 15) (σ 4 2 : Int32).toNatClampNeg x1))) := hD
  refine lv_aload_n hx hb dX1_addThing_14 rfl (lv_at hl 1 rfl) ?_
  refine va_get (D := (dC, dI)) (ci := 1) (v := .ref (a 16)) (C := RX1) (T := TX1) (N := 9) hx hb hts in1 hown hK hP 4 rfl rfl 4 (by decide) k15 (fun _ h9 => h9) rfl dX1_addThing_15 ?_
  refine lv_iload hx hb dX1_addThing_18 (lv_at hl 0 rfl) ?_
  refine lv_iload_n hx hb dX1_addThing_20 rfl (lv_at hl 3 rfl) ?_
  refine va_iast (D := (dC, dI)) (f := σ 16) hx hb hK hP hD hS 16 1 rfl rfl (i := σ 4 2) (n := 10) (zin (by omega) (by omega)) dX1_addThing_21 (fun H locs hP hD hS => ?_)
  have hP : va_P (dC, dI) vwCl (wX a cB cI cS cII (upC (upC σ 15 (upd (σ 15) (σ 4 2 : Int32).toNatClampNeg x1)) 16 (upd (σ 16) (σ 4 2 : Int32).toNatClampNeg x2))) H := hP
  have hD : va_D A (wX a cB cI cS cII (upC (upC σ 15 (upd (σ 15) (σ 4 2 : Int32).toNatClampNeg x1)) 16 (upd (σ 16) (σ 4 2 : Int32).toNatClampNeg x2))) := hD
  refine lv_aload_n hx hb dX1_addThing_22 rfl (lv_at hl 1 rfl) ?_
  refine va_get (D := (dC, dI)) (ci := 1) (v := .ref (a 17)) (C := RX1) (T := TX1) (N := 9) hx hb hts in1 hown hK hP 4 rfl rfl 5 (by decide) k18 (fun _ h9 => h9) rfl dX1_addThing_23 ?_
  refine lv_iload hx hb dX1_addThing_26 (lv_at hl 0 rfl) ?_
  refine lv_iload_n hx hb dX1_addThing_28 rfl (lv_at hl 4 rfl) ?_
  refine va_iast (D := (dC, dI)) (f := σ 17) hx hb hK hP hD hS 17 1 rfl rfl (i := σ 4 2) (n := 10) (zin (by omega) (by omega)) dX1_addThing_29 (fun H locs hP hD hS => ?_)
  have hP : va_P (dC, dI) vwCl (wX a cB cI cS cII (upC (upC (upC σ 15 (upd (σ 15) (σ 4 2 : Int32).toNatClampNeg x1)) 16 (upd (σ 16) (σ 4 2 : Int32).toNatClampNeg x2)) 17 (upd (σ 17) (σ 4 2 : Int32).toNatClampNeg x3))) H := hP
  have hD : va_D A (wX a cB cI cS cII (upC (upC (upC σ 15 (upd (σ 15) (σ 4 2 : Int32).toNatClampNeg x1)) 16 (upd (σ 16) (σ 4 2 : Int32).toNatClampNeg x2)) 17 (upd (σ 17) (σ 4 2 : Int32).toNatClampNeg x3))) := hD
  refine lv_aload_n hx hb dX1_addThing_30 rfl (lv_at hl 1 rfl) ?_
  refine va_get (D := (dC, dI)) (ci := 1) (v := .ref (a 18)) (C := RX1) (T := TX1) (N := 9) hx hb hts in1 hown hK hP 4 rfl rfl 6 (by decide) k21 (fun _ h9 => h9) rfl dX1_addThing_31 ?_
  refine lv_iload hx hb dX1_addThing_34 (lv_at hl 0 rfl) ?_
  refine lv_iload hx hb dX1_addThing_36 (lv_at hl 5 rfl) ?_
  refine va_iast (D := (dC, dI)) (f := σ 18) hx hb hK hP hD hS 18 1 rfl rfl (i := σ 4 2) (n := 10) (zin (by omega) (by omega)) dX1_addThing_38 (fun H locs hP hD hS => ?_)
  have hP : va_P (dC, dI) vwCl (wX a cB cI cS cII (upC (upC (upC (upC σ 15 (upd (σ 15) (σ 4 2 : Int32).toNatClampNeg x1)) 16 (upd (σ 16) (σ 4 2 : Int32).toNatClampNeg x2)) 17 (upd (σ 17) (σ 4 2 : Int32).toNatClampNeg x3)) 18 (upd (σ 18) (σ 4 2 : Int32).toNatClampNeg x4))) H := hP
  have hD : va_D A (wX a cB cI cS cII (upC (upC (upC (upC σ 15 (upd (σ 15) (σ 4 2 : Int32).toNatClampNeg x1)) 16 (upd (σ 16) (σ 4 2 : Int32).toNatClampNeg x2)) 17 (upd (σ 17) (σ 4 2 : Int32).toNatClampNeg x3)) 18 (upd (σ 18) (σ 4 2 : Int32).toNatClampNeg x4))) := hD
  refine lv_aload_n hx hb dX1_addThing_39 rfl (lv_at hl 1 rfl) ?_
  refine va_get (D := (dC, dI)) (ci := 1) (v := .ref (a 19)) (C := RX1) (T := TX1) (N := 9) hx hb hts in1 hown hK hP 4 rfl rfl 7 (by decide) k24 (fun _ h9 => h9) rfl dX1_addThing_40 ?_
  refine lv_iload hx hb dX1_addThing_43 (lv_at hl 0 rfl) ?_
  refine lv_iload hx hb dX1_addThing_45 (lv_at hl 6 rfl) ?_
  refine va_iast (D := (dC, dI)) (f := σ 19) hx hb hK hP hD hS 19 1 rfl rfl (i := σ 4 2) (n := 10) (zin (by omega) (by omega)) dX1_addThing_47 (fun H locs hP hD hS => ?_)
  have hP : va_P (dC, dI) vwCl (wX a cB cI cS cII (upC (upC (upC (upC (upC σ 15 (upd (σ 15) (σ 4 2 : Int32).toNatClampNeg x1)) 16 (upd (σ 16) (σ 4 2 : Int32).toNatClampNeg x2)) 17 (upd (σ 17) (σ 4 2 : Int32).toNatClampNeg x3)) 18 (upd (σ 18) (σ 4 2 : Int32).toNatClampNeg x4)) 19 (upd (σ 19) (σ 4 2 : Int32).toNatClampNeg x5))) H := hP
  have hD : va_D A (wX a cB cI cS cII (upC (upC (upC (upC (upC σ 15 (upd (σ 15) (σ 4 2 : Int32).toNatClampNeg x1)) 16 (upd (σ 16) (σ 4 2 : Int32).toNatClampNeg x2)) 17 (upd (σ 17) (σ 4 2 : Int32).toNatClampNeg x3)) 18 (upd (σ 18) (σ 4 2 : Int32).toNatClampNeg x4)) 19 (upd (σ 19) (σ 4 2 : Int32).toNatClampNeg x5))) := hD
  refine lv_iconst (v := 0) hx hb dX1_addThing_48 (by decide) ?_
  refine lv_istore (lv' := [(7, .int 0), (6, .int (σ 4 2)), (0, .ref (a 4)), (1, .int x1), (2, .int x2), (3, .int x3), (4, .int x4), (5, .int x5)]) hx hb dX1_addThing_49 hl (by decide) rfl (fun ls hl => ?_)
  exact (LP _) (σ 4 2) (0) (upd (σ 15) (σ 4 2 : Int32).toNatClampNeg x1) (upd (σ 16) (σ 4 2 : Int32).toNatClampNeg x2) (upd (σ 17) (σ 4 2 : Int32).toNatClampNeg x3) (upd (σ 18) (σ 4 2 : Int32).toNatClampNeg x4) (upd (σ 19) (σ 4 2 : Int32).toNatClampNeg x5) (fun i => σ (21 + i)) H locs ls (by decide) (rfl) (Nat.lt_succ_self _) hP hD hS (lv_sub hl [2, 1, 0] rfl)

