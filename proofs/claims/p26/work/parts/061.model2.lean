abbrev RM_X9_worth : Room := { frames := 2, cells := 0, slots := 0, locals := 46 }
set_option maxHeartbeats 4000000 in
set_option maxRecDepth 100000 in
theorem c_X9_worth (l : Launch) (dC : Nat → ClassId) (dI : Nat → Nat → Nat) (cI : ClassId) (a : Nat → Nat) (N : (Nat → Prop) → State → Prop) (hok : zNok N) (σ : Cn) (sz : Nat) (x1 : Int32) (x2 : Int32) (x3 : Int32) (h0 : 0 ≤ (σ 0 10).toInt ∧ (σ 0 10).toInt ≤ 4) (h2 : 0 ≤ (σ 0 11).toInt ∧ (σ 0 11).toInt ≤ 10) : Met l yX9_worth wsX9_worth RM_X9_worth (zPc (dC, dI) [(cI, .int)] N (wM a cI) σ sz [.ref (a 0), .int x1, .int x2, .int x3]) (zQi (dC, dI) [(cI, .int)] (wM a cI) (va_A (wM a cI σ) sz) (fun (r : Int32) (σ1 : Cn) => ∃ u9 : Nat → Int32, σ1 = (upC σ 9 u9) ∧ True)) 0 0 (va_A (wM a cI σ) sz) := by
  refine Met.ofW (cc := cX9_worth) (maxL := 5) (ret := (some .int)) (by decide) rfl ?_
  intro p e s m args below meth c s₁ B hml hv
  obtain ⟨rfl, hsz, hP, hK, hD0, hN⟩ := hv
  have hx := B.exec
  have hb := B.bytes
  have hr := B.returns
  have hts := atoms_spec (ws := wsX9_worth) B.pre
  have hown : s.vm.findClass RX9 = some m.cls := findClass_of_methodNamed B.named
  have hlocks := B.notSynchronized
  subst hsz
  have hD := hD0.self (sz := s.heap.size)
  generalize hAe : va_A (wM a cI σ) s.heap.size = A at hD hN ⊢
  have hA : ∀ q : Nat, s.heap.size ≤ q → A q := fun q h => by rw [← hAe]; exact Or.inr h
  clear hAe hD0
  have hS : va_S A s.heap s.heap [] := va_S.rf
  have in9 : ∀ w ∈ u_ws RX9 TX9 28, w ∈ wsX9_worth := by decide +kernel
  have k34 := hts (.fieldLink RX9 34 "HouseSortedModel" "worths" "[I") (by decide +kernel)
  have kq164 := hts (.constantLong RX9 164 (100)) (by decide +kernel)
  have hl := lv_entry ([.ref (a 0), .int x1, .int x2, .int x3]) (n := 5) (Nat.le_of_ble_eq_true rfl)
  rw [lg_entry_eq]
  generalize (lg_sl ([.ref (a 0), .int x1, .int x2, .int x3]) ++ List.replicate (5 - (lg_sl ([.ref (a 0), .int x1, .int x2, .int x3])).length) Slot.unset).toArray = ls at hl ⊢
  have hl : lv_has ls 5 [(0, .ref (a 0)), (1, .int x1), (2, .int x2), (3, .int x3)] := hl
  suffices main : ∀ (H : Heap) (locs : List Loc), va_P (dC, dI) vwCl (wM a cI σ) H → va_D A (wM a cI σ) → va_S A s.heap H locs → W p l e (headSpec wsX9_worth RM_X9_worth).room s m ([.ref (a 0), .int x1, .int x2, .int x3] : List Value).toArray below meth c H locs 0 0 (MQ below (zQi (dC, dI) [(cI, .int)] (wM a cI) A (fun (r : Int32) (σ1 : Cn) => ∃ u9 : Nat → Int32, σ1 = (upC σ 9 u9) ∧ True)) ([.ref (a 0), .int x1, .int x2, .int x3] : List Value).toArray s 0 0 A) (F0 m 0 ls []) from main s.heap [] hP hD hS
  intro H locs hP hD hS
  refine lv_aload_n hx hb dX9_worth_0 rfl (lv_at hl 0 rfl) ?_
  refine lv_iload_n hx hb dX9_worth_1 rfl (lv_at hl 1 rfl) ?_
  refine zcalli (va_runV (As := [.int x1]) (rest := []) ⟨hx, hb, hml, hown, hts⟩ (c_X9_isHeir l dC dI cI a N hok σ H.size (x1) h0) (cwV 1 hts gX9_worth_X9_isHeir rfl rfl rfl (by decide +kernel) ⟨Nat.le_of_ble_eq_true rfl, Nat.le_of_ble_eq_true rfl⟩) (zpreV (wf := wM a cI) (q0 := 0) (ci := 9) hok hN hS hA hK hP hD rfl rfl) rfl rfl hl.1 rfl (lv_room (Nat.le_of_ble_eq_true rfl)) dX9_worth_2 ⟨Nat.zero_le _, Nat.zero_le _⟩) hD hS hA (fun v2 σ1 H locs hv2 hP hD hS => ?_)
  obtain ⟨es9, hv2⟩ := hv2
  subst σ1
  refine lv_if_eq (tgt := 28) hx hb dX9_worth_5 (by decide) (fun c5 => ?_) (fun c5 => ?_)
  · skip
    have ic5 := zeq (a := v2.toInt) (b := 0) rfl (by decide) c5
    replace hv2 := (hv2.resolve_left (fun q => by omega)).2
    refine lv_iconst (v := (-1)) hx hb dX9_worth_28 (by decide) ?_
    have heq9 : σ = (upC σ 9 (σ 9)) := by
      funext k
      by_cases e9 : k = 9
      · subst e9; rfl
      simp only [upC, if_neg e9]
    have hpost : ∃ u9 : Nat → Int32, σ = (upC σ 9 u9) ∧ True := by refine ⟨(σ 9), heq9, ?_⟩; trivial
    exact W.iret (v := (-1)) hx hb hr (fun t9 ht hW => ⟨⟨(-1), σ, rfl, hpost, by rw [ht]; exact hP, va_K.moved hW.alike hK, hD⟩, hS.F ht⟩) hS.2.2 dX9_worth_29
  · skip
    have ic5 := zneq (a := v2.toInt) (b := 0) rfl (by decide) c5
    replace hv2 := (hv2.resolve_right (fun q => by omega)).2
    refine lv_aload_n hx hb dX9_worth_8 rfl (lv_at hl 0 rfl) ?_
    refine lv_iload_n hx hb dX9_worth_9 rfl (lv_at hl 2 rfl) ?_
    refine zcalli (va_runV (As := [.int x2]) (rest := []) ⟨hx, hb, hml, hown, hts⟩ (c_X9_isThing l dC dI cI a N hok σ H.size (x2) h2) (cwV 1 hts gX9_worth_X9_isThing rfl rfl rfl (by decide +kernel) ⟨Nat.le_of_ble_eq_true rfl, Nat.le_of_ble_eq_true rfl⟩) (zpreV (wf := wM a cI) (q0 := 0) (ci := 9) hok hN hS hA hK hP hD rfl rfl) rfl rfl hl.1 rfl (lv_room (Nat.le_of_ble_eq_true rfl)) dX9_worth_10 ⟨Nat.zero_le _, Nat.zero_le _⟩) hD hS hA (fun v10 σ1 H locs hv10 hP hD hS => ?_)
    obtain ⟨es9, hv10⟩ := hv10
    subst σ1
    refine lv_if_eq (tgt := 28) hx hb dX9_worth_13 (by decide) (fun c13 => ?_) (fun c13 => ?_)
    · skip
      have ic13 := zeq (a := v10.toInt) (b := 0) rfl (by decide) c13
      replace hv10 := (hv10.resolve_left (fun q => by omega)).2
      refine lv_iconst (v := (-1)) hx hb dX9_worth_28 (by decide) ?_
      have heq9 : σ = (upC σ 9 (σ 9)) := by
        funext k
        by_cases e9 : k = 9
        · subst e9; rfl
        simp only [upC, if_neg e9]
      have hpost : ∃ u9 : Nat → Int32, σ = (upC σ 9 u9) ∧ True := by refine ⟨(σ 9), heq9, ?_⟩; trivial
      exact W.iret (v := (-1)) hx hb hr (fun t9 ht hW => ⟨⟨(-1), σ, rfl, hpost, by rw [ht]; exact hP, va_K.moved hW.alike hK, hD⟩, hS.F ht⟩) hS.2.2 dX9_worth_29
    · skip
      have ic13 := zneq (a := v10.toInt) (b := 0) rfl (by decide) c13
      replace hv10 := (hv10.resolve_right (fun q => by omega)).2
      refine lv_iload_n hx hb dX9_worth_16 rfl (lv_at hl 3 rfl) ?_
      refine lv_i2l hx hb dX9_worth_17 rfl ?_
      refine lv_topl (fun v17 ev17 => ?_)
      have tv17 : v17.toInt = x3.toInt := by rw [ev17]; exact zi2l rfl
      refine lv_lconst (v := 0) hx hb dX9_worth_18 (by decide) ?_
      refine lv_ldc2 hx hb hown kq164 dX9_worth_19 ?_
      refine zcalli (va_runS (As := [.long v17, .long 0, .long 100]) (rest := []) ⟨hx, hb, hml, hown, hts⟩ (c_X9_in l dC dI cI a N hok σ H.size (v17) (0) (100) ) (va_cwS 3 hts gX9_worth_X9_in rfl rfl rfl (by decide +kernel) ⟨Nat.le_of_ble_eq_true rfl, Nat.le_of_ble_eq_true rfl⟩) (zpreS (wf := wM a cI) hok hN hS hA hK hP hD) rfl rfl hl.1 rfl (lv_room (Nat.le_of_ble_eq_true rfl)) dX9_worth_22 ⟨Nat.zero_le _, Nat.zero_le _⟩) hD hS hA (fun v22 σ1 H locs hv22 hP hD hS => ?_)
      obtain ⟨es9, hv22⟩ := hv22
      subst σ1
      try simp only [show (0 : Int64).toInt = 0 from by decide, show (100 : Int64).toInt = 100 from by decide] at hv22
      refine lv_if_ne (tgt := 30) hx hb dX9_worth_25 (by decide) (fun c25 => ?_) (fun c25 => ?_)
      · skip
        have ic25 := zneq (a := v22.toInt) (b := 0) rfl (by decide) c25
        refine lv_aload_n hx hb dX9_worth_30 rfl (lv_at hl 0 rfl) ?_
        refine va_get (D := (dC, dI)) (ci := 9) (v := .ref (a 9)) (C := RX9) (T := TX9) (N := 28) hx hb hts in9 hown hK hP 0 rfl rfl 17 (by decide) k34 (fun _ h9 => h9) rfl dX9_worth_31 ?_
        refine lv_bipush (v := 10) hx hb dX9_worth_34 (by decide) ?_
        refine lv_iload_n hx hb dX9_worth_36 rfl (lv_at hl 1 rfl) ?_
        refine lv_imul hx hb dX9_worth_37 ?_
        refine lv_topi (fun v37 ev37 => ?_)
        have tv37 : v37.toInt = 10 * x1.toInt := by rw [ev37, zmul, show (10 : Int32).toInt = 10 from by decide]; omega
        refine lv_iload_n hx hb dX9_worth_38 rfl (lv_at hl 2 rfl) ?_
        refine lv_iadd hx hb dX9_worth_39 ?_
        refine lv_topi (fun v39 ev39 => ?_)
        have tv39 : v39.toInt = v37.toInt + x2.toInt := by rw [ev39, zadd]; omega
        refine va_iald (D := (dC, dI)) (f := σ 9) hx hb hK hP 9 0 rfl rfl (i := v39) (n := 40) (zin (by omega) (by omega)) dX9_worth_40 ?_
        refine lv_topi (fun v40 ev40 => ?_)
        have tv40 := congrArg Int32.toInt ev40
        refine lv_istore (lv' := [(4, .int v40), (0, .ref (a 0)), (1, .int x1), (2, .int x2), (3, .int x3)]) hx hb dX9_worth_41 hl (by decide) rfl (fun ls hl => ?_)
        refine lv_aload_n hx hb dX9_worth_43 rfl (lv_at hl 1 rfl) ?_
        refine va_get (D := (dC, dI)) (ci := 9) (v := .ref (a 9)) (C := RX9) (T := TX9) (N := 28) hx hb hts in9 hown hK hP 0 rfl rfl 17 (by decide) k34 (fun _ h9 => h9) rfl dX9_worth_44 ?_
        refine lv_bipush (v := 10) hx hb dX9_worth_47 (by decide) ?_
        refine lv_iload_n hx hb dX9_worth_49 rfl (lv_at hl 2 rfl) ?_
        refine lv_imul hx hb dX9_worth_50 ?_
        refine lv_topi (fun v50 ev50 => ?_)
        have tv50 : v50.toInt = 10 * x1.toInt := by rw [ev50, zmul, show (10 : Int32).toInt = 10 from by decide]; omega
        refine lv_iload_n hx hb dX9_worth_51 rfl (lv_at hl 3 rfl) ?_
        refine lv_iadd hx hb dX9_worth_52 ?_
        refine lv_topi (fun v52 ev52 => ?_)
        have tv52 : v52.toInt = v50.toInt + x2.toInt := by rw [ev52, zadd]; omega
        refine lv_iload_n hx hb dX9_worth_53 rfl (lv_at hl 4 rfl) ?_
        refine va_iast (D := (dC, dI)) (f := σ 9) hx hb hK hP hD hS 9 0 rfl rfl (i := v52) (n := 40) (zin (by omega) (by omega)) dX9_worth_54 (fun H locs hP hD hS => ?_)
        have hP : va_P (dC, dI) vwCl (wM a cI (upC σ 9 (upd (σ 9) (v52).toNatClampNeg x3))) H := hP
        have hD : va_D A (wM a cI (upC σ 9 (upd (σ 9) (v52).toNatClampNeg x3))) := hD
        refine lv_iload hx hb dX9_worth_55 (lv_at hl 0 rfl) ?_
        have heq9 : (upC σ 9 (upd (σ 9) (v52).toNatClampNeg x3)) = (upC σ 9 (upd (σ 9) (v52).toNatClampNeg x3)) := rfl
        have hpost : ∃ u9 : Nat → Int32, (upC σ 9 (upd (σ 9) (v52).toNatClampNeg x3)) = (upC σ 9 u9) ∧ True := by refine ⟨(upd (σ 9) (v52).toNatClampNeg x3), heq9, ?_⟩; trivial
        exact W.iret (v := v40) hx hb hr (fun t9 ht hW => ⟨⟨v40, (upC σ 9 (upd (σ 9) (v52).toNatClampNeg x3)), rfl, hpost, by rw [ht]; exact hP, va_K.moved hW.alike hK, hD⟩, hS.F ht⟩) hS.2.2 dX9_worth_57
      · skip
        have ic25 := zeq (a := v22.toInt) (b := 0) rfl (by decide) c25
        refine lv_iconst (v := (-1)) hx hb dX9_worth_28 (by decide) ?_
        have heq9 : σ = (upC σ 9 (σ 9)) := by
          funext k
          by_cases e9 : k = 9
          · subst e9; rfl
          simp only [upC, if_neg e9]
        have hpost : ∃ u9 : Nat → Int32, σ = (upC σ 9 u9) ∧ True := by refine ⟨(σ 9), heq9, ?_⟩; trivial
        exact W.iret (v := (-1)) hx hb hr (fun t9 ht hW => ⟨⟨(-1), σ, rfl, hpost, by rw [ht]; exact hP, va_K.moved hW.alike hK, hD⟩, hS.F ht⟩) hS.2.2 dX9_worth_29

abbrev RM_X9_look : Room := { frames := 2, cells := 0, slots := 0, locals := 46 }
set_option maxHeartbeats 4000000 in
set_option maxRecDepth 100000 in
theorem c_X9_look (l : Launch) (dC : Nat → ClassId) (dI : Nat → Nat → Nat) (cI : ClassId) (a : Nat → Nat) (N : (Nat → Prop) → State → Prop) (hok : zNok N) (σ : Cn) (sz : Nat) (x1 : Int32) (x2 : Int32) (x3 : Int32) (h2 : 0 ≤ (σ 0 11).toInt ∧ (σ 0 11).toInt ≤ 10) : Met l yX9_look wsX9_look RM_X9_look (zPc (dC, dI) [(cI, .int)] N (wM a cI) σ sz [.ref (a 0), .int x1, .int x2, .int x3]) (zQi (dC, dI) [(cI, .int)] (wM a cI) (va_A (wM a cI σ) sz) (fun (r : Int32) (σ1 : Cn) => ∃ u5 : Nat → Int32, ∃ u6 : Nat → Int32, σ1 = (upC (upC σ 5 u5) 6 u6) ∧ True)) 0 0 (va_A (wM a cI σ) sz) := by
  refine Met.ofW (cc := cX9_look) (maxL := 4) (ret := (some .int)) (by decide) rfl ?_
  intro p e s m args below meth c s₁ B hml hv
  obtain ⟨rfl, hsz, hP, hK, hD0, hN⟩ := hv
  have hx := B.exec
  have hb := B.bytes
  have hr := B.returns
  have hts := atoms_spec (ws := wsX9_look) B.pre
  have hown : s.vm.findClass RX9 = some m.cls := findClass_of_methodNamed B.named
  have hlocks := B.notSynchronized
  subst hsz
  have hD := hD0.self (sz := s.heap.size)
  generalize hAe : va_A (wM a cI σ) s.heap.size = A at hD hN ⊢
  have hA : ∀ q : Nat, s.heap.size ≤ q → A q := fun q h => by rw [← hAe]; exact Or.inr h
  clear hAe hD0
  have hS : va_S A s.heap s.heap [] := va_S.rf
  have in9 : ∀ w ∈ u_ws RX9 TX9 28, w ∈ wsX9_look := by decide +kernel
  have k22 := hts (.fieldLink RX9 22 "HouseSortedModel" "lows" "[I") (by decide +kernel)
  have k25 := hts (.fieldLink RX9 25 "HouseSortedModel" "highs" "[I") (by decide +kernel)
  have kq151 := hts (.constantLong RX9 151 (1000)) (by decide +kernel)
  have hl := lv_entry ([.ref (a 0), .int x1, .int x2, .int x3]) (n := 4) (Nat.le_of_ble_eq_true rfl)
  rw [lg_entry_eq]
  generalize (lg_sl ([.ref (a 0), .int x1, .int x2, .int x3]) ++ List.replicate (4 - (lg_sl ([.ref (a 0), .int x1, .int x2, .int x3])).length) Slot.unset).toArray = ls at hl ⊢
  have hl : lv_has ls 4 [(0, .ref (a 0)), (1, .int x1), (2, .int x2), (3, .int x3)] := hl
  suffices main : ∀ (H : Heap) (locs : List Loc), va_P (dC, dI) vwCl (wM a cI σ) H → va_D A (wM a cI σ) → va_S A s.heap H locs → W p l e (headSpec wsX9_look RM_X9_look).room s m ([.ref (a 0), .int x1, .int x2, .int x3] : List Value).toArray below meth c H locs 0 0 (MQ below (zQi (dC, dI) [(cI, .int)] (wM a cI) A (fun (r : Int32) (σ1 : Cn) => ∃ u5 : Nat → Int32, ∃ u6 : Nat → Int32, σ1 = (upC (upC σ 5 u5) 6 u6) ∧ True)) ([.ref (a 0), .int x1, .int x2, .int x3] : List Value).toArray s 0 0 A) (F0 m 0 ls []) from main s.heap [] hP hD hS
  intro H locs hP hD hS
  refine lv_aload_n hx hb dX9_look_0 rfl (lv_at hl 0 rfl) ?_
  refine lv_iload_n hx hb dX9_look_1 rfl (lv_at hl 1 rfl) ?_
  refine zcalli (va_runV (As := [.int x1]) (rest := []) ⟨hx, hb, hml, hown, hts⟩ (c_X9_isThing l dC dI cI a N hok σ H.size (x1) h2) (cwV 1 hts gX9_look_X9_isThing rfl rfl rfl (by decide +kernel) ⟨Nat.le_of_ble_eq_true rfl, Nat.le_of_ble_eq_true rfl⟩) (zpreV (wf := wM a cI) (q0 := 0) (ci := 9) hok hN hS hA hK hP hD rfl rfl) rfl rfl hl.1 rfl (lv_room (Nat.le_of_ble_eq_true rfl)) dX9_look_2 ⟨Nat.zero_le _, Nat.zero_le _⟩) hD hS hA (fun v2 σ1 H locs hv2 hP hD hS => ?_)
  obtain ⟨es9, hv2⟩ := hv2
  subst σ1
  refine lv_if_eq (tgt := 43) hx hb dX9_look_5 (by decide) (fun c5 => ?_) (fun c5 => ?_)
  · skip
    have ic5 := zeq (a := v2.toInt) (b := 0) rfl (by decide) c5
    replace hv2 := (hv2.resolve_left (fun q => by omega)).2
    refine lv_iconst (v := (-1)) hx hb dX9_look_43 (by decide) ?_
    have heq9 : σ = (upC (upC σ 5 (σ 5)) 6 (σ 6)) := by
      funext k
      by_cases e5 : k = 5
      · subst e5; rfl
      by_cases e6 : k = 6
      · subst e6; rfl
      simp only [upC, if_neg e5, if_neg e6]
    have hpost : ∃ u5 : Nat → Int32, ∃ u6 : Nat → Int32, σ = (upC (upC σ 5 u5) 6 u6) ∧ True := by refine ⟨(σ 5), (σ 6), heq9, ?_⟩; trivial
    exact W.iret (v := (-1)) hx hb hr (fun t9 ht hW => ⟨⟨(-1), σ, rfl, hpost, by rw [ht]; exact hP, va_K.moved hW.alike hK, hD⟩, hS.F ht⟩) hS.2.2 dX9_look_44
  · skip
    have ic5 := zneq (a := v2.toInt) (b := 0) rfl (by decide) c5
    replace hv2 := (hv2.resolve_right (fun q => by omega)).2
    refine lv_iload_n hx hb dX9_look_8 rfl (lv_at hl 2 rfl) ?_
    refine lv_i2l hx hb dX9_look_9 rfl ?_
    refine lv_topl (fun v9 ev9 => ?_)
    have tv9 : v9.toInt = x2.toInt := by rw [ev9]; exact zi2l rfl
    refine lv_aload_n hx hb dX9_look_10 rfl (lv_at hl 0 rfl) ?_
    refine va_get (D := (dC, dI)) (ci := 9) (v := .ref (a 5)) (C := RX9) (T := TX9) (N := 28) hx hb hts in9 hown hK hP 0 rfl rfl 13 (by decide) k22 (fun _ h9 => h9) rfl dX9_look_11 ?_
    refine lv_iload_n hx hb dX9_look_14 rfl (lv_at hl 1 rfl) ?_
    refine va_iald (D := (dC, dI)) (f := σ 5) hx hb hK hP 5 0 rfl rfl (i := x1) (n := 10) (zin (by omega) (by omega)) dX9_look_15 ?_
    refine lv_topi (fun v15 ev15 => ?_)
    have tv15 := congrArg Int32.toInt ev15
    refine lv_i2l hx hb dX9_look_16 rfl ?_
    refine lv_topl (fun v16 ev16 => ?_)
    have tv16 : v16.toInt = v15.toInt := by rw [ev16]; exact zi2l rfl
    refine lv_ldc2 hx hb hown kq151 dX9_look_17 ?_
    refine zcalli (va_runS (As := [.long v9, .long v16, .long 1000]) (rest := []) ⟨hx, hb, hml, hown, hts⟩ (c_X9_in l dC dI cI a N hok σ H.size (v9) (v16) (1000) ) (va_cwS 3 hts gX9_look_X9_in rfl rfl rfl (by decide +kernel) ⟨Nat.le_of_ble_eq_true rfl, Nat.le_of_ble_eq_true rfl⟩) (zpreS (wf := wM a cI) hok hN hS hA hK hP hD) rfl rfl hl.1 rfl (lv_room (Nat.le_of_ble_eq_true rfl)) dX9_look_20 ⟨Nat.zero_le _, Nat.zero_le _⟩) hD hS hA (fun v20 σ1 H locs hv20 hP hD hS => ?_)
    obtain ⟨es9, hv20⟩ := hv20
    subst σ1
    try simp only [show (1000 : Int64).toInt = 1000 from by decide] at hv20
    refine lv_if_eq (tgt := 43) hx hb dX9_look_23 (by decide) (fun c23 => ?_) (fun c23 => ?_)
    · skip
      have ic23 := zeq (a := v20.toInt) (b := 0) rfl (by decide) c23
      refine lv_iconst (v := (-1)) hx hb dX9_look_43 (by decide) ?_
      have heq9 : σ = (upC (upC σ 5 (σ 5)) 6 (σ 6)) := by
        funext k
        by_cases e5 : k = 5
        · subst e5; rfl
        by_cases e6 : k = 6
        · subst e6; rfl
        simp only [upC, if_neg e5, if_neg e6]
      have hpost : ∃ u5 : Nat → Int32, ∃ u6 : Nat → Int32, σ = (upC (upC σ 5 u5) 6 u6) ∧ True := by refine ⟨(σ 5), (σ 6), heq9, ?_⟩; trivial
      exact W.iret (v := (-1)) hx hb hr (fun t9 ht hW => ⟨⟨(-1), σ, rfl, hpost, by rw [ht]; exact hP, va_K.moved hW.alike hK, hD⟩, hS.F ht⟩) hS.2.2 dX9_look_44
    · skip
      have ic23 := zneq (a := v20.toInt) (b := 0) rfl (by decide) c23
      refine lv_iload_n hx hb dX9_look_26 rfl (lv_at hl 3 rfl) ?_
      refine lv_i2l hx hb dX9_look_27 rfl ?_
      refine lv_topl (fun v27 ev27 => ?_)
      have tv27 : v27.toInt = x3.toInt := by rw [ev27]; exact zi2l rfl
      refine lv_iload_n hx hb dX9_look_28 rfl (lv_at hl 2 rfl) ?_
      refine lv_i2l hx hb dX9_look_29 rfl ?_
      refine lv_topl (fun v29 ev29 => ?_)
      have tv29 : v29.toInt = x2.toInt := by rw [ev29]; exact zi2l rfl
      refine lv_aload_n hx hb dX9_look_30 rfl (lv_at hl 0 rfl) ?_
      refine va_get (D := (dC, dI)) (ci := 9) (v := .ref (a 6)) (C := RX9) (T := TX9) (N := 28) hx hb hts in9 hown hK hP 0 rfl rfl 14 (by decide) k25 (fun _ h9 => h9) rfl dX9_look_31 ?_
      refine lv_iload_n hx hb dX9_look_34 rfl (lv_at hl 1 rfl) ?_
      refine va_iald (D := (dC, dI)) (f := σ 6) hx hb hK hP 6 0 rfl rfl (i := x1) (n := 10) (zin (by omega) (by omega)) dX9_look_35 ?_
      refine lv_topi (fun v35 ev35 => ?_)
      have tv35 := congrArg Int32.toInt ev35
      refine lv_i2l hx hb dX9_look_36 rfl ?_
      refine lv_topl (fun v36 ev36 => ?_)
      have tv36 : v36.toInt = v35.toInt := by rw [ev36]; exact zi2l rfl
      refine zcalli (va_runS (As := [.long v27, .long v29, .long v36]) (rest := []) ⟨hx, hb, hml, hown, hts⟩ (c_X9_in l dC dI cI a N hok σ H.size (v27) (v29) (v36) ) (va_cwS 3 hts gX9_look_X9_in rfl rfl rfl (by decide +kernel) ⟨Nat.le_of_ble_eq_true rfl, Nat.le_of_ble_eq_true rfl⟩) (zpreS (wf := wM a cI) hok hN hS hA hK hP hD) rfl rfl hl.1 rfl (lv_room (Nat.le_of_ble_eq_true rfl)) dX9_look_37 ⟨Nat.zero_le _, Nat.zero_le _⟩) hD hS hA (fun v37 σ1 H locs hv37 hP hD hS => ?_)
      obtain ⟨es9, hv37⟩ := hv37
      subst σ1
      refine lv_if_ne (tgt := 45) hx hb dX9_look_40 (by decide) (fun c40 => ?_) (fun c40 => ?_)
      · skip
        have ic40 := zneq (a := v37.toInt) (b := 0) rfl (by decide) c40
        refine lv_aload_n hx hb dX9_look_45 rfl (lv_at hl 0 rfl) ?_
        refine va_get (D := (dC, dI)) (ci := 9) (v := .ref (a 5)) (C := RX9) (T := TX9) (N := 28) hx hb hts in9 hown hK hP 0 rfl rfl 13 (by decide) k22 (fun _ h9 => h9) rfl dX9_look_46 ?_
        refine lv_iload_n hx hb dX9_look_49 rfl (lv_at hl 1 rfl) ?_
        refine lv_iload_n hx hb dX9_look_50 rfl (lv_at hl 2 rfl) ?_
        refine va_iast (D := (dC, dI)) (f := σ 5) hx hb hK hP hD hS 5 0 rfl rfl (i := x1) (n := 10) (zin (by omega) (by omega)) dX9_look_51 (fun H locs hP hD hS => ?_)
        have hP : va_P (dC, dI) vwCl (wM a cI (upC σ 5 (upd (σ 5) (x1).toNatClampNeg x2))) H := hP
        have hD : va_D A (wM a cI (upC σ 5 (upd (σ 5) (x1).toNatClampNeg x2))) := hD
        refine lv_aload_n hx hb dX9_look_52 rfl (lv_at hl 0 rfl) ?_
        refine va_get (D := (dC, dI)) (ci := 9) (v := .ref (a 6)) (C := RX9) (T := TX9) (N := 28) hx hb hts in9 hown hK hP 0 rfl rfl 14 (by decide) k25 (fun _ h9 => h9) rfl dX9_look_53 ?_
        refine lv_iload_n hx hb dX9_look_56 rfl (lv_at hl 1 rfl) ?_
        refine lv_iload_n hx hb dX9_look_57 rfl (lv_at hl 3 rfl) ?_
        refine va_iast (D := (dC, dI)) (f := σ 6) hx hb hK hP hD hS 6 0 rfl rfl (i := x1) (n := 10) (zin (by omega) (by omega)) dX9_look_58 (fun H locs hP hD hS => ?_)
        have hP : va_P (dC, dI) vwCl (wM a cI (upC (upC σ 5 (upd (σ 5) (x1).toNatClampNeg x2)) 6 (upd (σ 6) (x1).toNatClampNeg x3))) H := hP
        have hD : va_D A (wM a cI (upC (upC σ 5 (upd (σ 5) (x1).toNatClampNeg x2)) 6 (upd (σ 6) (x1).toNatClampNeg x3))) := hD
        refine lv_iconst (v := 1) hx hb dX9_look_59 (by decide) ?_
        have heq9 : (upC (upC σ 5 (upd (σ 5) (x1).toNatClampNeg x2)) 6 (upd (σ 6) (x1).toNatClampNeg x3)) = (upC (upC σ 5 (upd (σ 5) (x1).toNatClampNeg x2)) 6 (upd (σ 6) (x1).toNatClampNeg x3)) := rfl
        have hpost : ∃ u5 : Nat → Int32, ∃ u6 : Nat → Int32, (upC (upC σ 5 (upd (σ 5) (x1).toNatClampNeg x2)) 6 (upd (σ 6) (x1).toNatClampNeg x3)) = (upC (upC σ 5 u5) 6 u6) ∧ True := by refine ⟨(upd (σ 5) (x1).toNatClampNeg x2), (upd (σ 6) (x1).toNatClampNeg x3), heq9, ?_⟩; trivial
        exact W.iret (v := 1) hx hb hr (fun t9 ht hW => ⟨⟨1, (upC (upC σ 5 (upd (σ 5) (x1).toNatClampNeg x2)) 6 (upd (σ 6) (x1).toNatClampNeg x3)), rfl, hpost, by rw [ht]; exact hP, va_K.moved hW.alike hK, hD⟩, hS.F ht⟩) hS.2.2 dX9_look_60
      · skip
        have ic40 := zeq (a := v37.toInt) (b := 0) rfl (by decide) c40
        refine lv_iconst (v := (-1)) hx hb dX9_look_43 (by decide) ?_
        have heq9 : σ = (upC (upC σ 5 (σ 5)) 6 (σ 6)) := by
          funext k
          by_cases e5 : k = 5
          · subst e5; rfl
          by_cases e6 : k = 6
          · subst e6; rfl
          simp only [upC, if_neg e5, if_neg e6]
        have hpost : ∃ u5 : Nat → Int32, ∃ u6 : Nat → Int32, σ = (upC (upC σ 5 u5) 6 u6) ∧ True := by refine ⟨(σ 5), (σ 6), heq9, ?_⟩; trivial
        exact W.iret (v := (-1)) hx hb hr (fun t9 ht hW => ⟨⟨(-1), σ, rfl, hpost, by rw [ht]; exact hP, va_K.moved hW.alike hK, hD⟩, hS.F ht⟩) hS.2.2 dX9_look_44

abbrev RM_X9_has : Room := { frames := 0, cells := 0, slots := 0, locals := 0 }
set_option maxHeartbeats 4000000 in
set_option maxRecDepth 100000 in
theorem c_X9_has (l : Launch) (dC : Nat → ClassId) (dI : Nat → Nat → Nat) (cI : ClassId) (a : Nat → Nat) (N : (Nat → Prop) → State → Prop) (hok : zNok N) (σ : Cn) (sz : Nat) (x1 : Int32) (x2 : Int32) (h1 : 0 ≤ x1.toInt ∧ x1.toInt < 10) : Met l yX9_has wsX9_has RM_X9_has (zPc (dC, dI) [(cI, .int)] N (wM a cI) σ sz [.ref (a 0), .int x1, .int x2]) (zQi (dC, dI) [(cI, .int)] (wM a cI) (va_A (wM a cI σ) sz) (fun (r : Int32) (σ1 : Cn) => σ1 = σ ∧ (((r : Int32).toInt = 1 ∧ mHas (σ 8) x1.toNatClampNeg x2) ∨ ((r : Int32).toInt = 0 ∧ ¬ mHas (σ 8) x1.toNatClampNeg x2)))) 0 0 (va_A (wM a cI σ) sz) := by
  refine Met.ofW (cc := cX9_has) (maxL := 3) (ret := (some .boolean)) (by decide) rfl ?_
  intro p e s m args below meth c s₁ B hml hv
  obtain ⟨rfl, hsz, hP, hK, hD0, hN⟩ := hv
  have hx := B.exec
  have hb := B.bytes
  have hr := B.returns
  have hts := atoms_spec (ws := wsX9_has) B.pre
  have hown : s.vm.findClass RX9 = some m.cls := findClass_of_methodNamed B.named
  have hlocks := B.notSynchronized
  subst hsz
  have hD := hD0.self (sz := s.heap.size)
  generalize hAe : va_A (wM a cI σ) s.heap.size = A at hD hN ⊢
  have hA : ∀ q : Nat, s.heap.size ≤ q → A q := fun q h => by rw [← hAe]; exact Or.inr h
  clear hAe hD0
  have hS : va_S A s.heap s.heap [] := va_S.rf
  have in9 : ∀ w ∈ u_ws RX9 TX9 28, w ∈ wsX9_has := by decide +kernel
  have k31 := hts (.fieldLink RX9 31 "HouseSortedModel" "marks" "[I") (by decide +kernel)
  have hl := lv_entry ([.ref (a 0), .int x1, .int x2]) (n := 3) (Nat.le_of_ble_eq_true rfl)
  rw [lg_entry_eq]
  generalize (lg_sl ([.ref (a 0), .int x1, .int x2]) ++ List.replicate (3 - (lg_sl ([.ref (a 0), .int x1, .int x2])).length) Slot.unset).toArray = ls at hl ⊢
  have hl : lv_has ls 3 [(0, .ref (a 0)), (1, .int x1), (2, .int x2)] := hl
  suffices main : ∀ (H : Heap) (locs : List Loc), va_P (dC, dI) vwCl (wM a cI σ) H → va_D A (wM a cI σ) → va_S A s.heap H locs → W p l e (headSpec wsX9_has RM_X9_has).room s m ([.ref (a 0), .int x1, .int x2] : List Value).toArray below meth c H locs 0 0 (MQ below (zQi (dC, dI) [(cI, .int)] (wM a cI) A (fun (r : Int32) (σ1 : Cn) => σ1 = σ ∧ (((r : Int32).toInt = 1 ∧ mHas (σ 8) x1.toNatClampNeg x2) ∨ ((r : Int32).toInt = 0 ∧ ¬ mHas (σ 8) x1.toNatClampNeg x2)))) ([.ref (a 0), .int x1, .int x2] : List Value).toArray s 0 0 A) (F0 m 0 ls []) from main s.heap [] hP hD hS
  intro H locs hP hD hS
  refine lv_aload_n hx hb dX9_has_0 rfl (lv_at hl 0 rfl) ?_
  refine va_get (D := (dC, dI)) (ci := 9) (v := .ref (a 8)) (C := RX9) (T := TX9) (N := 28) hx hb hts in9 hown hK hP 0 rfl rfl 16 (by decide) k31 (fun _ h9 => h9) rfl dX9_has_1 ?_
  refine lv_iload_n hx hb dX9_has_4 rfl (lv_at hl 1 rfl) ?_
  refine va_iald (D := (dC, dI)) (f := σ 8) hx hb hK hP 8 0 rfl rfl (i := x1) (n := 10) (zin (by omega) (by omega)) dX9_has_5 ?_
  refine lv_topi (fun v5 ev5 => ?_)
  have tv5 := congrArg Int32.toInt ev5
  refine lv_iload_n hx hb dX9_has_6 rfl (lv_at hl 2 rfl) ?_
  refine lv_ishr hx hb dX9_has_7 ?_
  refine lv_topi (fun v7 ev7 => ?_)
  refine lv_iconst (v := 1) hx hb dX9_has_8 (by decide) ?_
  refine lv_iand hx hb dX9_has_9 ?_
  refine lv_topi (fun v9 ev9 => ?_)
  refine lv_iconst (v := 1) hx hb dX9_has_10 (by decide) ?_
  refine lv_icmp_ne (tgt := 18) hx hb dX9_has_11 (by decide) (fun c11 => ?_) (fun c11 => ?_)
  · skip
    have ic11 := zneq (a := v9.toInt) (b := 1) rfl (by decide) c11
    refine lv_iconst (v := 0) hx hb dX9_has_18 (by decide) ?_
    have heq9 : σ = σ := rfl
    have hpost : σ = σ ∧ (((0 : Int32).toInt = 1 ∧ mHas (σ 8) x1.toNatClampNeg x2) ∨ ((0 : Int32).toInt = 0 ∧ ¬ mHas (σ 8) x1.toNatClampNeg x2)) := by refine ⟨heq9, ?_⟩; first | exact Or.inl ⟨by decide, by show (σ 8 x1.toNatClampNeg >>> (x2 &&& 31)) &&& 1 = 1; rw [← ev5, ← ev7, ← ev9]; exact c11⟩ | exact Or.inr ⟨by decide, by show ¬ (σ 8 x1.toNatClampNeg >>> (x2 &&& 31)) &&& 1 = 1; rw [← ev5, ← ev7, ← ev9]; exact c11⟩
    exact W.zret (v := 0) hx hb hr (by decide +kernel) (fun t9 ht hW => ⟨⟨0, σ, rfl, hpost, by rw [ht]; exact hP, va_K.moved hW.alike hK, hD⟩, hS.F ht⟩) hS.2.2 dX9_has_19
  · skip
    have ic11 := zeq (a := v9.toInt) (b := 1) rfl (by decide) c11
    refine lv_iconst (v := 1) hx hb dX9_has_14 (by decide) ?_
    refine lv_goto (tgt := 19) hx hb dX9_has_15 (by decide) ?_
    have heq9 : σ = σ := rfl
    have hpost : σ = σ ∧ (((1 : Int32).toInt = 1 ∧ mHas (σ 8) x1.toNatClampNeg x2) ∨ ((1 : Int32).toInt = 0 ∧ ¬ mHas (σ 8) x1.toNatClampNeg x2)) := by refine ⟨heq9, ?_⟩; first | exact Or.inl ⟨by decide, by show (σ 8 x1.toNatClampNeg >>> (x2 &&& 31)) &&& 1 = 1; rw [← ev5, ← ev7, ← ev9]; exact c11⟩ | exact Or.inr ⟨by decide, by show ¬ (σ 8 x1.toNatClampNeg >>> (x2 &&& 31)) &&& 1 = 1; rw [← ev5, ← ev7, ← ev9]; exact c11⟩
    exact W.zret (v := 1) hx hb hr (by decide +kernel) (fun t9 ht hW => ⟨⟨1, σ, rfl, hpost, by rw [ht]; exact hP, va_K.moved hW.alike hK, hD⟩, hS.F ht⟩) hS.2.2 dX9_has_19

abbrev RM_X9_sent : Room := { frames := 1, cells := 0, slots := 0, locals := 22 }
set_option maxHeartbeats 4000000 in
set_option maxRecDepth 100000 in
theorem c_X9_sent (l : Launch) (dC : Nat → ClassId) (dI : Nat → Nat → Nat) (cI : ClassId) (a : Nat → Nat) (N : (Nat → Prop) → State → Prop) (hok : zNok N) (σ : Cn) (sz : Nat) (x1 : Int32) (h1 : 0 ≤ x1.toInt ∧ x1.toInt < 10) : Met l yX9_sent wsX9_sent RM_X9_sent (zPc (dC, dI) [(cI, .int)] N (wM a cI) σ sz [.ref (a 0), .int x1]) (zQi (dC, dI) [(cI, .int)] (wM a cI) (va_A (wM a cI σ) sz) (fun (r : Int32) (σ1 : Cn) => σ1 = σ ∧ (r : Int32) = mSent σ x1.toNatClampNeg)) 0 0 (va_A (wM a cI σ) sz) := by
  refine Met.ofW (cc := cX9_sent) (maxL := 2) (ret := (some .int)) (by decide) rfl ?_
  intro p e s m args below meth c s₁ B hml hv
  obtain ⟨rfl, hsz, hP, hK, hD0, hN⟩ := hv
  have hx := B.exec
  have hb := B.bytes
  have hr := B.returns
  have hts := atoms_spec (ws := wsX9_sent) B.pre
  have hown : s.vm.findClass RX9 = some m.cls := findClass_of_methodNamed B.named
  have hlocks := B.notSynchronized
  subst hsz
  have hD := hD0.self (sz := s.heap.size)
  generalize hAe : va_A (wM a cI σ) s.heap.size = A at hD hN ⊢
  have hA : ∀ q : Nat, s.heap.size ≤ q → A q := fun q h => by rw [← hAe]; exact Or.inr h
  clear hAe hD0
  have hS : va_S A s.heap s.heap [] := va_S.rf
  have in9 : ∀ w ∈ u_ws RX9 TX9 28, w ∈ wsX9_sent := by decide +kernel
  have k28 := hts (.fieldLink RX9 28 "HouseSortedModel" "ages" "[I") (by decide +kernel)
  have hl := lv_entry ([.ref (a 0), .int x1]) (n := 2) (Nat.le_of_ble_eq_true rfl)
  rw [lg_entry_eq]
  generalize (lg_sl ([.ref (a 0), .int x1]) ++ List.replicate (2 - (lg_sl ([.ref (a 0), .int x1])).length) Slot.unset).toArray = ls at hl ⊢
  have hl : lv_has ls 2 [(0, .ref (a 0)), (1, .int x1)] := hl
  suffices main : ∀ (H : Heap) (locs : List Loc), va_P (dC, dI) vwCl (wM a cI σ) H → va_D A (wM a cI σ) → va_S A s.heap H locs → W p l e (headSpec wsX9_sent RM_X9_sent).room s m ([.ref (a 0), .int x1] : List Value).toArray below meth c H locs 0 0 (MQ below (zQi (dC, dI) [(cI, .int)] (wM a cI) A (fun (r : Int32) (σ1 : Cn) => σ1 = σ ∧ (r : Int32) = mSent σ x1.toNatClampNeg)) ([.ref (a 0), .int x1] : List Value).toArray s 0 0 A) (F0 m 0 ls []) from main s.heap [] hP hD hS
  intro H locs hP hD hS
  refine lv_aload_n hx hb dX9_sent_0 rfl (lv_at hl 0 rfl) ?_
  refine lv_iload_n hx hb dX9_sent_1 rfl (lv_at hl 1 rfl) ?_
  refine lv_iconst (v := 2) hx hb dX9_sent_2 (by decide) ?_
  refine zcalli (va_runV (As := [.int x1, .int 2]) (rest := []) ⟨hx, hb, hml, hown, hts⟩ (c_X9_has l dC dI cI a N hok σ H.size (x1) (2) (by omega)) (cwV 2 hts gX9_sent_X9_has rfl rfl rfl (by decide +kernel) ⟨Nat.le_of_ble_eq_true rfl, Nat.le_of_ble_eq_true rfl⟩) (zpreV (wf := wM a cI) (q0 := 0) (ci := 9) hok hN hS hA hK hP hD rfl rfl) rfl rfl hl.1 rfl (lv_room (Nat.le_of_ble_eq_true rfl)) dX9_sent_3 ⟨Nat.zero_le _, Nat.zero_le _⟩) hD hS hA (fun v3 σ1 H locs hv3 hP hD hS => ?_)
  obtain ⟨es9, hv3⟩ := hv3
  subst σ1
  try simp only [show (2 : Int32).toInt = 2 from by decide] at hv3
  refine lv_if_eq (tgt := 18) hx hb dX9_sent_6 (by decide) (fun c6 => ?_) (fun c6 => ?_)
  · skip
    have ic6 := zeq (a := v3.toInt) (b := 0) rfl (by decide) c6
    replace hv3 := (hv3.resolve_left (fun q => by omega)).2
    refine lv_aload_n hx hb dX9_sent_18 rfl (lv_at hl 0 rfl) ?_
    refine lv_iload_n hx hb dX9_sent_19 rfl (lv_at hl 1 rfl) ?_
    refine lv_iconst (v := 1) hx hb dX9_sent_20 (by decide) ?_
    refine zcalli (va_runV (As := [.int x1, .int 1]) (rest := []) ⟨hx, hb, hml, hown, hts⟩ (c_X9_has l dC dI cI a N hok σ H.size (x1) (1) (by omega)) (cwV 2 hts gX9_sent_X9_has rfl rfl rfl (by decide +kernel) ⟨Nat.le_of_ble_eq_true rfl, Nat.le_of_ble_eq_true rfl⟩) (zpreV (wf := wM a cI) (q0 := 0) (ci := 9) hok hN hS hA hK hP hD rfl rfl) rfl rfl hl.1 rfl (lv_room (Nat.le_of_ble_eq_true rfl)) dX9_sent_21 ⟨Nat.zero_le _, Nat.zero_le _⟩) hD hS hA (fun v21 σ1 H locs hv21 hP hD hS => ?_)
    obtain ⟨es9, hv21⟩ := hv21
    subst σ1
    try simp only [show (1 : Int32).toInt = 1 from by decide] at hv21
    refine lv_if_eq (tgt := 35) hx hb dX9_sent_24 (by decide) (fun c24 => ?_) (fun c24 => ?_)
    · skip
      have ic24 := zeq (a := v21.toInt) (b := 0) rfl (by decide) c24
      replace hv21 := (hv21.resolve_left (fun q => by omega)).2
      refine lv_aload_n hx hb dX9_sent_35 rfl (lv_at hl 0 rfl) ?_
      refine lv_iload_n hx hb dX9_sent_36 rfl (lv_at hl 1 rfl) ?_
      refine lv_iconst (v := 0) hx hb dX9_sent_37 (by decide) ?_
      refine zcalli (va_runV (As := [.int x1, .int 0]) (rest := []) ⟨hx, hb, hml, hown, hts⟩ (c_X9_has l dC dI cI a N hok σ H.size (x1) (0) (by omega)) (cwV 2 hts gX9_sent_X9_has rfl rfl rfl (by decide +kernel) ⟨Nat.le_of_ble_eq_true rfl, Nat.le_of_ble_eq_true rfl⟩) (zpreV (wf := wM a cI) (q0 := 0) (ci := 9) hok hN hS hA hK hP hD rfl rfl) rfl rfl hl.1 rfl (lv_room (Nat.le_of_ble_eq_true rfl)) dX9_sent_38 ⟨Nat.zero_le _, Nat.zero_le _⟩) hD hS hA (fun v38 σ1 H locs hv38 hP hD hS => ?_)
      obtain ⟨es9, hv38⟩ := hv38
      subst σ1
      try simp only [show (0 : Int32).toInt = 0 from by decide] at hv38
      refine lv_if_eq (tgt := 62) hx hb dX9_sent_41 (by decide) (fun c41 => ?_) (fun c41 => ?_)
      · skip
        have ic41 := zeq (a := v38.toInt) (b := 0) rfl (by decide) c41
        replace hv38 := (hv38.resolve_left (fun q => by omega)).2
        have hk : ¬ (mHas (σ 8) x1.toNatClampNeg 0 ∧ σ 7 x1.toNatClampNeg ≤ mLaw (σ 2) 0) := fun q => hv38 q.1
        refine lv_aload_n hx hb dX9_sent_62 rfl (lv_at hl 0 rfl) ?_
        refine lv_iload_n hx hb dX9_sent_63 rfl (lv_at hl 1 rfl) ?_
        refine lv_iconst (v := 3) hx hb dX9_sent_64 (by decide) ?_
        refine zcalli (va_runV (As := [.int x1, .int 3]) (rest := []) ⟨hx, hb, hml, hown, hts⟩ (c_X9_has l dC dI cI a N hok σ H.size (x1) (3) (by omega)) (cwV 2 hts gX9_sent_X9_has rfl rfl rfl (by decide +kernel) ⟨Nat.le_of_ble_eq_true rfl, Nat.le_of_ble_eq_true rfl⟩) (zpreV (wf := wM a cI) (q0 := 0) (ci := 9) hok hN hS hA hK hP hD rfl rfl) rfl rfl hl.1 rfl (lv_room (Nat.le_of_ble_eq_true rfl)) dX9_sent_65 ⟨Nat.zero_le _, Nat.zero_le _⟩) hD hS hA (fun v65 σ1 H locs hv65 hP hD hS => ?_)
        obtain ⟨es9, hv65⟩ := hv65
        subst σ1
        try simp only [show (3 : Int32).toInt = 3 from by decide] at hv65
        refine lv_if_eq (tgt := 75) hx hb dX9_sent_68 (by decide) (fun c68 => ?_) (fun c68 => ?_)
        · skip
          have ic68 := zeq (a := v65.toInt) (b := 0) rfl (by decide) c68
          replace hv65 := (hv65.resolve_left (fun q => by omega)).2
          refine lv_bipush (v := (-4)) hx hb dX9_sent_75 (by decide) ?_
          have heq9 : σ = σ := rfl
          have hpost : σ = σ ∧ ((-4) : Int32) = mSent σ x1.toNatClampNeg := by refine ⟨heq9, ?_⟩; unfold mSent; (repeat (first | rw [if_pos (by assumption)] | rw [if_neg (by assumption)])) <;> (first | rfl | assumption)
          exact W.iret (v := (-4)) hx hb hr (fun t9 ht hW => ⟨⟨(-4), σ, rfl, hpost, by rw [ht]; exact hP, va_K.moved hW.alike hK, hD⟩, hS.F ht⟩) hS.2.2 dX9_sent_77
        · skip
          have ic68 := zneq (a := v65.toInt) (b := 0) rfl (by decide) c68
          replace hv65 := (hv65.resolve_right (fun q => by omega)).2
          refine lv_iconst (v := 0) hx hb dX9_sent_71 (by decide) ?_
          refine lv_goto (tgt := 77) hx hb dX9_sent_72 (by decide) ?_
          have heq9 : σ = σ := rfl
          have hpost : σ = σ ∧ (0 : Int32) = mSent σ x1.toNatClampNeg := by refine ⟨heq9, ?_⟩; unfold mSent; (repeat (first | rw [if_pos (by assumption)] | rw [if_neg (by assumption)])) <;> (first | rfl | assumption)
          exact W.iret (v := 0) hx hb hr (fun t9 ht hW => ⟨⟨0, σ, rfl, hpost, by rw [ht]; exact hP, va_K.moved hW.alike hK, hD⟩, hS.F ht⟩) hS.2.2 dX9_sent_77
      · skip
        have ic41 := zneq (a := v38.toInt) (b := 0) rfl (by decide) c41
        replace hv38 := (hv38.resolve_right (fun q => by omega)).2
        refine lv_aload_n hx hb dX9_sent_44 rfl (lv_at hl 0 rfl) ?_
        refine va_get (D := (dC, dI)) (ci := 9) (v := .ref (a 7)) (C := RX9) (T := TX9) (N := 28) hx hb hts in9 hown hK hP 0 rfl rfl 15 (by decide) k28 (fun _ h9 => h9) rfl dX9_sent_45 ?_
        refine lv_iload_n hx hb dX9_sent_48 rfl (lv_at hl 1 rfl) ?_
        refine va_iald (D := (dC, dI)) (f := σ 7) hx hb hK hP 7 0 rfl rfl (i := x1) (n := 10) (zin (by omega) (by omega)) dX9_sent_49 ?_
        refine lv_topi (fun v49 ev49 => ?_)
        have tv49 := congrArg Int32.toInt ev49
        refine lv_aload_n hx hb dX9_sent_50 rfl (lv_at hl 0 rfl) ?_
        refine lv_iconst (v := 0) hx hb dX9_sent_51 (by decide) ?_
        refine zcalli (va_runV (As := [.int 0]) (rest := [.int v49]) ⟨hx, hb, hml, hown, hts⟩ (c_X9_lawOf l dC dI cI a N hok σ H.size (0) (by decide)) (cwV 1 hts gX9_sent_X9_lawOf rfl rfl rfl (by decide +kernel) ⟨Nat.le_of_ble_eq_true rfl, Nat.le_of_ble_eq_true rfl⟩) (zpreV (wf := wM a cI) (q0 := 0) (ci := 9) hok hN hS hA hK hP hD rfl rfl) rfl rfl hl.1 rfl (lv_room (Nat.le_of_ble_eq_true rfl)) dX9_sent_52 ⟨Nat.zero_le _, Nat.zero_le _⟩) hD hS hA (fun v52 σ1 H locs hv52 hP hD hS => ?_)
        obtain ⟨es9, hv52⟩ := hv52
        subst σ1
        try simp only [show (0 : Int32).toInt = 0 from by decide] at hv52
        refine lv_icmp_gt (tgt := 62) hx hb dX9_sent_55 (by decide) (fun c55 => ?_) (fun c55 => ?_)
        · skip
          have ic55 := zlt (a := v52.toInt) (b := v49.toInt) rfl rfl c55
          have hk : ¬ (mHas (σ 8) x1.toNatClampNeg 0 ∧ σ 7 x1.toNatClampNeg ≤ mLaw (σ 2) 0) := fun q => Int32.not_lt.mpr q.2 (by rw [← ev49, ← hv52]; exact c55)
          refine lv_aload_n hx hb dX9_sent_62 rfl (lv_at hl 0 rfl) ?_
          refine lv_iload_n hx hb dX9_sent_63 rfl (lv_at hl 1 rfl) ?_
          refine lv_iconst (v := 3) hx hb dX9_sent_64 (by decide) ?_
          refine zcalli (va_runV (As := [.int x1, .int 3]) (rest := []) ⟨hx, hb, hml, hown, hts⟩ (c_X9_has l dC dI cI a N hok σ H.size (x1) (3) (by omega)) (cwV 2 hts gX9_sent_X9_has rfl rfl rfl (by decide +kernel) ⟨Nat.le_of_ble_eq_true rfl, Nat.le_of_ble_eq_true rfl⟩) (zpreV (wf := wM a cI) (q0 := 0) (ci := 9) hok hN hS hA hK hP hD rfl rfl) rfl rfl hl.1 rfl (lv_room (Nat.le_of_ble_eq_true rfl)) dX9_sent_65 ⟨Nat.zero_le _, Nat.zero_le _⟩) hD hS hA (fun v65 σ1 H locs hv65 hP hD hS => ?_)
          obtain ⟨es9, hv65⟩ := hv65
          subst σ1
          try simp only [show (3 : Int32).toInt = 3 from by decide] at hv65
          refine lv_if_eq (tgt := 75) hx hb dX9_sent_68 (by decide) (fun c68 => ?_) (fun c68 => ?_)
          · skip
            have ic68 := zeq (a := v65.toInt) (b := 0) rfl (by decide) c68
            replace hv65 := (hv65.resolve_left (fun q => by omega)).2
            refine lv_bipush (v := (-4)) hx hb dX9_sent_75 (by decide) ?_
            have heq9 : σ = σ := rfl
            have hpost : σ = σ ∧ ((-4) : Int32) = mSent σ x1.toNatClampNeg := by refine ⟨heq9, ?_⟩; unfold mSent; (repeat (first | rw [if_pos (by assumption)] | rw [if_neg (by assumption)])) <;> (first | rfl | assumption)
            exact W.iret (v := (-4)) hx hb hr (fun t9 ht hW => ⟨⟨(-4), σ, rfl, hpost, by rw [ht]; exact hP, va_K.moved hW.alike hK, hD⟩, hS.F ht⟩) hS.2.2 dX9_sent_77
          · skip
            have ic68 := zneq (a := v65.toInt) (b := 0) rfl (by decide) c68
            replace hv65 := (hv65.resolve_right (fun q => by omega)).2
            refine lv_iconst (v := 0) hx hb dX9_sent_71 (by decide) ?_
            refine lv_goto (tgt := 77) hx hb dX9_sent_72 (by decide) ?_
            have heq9 : σ = σ := rfl
            have hpost : σ = σ ∧ (0 : Int32) = mSent σ x1.toNatClampNeg := by refine ⟨heq9, ?_⟩; unfold mSent; (repeat (first | rw [if_pos (by assumption)] | rw [if_neg (by assumption)])) <;> (first | rfl | assumption)
            exact W.iret (v := 0) hx hb hr (fun t9 ht hW => ⟨⟨0, σ, rfl, hpost, by rw [ht]; exact hP, va_K.moved hW.alike hK, hD⟩, hS.F ht⟩) hS.2.2 dX9_sent_77
        · skip
          have ic55 := znlt (a := v52.toInt) (b := v49.toInt) rfl rfl c55
          have hk : (mHas (σ 8) x1.toNatClampNeg 0 ∧ σ 7 x1.toNatClampNeg ≤ mLaw (σ 2) 0) := ⟨hv38, by rw [← ev49, ← hv52]; exact Int32.not_lt.mp c55⟩
          refine lv_iconst (v := 4) hx hb dX9_sent_58 (by decide) ?_
          refine lv_goto (tgt := 77) hx hb dX9_sent_59 (by decide) ?_
          have heq9 : σ = σ := rfl
          have hpost : σ = σ ∧ (4 : Int32) = mSent σ x1.toNatClampNeg := by refine ⟨heq9, ?_⟩; unfold mSent; (repeat (first | rw [if_pos (by assumption)] | rw [if_neg (by assumption)])) <;> (first | rfl | assumption)
          exact W.iret (v := 4) hx hb hr (fun t9 ht hW => ⟨⟨4, σ, rfl, hpost, by rw [ht]; exact hP, va_K.moved hW.alike hK, hD⟩, hS.F ht⟩) hS.2.2 dX9_sent_77
    · skip
      have ic24 := zneq (a := v21.toInt) (b := 0) rfl (by decide) c24
      replace hv21 := (hv21.resolve_right (fun q => by omega)).2
      refine lv_aload_n hx hb dX9_sent_27 rfl (lv_at hl 0 rfl) ?_
      refine lv_iconst (v := 5) hx hb dX9_sent_28 (by decide) ?_
      refine zcalli (va_runV (As := [.int 5]) (rest := []) ⟨hx, hb, hml, hown, hts⟩ (c_X9_lawOf l dC dI cI a N hok σ H.size (5) (by decide)) (cwV 1 hts gX9_sent_X9_lawOf rfl rfl rfl (by decide +kernel) ⟨Nat.le_of_ble_eq_true rfl, Nat.le_of_ble_eq_true rfl⟩) (zpreV (wf := wM a cI) (q0 := 0) (ci := 9) hok hN hS hA hK hP hD rfl rfl) rfl rfl hl.1 rfl (lv_room (Nat.le_of_ble_eq_true rfl)) dX9_sent_29 ⟨Nat.zero_le _, Nat.zero_le _⟩) hD hS hA (fun v29 σ1 H locs hv29 hP hD hS => ?_)
      obtain ⟨es9, hv29⟩ := hv29
      subst σ1
      try simp only [show (5 : Int32).toInt = 5 from by decide] at hv29
      refine lv_goto (tgt := 77) hx hb dX9_sent_32 (by decide) ?_
      have heq9 : σ = σ := rfl
      have hpost : σ = σ ∧ (v29 : Int32) = mSent σ x1.toNatClampNeg := by refine ⟨heq9, ?_⟩; unfold mSent; (repeat (first | rw [if_pos (by assumption)] | rw [if_neg (by assumption)])) <;> (first | rfl | assumption)
      exact W.iret (v := v29) hx hb hr (fun t9 ht hW => ⟨⟨v29, σ, rfl, hpost, by rw [ht]; exact hP, va_K.moved hW.alike hK, hD⟩, hS.F ht⟩) hS.2.2 dX9_sent_77
  · skip
    have ic6 := zneq (a := v3.toInt) (b := 0) rfl (by decide) c6
    replace hv3 := (hv3.resolve_right (fun q => by omega)).2
    refine lv_aload_n hx hb dX9_sent_9 rfl (lv_at hl 0 rfl) ?_
    refine lv_bipush (v := 6) hx hb dX9_sent_10 (by decide) ?_
    refine zcalli (va_runV (As := [.int 6]) (rest := []) ⟨hx, hb, hml, hown, hts⟩ (c_X9_lawOf l dC dI cI a N hok σ H.size (6) (by decide)) (cwV 1 hts gX9_sent_X9_lawOf rfl rfl rfl (by decide +kernel) ⟨Nat.le_of_ble_eq_true rfl, Nat.le_of_ble_eq_true rfl⟩) (zpreV (wf := wM a cI) (q0 := 0) (ci := 9) hok hN hS hA hK hP hD rfl rfl) rfl rfl hl.1 rfl (lv_room (Nat.le_of_ble_eq_true rfl)) dX9_sent_12 ⟨Nat.zero_le _, Nat.zero_le _⟩) hD hS hA (fun v12 σ1 H locs hv12 hP hD hS => ?_)
    obtain ⟨es9, hv12⟩ := hv12
    subst σ1
    try simp only [show (6 : Int32).toInt = 6 from by decide] at hv12
    refine lv_goto (tgt := 77) hx hb dX9_sent_15 (by decide) ?_
    have heq9 : σ = σ := rfl
    have hpost : σ = σ ∧ (v12 : Int32) = mSent σ x1.toNatClampNeg := by refine ⟨heq9, ?_⟩; unfold mSent; (repeat (first | rw [if_pos (by assumption)] | rw [if_neg (by assumption)])) <;> (first | rfl | assumption)
    exact W.iret (v := v12) hx hb hr (fun t9 ht hW => ⟨⟨v12, σ, rfl, hpost, by rw [ht]; exact hP, va_K.moved hW.alike hK, hD⟩, hS.F ht⟩) hS.2.2 dX9_sent_77

abbrev RM_X9_wayNow : Room := { frames := 2, cells := 0, slots := 0, locals := 43 }
set_option maxHeartbeats 4000000 in
set_option maxRecDepth 100000 in
theorem c_X9_wayNow (l : Launch) (dC : Nat → ClassId) (dI : Nat → Nat → Nat) (cI : ClassId) (a : Nat → Nat) (N : (Nat → Prop) → State → Prop) (hok : zNok N) (σ : Cn) (sz : Nat) (x1 : Int32) (h0 : 0 ≤ (σ 0 10).toInt ∧ (σ 0 10).toInt ≤ 4) (h1 : 0 ≤ x1.toInt ∧ x1.toInt < 10) : Met l yX9_wayNow wsX9_wayNow RM_X9_wayNow (zPc (dC, dI) [(cI, .int)] N (wM a cI) σ sz [.ref (a 0), .int x1]) (zQi (dC, dI) [(cI, .int)] (wM a cI) (va_A (wM a cI σ) sz) (fun (r : Int32) (σ1 : Cn) => σ1 = σ ∧ (r : Int32) = mWay σ x1.toNatClampNeg)) 0 0 (va_A (wM a cI σ) sz) := by
  refine Met.ofW (cc := cX9_wayNow) (maxL := 5) (ret := (some .int)) (by decide) rfl ?_
  intro p e s m args below meth c s₁ B hml hv
  obtain ⟨rfl, hsz, hP, hK, hD0, hN⟩ := hv
  have hx := B.exec
  have hb := B.bytes
  have hr := B.returns
  have hts := atoms_spec (ws := wsX9_wayNow) B.pre
  have hown : s.vm.findClass RX9 = some m.cls := findClass_of_methodNamed B.named
  have hlocks := B.notSynchronized
  subst hsz
  have hD := hD0.self (sz := s.heap.size)
  generalize hAe : va_A (wM a cI σ) s.heap.size = A at hD hN ⊢
  have hA : ∀ q : Nat, s.heap.size ≤ q → A q := fun q h => by rw [← hAe]; exact Or.inr h
  clear hAe hD0
  have hS : va_S A s.heap s.heap [] := va_S.rf
  have in9 : ∀ w ∈ u_ws RX9 TX9 28, w ∈ wsX9_wayNow := by decide +kernel
  have k143 := hts (.fieldLink RX9 143 "HouseSortedModel" "heirs" "I") (by decide +kernel)
  have k22 := hts (.fieldLink RX9 22 "HouseSortedModel" "lows" "[I") (by decide +kernel)
  have k34 := hts (.fieldLink RX9 34 "HouseSortedModel" "worths" "[I") (by decide +kernel)
  have LP : ∀ n : Nat, (∀ (wa : Int32) (f : Int32) (j : Int32) (H : Heap) (locs : List Loc) (ls : Array Slot), 0 ≤ j.toInt ∧ j.toInt ≤ (σ 0 10).toInt → wa = mSent σ x1.toNatClampNeg ∧ wa = -4 → ((f.toInt = 1 ∧ mWant (σ 9) x1.toNatClampNeg j.toInt.toNat = true) ∨ (f.toInt = 0 ∧ mWant (σ 9) x1.toNatClampNeg j.toInt.toNat = false)) → (4 - j.toInt).toNat < n → va_P (dC, dI) vwCl (wM a cI σ) H → va_D A (wM a cI σ) → va_S A s.heap H locs → lv_has ls 5 [(0, .ref (a 0)), (1, .int x1), (2, .int wa), (3, .int f), (4, .int j)] → W p l e (headSpec wsX9_wayNow RM_X9_wayNow).room s m ([.ref (a 0), .int x1] : List Value).toArray below meth c H locs 0 0 (MQ below (zQi (dC, dI) [(cI, .int)] (wM a cI) A (fun (r : Int32) (σ1 : Cn) => σ1 = σ ∧ (r : Int32) = mWay σ x1.toNatClampNeg)) ([.ref (a 0), .int x1] : List Value).toArray s 0 0 A) (F0 m 19 ls [])) := by
    intro n
    induction n with
    | zero => exact by intros; omega
    | succ n ih =>
      · intro wa f j H locs ls g1 g2 g3 hmu hP hD hS hl
        refine lv_iload hx hb dX9_wayNow_19 (lv_at hl 4 rfl) ?_
        refine lv_aload_n hx hb dX9_wayNow_21 rfl (lv_at hl 0 rfl) ?_
        refine va_get (D := (dC, dI)) (ci := 9) (v := .int (σ 0 10)) (C := RX9) (T := TX9) (N := 28) hx hb hts in9 hown hK hP 0 rfl rfl 10 (by decide) k143 (fun _ h9 => h9) rfl dX9_wayNow_22 ?_
        refine lv_icmp_ge (tgt := 59) hx hb dX9_wayNow_25 (by decide) (fun c25 => ?_) (fun c25 => ?_)
        · skip
          have ic25 := zle (a := (σ 0 10).toInt) (b := j.toInt) rfl rfl c25
          refine lv_aload_n hx hb dX9_wayNow_59 rfl (lv_at hl 0 rfl) ?_
          refine va_get (D := (dC, dI)) (ci := 9) (v := .ref (a 5)) (C := RX9) (T := TX9) (N := 28) hx hb hts in9 hown hK hP 0 rfl rfl 13 (by decide) k22 (fun _ h9 => h9) rfl dX9_wayNow_60 ?_
          refine lv_iload_n hx hb dX9_wayNow_63 rfl (lv_at hl 1 rfl) ?_
          refine va_iald (D := (dC, dI)) (f := σ 5) hx hb hK hP 5 0 rfl rfl (i := x1) (n := 10) (zin (by omega) (by omega)) dX9_wayNow_64 ?_
          refine lv_topi (fun v64 ev64 => ?_)
          have tv64 := congrArg Int32.toInt ev64
          refine lv_aload_n hx hb dX9_wayNow_65 rfl (lv_at hl 0 rfl) ?_
          refine lv_iconst (v := 1) hx hb dX9_wayNow_66 (by decide) ?_
          refine zcalli (va_runV (As := [.int 1]) (rest := [.int v64]) ⟨hx, hb, hml, hown, hts⟩ (c_X9_lawOf l dC dI cI a N hok σ H.size (1) (by decide)) (cwV 1 hts gX9_wayNow_X9_lawOf rfl rfl rfl (by decide +kernel) ⟨Nat.le_of_ble_eq_true rfl, Nat.le_of_ble_eq_true rfl⟩) (zpreV (wf := wM a cI) (q0 := 0) (ci := 9) hok hN hS hA hK hP hD rfl rfl) rfl rfl hl.1 rfl (lv_room (Nat.le_of_ble_eq_true rfl)) dX9_wayNow_67 ⟨Nat.zero_le _, Nat.zero_le _⟩) hD hS hA (fun v67 σ1 H locs hv67 hP hD hS => ?_)
          obtain ⟨es9, hv67⟩ := hv67
          subst σ1
          try simp only [show (1 : Int32).toInt = 1 from by decide] at hv67
          refine lv_icmp_lt (tgt := 77) hx hb dX9_wayNow_70 (by decide) (fun c70 => ?_) (fun c70 => ?_)
          · skip
            have ic70 := zlt (a := v64.toInt) (b := v67.toInt) rfl rfl c70
            refine lv_iload_n hx hb dX9_wayNow_77 rfl (lv_at hl 3 rfl) ?_
            refine lv_if_eq (tgt := 85) hx hb dX9_wayNow_78 (by decide) (fun c78 => ?_) (fun c78 => ?_)
            · skip
              have ic78 := zeq (a := f.toInt) (b := 0) rfl (by decide) c78
              refine lv_aload_n hx hb dX9_wayNow_85 rfl (lv_at hl 0 rfl) ?_
              refine va_get (D := (dC, dI)) (ci := 9) (v := .ref (a 5)) (C := RX9) (T := TX9) (N := 28) hx hb hts in9 hown hK hP 0 rfl rfl 13 (by decide) k22 (fun _ h9 => h9) rfl dX9_wayNow_86 ?_
              refine lv_iload_n hx hb dX9_wayNow_89 rfl (lv_at hl 1 rfl) ?_
              refine va_iald (D := (dC, dI)) (f := σ 5) hx hb hK hP 5 0 rfl rfl (i := x1) (n := 10) (zin (by omega) (by omega)) dX9_wayNow_90 ?_
              refine lv_topi (fun v90 ev90 => ?_)
              have tv90 := congrArg Int32.toInt ev90
              refine lv_aload_n hx hb dX9_wayNow_91 rfl (lv_at hl 0 rfl) ?_
              refine lv_iconst (v := 2) hx hb dX9_wayNow_92 (by decide) ?_
              refine zcalli (va_runV (As := [.int 2]) (rest := [.int v90]) ⟨hx, hb, hml, hown, hts⟩ (c_X9_lawOf l dC dI cI a N hok σ H.size (2) (by decide)) (cwV 1 hts gX9_wayNow_X9_lawOf rfl rfl rfl (by decide +kernel) ⟨Nat.le_of_ble_eq_true rfl, Nat.le_of_ble_eq_true rfl⟩) (zpreV (wf := wM a cI) (q0 := 0) (ci := 9) hok hN hS hA hK hP hD rfl rfl) rfl rfl hl.1 rfl (lv_room (Nat.le_of_ble_eq_true rfl)) dX9_wayNow_93 ⟨Nat.zero_le _, Nat.zero_le _⟩) hD hS hA (fun v93 σ1 H locs hv93 hP hD hS => ?_)
              obtain ⟨es9, hv93⟩ := hv93
              subst σ1
              try simp only [show (2 : Int32).toInt = 2 from by decide] at hv93
              refine lv_icmp_lt (tgt := 103) hx hb dX9_wayNow_96 (by decide) (fun c96 => ?_) (fun c96 => ?_)
              · skip
                have ic96 := zlt (a := v90.toInt) (b := v93.toInt) rfl rfl c96
                refine lv_iconst (v := 3) hx hb dX9_wayNow_103 (by decide) ?_
                have heq9 : σ = σ := rfl
                have hpost : σ = σ ∧ (3 : Int32) = mWay σ x1.toNatClampNeg := by refine ⟨heq9, ?_⟩; unfold mWay; rw [if_pos (show mSent σ x1.toNatClampNeg = -4 from by rw [← g2.1]; exact g2.2), ← show j.toInt.toNat = (σ 0 10).toInt.toNat from by omega]; first | (rw [if_pos (show mLaw (σ 2) 1 ≤ σ 5 x1.toNatClampNeg from by rw [← ev64, ← hv67]; exact Int32.not_lt.mp c70)]; done) | (rw [if_neg (show ¬ mLaw (σ 2) 1 ≤ σ 5 x1.toNatClampNeg from fun q => Int32.not_lt.mpr q (by rw [← ev64, ← hv67]; exact c70))]; first | (rw [if_pos (g3.resolve_right (fun z => by omega)).2]; done) | (rw [if_neg (show ¬ mWant (σ 9) x1.toNatClampNeg j.toInt.toNat = true from by rw [(g3.resolve_left (fun z => by omega)).2]; decide)]; first | (rw [if_pos (show mLaw (σ 2) 2 ≤ σ 5 x1.toNatClampNeg from by rw [← ev90, ← hv93]; exact Int32.not_lt.mp c96)]; done) | (rw [if_neg (show ¬ mLaw (σ 2) 2 ≤ σ 5 x1.toNatClampNeg from fun q => Int32.not_lt.mpr q (by rw [← ev90, ← hv93]; exact c96))]; done)))
                exact W.iret (v := 3) hx hb hr (fun t9 ht hW => ⟨⟨3, σ, rfl, hpost, by rw [ht]; exact hP, va_K.moved hW.alike hK, hD⟩, hS.F ht⟩) hS.2.2 dX9_wayNow_104
              · skip
                have ic96 := znlt (a := v90.toInt) (b := v93.toInt) rfl rfl c96
                refine lv_iconst (v := 2) hx hb dX9_wayNow_99 (by decide) ?_
                refine lv_goto (tgt := 104) hx hb dX9_wayNow_100 (by decide) ?_
                have heq9 : σ = σ := rfl
                have hpost : σ = σ ∧ (2 : Int32) = mWay σ x1.toNatClampNeg := by refine ⟨heq9, ?_⟩; unfold mWay; rw [if_pos (show mSent σ x1.toNatClampNeg = -4 from by rw [← g2.1]; exact g2.2), ← show j.toInt.toNat = (σ 0 10).toInt.toNat from by omega]; first | (rw [if_pos (show mLaw (σ 2) 1 ≤ σ 5 x1.toNatClampNeg from by rw [← ev64, ← hv67]; exact Int32.not_lt.mp c70)]; done) | (rw [if_neg (show ¬ mLaw (σ 2) 1 ≤ σ 5 x1.toNatClampNeg from fun q => Int32.not_lt.mpr q (by rw [← ev64, ← hv67]; exact c70))]; first | (rw [if_pos (g3.resolve_right (fun z => by omega)).2]; done) | (rw [if_neg (show ¬ mWant (σ 9) x1.toNatClampNeg j.toInt.toNat = true from by rw [(g3.resolve_left (fun z => by omega)).2]; decide)]; first | (rw [if_pos (show mLaw (σ 2) 2 ≤ σ 5 x1.toNatClampNeg from by rw [← ev90, ← hv93]; exact Int32.not_lt.mp c96)]; done) | (rw [if_neg (show ¬ mLaw (σ 2) 2 ≤ σ 5 x1.toNatClampNeg from fun q => Int32.not_lt.mpr q (by rw [← ev90, ← hv93]; exact c96))]; done)))
                exact W.iret (v := 2) hx hb hr (fun t9 ht hW => ⟨⟨2, σ, rfl, hpost, by rw [ht]; exact hP, va_K.moved hW.alike hK, hD⟩, hS.F ht⟩) hS.2.2 dX9_wayNow_104
            · skip
              have ic78 := zneq (a := f.toInt) (b := 0) rfl (by decide) c78
              refine lv_iconst (v := 0) hx hb dX9_wayNow_81 (by decide) ?_
              refine lv_goto (tgt := 104) hx hb dX9_wayNow_82 (by decide) ?_
              have heq9 : σ = σ := rfl
              have hpost : σ = σ ∧ (0 : Int32) = mWay σ x1.toNatClampNeg := by refine ⟨heq9, ?_⟩; unfold mWay; rw [if_pos (show mSent σ x1.toNatClampNeg = -4 from by rw [← g2.1]; exact g2.2), ← show j.toInt.toNat = (σ 0 10).toInt.toNat from by omega]; first | (rw [if_pos (show mLaw (σ 2) 1 ≤ σ 5 x1.toNatClampNeg from by rw [← ev64, ← hv67]; exact Int32.not_lt.mp c70)]; done) | (rw [if_neg (show ¬ mLaw (σ 2) 1 ≤ σ 5 x1.toNatClampNeg from fun q => Int32.not_lt.mpr q (by rw [← ev64, ← hv67]; exact c70))]; first | (rw [if_pos (g3.resolve_right (fun z => by omega)).2]; done) | (rw [if_neg (show ¬ mWant (σ 9) x1.toNatClampNeg j.toInt.toNat = true from by rw [(g3.resolve_left (fun z => by omega)).2]; decide)]; first | (rw [if_pos (show mLaw (σ 2) 2 ≤ σ 5 x1.toNatClampNeg from by rw [← ev90, ← hv93]; exact Int32.not_lt.mp c96)]; done) | (rw [if_neg (show ¬ mLaw (σ 2) 2 ≤ σ 5 x1.toNatClampNeg from fun q => Int32.not_lt.mpr q (by rw [← ev90, ← hv93]; exact c96))]; done)))
              exact W.iret (v := 0) hx hb hr (fun t9 ht hW => ⟨⟨0, σ, rfl, hpost, by rw [ht]; exact hP, va_K.moved hW.alike hK, hD⟩, hS.F ht⟩) hS.2.2 dX9_wayNow_104
          · skip
            have ic70 := znlt (a := v64.toInt) (b := v67.toInt) rfl rfl c70
            refine lv_iconst (v := 1) hx hb dX9_wayNow_73 (by decide) ?_
            refine lv_goto (tgt := 104) hx hb dX9_wayNow_74 (by decide) ?_
            have heq9 : σ = σ := rfl
            have hpost : σ = σ ∧ (1 : Int32) = mWay σ x1.toNatClampNeg := by refine ⟨heq9, ?_⟩; unfold mWay; rw [if_pos (show mSent σ x1.toNatClampNeg = -4 from by rw [← g2.1]; exact g2.2), ← show j.toInt.toNat = (σ 0 10).toInt.toNat from by omega]; first | (rw [if_pos (show mLaw (σ 2) 1 ≤ σ 5 x1.toNatClampNeg from by rw [← ev64, ← hv67]; exact Int32.not_lt.mp c70)]; done) | (rw [if_neg (show ¬ mLaw (σ 2) 1 ≤ σ 5 x1.toNatClampNeg from fun q => Int32.not_lt.mpr q (by rw [← ev64, ← hv67]; exact c70))]; first | (rw [if_pos (g3.resolve_right (fun z => by omega)).2]; done) | (rw [if_neg (show ¬ mWant (σ 9) x1.toNatClampNeg j.toInt.toNat = true from by rw [(g3.resolve_left (fun z => by omega)).2]; decide)]; first | (rw [if_pos (show mLaw (σ 2) 2 ≤ σ 5 x1.toNatClampNeg from by rw [← ev90, ← hv93]; exact Int32.not_lt.mp c96)]; done) | (rw [if_neg (show ¬ mLaw (σ 2) 2 ≤ σ 5 x1.toNatClampNeg from fun q => Int32.not_lt.mpr q (by rw [← ev90, ← hv93]; exact c96))]; done)))
            exact W.iret (v := 1) hx hb hr (fun t9 ht hW => ⟨⟨1, σ, rfl, hpost, by rw [ht]; exact hP, va_K.moved hW.alike hK, hD⟩, hS.F ht⟩) hS.2.2 dX9_wayNow_104
        · skip
          have ic25 := znle (a := (σ 0 10).toInt) (b := j.toInt) rfl rfl c25
          refine lv_iload_n hx hb dX9_wayNow_28 rfl (lv_at hl 3 rfl) ?_
          refine lv_if_ne (tgt := 47) hx hb dX9_wayNow_29 (by decide) (fun c29 => ?_) (fun c29 => ?_)
          · skip
            have ic29 := zneq (a := f.toInt) (b := 0) rfl (by decide) c29
            refine lv_iconst (v := 1) hx hb dX9_wayNow_47 (by decide) ?_
            refine lv_goto (tgt := 52) hx hb dX9_wayNow_48 (by decide) ?_
            refine lv_istore_n (lv' := [(3, .int 1), (0, .ref (a 0)), (1, .int x1), (2, .int wa), (4, .int j)]) hx hb dX9_wayNow_52 rfl hl (by decide) rfl (fun ls hl => ?_)
            obtain ⟨v53, ev53⟩ : ∃ y : Int32, y = j + 1 := ⟨_, rfl⟩
            refine lv_iinc (v := v53) (lv' := [(4, .int v53), (3, .int 1), (0, .ref (a 0)), (1, .int x1), (2, .int wa)]) hx hb dX9_wayNow_53 hl (k := 4) rfl (by rw [ev53]; rfl) (by decide) rfl (fun ls hl => ?_)
            have tv53 : v53.toInt = j.toInt + 1 := by rw [ev53, zadd, show (1 : Int32).toInt = 1 from by decide]; omega
            refine lv_goto (tgt := 19) hx hb dX9_wayNow_56 (by decide) ?_
            exact ih (wa) (1) (v53)  H locs ls (by omega) (g2) (by rw [show v53.toInt.toNat = j.toInt.toNat + 1 from by omega]; show (_ ∧ (mWant (σ 9) x1.toNatClampNeg j.toInt.toNat || decide (0 < σ 9 (10 * j.toInt.toNat + x1.toNatClampNeg))) = true) ∨ (_ ∧ (mWant (σ 9) x1.toNatClampNeg j.toInt.toNat || decide (0 < σ 9 (10 * j.toInt.toNat + x1.toNatClampNeg))) = false); first | (rcases g3 with q | q; exact Or.inl ⟨by decide, by rw [q.2]; rfl⟩; exact absurd q.1 ic29) | (have q := (g3.resolve_left (fun z => by omega)).2; exact Or.inl ⟨by decide, by rw [q, hix, ← ev43, Bool.false_or]; exact decide_eq_true (Int32.not_le.mp c44)⟩) | (have q := (g3.resolve_left (fun z => by omega)).2; exact Or.inr ⟨by decide, by rw [q, hix, ← ev43, Bool.false_or]; exact decide_eq_false (Int32.not_lt.mpr c44)⟩)) (by omega) hP hD hS (lv_sub hl [2, 3, 4, 1, 0] rfl)
          · skip
            have ic29 := zeq (a := f.toInt) (b := 0) rfl (by decide) c29
            refine lv_aload_n hx hb dX9_wayNow_32 rfl (lv_at hl 0 rfl) ?_
            refine va_get (D := (dC, dI)) (ci := 9) (v := .ref (a 9)) (C := RX9) (T := TX9) (N := 28) hx hb hts in9 hown hK hP 0 rfl rfl 17 (by decide) k34 (fun _ h9 => h9) rfl dX9_wayNow_33 ?_
            refine lv_bipush (v := 10) hx hb dX9_wayNow_36 (by decide) ?_
            refine lv_iload hx hb dX9_wayNow_38 (lv_at hl 4 rfl) ?_
            refine lv_imul hx hb dX9_wayNow_40 ?_
            refine lv_topi (fun v40 ev40 => ?_)
            have tv40 : v40.toInt = 10 * j.toInt := by rw [ev40, zmul, show (10 : Int32).toInt = 10 from by decide]; omega
            refine lv_iload_n hx hb dX9_wayNow_41 rfl (lv_at hl 1 rfl) ?_
            refine lv_iadd hx hb dX9_wayNow_42 ?_
            refine lv_topi (fun v42 ev42 => ?_)
            have tv42 : v42.toInt = v40.toInt + x1.toInt := by rw [ev42, zadd]; omega
            refine va_iald (D := (dC, dI)) (f := σ 9) hx hb hK hP 9 0 rfl rfl (i := v42) (n := 40) (zin (by omega) (by omega)) dX9_wayNow_43 ?_
            refine lv_topi (fun v43 ev43 => ?_)
            have tv43 := congrArg Int32.toInt ev43
            have hix : 10 * j.toInt.toNat + x1.toNatClampNeg = v42.toNatClampNeg := by have q1 := zcl (x := v42) (by omega); have q2 := zcl (x := x1) (by omega); omega
            refine lv_if_le (tgt := 51) hx hb dX9_wayNow_44 (by decide) (fun c44 => ?_) (fun c44 => ?_)
            · skip
              have ic44 := zle (a := v43.toInt) (b := 0) rfl (by decide) c44
              refine lv_iconst (v := 0) hx hb dX9_wayNow_51 (by decide) ?_
              refine lv_istore_n (lv' := [(3, .int 0), (0, .ref (a 0)), (1, .int x1), (2, .int wa), (4, .int j)]) hx hb dX9_wayNow_52 rfl hl (by decide) rfl (fun ls hl => ?_)
              obtain ⟨v53, ev53⟩ : ∃ y : Int32, y = j + 1 := ⟨_, rfl⟩
              refine lv_iinc (v := v53) (lv' := [(4, .int v53), (3, .int 0), (0, .ref (a 0)), (1, .int x1), (2, .int wa)]) hx hb dX9_wayNow_53 hl (k := 4) rfl (by rw [ev53]; rfl) (by decide) rfl (fun ls hl => ?_)
              have tv53 : v53.toInt = j.toInt + 1 := by rw [ev53, zadd, show (1 : Int32).toInt = 1 from by decide]; omega
              refine lv_goto (tgt := 19) hx hb dX9_wayNow_56 (by decide) ?_
              exact ih (wa) (0) (v53)  H locs ls (by omega) (g2) (by rw [show v53.toInt.toNat = j.toInt.toNat + 1 from by omega]; show (_ ∧ (mWant (σ 9) x1.toNatClampNeg j.toInt.toNat || decide (0 < σ 9 (10 * j.toInt.toNat + x1.toNatClampNeg))) = true) ∨ (_ ∧ (mWant (σ 9) x1.toNatClampNeg j.toInt.toNat || decide (0 < σ 9 (10 * j.toInt.toNat + x1.toNatClampNeg))) = false); first | (rcases g3 with q | q; exact Or.inl ⟨by decide, by rw [q.2]; rfl⟩; exact absurd q.1 ic29) | (have q := (g3.resolve_left (fun z => by omega)).2; exact Or.inl ⟨by decide, by rw [q, hix, ← ev43, Bool.false_or]; exact decide_eq_true (Int32.not_le.mp c44)⟩) | (have q := (g3.resolve_left (fun z => by omega)).2; exact Or.inr ⟨by decide, by rw [q, hix, ← ev43, Bool.false_or]; exact decide_eq_false (Int32.not_lt.mpr c44)⟩)) (by omega) hP hD hS (lv_sub hl [2, 3, 4, 1, 0] rfl)
            · skip
              have ic44 := znle (a := v43.toInt) (b := 0) rfl (by decide) c44
              refine lv_iconst (v := 1) hx hb dX9_wayNow_47 (by decide) ?_
              refine lv_goto (tgt := 52) hx hb dX9_wayNow_48 (by decide) ?_
              refine lv_istore_n (lv' := [(3, .int 1), (0, .ref (a 0)), (1, .int x1), (2, .int wa), (4, .int j)]) hx hb dX9_wayNow_52 rfl hl (by decide) rfl (fun ls hl => ?_)
              obtain ⟨v53, ev53⟩ : ∃ y : Int32, y = j + 1 := ⟨_, rfl⟩
              refine lv_iinc (v := v53) (lv' := [(4, .int v53), (3, .int 1), (0, .ref (a 0)), (1, .int x1), (2, .int wa)]) hx hb dX9_wayNow_53 hl (k := 4) rfl (by rw [ev53]; rfl) (by decide) rfl (fun ls hl => ?_)
              have tv53 : v53.toInt = j.toInt + 1 := by rw [ev53, zadd, show (1 : Int32).toInt = 1 from by decide]; omega
              refine lv_goto (tgt := 19) hx hb dX9_wayNow_56 (by decide) ?_
              exact ih (wa) (1) (v53)  H locs ls (by omega) (g2) (by rw [show v53.toInt.toNat = j.toInt.toNat + 1 from by omega]; show (_ ∧ (mWant (σ 9) x1.toNatClampNeg j.toInt.toNat || decide (0 < σ 9 (10 * j.toInt.toNat + x1.toNatClampNeg))) = true) ∨ (_ ∧ (mWant (σ 9) x1.toNatClampNeg j.toInt.toNat || decide (0 < σ 9 (10 * j.toInt.toNat + x1.toNatClampNeg))) = false); first | (rcases g3 with q | q; exact Or.inl ⟨by decide, by rw [q.2]; rfl⟩; exact absurd q.1 ic29) | (have q := (g3.resolve_left (fun z => by omega)).2; exact Or.inl ⟨by decide, by rw [q, hix, ← ev43, Bool.false_or]; exact decide_eq_true (Int32.not_le.mp c44)⟩) | (have q := (g3.resolve_left (fun z => by omega)).2; exact Or.inr ⟨by decide, by rw [q, hix, ← ev43, Bool.false_or]; exact decide_eq_false (Int32.not_lt.mpr c44)⟩)) (by omega) hP hD hS (lv_sub hl [2, 3, 4, 1, 0] rfl)
  have hl := lv_entry ([.ref (a 0), .int x1]) (n := 5) (Nat.le_of_ble_eq_true rfl)
  rw [lg_entry_eq]
  generalize (lg_sl ([.ref (a 0), .int x1]) ++ List.replicate (5 - (lg_sl ([.ref (a 0), .int x1])).length) Slot.unset).toArray = ls at hl ⊢
  have hl : lv_has ls 5 [(0, .ref (a 0)), (1, .int x1)] := hl
  suffices main : ∀ (H : Heap) (locs : List Loc), va_P (dC, dI) vwCl (wM a cI σ) H → va_D A (wM a cI σ) → va_S A s.heap H locs → W p l e (headSpec wsX9_wayNow RM_X9_wayNow).room s m ([.ref (a 0), .int x1] : List Value).toArray below meth c H locs 0 0 (MQ below (zQi (dC, dI) [(cI, .int)] (wM a cI) A (fun (r : Int32) (σ1 : Cn) => σ1 = σ ∧ (r : Int32) = mWay σ x1.toNatClampNeg)) ([.ref (a 0), .int x1] : List Value).toArray s 0 0 A) (F0 m 0 ls []) from main s.heap [] hP hD hS
  intro H locs hP hD hS
  refine lv_aload_n hx hb dX9_wayNow_0 rfl (lv_at hl 0 rfl) ?_
  refine lv_iload_n hx hb dX9_wayNow_1 rfl (lv_at hl 1 rfl) ?_
  refine zcalli (va_runV (As := [.int x1]) (rest := []) ⟨hx, hb, hml, hown, hts⟩ (c_X9_sent l dC dI cI a N hok σ H.size (x1) (by omega)) (cwV 1 hts gX9_wayNow_X9_sent rfl rfl rfl (by decide +kernel) ⟨Nat.le_of_ble_eq_true rfl, Nat.le_of_ble_eq_true rfl⟩) (zpreV (wf := wM a cI) (q0 := 0) (ci := 9) hok hN hS hA hK hP hD rfl rfl) rfl rfl hl.1 rfl (lv_room (Nat.le_of_ble_eq_true rfl)) dX9_wayNow_2 ⟨Nat.zero_le _, Nat.zero_le _⟩) hD hS hA (fun v2 σ1 H locs hv2 hP hD hS => ?_)
  obtain ⟨es9, hv2⟩ := hv2
  subst σ1
  refine lv_istore_n (lv' := [(2, .int v2), (0, .ref (a 0)), (1, .int x1)]) hx hb dX9_wayNow_5 rfl hl (by decide) rfl (fun ls hl => ?_)
  refine lv_iload_n hx hb dX9_wayNow_6 rfl (lv_at hl 0 rfl) ?_
  refine lv_bipush (v := (-4)) hx hb dX9_wayNow_7 (by decide) ?_
  refine lv_icmp_eq (tgt := 14) hx hb dX9_wayNow_9 (by decide) (fun c9 => ?_) (fun c9 => ?_)
  · skip
    have ic9 := zeq (a := v2.toInt) (b := (-4)) rfl (by decide) c9
    refine lv_iconst (v := 0) hx hb dX9_wayNow_14 (by decide) ?_
    refine lv_istore_n (lv' := [(3, .int 0), (2, .int v2), (0, .ref (a 0)), (1, .int x1)]) hx hb dX9_wayNow_15 rfl hl (by decide) rfl (fun ls hl => ?_)
    refine lv_iconst (v := 0) hx hb dX9_wayNow_16 (by decide) ?_
    refine lv_istore (lv' := [(4, .int 0), (3, .int 0), (2, .int v2), (0, .ref (a 0)), (1, .int x1)]) hx hb dX9_wayNow_17 hl (by decide) rfl (fun ls hl => ?_)
    exact (LP _) (v2) (0) (0)  H locs ls (by rw [show (0 : Int32).toInt = 0 from by decide]; omega) (⟨hv2, c9⟩) (Or.inr ⟨by decide, rfl⟩) (Nat.lt_succ_self _) hP hD hS (lv_sub hl [3, 4, 2, 1, 0] rfl)
  · skip
    have ic9 := zneq (a := v2.toInt) (b := (-4)) rfl (by decide) c9
    refine lv_iload_n hx hb dX9_wayNow_12 rfl (lv_at hl 0 rfl) ?_
    have heq9 : σ = σ := rfl
    have hpost : σ = σ ∧ (v2 : Int32) = mWay σ x1.toNatClampNeg := by refine ⟨heq9, ?_⟩; unfold mWay; rw [← hv2, if_neg c9]
    exact W.iret (v := v2) hx hb hr (fun t9 ht hW => ⟨⟨v2, σ, rfl, hpost, by rw [ht]; exact hP, va_K.moved hW.alike hK, hD⟩, hS.F ht⟩) hS.2.2 dX9_wayNow_13

abbrev RM_X9_told : Room := { frames := 3, cells := 0, slots := 0, locals := 67 }
set_option maxHeartbeats 4000000 in
set_option maxRecDepth 100000 in
theorem c_X9_told (l : Launch) (dC : Nat → ClassId) (dI : Nat → Nat → Nat) (cI : ClassId) (a : Nat → Nat) (N : (Nat → Prop) → State → Prop) (hok : zNok N) (σ : Cn) (sz : Nat) (x1 : Int32) (x2 : Int32) (h0 : 0 ≤ (σ 0 10).toInt ∧ (σ 0 10).toInt ≤ 4) (h2 : 0 ≤ (σ 0 11).toInt ∧ (σ 0 11).toInt ≤ 10) : Met l yX9_told wsX9_told RM_X9_told (zPc (dC, dI) [(cI, .int)] N (wM a cI) σ sz [.ref (a 0), .int x1, .int x2]) (zQi (dC, dI) [(cI, .int)] (wM a cI) (va_A (wM a cI σ) sz) (fun (r : Int32) (σ1 : Cn) => σ1 = σ ∧ True)) 0 0 (va_A (wM a cI σ) sz) := by
  refine Met.ofW (cc := cX9_told) (maxL := 3) (ret := (some .int)) (by decide) rfl ?_
  intro p e s m args below meth c s₁ B hml hv
  obtain ⟨rfl, hsz, hP, hK, hD0, hN⟩ := hv
  have hx := B.exec
  have hb := B.bytes
  have hr := B.returns
  have hts := atoms_spec (ws := wsX9_told) B.pre
  have hown : s.vm.findClass RX9 = some m.cls := findClass_of_methodNamed B.named
  have hlocks := B.notSynchronized
  subst hsz
  have hD := hD0.self (sz := s.heap.size)
  generalize hAe : va_A (wM a cI σ) s.heap.size = A at hD hN ⊢
  have hA : ∀ q : Nat, s.heap.size ≤ q → A q := fun q h => by rw [← hAe]; exact Or.inr h
  clear hAe hD0
  have hS : va_S A s.heap s.heap [] := va_S.rf
  have in9 : ∀ w ∈ u_ws RX9 TX9 28, w ∈ wsX9_told := by decide +kernel
  have k19 := hts (.fieldLink RX9 19 "HouseSortedModel" "weights" "[I") (by decide +kernel)
  have k22 := hts (.fieldLink RX9 22 "HouseSortedModel" "lows" "[I") (by decide +kernel)
  have k25 := hts (.fieldLink RX9 25 "HouseSortedModel" "highs" "[I") (by decide +kernel)
  have k28 := hts (.fieldLink RX9 28 "HouseSortedModel" "ages" "[I") (by decide +kernel)
  have k31 := hts (.fieldLink RX9 31 "HouseSortedModel" "marks" "[I") (by decide +kernel)
  have kq173 := hts (.constantLong RX9 173 (5)) (by decide +kernel)
  have hl := lv_entry ([.ref (a 0), .int x1, .int x2]) (n := 3) (Nat.le_of_ble_eq_true rfl)
  rw [lg_entry_eq]
  generalize (lg_sl ([.ref (a 0), .int x1, .int x2]) ++ List.replicate (3 - (lg_sl ([.ref (a 0), .int x1, .int x2])).length) Slot.unset).toArray = ls at hl ⊢
  have hl : lv_has ls 3 [(0, .ref (a 0)), (1, .int x1), (2, .int x2)] := hl
  suffices main : ∀ (H : Heap) (locs : List Loc), va_P (dC, dI) vwCl (wM a cI σ) H → va_D A (wM a cI σ) → va_S A s.heap H locs → W p l e (headSpec wsX9_told RM_X9_told).room s m ([.ref (a 0), .int x1, .int x2] : List Value).toArray below meth c H locs 0 0 (MQ below (zQi (dC, dI) [(cI, .int)] (wM a cI) A (fun (r : Int32) (σ1 : Cn) => σ1 = σ ∧ True)) ([.ref (a 0), .int x1, .int x2] : List Value).toArray s 0 0 A) (F0 m 0 ls []) from main s.heap [] hP hD hS
  intro H locs hP hD hS
  refine lv_aload_n hx hb dX9_told_0 rfl (lv_at hl 0 rfl) ?_
  refine lv_iload_n hx hb dX9_told_1 rfl (lv_at hl 1 rfl) ?_
  refine zcalli (va_runV (As := [.int x1]) (rest := []) ⟨hx, hb, hml, hown, hts⟩ (c_X9_isThing l dC dI cI a N hok σ H.size (x1) h2) (cwV 1 hts gX9_told_X9_isThing rfl rfl rfl (by decide +kernel) ⟨Nat.le_of_ble_eq_true rfl, Nat.le_of_ble_eq_true rfl⟩) (zpreV (wf := wM a cI) (q0 := 0) (ci := 9) hok hN hS hA hK hP hD rfl rfl) rfl rfl hl.1 rfl (lv_room (Nat.le_of_ble_eq_true rfl)) dX9_told_2 ⟨Nat.zero_le _, Nat.zero_le _⟩) hD hS hA (fun v2 σ1 H locs hv2 hP hD hS => ?_)
  obtain ⟨es9, hv2⟩ := hv2
  subst σ1
  refine lv_if_eq (tgt := 20) hx hb dX9_told_5 (by decide) (fun c5 => ?_) (fun c5 => ?_)
  · skip
    have ic5 := zeq (a := v2.toInt) (b := 0) rfl (by decide) c5
    replace hv2 := (hv2.resolve_left (fun q => by omega)).2
    refine lv_iconst (v := (-1)) hx hb dX9_told_20 (by decide) ?_
    have heq9 : σ = σ := rfl
    have hpost : σ = σ ∧ True := by refine ⟨heq9, ?_⟩; trivial
    exact W.iret (v := (-1)) hx hb hr (fun t9 ht hW => ⟨⟨(-1), σ, rfl, hpost, by rw [ht]; exact hP, va_K.moved hW.alike hK, hD⟩, hS.F ht⟩) hS.2.2 dX9_told_21
  · skip
    have ic5 := zneq (a := v2.toInt) (b := 0) rfl (by decide) c5
    replace hv2 := (hv2.resolve_right (fun q => by omega)).2
    refine lv_iload_n hx hb dX9_told_8 rfl (lv_at hl 2 rfl) ?_
    refine lv_i2l hx hb dX9_told_9 rfl ?_
    refine lv_topl (fun v9 ev9 => ?_)
    have tv9 : v9.toInt = x2.toInt := by rw [ev9]; exact zi2l rfl
    refine lv_lconst (v := 0) hx hb dX9_told_10 (by decide) ?_
    refine lv_ldc2 hx hb hown kq173 dX9_told_11 ?_
    refine zcalli (va_runS (As := [.long v9, .long 0, .long 5]) (rest := []) ⟨hx, hb, hml, hown, hts⟩ (c_X9_in l dC dI cI a N hok σ H.size (v9) (0) (5) ) (va_cwS 3 hts gX9_told_X9_in rfl rfl rfl (by decide +kernel) ⟨Nat.le_of_ble_eq_true rfl, Nat.le_of_ble_eq_true rfl⟩) (zpreS (wf := wM a cI) hok hN hS hA hK hP hD) rfl rfl hl.1 rfl (lv_room (Nat.le_of_ble_eq_true rfl)) dX9_told_14 ⟨Nat.zero_le _, Nat.zero_le _⟩) hD hS hA (fun v14 σ1 H locs hv14 hP hD hS => ?_)
    obtain ⟨es9, hv14⟩ := hv14
    subst σ1
    try simp only [show (0 : Int64).toInt = 0 from by decide, show (5 : Int64).toInt = 5 from by decide] at hv14
    refine lv_if_ne (tgt := 22) hx hb dX9_told_17 (by decide) (fun c17 => ?_) (fun c17 => ?_)
    · skip
      have ic17 := zneq (a := v14.toInt) (b := 0) rfl (by decide) c17
      refine lv_iload_n hx hb dX9_told_22 rfl (lv_at hl 2 rfl) ?_
      refine lv_if_ne (tgt := 35) hx hb dX9_told_23 (by decide) (fun c23 => ?_) (fun c23 => ?_)
      · skip
        have ic23 := zneq (a := x2.toInt) (b := 0) rfl (by decide) c23
        refine lv_iload_n hx hb dX9_told_35 rfl (lv_at hl 2 rfl) ?_
        refine lv_iconst (v := 1) hx hb dX9_told_36 (by decide) ?_
        refine lv_icmp_ne (tgt := 49) hx hb dX9_told_37 (by decide) (fun c37 => ?_) (fun c37 => ?_)
        · skip
          have ic37 := zneq (a := x2.toInt) (b := 1) rfl (by decide) c37
          refine lv_iload_n hx hb dX9_told_49 rfl (lv_at hl 2 rfl) ?_
          refine lv_iconst (v := 2) hx hb dX9_told_50 (by decide) ?_
          refine lv_icmp_ne (tgt := 63) hx hb dX9_told_51 (by decide) (fun c51 => ?_) (fun c51 => ?_)
          · skip
            have ic51 := zneq (a := x2.toInt) (b := 2) rfl (by decide) c51
            refine lv_iload_n hx hb dX9_told_63 rfl (lv_at hl 2 rfl) ?_
            refine lv_iconst (v := 3) hx hb dX9_told_64 (by decide) ?_
            refine lv_icmp_ne (tgt := 77) hx hb dX9_told_65 (by decide) (fun c65 => ?_) (fun c65 => ?_)
            · skip
              have ic65 := zneq (a := x2.toInt) (b := 3) rfl (by decide) c65
              refine lv_iload_n hx hb dX9_told_77 rfl (lv_at hl 2 rfl) ?_
              refine lv_iconst (v := 4) hx hb dX9_told_78 (by decide) ?_
              refine lv_icmp_ne (tgt := 91) hx hb dX9_told_79 (by decide) (fun c79 => ?_) (fun c79 => ?_)
              · skip
                have ic79 := zneq (a := x2.toInt) (b := 4) rfl (by decide) c79
                refine lv_aload_n hx hb dX9_told_91 rfl (lv_at hl 0 rfl) ?_
                refine lv_iload_n hx hb dX9_told_92 rfl (lv_at hl 1 rfl) ?_
                refine zcalli (va_runV (As := [.int x1]) (rest := []) ⟨hx, hb, hml, hown, hts⟩ (c_X9_wayNow l dC dI cI a N hok σ H.size (x1) h0 (by omega)) (cwV 1 hts gX9_told_X9_wayNow rfl rfl rfl (by decide +kernel) ⟨Nat.le_of_ble_eq_true rfl, Nat.le_of_ble_eq_true rfl⟩) (zpreV (wf := wM a cI) (q0 := 0) (ci := 9) hok hN hS hA hK hP hD rfl rfl) rfl rfl hl.1 rfl (lv_room (Nat.le_of_ble_eq_true rfl)) dX9_told_93 ⟨Nat.zero_le _, Nat.zero_le _⟩) hD hS hA (fun v93 σ1 H locs hv93 hP hD hS => ?_)
                obtain ⟨es9, hv93⟩ := hv93
                subst σ1
                have heq9 : σ = σ := rfl
                have hpost : σ = σ ∧ True := by refine ⟨heq9, ?_⟩; trivial
                exact W.iret (v := v93) hx hb hr (fun t9 ht hW => ⟨⟨v93, σ, rfl, hpost, by rw [ht]; exact hP, va_K.moved hW.alike hK, hD⟩, hS.F ht⟩) hS.2.2 dX9_told_96
              · skip
                have ic79 := zeq (a := x2.toInt) (b := 4) rfl (by decide) c79
                refine lv_aload_n hx hb dX9_told_82 rfl (lv_at hl 0 rfl) ?_
                refine va_get (D := (dC, dI)) (ci := 9) (v := .ref (a 8)) (C := RX9) (T := TX9) (N := 28) hx hb hts in9 hown hK hP 0 rfl rfl 16 (by decide) k31 (fun _ h9 => h9) rfl dX9_told_83 ?_
                refine lv_iload_n hx hb dX9_told_86 rfl (lv_at hl 1 rfl) ?_
                refine va_iald (D := (dC, dI)) (f := σ 8) hx hb hK hP 8 0 rfl rfl (i := x1) (n := 10) (zin (by omega) (by omega)) dX9_told_87 ?_
                refine lv_topi (fun v87 ev87 => ?_)
                have tv87 := congrArg Int32.toInt ev87
                refine lv_goto (tgt := 96) hx hb dX9_told_88 (by decide) ?_
                have heq9 : σ = σ := rfl
                have hpost : σ = σ ∧ True := by refine ⟨heq9, ?_⟩; trivial
                exact W.iret (v := v87) hx hb hr (fun t9 ht hW => ⟨⟨v87, σ, rfl, hpost, by rw [ht]; exact hP, va_K.moved hW.alike hK, hD⟩, hS.F ht⟩) hS.2.2 dX9_told_96
            · skip
              have ic65 := zeq (a := x2.toInt) (b := 3) rfl (by decide) c65
              refine lv_aload_n hx hb dX9_told_68 rfl (lv_at hl 0 rfl) ?_
              refine va_get (D := (dC, dI)) (ci := 9) (v := .ref (a 7)) (C := RX9) (T := TX9) (N := 28) hx hb hts in9 hown hK hP 0 rfl rfl 15 (by decide) k28 (fun _ h9 => h9) rfl dX9_told_69 ?_
              refine lv_iload_n hx hb dX9_told_72 rfl (lv_at hl 1 rfl) ?_
              refine va_iald (D := (dC, dI)) (f := σ 7) hx hb hK hP 7 0 rfl rfl (i := x1) (n := 10) (zin (by omega) (by omega)) dX9_told_73 ?_
              refine lv_topi (fun v73 ev73 => ?_)
              have tv73 := congrArg Int32.toInt ev73
              refine lv_goto (tgt := 96) hx hb dX9_told_74 (by decide) ?_
              have heq9 : σ = σ := rfl
              have hpost : σ = σ ∧ True := by refine ⟨heq9, ?_⟩; trivial
              exact W.iret (v := v73) hx hb hr (fun t9 ht hW => ⟨⟨v73, σ, rfl, hpost, by rw [ht]; exact hP, va_K.moved hW.alike hK, hD⟩, hS.F ht⟩) hS.2.2 dX9_told_96
          · skip
            have ic51 := zeq (a := x2.toInt) (b := 2) rfl (by decide) c51
            refine lv_aload_n hx hb dX9_told_54 rfl (lv_at hl 0 rfl) ?_
            refine va_get (D := (dC, dI)) (ci := 9) (v := .ref (a 6)) (C := RX9) (T := TX9) (N := 28) hx hb hts in9 hown hK hP 0 rfl rfl 14 (by decide) k25 (fun _ h9 => h9) rfl dX9_told_55 ?_
            refine lv_iload_n hx hb dX9_told_58 rfl (lv_at hl 1 rfl) ?_
            refine va_iald (D := (dC, dI)) (f := σ 6) hx hb hK hP 6 0 rfl rfl (i := x1) (n := 10) (zin (by omega) (by omega)) dX9_told_59 ?_
            refine lv_topi (fun v59 ev59 => ?_)
            have tv59 := congrArg Int32.toInt ev59
            refine lv_goto (tgt := 96) hx hb dX9_told_60 (by decide) ?_
            have heq9 : σ = σ := rfl
            have hpost : σ = σ ∧ True := by refine ⟨heq9, ?_⟩; trivial
            exact W.iret (v := v59) hx hb hr (fun t9 ht hW => ⟨⟨v59, σ, rfl, hpost, by rw [ht]; exact hP, va_K.moved hW.alike hK, hD⟩, hS.F ht⟩) hS.2.2 dX9_told_96
        · skip
          have ic37 := zeq (a := x2.toInt) (b := 1) rfl (by decide) c37
          refine lv_aload_n hx hb dX9_told_40 rfl (lv_at hl 0 rfl) ?_
          refine va_get (D := (dC, dI)) (ci := 9) (v := .ref (a 5)) (C := RX9) (T := TX9) (N := 28) hx hb hts in9 hown hK hP 0 rfl rfl 13 (by decide) k22 (fun _ h9 => h9) rfl dX9_told_41 ?_
          refine lv_iload_n hx hb dX9_told_44 rfl (lv_at hl 1 rfl) ?_
          refine va_iald (D := (dC, dI)) (f := σ 5) hx hb hK hP 5 0 rfl rfl (i := x1) (n := 10) (zin (by omega) (by omega)) dX9_told_45 ?_
          refine lv_topi (fun v45 ev45 => ?_)
          have tv45 := congrArg Int32.toInt ev45
          refine lv_goto (tgt := 96) hx hb dX9_told_46 (by decide) ?_
          have heq9 : σ = σ := rfl
          have hpost : σ = σ ∧ True := by refine ⟨heq9, ?_⟩; trivial
          exact W.iret (v := v45) hx hb hr (fun t9 ht hW => ⟨⟨v45, σ, rfl, hpost, by rw [ht]; exact hP, va_K.moved hW.alike hK, hD⟩, hS.F ht⟩) hS.2.2 dX9_told_96
      · skip
        have ic23 := zeq (a := x2.toInt) (b := 0) rfl (by decide) c23
        refine lv_aload_n hx hb dX9_told_26 rfl (lv_at hl 0 rfl) ?_
        refine va_get (D := (dC, dI)) (ci := 9) (v := .ref (a 4)) (C := RX9) (T := TX9) (N := 28) hx hb hts in9 hown hK hP 0 rfl rfl 12 (by decide) k19 (fun _ h9 => h9) rfl dX9_told_27 ?_
        refine lv_iload_n hx hb dX9_told_30 rfl (lv_at hl 1 rfl) ?_
        refine va_iald (D := (dC, dI)) (f := σ 4) hx hb hK hP 4 0 rfl rfl (i := x1) (n := 10) (zin (by omega) (by omega)) dX9_told_31 ?_
        refine lv_topi (fun v31 ev31 => ?_)
        have tv31 := congrArg Int32.toInt ev31
        refine lv_goto (tgt := 96) hx hb dX9_told_32 (by decide) ?_
        have heq9 : σ = σ := rfl
        have hpost : σ = σ ∧ True := by refine ⟨heq9, ?_⟩; trivial
        exact W.iret (v := v31) hx hb hr (fun t9 ht hW => ⟨⟨v31, σ, rfl, hpost, by rw [ht]; exact hP, va_K.moved hW.alike hK, hD⟩, hS.F ht⟩) hS.2.2 dX9_told_96
    · skip
      have ic17 := zeq (a := v14.toInt) (b := 0) rfl (by decide) c17
      refine lv_iconst (v := (-1)) hx hb dX9_told_20 (by decide) ?_
      have heq9 : σ = σ := rfl
      have hpost : σ = σ ∧ True := by refine ⟨heq9, ?_⟩; trivial
      exact W.iret (v := (-1)) hx hb hr (fun t9 ht hW => ⟨⟨(-1), σ, rfl, hpost, by rw [ht]; exact hP, va_K.moved hW.alike hK, hD⟩, hS.F ht⟩) hS.2.2 dX9_told_21

abbrev RM_X9_way : Room := { frames := 3, cells := 0, slots := 0, locals := 67 }
set_option maxHeartbeats 4000000 in
set_option maxRecDepth 100000 in
theorem c_X9_way (l : Launch) (dC : Nat → ClassId) (dI : Nat → Nat → Nat) (cI : ClassId) (a : Nat → Nat) (N : (Nat → Prop) → State → Prop) (hok : zNok N) (σ : Cn) (sz : Nat) (x1 : Int32) (x2 : Int32) (h0 : 0 ≤ (σ 0 10).toInt ∧ (σ 0 10).toInt ≤ 4) (h2 : 0 ≤ (σ 0 11).toInt ∧ (σ 0 11).toInt ≤ 10) : Met l yX9_way wsX9_way RM_X9_way (zPc (dC, dI) [(cI, .int)] N (wM a cI) σ sz [.ref (a 0), .int x1, .int x2]) (zQi (dC, dI) [(cI, .int)] (wM a cI) (va_A (wM a cI σ) sz) (fun (r : Int32) (σ1 : Cn) => σ1 = σ ∧ True)) 0 0 (va_A (wM a cI σ) sz) := by
  refine Met.ofW (cc := cX9_way) (maxL := 5) (ret := (some .int)) (by decide) rfl ?_
  intro p e s m args below meth c s₁ B hml hv
  obtain ⟨rfl, hsz, hP, hK, hD0, hN⟩ := hv
  have hx := B.exec
  have hb := B.bytes
  have hr := B.returns
  have hts := atoms_spec (ws := wsX9_way) B.pre
  have hown : s.vm.findClass RX9 = some m.cls := findClass_of_methodNamed B.named
  have hlocks := B.notSynchronized
  subst hsz
  have hD := hD0.self (sz := s.heap.size)
  generalize hAe : va_A (wM a cI σ) s.heap.size = A at hD hN ⊢
  have hA : ∀ q : Nat, s.heap.size ≤ q → A q := fun q h => by rw [← hAe]; exact Or.inr h
  clear hAe hD0
  have hS : va_S A s.heap s.heap [] := va_S.rf
  have in9 : ∀ w ∈ u_ws RX9 TX9 28, w ∈ wsX9_way := by decide +kernel
  have k146 := hts (.fieldLink RX9 146 "HouseSortedModel" "things" "I") (by decide +kernel)
  have k19 := hts (.fieldLink RX9 19 "HouseSortedModel" "weights" "[I") (by decide +kernel)
  have k22 := hts (.fieldLink RX9 22 "HouseSortedModel" "lows" "[I") (by decide +kernel)
  have k25 := hts (.fieldLink RX9 25 "HouseSortedModel" "highs" "[I") (by decide +kernel)
  have kq178 := hts (.constantLong RX9 178 (4)) (by decide +kernel)
  have kq180 := hts (.constantLong RX9 180 (3)) (by decide +kernel)
  have LP : ∀ n : Nat, (∀ (f : Int32) (j : Int32) (H : Heap) (locs : List Loc) (ls : Array Slot), 0 ≤ j.toInt ∧ j.toInt ≤ 10 → (10 - j.toInt).toNat < n → va_P (dC, dI) vwCl (wM a cI σ) H → va_D A (wM a cI σ) → va_S A s.heap H locs → lv_has ls 5 [(0, .ref (a 0)), (1, .int x1), (2, .int x2), (3, .int f), (4, .int j)] → W p l e (headSpec wsX9_way RM_X9_way).room s m ([.ref (a 0), .int x1, .int x2] : List Value).toArray below meth c H locs 0 0 (MQ below (zQi (dC, dI) [(cI, .int)] (wM a cI) A (fun (r : Int32) (σ1 : Cn) => σ1 = σ ∧ True)) ([.ref (a 0), .int x1, .int x2] : List Value).toArray s 0 0 A) (F0 m 31 ls [])) := by
    intro n
    induction n with
    | zero => exact by intros; omega
    | succ n ih =>
      · intro f j H locs ls g1 hmu hP hD hS hl
        refine lv_iload hx hb dX9_way_31 (lv_at hl 4 rfl) ?_
        refine lv_aload_n hx hb dX9_way_33 rfl (lv_at hl 0 rfl) ?_
        refine va_get (D := (dC, dI)) (ci := 9) (v := .int (σ 0 11)) (C := RX9) (T := TX9) (N := 28) hx hb hts in9 hown hK hP 0 rfl rfl 11 (by decide) k146 (fun _ h9 => h9) rfl dX9_way_34 ?_
        refine lv_icmp_ge (tgt := 104) hx hb dX9_way_37 (by decide) (fun c37 => ?_) (fun c37 => ?_)
        · skip
          have ic37 := zle (a := (σ 0 11).toInt) (b := j.toInt) rfl rfl c37
          refine lv_iload_n hx hb dX9_way_104 rfl (lv_at hl 3 rfl) ?_
          have heq9 : σ = σ := rfl
          have hpost : σ = σ ∧ True := by refine ⟨heq9, ?_⟩; trivial
          exact W.iret (v := f) hx hb hr (fun t9 ht hW => ⟨⟨f, σ, rfl, hpost, by rw [ht]; exact hP, va_K.moved hW.alike hK, hD⟩, hS.F ht⟩) hS.2.2 dX9_way_105
        · skip
          have ic37 := znle (a := (σ 0 11).toInt) (b := j.toInt) rfl rfl c37
          refine lv_aload_n hx hb dX9_way_40 rfl (lv_at hl 0 rfl) ?_
          refine lv_iload hx hb dX9_way_41 (lv_at hl 4 rfl) ?_
          refine zcalli (va_runV (As := [.int j]) (rest := []) ⟨hx, hb, hml, hown, hts⟩ (c_X9_wayNow l dC dI cI a N hok σ H.size (j) h0 (by omega)) (cwV 1 hts gX9_way_X9_wayNow rfl rfl rfl (by decide +kernel) ⟨Nat.le_of_ble_eq_true rfl, Nat.le_of_ble_eq_true rfl⟩) (zpreV (wf := wM a cI) (q0 := 0) (ci := 9) hok hN hS hA hK hP hD rfl rfl) rfl rfl hl.1 rfl (lv_room (Nat.le_of_ble_eq_true rfl)) dX9_way_43 ⟨Nat.zero_le _, Nat.zero_le _⟩) hD hS hA (fun v43 σ1 H locs hv43 hP hD hS => ?_)
          obtain ⟨es9, hv43⟩ := hv43
          subst σ1
          refine lv_iload_n hx hb dX9_way_46 rfl (lv_at hl 1 rfl) ?_
          refine lv_icmp_ne (tgt := 98) hx hb dX9_way_47 (by decide) (fun c47 => ?_) (fun c47 => ?_)
          · skip
            have ic47 := zneq (a := v43.toInt) (b := x1.toInt) rfl rfl c47
            obtain ⟨v98, ev98⟩ : ∃ y : Int32, y = j + 1 := ⟨_, rfl⟩
            refine lv_iinc (v := v98) (lv' := [(4, .int v98), (0, .ref (a 0)), (1, .int x1), (2, .int x2), (3, .int f)]) hx hb dX9_way_98 hl (k := 4) rfl (by rw [ev98]; rfl) (by decide) rfl (fun ls hl => ?_)
            have tv98 : v98.toInt = j.toInt + 1 := by rw [ev98, zadd, show (1 : Int32).toInt = 1 from by decide]; omega
            refine lv_goto (tgt := 31) hx hb dX9_way_101 (by decide) ?_
            exact ih (f) (v98)  H locs ls (by omega) (by omega) hP hD hS (lv_sub hl [1, 2, 3, 4, 0] rfl)
          · skip
            have ic47 := zeq (a := v43.toInt) (b := x1.toInt) rfl rfl c47
            refine lv_iload_n hx hb dX9_way_50 rfl (lv_at hl 3 rfl) ?_
            refine lv_iload_n hx hb dX9_way_51 rfl (lv_at hl 2 rfl) ?_
            refine lv_if_ne (tgt := 59) hx hb dX9_way_52 (by decide) (fun c52 => ?_) (fun c52 => ?_)
            · skip
              have ic52 := zneq (a := x2.toInt) (b := 0) rfl (by decide) c52
              refine lv_iload_n hx hb dX9_way_59 rfl (lv_at hl 2 rfl) ?_
              refine lv_iconst (v := 1) hx hb dX9_way_60 (by decide) ?_
              refine lv_icmp_ne (tgt := 74) hx hb dX9_way_61 (by decide) (fun c61 => ?_) (fun c61 => ?_)
              · skip
                have ic61 := zneq (a := x2.toInt) (b := 1) rfl (by decide) c61
                refine lv_iload_n hx hb dX9_way_74 rfl (lv_at hl 2 rfl) ?_
                refine lv_iconst (v := 2) hx hb dX9_way_75 (by decide) ?_
                refine lv_icmp_ne (tgt := 89) hx hb dX9_way_76 (by decide) (fun c76 => ?_) (fun c76 => ?_)
                · skip
                  have ic76 := zneq (a := x2.toInt) (b := 2) rfl (by decide) c76
                  refine lv_aload_n hx hb dX9_way_89 rfl (lv_at hl 0 rfl) ?_
                  refine va_get (D := (dC, dI)) (ci := 9) (v := .ref (a 6)) (C := RX9) (T := TX9) (N := 28) hx hb hts in9 hown hK hP 0 rfl rfl 14 (by decide) k25 (fun _ h9 => h9) rfl dX9_way_90 ?_
                  refine lv_iload hx hb dX9_way_93 (lv_at hl 4 rfl) ?_
                  refine va_iald (D := (dC, dI)) (f := σ 6) hx hb hK hP 6 0 rfl rfl (i := j) (n := 10) (zin (by omega) (by omega)) dX9_way_95 ?_
                  refine lv_topi (fun v95 ev95 => ?_)
                  have tv95 := congrArg Int32.toInt ev95
                  refine lv_iadd hx hb dX9_way_96 ?_
                  refine lv_topi (fun v96 ev96 => ?_)
                  refine lv_istore_n (lv' := [(3, .int v96), (0, .ref (a 0)), (1, .int x1), (2, .int x2), (4, .int j)]) hx hb dX9_way_97 rfl hl (by decide) rfl (fun ls hl => ?_)
                  obtain ⟨v98, ev98⟩ : ∃ y : Int32, y = j + 1 := ⟨_, rfl⟩
                  refine lv_iinc (v := v98) (lv' := [(4, .int v98), (3, .int v96), (0, .ref (a 0)), (1, .int x1), (2, .int x2)]) hx hb dX9_way_98 hl (k := 4) rfl (by rw [ev98]; rfl) (by decide) rfl (fun ls hl => ?_)
                  have tv98 : v98.toInt = j.toInt + 1 := by rw [ev98, zadd, show (1 : Int32).toInt = 1 from by decide]; omega
                  refine lv_goto (tgt := 31) hx hb dX9_way_101 (by decide) ?_
                  exact ih (v96) (v98)  H locs ls (by omega) (by omega) hP hD hS (lv_sub hl [2, 3, 4, 1, 0] rfl)
                · skip
                  have ic76 := zeq (a := x2.toInt) (b := 2) rfl (by decide) c76
                  refine lv_aload_n hx hb dX9_way_79 rfl (lv_at hl 0 rfl) ?_
                  refine va_get (D := (dC, dI)) (ci := 9) (v := .ref (a 5)) (C := RX9) (T := TX9) (N := 28) hx hb hts in9 hown hK hP 0 rfl rfl 13 (by decide) k22 (fun _ h9 => h9) rfl dX9_way_80 ?_
                  refine lv_iload hx hb dX9_way_83 (lv_at hl 4 rfl) ?_
                  refine va_iald (D := (dC, dI)) (f := σ 5) hx hb hK hP 5 0 rfl rfl (i := j) (n := 10) (zin (by omega) (by omega)) dX9_way_85 ?_
                  refine lv_topi (fun v85 ev85 => ?_)
                  have tv85 := congrArg Int32.toInt ev85
                  refine lv_goto (tgt := 96) hx hb dX9_way_86 (by decide) ?_
                  refine lv_iadd hx hb dX9_way_96 ?_
                  refine lv_topi (fun v96 ev96 => ?_)
                  refine lv_istore_n (lv' := [(3, .int v96), (0, .ref (a 0)), (1, .int x1), (2, .int x2), (4, .int j)]) hx hb dX9_way_97 rfl hl (by decide) rfl (fun ls hl => ?_)
                  obtain ⟨v98, ev98⟩ : ∃ y : Int32, y = j + 1 := ⟨_, rfl⟩
                  refine lv_iinc (v := v98) (lv' := [(4, .int v98), (3, .int v96), (0, .ref (a 0)), (1, .int x1), (2, .int x2)]) hx hb dX9_way_98 hl (k := 4) rfl (by rw [ev98]; rfl) (by decide) rfl (fun ls hl => ?_)
                  have tv98 : v98.toInt = j.toInt + 1 := by rw [ev98, zadd, show (1 : Int32).toInt = 1 from by decide]; omega
                  refine lv_goto (tgt := 31) hx hb dX9_way_101 (by decide) ?_
                  exact ih (v96) (v98)  H locs ls (by omega) (by omega) hP hD hS (lv_sub hl [2, 3, 4, 1, 0] rfl)
              · skip
                have ic61 := zeq (a := x2.toInt) (b := 1) rfl (by decide) c61
                refine lv_aload_n hx hb dX9_way_64 rfl (lv_at hl 0 rfl) ?_
                refine va_get (D := (dC, dI)) (ci := 9) (v := .ref (a 4)) (C := RX9) (T := TX9) (N := 28) hx hb hts in9 hown hK hP 0 rfl rfl 12 (by decide) k19 (fun _ h9 => h9) rfl dX9_way_65 ?_
                refine lv_iload hx hb dX9_way_68 (lv_at hl 4 rfl) ?_
                refine va_iald (D := (dC, dI)) (f := σ 4) hx hb hK hP 4 0 rfl rfl (i := j) (n := 10) (zin (by omega) (by omega)) dX9_way_70 ?_
                refine lv_topi (fun v70 ev70 => ?_)
                have tv70 := congrArg Int32.toInt ev70
                refine lv_goto (tgt := 96) hx hb dX9_way_71 (by decide) ?_
                refine lv_iadd hx hb dX9_way_96 ?_
                refine lv_topi (fun v96 ev96 => ?_)
                refine lv_istore_n (lv' := [(3, .int v96), (0, .ref (a 0)), (1, .int x1), (2, .int x2), (4, .int j)]) hx hb dX9_way_97 rfl hl (by decide) rfl (fun ls hl => ?_)
                obtain ⟨v98, ev98⟩ : ∃ y : Int32, y = j + 1 := ⟨_, rfl⟩
                refine lv_iinc (v := v98) (lv' := [(4, .int v98), (3, .int v96), (0, .ref (a 0)), (1, .int x1), (2, .int x2)]) hx hb dX9_way_98 hl (k := 4) rfl (by rw [ev98]; rfl) (by decide) rfl (fun ls hl => ?_)
                have tv98 : v98.toInt = j.toInt + 1 := by rw [ev98, zadd, show (1 : Int32).toInt = 1 from by decide]; omega
                refine lv_goto (tgt := 31) hx hb dX9_way_101 (by decide) ?_
                exact ih (v96) (v98)  H locs ls (by omega) (by omega) hP hD hS (lv_sub hl [2, 3, 4, 1, 0] rfl)
            · skip
              have ic52 := zeq (a := x2.toInt) (b := 0) rfl (by decide) c52
              refine lv_iconst (v := 1) hx hb dX9_way_55 (by decide) ?_
              refine lv_goto (tgt := 96) hx hb dX9_way_56 (by decide) ?_
              refine lv_iadd hx hb dX9_way_96 ?_
              refine lv_topi (fun v96 ev96 => ?_)
              refine lv_istore_n (lv' := [(3, .int v96), (0, .ref (a 0)), (1, .int x1), (2, .int x2), (4, .int j)]) hx hb dX9_way_97 rfl hl (by decide) rfl (fun ls hl => ?_)
              obtain ⟨v98, ev98⟩ : ∃ y : Int32, y = j + 1 := ⟨_, rfl⟩
              refine lv_iinc (v := v98) (lv' := [(4, .int v98), (3, .int v96), (0, .ref (a 0)), (1, .int x1), (2, .int x2)]) hx hb dX9_way_98 hl (k := 4) rfl (by rw [ev98]; rfl) (by decide) rfl (fun ls hl => ?_)
              have tv98 : v98.toInt = j.toInt + 1 := by rw [ev98, zadd, show (1 : Int32).toInt = 1 from by decide]; omega
              refine lv_goto (tgt := 31) hx hb dX9_way_101 (by decide) ?_
              exact ih (v96) (v98)  H locs ls (by omega) (by omega) hP hD hS (lv_sub hl [2, 3, 4, 1, 0] rfl)
  have hl := lv_entry ([.ref (a 0), .int x1, .int x2]) (n := 5) (Nat.le_of_ble_eq_true rfl)
  rw [lg_entry_eq]
  generalize (lg_sl ([.ref (a 0), .int x1, .int x2]) ++ List.replicate (5 - (lg_sl ([.ref (a 0), .int x1, .int x2])).length) Slot.unset).toArray = ls at hl ⊢
  have hl : lv_has ls 5 [(0, .ref (a 0)), (1, .int x1), (2, .int x2)] := hl
  suffices main : ∀ (H : Heap) (locs : List Loc), va_P (dC, dI) vwCl (wM a cI σ) H → va_D A (wM a cI σ) → va_S A s.heap H locs → W p l e (headSpec wsX9_way RM_X9_way).room s m ([.ref (a 0), .int x1, .int x2] : List Value).toArray below meth c H locs 0 0 (MQ below (zQi (dC, dI) [(cI, .int)] (wM a cI) A (fun (r : Int32) (σ1 : Cn) => σ1 = σ ∧ True)) ([.ref (a 0), .int x1, .int x2] : List Value).toArray s 0 0 A) (F0 m 0 ls []) from main s.heap [] hP hD hS
  intro H locs hP hD hS
  refine lv_iload_n hx hb dX9_way_0 rfl (lv_at hl 1 rfl) ?_
  refine lv_i2l hx hb dX9_way_1 rfl ?_
  refine lv_topl (fun v1 ev1 => ?_)
  have tv1 : v1.toInt = x1.toInt := by rw [ev1]; exact zi2l rfl
  refine lv_lconst (v := 0) hx hb dX9_way_2 (by decide) ?_
  refine lv_ldc2 hx hb hown kq178 dX9_way_3 ?_
  refine zcalli (va_runS (As := [.long v1, .long 0, .long 4]) (rest := []) ⟨hx, hb, hml, hown, hts⟩ (c_X9_in l dC dI cI a N hok σ H.size (v1) (0) (4) ) (va_cwS 3 hts gX9_way_X9_in rfl rfl rfl (by decide +kernel) ⟨Nat.le_of_ble_eq_true rfl, Nat.le_of_ble_eq_true rfl⟩) (zpreS (wf := wM a cI) hok hN hS hA hK hP hD) rfl rfl hl.1 rfl (lv_room (Nat.le_of_ble_eq_true rfl)) dX9_way_6 ⟨Nat.zero_le _, Nat.zero_le _⟩) hD hS hA (fun v6 σ1 H locs hv6 hP hD hS => ?_)
  obtain ⟨es9, hv6⟩ := hv6
  subst σ1
  try simp only [show (0 : Int64).toInt = 0 from by decide, show (4 : Int64).toInt = 4 from by decide] at hv6
  refine lv_if_eq (tgt := 24) hx hb dX9_way_9 (by decide) (fun c9 => ?_) (fun c9 => ?_)
  · skip
    have ic9 := zeq (a := v6.toInt) (b := 0) rfl (by decide) c9
    refine lv_iconst (v := (-1)) hx hb dX9_way_24 (by decide) ?_
    have heq9 : σ = σ := rfl
    have hpost : σ = σ ∧ True := by refine ⟨heq9, ?_⟩; trivial
    exact W.iret (v := (-1)) hx hb hr (fun t9 ht hW => ⟨⟨(-1), σ, rfl, hpost, by rw [ht]; exact hP, va_K.moved hW.alike hK, hD⟩, hS.F ht⟩) hS.2.2 dX9_way_25
  · skip
    have ic9 := zneq (a := v6.toInt) (b := 0) rfl (by decide) c9
    refine lv_iload_n hx hb dX9_way_12 rfl (lv_at hl 2 rfl) ?_
    refine lv_i2l hx hb dX9_way_13 rfl ?_
    refine lv_topl (fun v13 ev13 => ?_)
    have tv13 : v13.toInt = x2.toInt := by rw [ev13]; exact zi2l rfl
    refine lv_lconst (v := 0) hx hb dX9_way_14 (by decide) ?_
    refine lv_ldc2 hx hb hown kq180 dX9_way_15 ?_
    refine zcalli (va_runS (As := [.long v13, .long 0, .long 3]) (rest := []) ⟨hx, hb, hml, hown, hts⟩ (c_X9_in l dC dI cI a N hok σ H.size (v13) (0) (3) ) (va_cwS 3 hts gX9_way_X9_in rfl rfl rfl (by decide +kernel) ⟨Nat.le_of_ble_eq_true rfl, Nat.le_of_ble_eq_true rfl⟩) (zpreS (wf := wM a cI) hok hN hS hA hK hP hD) rfl rfl hl.1 rfl (lv_room (Nat.le_of_ble_eq_true rfl)) dX9_way_18 ⟨Nat.zero_le _, Nat.zero_le _⟩) hD hS hA (fun v18 σ1 H locs hv18 hP hD hS => ?_)
    obtain ⟨es9, hv18⟩ := hv18
    subst σ1
    try simp only [show (0 : Int64).toInt = 0 from by decide, show (3 : Int64).toInt = 3 from by decide] at hv18
    refine lv_if_ne (tgt := 26) hx hb dX9_way_21 (by decide) (fun c21 => ?_) (fun c21 => ?_)
    · skip
      have ic21 := zneq (a := v18.toInt) (b := 0) rfl (by decide) c21
      refine lv_iconst (v := 0) hx hb dX9_way_26 (by decide) ?_
      refine lv_istore_n (lv' := [(3, .int 0), (0, .ref (a 0)), (1, .int x1), (2, .int x2)]) hx hb dX9_way_27 rfl hl (by decide) rfl (fun ls hl => ?_)
      refine lv_iconst (v := 0) hx hb dX9_way_28 (by decide) ?_
      refine lv_istore (lv' := [(4, .int 0), (3, .int 0), (0, .ref (a 0)), (1, .int x1), (2, .int x2)]) hx hb dX9_way_29 hl (by decide) rfl (fun ls hl => ?_)
      exact (LP _) (0) (0)  H locs ls (by decide) (Nat.lt_succ_self _) hP hD hS (lv_sub hl [2, 3, 4, 1, 0] rfl)
    · skip
      have ic21 := zeq (a := v18.toInt) (b := 0) rfl (by decide) c21
      refine lv_iconst (v := (-1)) hx hb dX9_way_24 (by decide) ?_
      have heq9 : σ = σ := rfl
      have hpost : σ = σ ∧ True := by refine ⟨heq9, ?_⟩; trivial
      exact W.iret (v := (-1)) hx hb hr (fun t9 ht hW => ⟨⟨(-1), σ, rfl, hpost, by rw [ht]; exact hP, va_K.moved hW.alike hK, hD⟩, hS.F ht⟩) hS.2.2 dX9_way_25

abbrev RM_X9_asks : Room := { frames := 2, cells := 0, slots := 0, locals := 46 }
set_option maxHeartbeats 4000000 in
set_option maxRecDepth 100000 in
theorem c_X9_asks (l : Launch) (dC : Nat → ClassId) (dI : Nat → Nat → Nat) (cI : ClassId) (a : Nat → Nat) (N : (Nat → Prop) → State → Prop) (hok : zNok N) (σ : Cn) (sz : Nat) (x1 : Int32) (h2 : 0 ≤ (σ 0 11).toInt ∧ (σ 0 11).toInt ≤ 10) : Met l yX9_asks wsX9_asks RM_X9_asks (zPc (dC, dI) [(cI, .int)] N (wM a cI) σ sz [.ref (a 0), .int x1]) (zQi (dC, dI) [(cI, .int)] (wM a cI) (va_A (wM a cI σ) sz) (fun (r : Int32) (σ1 : Cn) => σ1 = σ ∧ True)) 0 0 (va_A (wM a cI σ) sz) := by
  refine Met.ofW (cc := cX9_asks) (maxL := 4) (ret := (some .int)) (by decide) rfl ?_
  intro p e s m args below meth c s₁ B hml hv
  obtain ⟨rfl, hsz, hP, hK, hD0, hN⟩ := hv
  have hx := B.exec
  have hb := B.bytes
  have hr := B.returns
  have hts := atoms_spec (ws := wsX9_asks) B.pre
  have hown : s.vm.findClass RX9 = some m.cls := findClass_of_methodNamed B.named
  have hlocks := B.notSynchronized
  subst hsz
  have hD := hD0.self (sz := s.heap.size)
  generalize hAe : va_A (wM a cI σ) s.heap.size = A at hD hN ⊢
  have hA : ∀ q : Nat, s.heap.size ≤ q → A q := fun q h => by rw [← hAe]; exact Or.inr h
  clear hAe hD0
  have hS : va_S A s.heap s.heap [] := va_S.rf
  have in9 : ∀ w ∈ u_ws RX9 TX9 28, w ∈ wsX9_asks := by decide +kernel
  have k22 := hts (.fieldLink RX9 22 "HouseSortedModel" "lows" "[I") (by decide +kernel)
  have k25 := hts (.fieldLink RX9 25 "HouseSortedModel" "highs" "[I") (by decide +kernel)
  have hl := lv_entry ([.ref (a 0), .int x1]) (n := 4) (Nat.le_of_ble_eq_true rfl)
  rw [lg_entry_eq]
  generalize (lg_sl ([.ref (a 0), .int x1]) ++ List.replicate (4 - (lg_sl ([.ref (a 0), .int x1])).length) Slot.unset).toArray = ls at hl ⊢
  have hl : lv_has ls 4 [(0, .ref (a 0)), (1, .int x1)] := hl
  suffices main : ∀ (H : Heap) (locs : List Loc), va_P (dC, dI) vwCl (wM a cI σ) H → va_D A (wM a cI σ) → va_S A s.heap H locs → W p l e (headSpec wsX9_asks RM_X9_asks).room s m ([.ref (a 0), .int x1] : List Value).toArray below meth c H locs 0 0 (MQ below (zQi (dC, dI) [(cI, .int)] (wM a cI) A (fun (r : Int32) (σ1 : Cn) => σ1 = σ ∧ True)) ([.ref (a 0), .int x1] : List Value).toArray s 0 0 A) (F0 m 0 ls []) from main s.heap [] hP hD hS
  intro H locs hP hD hS
  refine lv_aload_n hx hb dX9_asks_0 rfl (lv_at hl 0 rfl) ?_
  refine lv_iload_n hx hb dX9_asks_1 rfl (lv_at hl 1 rfl) ?_
  refine zcalli (va_runV (As := [.int x1]) (rest := []) ⟨hx, hb, hml, hown, hts⟩ (c_X9_isThing l dC dI cI a N hok σ H.size (x1) h2) (cwV 1 hts gX9_asks_X9_isThing rfl rfl rfl (by decide +kernel) ⟨Nat.le_of_ble_eq_true rfl, Nat.le_of_ble_eq_true rfl⟩) (zpreV (wf := wM a cI) (q0 := 0) (ci := 9) hok hN hS hA hK hP hD rfl rfl) rfl rfl hl.1 rfl (lv_room (Nat.le_of_ble_eq_true rfl)) dX9_asks_2 ⟨Nat.zero_le _, Nat.zero_le _⟩) hD hS hA (fun v2 σ1 H locs hv2 hP hD hS => ?_)
  obtain ⟨es9, hv2⟩ := hv2
  subst σ1
  refine lv_if_ne (tgt := 10) hx hb dX9_asks_5 (by decide) (fun c5 => ?_) (fun c5 => ?_)
  · skip
    have ic5 := zneq (a := v2.toInt) (b := 0) rfl (by decide) c5
    replace hv2 := (hv2.resolve_right (fun q => by omega)).2
    refine lv_aload_n hx hb dX9_asks_10 rfl (lv_at hl 0 rfl) ?_
    refine lv_iconst (v := 1) hx hb dX9_asks_11 (by decide) ?_
    refine zcalli (va_runV (As := [.int 1]) (rest := []) ⟨hx, hb, hml, hown, hts⟩ (c_X9_lawOf l dC dI cI a N hok σ H.size (1) (by decide)) (cwV 1 hts gX9_asks_X9_lawOf rfl rfl rfl (by decide +kernel) ⟨Nat.le_of_ble_eq_true rfl, Nat.le_of_ble_eq_true rfl⟩) (zpreV (wf := wM a cI) (q0 := 0) (ci := 9) hok hN hS hA hK hP hD rfl rfl) rfl rfl hl.1 rfl (lv_room (Nat.le_of_ble_eq_true rfl)) dX9_asks_12 ⟨Nat.zero_le _, Nat.zero_le _⟩) hD hS hA (fun v12 σ1 H locs hv12 hP hD hS => ?_)
    obtain ⟨es9, hv12⟩ := hv12
    subst σ1
    try simp only [show (1 : Int32).toInt = 1 from by decide] at hv12
    refine lv_istore_n (lv' := [(2, .int v12), (0, .ref (a 0)), (1, .int x1)]) hx hb dX9_asks_15 rfl hl (by decide) rfl (fun ls hl => ?_)
    refine lv_aload_n hx hb dX9_asks_16 rfl (lv_at hl 1 rfl) ?_
    refine va_get (D := (dC, dI)) (ci := 9) (v := .ref (a 6)) (C := RX9) (T := TX9) (N := 28) hx hb hts in9 hown hK hP 0 rfl rfl 14 (by decide) k25 (fun _ h9 => h9) rfl dX9_asks_17 ?_
    refine lv_iload_n hx hb dX9_asks_20 rfl (lv_at hl 2 rfl) ?_
    refine va_iald (D := (dC, dI)) (f := σ 6) hx hb hK hP 6 0 rfl rfl (i := x1) (n := 10) (zin (by omega) (by omega)) dX9_asks_21 ?_
    refine lv_topi (fun v21 ev21 => ?_)
    have tv21 := congrArg Int32.toInt ev21
    refine lv_iload_n hx hb dX9_asks_22 rfl (lv_at hl 0 rfl) ?_
    refine lv_isub hx hb dX9_asks_23 ?_
    refine lv_topi (fun v23 ev23 => ?_)
    refine lv_aload_n hx hb dX9_asks_24 rfl (lv_at hl 1 rfl) ?_
    refine lv_iconst (v := 4) hx hb dX9_asks_25 (by decide) ?_
    refine zcalli (va_runV (As := [.int 4]) (rest := [.int v23]) ⟨hx, hb, hml, hown, hts⟩ (c_X9_lawOf l dC dI cI a N hok σ H.size (4) (by decide)) (cwV 1 hts gX9_asks_X9_lawOf rfl rfl rfl (by decide +kernel) ⟨Nat.le_of_ble_eq_true rfl, Nat.le_of_ble_eq_true rfl⟩) (zpreV (wf := wM a cI) (q0 := 0) (ci := 9) hok hN hS hA hK hP hD rfl rfl) rfl rfl hl.1 rfl (lv_room (Nat.le_of_ble_eq_true rfl)) dX9_asks_26 ⟨Nat.zero_le _, Nat.zero_le _⟩) hD hS hA (fun v26 σ1 H locs hv26 hP hD hS => ?_)
    obtain ⟨es9, hv26⟩ := hv26
    subst σ1
    try simp only [show (4 : Int32).toInt = 4 from by decide] at hv26
    refine lv_isub hx hb dX9_asks_29 ?_
    refine lv_topi (fun v29 ev29 => ?_)
    refine lv_istore_n (lv' := [(3, .int v29), (2, .int v12), (0, .ref (a 0)), (1, .int x1)]) hx hb dX9_asks_30 rfl hl (by decide) rfl (fun ls hl => ?_)
    refine lv_aload_n hx hb dX9_asks_31 rfl (lv_at hl 2 rfl) ?_
    refine lv_iload_n hx hb dX9_asks_32 rfl (lv_at hl 3 rfl) ?_
    refine zcalli (va_runV (As := [.int x1]) (rest := []) ⟨hx, hb, hml, hown, hts⟩ (c_X9_sent l dC dI cI a N hok σ H.size (x1) (by omega)) (cwV 1 hts gX9_asks_X9_sent rfl rfl rfl (by decide +kernel) ⟨Nat.le_of_ble_eq_true rfl, Nat.le_of_ble_eq_true rfl⟩) (zpreV (wf := wM a cI) (q0 := 0) (ci := 9) hok hN hS hA hK hP hD rfl rfl) rfl rfl hl.1 rfl (lv_room (Nat.le_of_ble_eq_true rfl)) dX9_asks_33 ⟨Nat.zero_le _, Nat.zero_le _⟩) hD hS hA (fun v33 σ1 H locs hv33 hP hD hS => ?_)
    obtain ⟨es9, hv33⟩ := hv33
    subst σ1
    refine lv_bipush (v := (-4)) hx hb dX9_asks_36 (by decide) ?_
    refine lv_icmp_ne (tgt := 69) hx hb dX9_asks_38 (by decide) (fun c38 => ?_) (fun c38 => ?_)
    · skip
      have ic38 := zneq (a := v33.toInt) (b := (-4)) rfl (by decide) c38
      refine lv_iconst (v := 0) hx hb dX9_asks_69 (by decide) ?_
      have heq9 : σ = σ := rfl
      have hpost : σ = σ ∧ True := by refine ⟨heq9, ?_⟩; trivial
      exact W.iret (v := 0) hx hb hr (fun t9 ht hW => ⟨⟨0, σ, rfl, hpost, by rw [ht]; exact hP, va_K.moved hW.alike hK, hD⟩, hS.F ht⟩) hS.2.2 dX9_asks_70
    · skip
      have ic38 := zeq (a := v33.toInt) (b := (-4)) rfl (by decide) c38
      refine lv_aload_n hx hb dX9_asks_41 rfl (lv_at hl 2 rfl) ?_
      refine va_get (D := (dC, dI)) (ci := 9) (v := .ref (a 5)) (C := RX9) (T := TX9) (N := 28) hx hb hts in9 hown hK hP 0 rfl rfl 13 (by decide) k22 (fun _ h9 => h9) rfl dX9_asks_42 ?_
      refine lv_iload_n hx hb dX9_asks_45 rfl (lv_at hl 3 rfl) ?_
      refine va_iald (D := (dC, dI)) (f := σ 5) hx hb hK hP 5 0 rfl rfl (i := x1) (n := 10) (zin (by omega) (by omega)) dX9_asks_46 ?_
      refine lv_topi (fun v46 ev46 => ?_)
      have tv46 := congrArg Int32.toInt ev46
      refine lv_iload_n hx hb dX9_asks_47 rfl (lv_at hl 1 rfl) ?_
      refine lv_icmp_ge (tgt := 69) hx hb dX9_asks_48 (by decide) (fun c48 => ?_) (fun c48 => ?_)
      · skip
        have ic48 := zle (a := v12.toInt) (b := v46.toInt) rfl rfl c48
        refine lv_iconst (v := 0) hx hb dX9_asks_69 (by decide) ?_
        have heq9 : σ = σ := rfl
        have hpost : σ = σ ∧ True := by refine ⟨heq9, ?_⟩; trivial
        exact W.iret (v := 0) hx hb hr (fun t9 ht hW => ⟨⟨0, σ, rfl, hpost, by rw [ht]; exact hP, va_K.moved hW.alike hK, hD⟩, hS.F ht⟩) hS.2.2 dX9_asks_70
      · skip
        have ic48 := znle (a := v12.toInt) (b := v46.toInt) rfl rfl c48
        refine lv_aload_n hx hb dX9_asks_51 rfl (lv_at hl 2 rfl) ?_
        refine va_get (D := (dC, dI)) (ci := 9) (v := .ref (a 6)) (C := RX9) (T := TX9) (N := 28) hx hb hts in9 hown hK hP 0 rfl rfl 14 (by decide) k25 (fun _ h9 => h9) rfl dX9_asks_52 ?_
        refine lv_iload_n hx hb dX9_asks_55 rfl (lv_at hl 3 rfl) ?_
        refine va_iald (D := (dC, dI)) (f := σ 6) hx hb hK hP 6 0 rfl rfl (i := x1) (n := 10) (zin (by omega) (by omega)) dX9_asks_56 ?_
        refine lv_topi (fun v56 ev56 => ?_)
        have tv56 := congrArg Int32.toInt ev56
        refine lv_iload_n hx hb dX9_asks_57 rfl (lv_at hl 1 rfl) ?_
        refine lv_icmp_lt (tgt := 69) hx hb dX9_asks_58 (by decide) (fun c58 => ?_) (fun c58 => ?_)
        · skip
          have ic58 := zlt (a := v56.toInt) (b := v12.toInt) rfl rfl c58
          refine lv_iconst (v := 0) hx hb dX9_asks_69 (by decide) ?_
          have heq9 : σ = σ := rfl
          have hpost : σ = σ ∧ True := by refine ⟨heq9, ?_⟩; trivial
          exact W.iret (v := 0) hx hb hr (fun t9 ht hW => ⟨⟨0, σ, rfl, hpost, by rw [ht]; exact hP, va_K.moved hW.alike hK, hD⟩, hS.F ht⟩) hS.2.2 dX9_asks_70
        · skip
          have ic58 := znlt (a := v56.toInt) (b := v12.toInt) rfl rfl c58
          refine lv_iload_n hx hb dX9_asks_61 rfl (lv_at hl 0 rfl) ?_
          refine lv_if_le (tgt := 69) hx hb dX9_asks_62 (by decide) (fun c62 => ?_) (fun c62 => ?_)
          · skip
            have ic62 := zle (a := v29.toInt) (b := 0) rfl (by decide) c62
            refine lv_iconst (v := 0) hx hb dX9_asks_69 (by decide) ?_
            have heq9 : σ = σ := rfl
            have hpost : σ = σ ∧ True := by refine ⟨heq9, ?_⟩; trivial
            exact W.iret (v := 0) hx hb hr (fun t9 ht hW => ⟨⟨0, σ, rfl, hpost, by rw [ht]; exact hP, va_K.moved hW.alike hK, hD⟩, hS.F ht⟩) hS.2.2 dX9_asks_70
          · skip
            have ic62 := znle (a := v29.toInt) (b := 0) rfl (by decide) c62
            refine lv_iload_n hx hb dX9_asks_65 rfl (lv_at hl 0 rfl) ?_
            refine lv_goto (tgt := 70) hx hb dX9_asks_66 (by decide) ?_
            have heq9 : σ = σ := rfl
            have hpost : σ = σ ∧ True := by refine ⟨heq9, ?_⟩; trivial
            exact W.iret (v := v29) hx hb hr (fun t9 ht hW => ⟨⟨v29, σ, rfl, hpost, by rw [ht]; exact hP, va_K.moved hW.alike hK, hD⟩, hS.F ht⟩) hS.2.2 dX9_asks_70
  · skip
    have ic5 := zeq (a := v2.toInt) (b := 0) rfl (by decide) c5
    replace hv2 := (hv2.resolve_left (fun q => by omega)).2
    refine lv_iconst (v := (-1)) hx hb dX9_asks_8 (by decide) ?_
    have heq9 : σ = σ := rfl
    have hpost : σ = σ ∧ True := by refine ⟨heq9, ?_⟩; trivial
    exact W.iret (v := (-1)) hx hb hr (fun t9 ht hW => ⟨⟨(-1), σ, rfl, hpost, by rw [ht]; exact hP, va_K.moved hW.alike hK, hD⟩, hS.F ht⟩) hS.2.2 dX9_asks_9

abbrev RM_X9_findShared : Room := { frames := 3, cells := 0, slots := 0, locals := 67 }
set_option maxHeartbeats 4000000 in
set_option maxRecDepth 100000 in
theorem c_X9_findShared (l : Launch) (dC : Nat → ClassId) (dI : Nat → Nat → Nat) (cI : ClassId) (a : Nat → Nat) (N : (Nat → Prop) → State → Prop) (hok : zNok N) (σ : Cn) (sz : Nat)  (h0 : 0 ≤ (σ 0 10).toInt ∧ (σ 0 10).toInt ≤ 4) (h2 : 0 ≤ (σ 0 11).toInt ∧ (σ 0 11).toInt ≤ 10) : Met l yX9_findShared wsX9_findShared RM_X9_findShared (zPc (dC, dI) [(cI, .int)] N (wM a cI) σ sz [.ref (a 0)]) (zQv (dC, dI) [(cI, .int)] (wM a cI) (va_A (wM a cI σ) sz) (fun (σ1 : Cn) => ∃ n18 : Int32, ∃ u10 : Nat → Int32, σ1 = (upC (upC σ 0 (upd (σ 0) 18 n18)) 10 u10) ∧ (0 ≤ n18.toInt ∧ n18.toInt ≤ (σ 0 11).toInt) ∧ ∀ j : Nat, (j : Int) < n18.toInt → 0 ≤ (u10 j).toInt ∧ (u10 j).toInt < (σ 0 11).toInt)) 0 0 (va_A (wM a cI σ) sz) := by
  refine Met.ofW (cc := cX9_findShared) (maxL := 2) (ret := none) (by decide) rfl ?_
  intro p e s m args below meth c s₁ B hml hv
  obtain ⟨rfl, hsz, hP, hK, hD0, hN⟩ := hv
  have hx := B.exec
  have hb := B.bytes
  have hr := B.returns
  have hts := atoms_spec (ws := wsX9_findShared) B.pre
  have hown : s.vm.findClass RX9 = some m.cls := findClass_of_methodNamed B.named
  have hlocks := B.notSynchronized
  subst hsz
  have hD := hD0.self (sz := s.heap.size)
  generalize hAe : va_A (wM a cI σ) s.heap.size = A at hD hN ⊢
  have hA : ∀ q : Nat, s.heap.size ≤ q → A q := fun q h => by rw [← hAe]; exact Or.inr h
  clear hAe hD0
  have hS : va_S A s.heap s.heap [] := va_S.rf
  have in9 : ∀ w ∈ u_ws RX9 TX9 28, w ∈ wsX9_findShared := by decide +kernel
  have k146 := hts (.fieldLink RX9 146 "HouseSortedModel" "things" "I") (by decide +kernel)
  have k182 := hts (.fieldLink RX9 182 "HouseSortedModel" "shared" "I") (by decide +kernel)
  have k37 := hts (.fieldLink RX9 37 "HouseSortedModel" "which" "[I") (by decide +kernel)
  have LP : ∀ n : Nat, (∀ (j : Int32) (m18 : Int32) (w10 : Nat → Int32) (H : Heap) (locs : List Loc) (ls : Array Slot), 0 ≤ j.toInt ∧ j.toInt ≤ (σ 0 11).toInt → 0 ≤ m18.toInt ∧ m18.toInt ≤ j.toInt → (∀ i : Nat, (i : Int) < m18.toInt → 0 ≤ (w10 i).toInt ∧ (w10 i).toInt < (σ 0 11).toInt) → (10 - j.toInt).toNat < n → va_P (dC, dI) vwCl (wM a cI (upC (upC σ 0 (upd (σ 0) 18 m18)) 10 w10)) H → va_D A (wM a cI (upC (upC σ 0 (upd (σ 0) 18 m18)) 10 w10)) → va_S A s.heap H locs → lv_has ls 2 [(0, .ref (a 0)), (1, .int j)] → W p l e (headSpec wsX9_findShared RM_X9_findShared).room s m ([.ref (a 0)] : List Value).toArray below meth c H locs 0 0 (MQ below (zQv (dC, dI) [(cI, .int)] (wM a cI) A (fun (σ1 : Cn) => ∃ n18 : Int32, ∃ u10 : Nat → Int32, σ1 = (upC (upC σ 0 (upd (σ 0) 18 n18)) 10 u10) ∧ (0 ≤ n18.toInt ∧ n18.toInt ≤ (σ 0 11).toInt) ∧ ∀ j : Nat, (j : Int) < n18.toInt → 0 ≤ (u10 j).toInt ∧ (u10 j).toInt < (σ 0 11).toInt)) ([.ref (a 0)] : List Value).toArray s 0 0 A) (F0 m 7 ls [])) := by
    intro n
    induction n with
    | zero => exact by intros; omega
    | succ n ih =>
      · intro j m18 w10 H locs ls g1 g2 g3 hmu hP hD hS hl
        refine lv_iload_n hx hb dX9_findShared_7 rfl (lv_at hl 1 rfl) ?_
        refine lv_aload_n hx hb dX9_findShared_8 rfl (lv_at hl 0 rfl) ?_
        refine va_get (D := (dC, dI)) (ci := 9) (v := .int (σ 0 11)) (C := RX9) (T := TX9) (N := 28) hx hb hts in9 hown hK hP 0 rfl rfl 11 (by decide) k146 (fun _ h9 => h9) rfl dX9_findShared_9 ?_
        refine lv_icmp_ge (tgt := 49) hx hb dX9_findShared_12 (by decide) (fun c12 => ?_) (fun c12 => ?_)
        · skip
          have ic12 := zle (a := (σ 0 11).toInt) (b := j.toInt) rfl rfl c12
          have heq9 : (upC (upC σ 0 (upd (σ 0) 18 m18)) 10 w10) = (upC (upC σ 0 (upd (σ 0) 18 m18)) 10 w10) := rfl
          have hpost : ∃ n18 : Int32, ∃ u10 : Nat → Int32, (upC (upC σ 0 (upd (σ 0) 18 m18)) 10 w10) = (upC (upC σ 0 (upd (σ 0) 18 n18)) 10 u10) ∧ (0 ≤ n18.toInt ∧ n18.toInt ≤ (σ 0 11).toInt) ∧ ∀ j : Nat, (j : Int) < n18.toInt → 0 ≤ (u10 j).toInt ∧ (u10 j).toInt < (σ 0 11).toInt := by refine ⟨(m18), (w10), heq9, ?_⟩; exact ⟨by omega, g3⟩
          exact W.vret hx hb hr (fun t9 ht hW => ⟨⟨(upC (upC σ 0 (upd (σ 0) 18 m18)) 10 w10), rfl, hpost, by rw [ht]; exact hP, va_K.moved hW.alike hK, hD⟩, hS.F ht⟩) hS.2.2 dX9_findShared_49
        · skip
          have ic12 := znle (a := (σ 0 11).toInt) (b := j.toInt) rfl rfl c12
          refine lv_aload_n hx hb dX9_findShared_15 rfl (lv_at hl 0 rfl) ?_
          refine lv_iload_n hx hb dX9_findShared_16 rfl (lv_at hl 1 rfl) ?_
          refine zcalli (va_runV (As := [.int j]) (rest := []) ⟨hx, hb, hml, hown, hts⟩ (c_X9_wayNow l dC dI cI a N hok (upC (upC σ 0 (upd (σ 0) 18 m18)) 10 w10) H.size (j) h0 (by omega)) (cwV 1 hts gX9_findShared_X9_wayNow rfl rfl rfl (by decide +kernel) ⟨Nat.le_of_ble_eq_true rfl, Nat.le_of_ble_eq_true rfl⟩) (zpreV (wf := wM a cI) (q0 := 0) (ci := 9) hok hN hS hA hK hP hD rfl rfl) rfl rfl hl.1 rfl (lv_room (Nat.le_of_ble_eq_true rfl)) dX9_findShared_17 ⟨Nat.zero_le _, Nat.zero_le _⟩) hD hS hA (fun v17 σ1 H locs hv17 hP hD hS => ?_)
          obtain ⟨es9, hv17⟩ := hv17
          subst σ1
          replace hv17 : (v17 : Int32) = mWay σ (j : Int32).toNatClampNeg := hv17
          refine lv_if_ne (tgt := 43) hx hb dX9_findShared_20 (by decide) (fun c20 => ?_) (fun c20 => ?_)
          · skip
            have ic20 := zneq (a := v17.toInt) (b := 0) rfl (by decide) c20
            obtain ⟨v43, ev43⟩ : ∃ y : Int32, y = j + 1 := ⟨_, rfl⟩
            refine lv_iinc (v := v43) (lv' := [(1, .int v43), (0, .ref (a 0))]) hx hb dX9_findShared_43 hl (k := 1) rfl (by rw [ev43]; rfl) (by decide) rfl (fun ls hl => ?_)
            have tv43 : v43.toInt = j.toInt + 1 := by rw [ev43, zadd, show (1 : Int32).toInt = 1 from by decide]; omega
            refine lv_goto (tgt := 7) hx hb dX9_findShared_46 (by decide) ?_
            exact ih (v43) (m18) (w10) H locs ls (by omega) (by omega) (by first | exact g3 | (have q8 := zcl (x := m18) (by omega); intro i hi; by_cases q : i = m18.toNatClampNeg; rw [q, pk_us]; omega; rw [pk_un q]; exact g3 i (by omega))) (by omega) hP hD hS (lv_sub hl [1, 0] rfl)
          · skip
            have ic20 := zeq (a := v17.toInt) (b := 0) rfl (by decide) c20
            refine lv_aload_n hx hb dX9_findShared_23 rfl (lv_at hl 0 rfl) ?_
            refine va_get (D := (dC, dI)) (ci := 9) (v := .ref (a 10)) (C := RX9) (T := TX9) (N := 28) hx hb hts in9 hown hK hP 0 rfl rfl 19 (by decide) k37 (fun _ h9 => h9) rfl dX9_findShared_24 ?_
            refine lv_aload_n hx hb dX9_findShared_27 rfl (lv_at hl 0 rfl) ?_
            refine va_get (D := (dC, dI)) (ci := 9) (v := .int m18) (C := RX9) (T := TX9) (N := 28) hx hb hts in9 hown hK hP 0 rfl rfl 18 (by decide) k182 (fun _ h9 => h9) rfl dX9_findShared_28 ?_
            refine lv_iload_n hx hb dX9_findShared_31 rfl (lv_at hl 1 rfl) ?_
            refine va_iast (D := (dC, dI)) (f := w10) hx hb hK hP hD hS 10 0 rfl rfl (i := m18) (n := 10) (zin (by omega) (by omega)) dX9_findShared_32 (fun H locs hP hD hS => ?_)
            have hP : va_P (dC, dI) vwCl (wM a cI (upC (upC σ 0 (upd (σ 0) 18 m18)) 10 (upd (w10) (m18).toNatClampNeg j))) H := hP
            have hD : va_D A (wM a cI (upC (upC σ 0 (upd (σ 0) 18 m18)) 10 (upd (w10) (m18).toNatClampNeg j))) := hD
            refine lv_aload_n hx hb dX9_findShared_33 rfl (lv_at hl 0 rfl) ?_
            refine lv_dup hx hb dX9_findShared_34 rfl ?_
            refine va_get (D := (dC, dI)) (ci := 9) (v := .int m18) (C := RX9) (T := TX9) (N := 28) hx hb hts in9 hown hK hP 0 rfl rfl 18 (by decide) k182 (fun _ h9 => h9) rfl dX9_findShared_35 ?_
            refine lv_iconst (v := 1) hx hb dX9_findShared_38 (by decide) ?_
            refine lv_iadd hx hb dX9_findShared_39 ?_
            refine lv_topi (fun v39 ev39 => ?_)
            have tv39 : v39.toInt = m18.toInt + 1 := by rw [ev39, zadd, show (1 : Int32).toInt = 1 from by decide]; omega
            refine va_put (D := (dC, dI)) (ci := 9) (v := .int v39) (ty := .int) (C := RX9) (T := TX9) (N := 28) hx hb hts in9 tyX9 tyX9_ok nmX9 hown hK hP hD hS 0 rfl rfl 18 (by decide) k182 (fun _ h9 => h9) rfl (by decide +kernel) rfl rfl (Nat.le_of_ble_eq_true rfl) dX9_findShared_40 (fun H locs hP hD hS => ?_)
            have hP : va_P (dC, dI) vwCl (wM a cI (upC (upC σ 0 (upd (σ 0) 18 v39)) 10 (upd (w10) (m18).toNatClampNeg j))) H := hP
            have hD : va_D A (wM a cI (upC (upC σ 0 (upd (σ 0) 18 v39)) 10 (upd (w10) (m18).toNatClampNeg j))) := hD
            obtain ⟨v43, ev43⟩ : ∃ y : Int32, y = j + 1 := ⟨_, rfl⟩
            refine lv_iinc (v := v43) (lv' := [(1, .int v43), (0, .ref (a 0))]) hx hb dX9_findShared_43 hl (k := 1) rfl (by rw [ev43]; rfl) (by decide) rfl (fun ls hl => ?_)
            have tv43 : v43.toInt = j.toInt + 1 := by rw [ev43, zadd, show (1 : Int32).toInt = 1 from by decide]; omega
            refine lv_goto (tgt := 7) hx hb dX9_findShared_46 (by decide) ?_
            exact ih (v43) (v39) (upd (w10) (m18).toNatClampNeg j) H locs ls (by omega) (by omega) (by first | exact g3 | (have q8 := zcl (x := m18) (by omega); intro i hi; by_cases q : i = m18.toNatClampNeg; rw [q, pk_us]; omega; rw [pk_un q]; exact g3 i (by omega))) (by omega) hP hD hS (lv_sub hl [1, 0] rfl)
  have hl := lv_entry ([.ref (a 0)]) (n := 2) (Nat.le_of_ble_eq_true rfl)
  rw [lg_entry_eq]
  generalize (lg_sl ([.ref (a 0)]) ++ List.replicate (2 - (lg_sl ([.ref (a 0)])).length) Slot.unset).toArray = ls at hl ⊢
  have hl : lv_has ls 2 [(0, .ref (a 0))] := hl
  suffices main : ∀ (H : Heap) (locs : List Loc), va_P (dC, dI) vwCl (wM a cI σ) H → va_D A (wM a cI σ) → va_S A s.heap H locs → W p l e (headSpec wsX9_findShared RM_X9_findShared).room s m ([.ref (a 0)] : List Value).toArray below meth c H locs 0 0 (MQ below (zQv (dC, dI) [(cI, .int)] (wM a cI) A (fun (σ1 : Cn) => ∃ n18 : Int32, ∃ u10 : Nat → Int32, σ1 = (upC (upC σ 0 (upd (σ 0) 18 n18)) 10 u10) ∧ (0 ≤ n18.toInt ∧ n18.toInt ≤ (σ 0 11).toInt) ∧ ∀ j : Nat, (j : Int) < n18.toInt → 0 ≤ (u10 j).toInt ∧ (u10 j).toInt < (σ 0 11).toInt)) ([.ref (a 0)] : List Value).toArray s 0 0 A) (F0 m 0 ls []) from main s.heap [] hP hD hS
  intro H locs hP hD hS
  refine lv_aload_n hx hb dX9_findShared_0 rfl (lv_at hl 0 rfl) ?_
  refine lv_iconst (v := 0) hx hb dX9_findShared_1 (by decide) ?_
  refine va_put (D := (dC, dI)) (ci := 9) (v := .int 0) (ty := .int) (C := RX9) (T := TX9) (N := 28) hx hb hts in9 tyX9 tyX9_ok nmX9 hown hK hP hD hS 0 rfl rfl 18 (by decide) k182 (fun _ h9 => h9) rfl (by decide +kernel) rfl rfl (Nat.le_of_ble_eq_true rfl) dX9_findShared_2 (fun H locs hP hD hS => ?_)
  have hP : va_P (dC, dI) vwCl (wM a cI (upC σ 0 (upd (σ 0) 18 0))) H := hP
  have hD : va_D A (wM a cI (upC σ 0 (upd (σ 0) 18 0))) := hD
  refine lv_iconst (v := 0) hx hb dX9_findShared_5 (by decide) ?_
  refine lv_istore_n (lv' := [(1, .int 0), (0, .ref (a 0))]) hx hb dX9_findShared_6 rfl hl (by decide) rfl (fun ls hl => ?_)
  exact (LP _) (0) (0) (σ 10) H locs ls (by rw [show (0 : Int32).toInt = 0 from by decide]; omega) (by decide) (by intro i hi; rw [show (0 : Int32).toInt = 0 from by decide] at hi; omega) (Nat.lt_succ_self _) hP hD hS (lv_sub hl [1, 0] rfl)

abbrev RM_X9_sharings : Room := { frames := 0, cells := 0, slots := 0, locals := 0 }
set_option maxHeartbeats 4000000 in
set_option maxRecDepth 100000 in
theorem c_X9_sharings (l : Launch) (dC : Nat → ClassId) (dI : Nat → Nat → Nat) (cI : ClassId) (a : Nat → Nat) (N : (Nat → Prop) → State → Prop) (hok : zNok N) (σ : Cn) (sz : Nat)  (hs : 0 ≤ (σ 0 18).toInt ∧ (σ 0 18).toInt ≤ 10) : Met l yX9_sharings wsX9_sharings RM_X9_sharings (zPc (dC, dI) [(cI, .int)] N (wM a cI) σ sz [.ref (a 0)]) (zQi (dC, dI) [(cI, .int)] (wM a cI) (va_A (wM a cI σ) sz) (fun (r : Int32) (σ1 : Cn) => σ1 = σ ∧ True)) 0 0 (va_A (wM a cI σ) sz) := by
  refine Met.ofW (cc := cX9_sharings) (maxL := 3) (ret := (some .int)) (by decide) rfl ?_
  intro p e s m args below meth c s₁ B hml hv
  obtain ⟨rfl, hsz, hP, hK, hD0, hN⟩ := hv
  have hx := B.exec
  have hb := B.bytes
  have hr := B.returns
  have hts := atoms_spec (ws := wsX9_sharings) B.pre
  have hown : s.vm.findClass RX9 = some m.cls := findClass_of_methodNamed B.named
  have hlocks := B.notSynchronized
  subst hsz
  have hD := hD0.self (sz := s.heap.size)
  generalize hAe : va_A (wM a cI σ) s.heap.size = A at hD hN ⊢
  have hA : ∀ q : Nat, s.heap.size ≤ q → A q := fun q h => by rw [← hAe]; exact Or.inr h
  clear hAe hD0
  have hS : va_S A s.heap s.heap [] := va_S.rf
  have in9 : ∀ w ∈ u_ws RX9 TX9 28, w ∈ wsX9_sharings := by decide +kernel
  have k143 := hts (.fieldLink RX9 143 "HouseSortedModel" "heirs" "I") (by decide +kernel)
  have k182 := hts (.fieldLink RX9 182 "HouseSortedModel" "shared" "I") (by decide +kernel)
  have LP : ∀ n : Nat, (∀ (f : Int32) (j : Int32) (H : Heap) (locs : List Loc) (ls : Array Slot), 0 ≤ j.toInt ∧ j.toInt ≤ 10 → (10 - j.toInt).toNat < n → va_P (dC, dI) vwCl (wM a cI σ) H → va_D A (wM a cI σ) → va_S A s.heap H locs → lv_has ls 3 [(0, .ref (a 0)), (1, .int f), (2, .int j)] → W p l e (headSpec wsX9_sharings RM_X9_sharings).room s m ([.ref (a 0)] : List Value).toArray below meth c H locs 0 0 (MQ below (zQi (dC, dI) [(cI, .int)] (wM a cI) A (fun (r : Int32) (σ1 : Cn) => σ1 = σ ∧ True)) ([.ref (a 0)] : List Value).toArray s 0 0 A) (F0 m 4 ls [])) := by
    intro n
    induction n with
    | zero => exact by intros; omega
    | succ n ih =>
      · intro f j H locs ls g1 hmu hP hD hS hl
        refine lv_iload_n hx hb dX9_sharings_4 rfl (lv_at hl 2 rfl) ?_
        refine lv_aload_n hx hb dX9_sharings_5 rfl (lv_at hl 0 rfl) ?_
        refine va_get (D := (dC, dI)) (ci := 9) (v := .int (σ 0 18)) (C := RX9) (T := TX9) (N := 28) hx hb hts in9 hown hK hP 0 rfl rfl 18 (by decide) k182 (fun _ h9 => h9) rfl dX9_sharings_6 ?_
        refine lv_icmp_ge (tgt := 25) hx hb dX9_sharings_9 (by decide) (fun c9 => ?_) (fun c9 => ?_)
        · skip
          have ic9 := zle (a := (σ 0 18).toInt) (b := j.toInt) rfl rfl c9
          refine lv_iload_n hx hb dX9_sharings_25 rfl (lv_at hl 1 rfl) ?_
          have heq9 : σ = σ := rfl
          have hpost : σ = σ ∧ True := by refine ⟨heq9, ?_⟩; trivial
          exact W.iret (v := f) hx hb hr (fun t9 ht hW => ⟨⟨f, σ, rfl, hpost, by rw [ht]; exact hP, va_K.moved hW.alike hK, hD⟩, hS.F ht⟩) hS.2.2 dX9_sharings_26
        · skip
          have ic9 := znle (a := (σ 0 18).toInt) (b := j.toInt) rfl rfl c9
          refine lv_iload_n hx hb dX9_sharings_12 rfl (lv_at hl 1 rfl) ?_
          refine lv_aload_n hx hb dX9_sharings_13 rfl (lv_at hl 0 rfl) ?_
          refine va_get (D := (dC, dI)) (ci := 9) (v := .int (σ 0 10)) (C := RX9) (T := TX9) (N := 28) hx hb hts in9 hown hK hP 0 rfl rfl 10 (by decide) k143 (fun _ h9 => h9) rfl dX9_sharings_14 ?_
          refine lv_imul hx hb dX9_sharings_17 ?_
          refine lv_topi (fun v17 ev17 => ?_)
          refine lv_istore_n (lv' := [(1, .int v17), (0, .ref (a 0)), (2, .int j)]) hx hb dX9_sharings_18 rfl hl (by decide) rfl (fun ls hl => ?_)
          obtain ⟨v19, ev19⟩ : ∃ y : Int32, y = j + 1 := ⟨_, rfl⟩
          refine lv_iinc (v := v19) (lv' := [(2, .int v19), (1, .int v17), (0, .ref (a 0))]) hx hb dX9_sharings_19 hl (k := 2) rfl (by rw [ev19]; rfl) (by decide) rfl (fun ls hl => ?_)
          have tv19 : v19.toInt = j.toInt + 1 := by rw [ev19, zadd, show (1 : Int32).toInt = 1 from by decide]; omega
          refine lv_goto (tgt := 4) hx hb dX9_sharings_22 (by decide) ?_
          exact ih (v17) (v19)  H locs ls (by omega) (by omega) hP hD hS (lv_sub hl [2, 1, 0] rfl)
  have hl := lv_entry ([.ref (a 0)]) (n := 3) (Nat.le_of_ble_eq_true rfl)
  rw [lg_entry_eq]
  generalize (lg_sl ([.ref (a 0)]) ++ List.replicate (3 - (lg_sl ([.ref (a 0)])).length) Slot.unset).toArray = ls at hl ⊢
  have hl : lv_has ls 3 [(0, .ref (a 0))] := hl
  suffices main : ∀ (H : Heap) (locs : List Loc), va_P (dC, dI) vwCl (wM a cI σ) H → va_D A (wM a cI σ) → va_S A s.heap H locs → W p l e (headSpec wsX9_sharings RM_X9_sharings).room s m ([.ref (a 0)] : List Value).toArray below meth c H locs 0 0 (MQ below (zQi (dC, dI) [(cI, .int)] (wM a cI) A (fun (r : Int32) (σ1 : Cn) => σ1 = σ ∧ True)) ([.ref (a 0)] : List Value).toArray s 0 0 A) (F0 m 0 ls []) from main s.heap [] hP hD hS
  intro H locs hP hD hS
  refine lv_iconst (v := 1) hx hb dX9_sharings_0 (by decide) ?_
  refine lv_istore_n (lv' := [(1, .int 1), (0, .ref (a 0))]) hx hb dX9_sharings_1 rfl hl (by decide) rfl (fun ls hl => ?_)
  refine lv_iconst (v := 0) hx hb dX9_sharings_2 (by decide) ?_
  refine lv_istore_n (lv' := [(2, .int 0), (1, .int 1), (0, .ref (a 0))]) hx hb dX9_sharings_3 rfl hl (by decide) rfl (fun ls hl => ?_)
  exact (LP _) (1) (0)  H locs ls (by decide) (Nat.lt_succ_self _) hP hD hS (lv_sub hl [2, 1, 0] rfl)

abbrev RM_X9_parts : Room := { frames := 0, cells := 0, slots := 0, locals := 0 }
set_option maxHeartbeats 4000000 in
set_option maxRecDepth 100000 in
theorem c_X9_parts (l : Launch) (dC : Nat → ClassId) (dI : Nat → Nat → Nat) (cI : ClassId) (a : Nat → Nat) (N : (Nat → Prop) → State → Prop) (hok : zNok N) (σ : Cn) (sz : Nat) (x1 : Int32) (hp : 1 ≤ (σ 0 10).toInt ∧ (σ 0 10).toInt ≤ 4) (hs : 0 ≤ (σ 0 18).toInt ∧ (σ 0 18).toInt ≤ 10) : Met l yX9_parts wsX9_parts RM_X9_parts (zPc (dC, dI) [(cI, .int)] N (wM a cI) σ sz [.ref (a 0), .int x1]) (zQv (dC, dI) [(cI, .int)] (wM a cI) (va_A (wM a cI σ) sz) (fun (σ1 : Cn) => ∃ u11 : Nat → Int32, σ1 = (upC σ 11 u11) ∧ True)) 0 0 (va_A (wM a cI σ) sz) := by
  refine Met.ofW (cc := cX9_parts) (maxL := 4) (ret := none) (by decide) rfl ?_
  intro p e s m args below meth c s₁ B hml hv
  obtain ⟨rfl, hsz, hP, hK, hD0, hN⟩ := hv
  have hx := B.exec
  have hb := B.bytes
  have hr := B.returns
  have hts := atoms_spec (ws := wsX9_parts) B.pre
  have hown : s.vm.findClass RX9 = some m.cls := findClass_of_methodNamed B.named
  have hlocks := B.notSynchronized
  subst hsz
  have hD := hD0.self (sz := s.heap.size)
  generalize hAe : va_A (wM a cI σ) s.heap.size = A at hD hN ⊢
  have hA : ∀ q : Nat, s.heap.size ≤ q → A q := fun q h => by rw [← hAe]; exact Or.inr h
  clear hAe hD0
  have hS : va_S A s.heap s.heap [] := va_S.rf
  have in9 : ∀ w ∈ u_ws RX9 TX9 28, w ∈ wsX9_parts := by decide +kernel
  have k143 := hts (.fieldLink RX9 143 "HouseSortedModel" "heirs" "I") (by decide +kernel)
  have k182 := hts (.fieldLink RX9 182 "HouseSortedModel" "shared" "I") (by decide +kernel)
  have k40 := hts (.fieldLink RX9 40 "HouseSortedModel" "gets" "[I") (by decide +kernel)
  have LP : ∀ n : Nat, (∀ (f : Int32) (j : Int32) (w11 : Nat → Int32) (H : Heap) (locs : List Loc) (ls : Array Slot), 0 ≤ j.toInt ∧ j.toInt ≤ 10 → (10 - j.toInt).toNat < n → va_P (dC, dI) vwCl (wM a cI (upC σ 11 w11)) H → va_D A (wM a cI (upC σ 11 w11)) → va_S A s.heap H locs → lv_has ls 4 [(0, .ref (a 0)), (2, .int f), (3, .int j)] → W p l e (headSpec wsX9_parts RM_X9_parts).room s m ([.ref (a 0), .int x1] : List Value).toArray below meth c H locs 0 0 (MQ below (zQv (dC, dI) [(cI, .int)] (wM a cI) A (fun (σ1 : Cn) => ∃ u11 : Nat → Int32, σ1 = (upC σ 11 u11) ∧ True)) ([.ref (a 0), .int x1] : List Value).toArray s 0 0 A) (F0 m 4 ls [])) := by
    intro n
    induction n with
    | zero => exact by intros; omega
    | succ n ih =>
      · intro f j w11 H locs ls g1 hmu hP hD hS hl
        refine lv_iload_n hx hb dX9_parts_4 rfl (lv_at hl 2 rfl) ?_
        refine lv_aload_n hx hb dX9_parts_5 rfl (lv_at hl 0 rfl) ?_
        refine va_get (D := (dC, dI)) (ci := 9) (v := .int (σ 0 18)) (C := RX9) (T := TX9) (N := 28) hx hb hts in9 hown hK hP 0 rfl rfl 18 (by decide) k182 (fun _ h9 => h9) rfl dX9_parts_6 ?_
        refine lv_icmp_ge (tgt := 37) hx hb dX9_parts_9 (by decide) (fun c9 => ?_) (fun c9 => ?_)
        · skip
          have ic9 := zle (a := (σ 0 18).toInt) (b := j.toInt) rfl rfl c9
          have heq9 : (upC σ 11 w11) = (upC σ 11 w11) := rfl
          have hpost : ∃ u11 : Nat → Int32, (upC σ 11 w11) = (upC σ 11 u11) ∧ True := by refine ⟨(w11), heq9, ?_⟩; trivial
          exact W.vret hx hb hr (fun t9 ht hW => ⟨⟨(upC σ 11 w11), rfl, hpost, by rw [ht]; exact hP, va_K.moved hW.alike hK, hD⟩, hS.F ht⟩) hS.2.2 dX9_parts_37
        · skip
          have ic9 := znle (a := (σ 0 18).toInt) (b := j.toInt) rfl rfl c9
          refine lv_aload_n hx hb dX9_parts_12 rfl (lv_at hl 0 rfl) ?_
          refine va_get (D := (dC, dI)) (ci := 9) (v := .ref (a 11)) (C := RX9) (T := TX9) (N := 28) hx hb hts in9 hown hK hP 0 rfl rfl 20 (by decide) k40 (fun _ h9 => h9) rfl dX9_parts_13 ?_
          refine lv_iload_n hx hb dX9_parts_16 rfl (lv_at hl 2 rfl) ?_
          refine lv_iload_n hx hb dX9_parts_17 rfl (lv_at hl 1 rfl) ?_
          refine lv_aload_n hx hb dX9_parts_18 rfl (lv_at hl 0 rfl) ?_
          refine va_get (D := (dC, dI)) (ci := 9) (v := .int (σ 0 10)) (C := RX9) (T := TX9) (N := 28) hx hb hts in9 hown hK hP 0 rfl rfl 10 (by decide) k143 (fun _ h9 => h9) rfl dX9_parts_19 ?_
          refine lv_irem hx hb dX9_parts_22 (fun h0 => by have h1 := zeq (a := (σ 0 10).toInt) (b := 0) rfl (by decide) h0; omega) ?_
          refine lv_topi (fun v22 ev22 => ?_)
          refine va_iast (D := (dC, dI)) (f := w11) hx hb hK hP hD hS 11 0 rfl rfl (i := j) (n := 10) (zin (by omega) (by omega)) dX9_parts_23 (fun H locs hP hD hS => ?_)
          have hP : va_P (dC, dI) vwCl (wM a cI (upC σ 11 (upd (w11) (j).toNatClampNeg v22))) H := hP
          have hD : va_D A (wM a cI (upC σ 11 (upd (w11) (j).toNatClampNeg v22))) := hD
          refine lv_iload_n hx hb dX9_parts_24 rfl (lv_at hl 1 rfl) ?_
          refine lv_aload_n hx hb dX9_parts_25 rfl (lv_at hl 0 rfl) ?_
          refine va_get (D := (dC, dI)) (ci := 9) (v := .int (σ 0 10)) (C := RX9) (T := TX9) (N := 28) hx hb hts in9 hown hK hP 0 rfl rfl 10 (by decide) k143 (fun _ h9 => h9) rfl dX9_parts_26 ?_
          refine lv_idiv hx hb dX9_parts_29 (fun h0 => by have h1 := zeq (a := (σ 0 10).toInt) (b := 0) rfl (by decide) h0; omega) ?_
          refine lv_topi (fun v29 ev29 => ?_)
          refine lv_istore_n (lv' := [(2, .int v29), (0, .ref (a 0)), (3, .int j)]) hx hb dX9_parts_30 rfl hl (by decide) rfl (fun ls hl => ?_)
          obtain ⟨v31, ev31⟩ : ∃ y : Int32, y = j + 1 := ⟨_, rfl⟩
          refine lv_iinc (v := v31) (lv' := [(3, .int v31), (2, .int v29), (0, .ref (a 0))]) hx hb dX9_parts_31 hl (k := 2) rfl (by rw [ev31]; rfl) (by decide) rfl (fun ls hl => ?_)
          have tv31 : v31.toInt = j.toInt + 1 := by rw [ev31, zadd, show (1 : Int32).toInt = 1 from by decide]; omega
          refine lv_goto (tgt := 4) hx hb dX9_parts_34 (by decide) ?_
          exact ih (v29) (v31) (upd (w11) (j).toNatClampNeg v22) H locs ls (by omega) (by omega) hP hD hS (lv_sub hl [2, 1, 0] rfl)
  have hl := lv_entry ([.ref (a 0), .int x1]) (n := 4) (Nat.le_of_ble_eq_true rfl)
  rw [lg_entry_eq]
  generalize (lg_sl ([.ref (a 0), .int x1]) ++ List.replicate (4 - (lg_sl ([.ref (a 0), .int x1])).length) Slot.unset).toArray = ls at hl ⊢
  have hl : lv_has ls 4 [(0, .ref (a 0)), (1, .int x1)] := hl
  suffices main : ∀ (H : Heap) (locs : List Loc), va_P (dC, dI) vwCl (wM a cI σ) H → va_D A (wM a cI σ) → va_S A s.heap H locs → W p l e (headSpec wsX9_parts RM_X9_parts).room s m ([.ref (a 0), .int x1] : List Value).toArray below meth c H locs 0 0 (MQ below (zQv (dC, dI) [(cI, .int)] (wM a cI) A (fun (σ1 : Cn) => ∃ u11 : Nat → Int32, σ1 = (upC σ 11 u11) ∧ True)) ([.ref (a 0), .int x1] : List Value).toArray s 0 0 A) (F0 m 0 ls []) from main s.heap [] hP hD hS
  intro H locs hP hD hS
  refine lv_iload_n hx hb dX9_parts_0 rfl (lv_at hl 1 rfl) ?_
  refine lv_istore_n (lv' := [(2, .int x1), (0, .ref (a 0)), (1, .int x1)]) hx hb dX9_parts_1 rfl hl (by decide) rfl (fun ls hl => ?_)
  refine lv_iconst (v := 0) hx hb dX9_parts_2 (by decide) ?_
  refine lv_istore_n (lv' := [(3, .int 0), (2, .int x1), (0, .ref (a 0)), (1, .int x1)]) hx hb dX9_parts_3 rfl hl (by decide) rfl (fun ls hl => ?_)
  exact (LP _) (x1) (0) (σ 11) H locs ls (by decide) (Nat.lt_succ_self _) hP hD hS (lv_sub hl [2, 1, 0] rfl)

abbrev RM_X9_number : Room := { frames := 0, cells := 0, slots := 0, locals := 0 }
set_option maxHeartbeats 4000000 in
set_option maxRecDepth 100000 in
theorem c_X9_number (l : Launch) (dC : Nat → ClassId) (dI : Nat → Nat → Nat) (cI : ClassId) (a : Nat → Nat) (N : (Nat → Prop) → State → Prop) (hok : zNok N) (σ : Cn) (sz : Nat)  (hs : 0 ≤ (σ 0 18).toInt ∧ (σ 0 18).toInt ≤ 10) : Met l yX9_number wsX9_number RM_X9_number (zPc (dC, dI) [(cI, .int)] N (wM a cI) σ sz [.ref (a 0)]) (zQi (dC, dI) [(cI, .int)] (wM a cI) (va_A (wM a cI σ) sz) (fun (r : Int32) (σ1 : Cn) => σ1 = σ ∧ True)) 0 0 (va_A (wM a cI σ) sz) := by
  refine Met.ofW (cc := cX9_number) (maxL := 3) (ret := (some .int)) (by decide) rfl ?_
  intro p e s m args below meth c s₁ B hml hv
  obtain ⟨rfl, hsz, hP, hK, hD0, hN⟩ := hv
  have hx := B.exec
  have hb := B.bytes
  have hr := B.returns
  have hts := atoms_spec (ws := wsX9_number) B.pre
  have hown : s.vm.findClass RX9 = some m.cls := findClass_of_methodNamed B.named
  have hlocks := B.notSynchronized
  subst hsz
  have hD := hD0.self (sz := s.heap.size)
  generalize hAe : va_A (wM a cI σ) s.heap.size = A at hD hN ⊢
  have hA : ∀ q : Nat, s.heap.size ≤ q → A q := fun q h => by rw [← hAe]; exact Or.inr h
  clear hAe hD0
  have hS : va_S A s.heap s.heap [] := va_S.rf
  have in9 : ∀ w ∈ u_ws RX9 TX9 28, w ∈ wsX9_number := by decide +kernel
  have k143 := hts (.fieldLink RX9 143 "HouseSortedModel" "heirs" "I") (by decide +kernel)
  have k182 := hts (.fieldLink RX9 182 "HouseSortedModel" "shared" "I") (by decide +kernel)
  have k40 := hts (.fieldLink RX9 40 "HouseSortedModel" "gets" "[I") (by decide +kernel)
  have LP : ∀ n : Nat, (∀ (f : Int32) (j : Int32) (H : Heap) (locs : List Loc) (ls : Array Slot), -1 ≤ j.toInt ∧ j.toInt < 10 → (j.toInt + 1).toNat < n → va_P (dC, dI) vwCl (wM a cI σ) H → va_D A (wM a cI σ) → va_S A s.heap H locs → lv_has ls 3 [(0, .ref (a 0)), (1, .int f), (2, .int j)] → W p l e (headSpec wsX9_number RM_X9_number).room s m ([.ref (a 0)] : List Value).toArray below meth c H locs 0 0 (MQ below (zQi (dC, dI) [(cI, .int)] (wM a cI) A (fun (r : Int32) (σ1 : Cn) => σ1 = σ ∧ True)) ([.ref (a 0)] : List Value).toArray s 0 0 A) (F0 m 9 ls [])) := by
    intro n
    induction n with
    | zero => exact by intros; omega
    | succ n ih =>
      · intro f j H locs ls g1 hmu hP hD hS hl
        refine lv_iload_n hx hb dX9_number_9 rfl (lv_at hl 2 rfl) ?_
        refine lv_if_lt (tgt := 33) hx hb dX9_number_10 (by decide) (fun c10 => ?_) (fun c10 => ?_)
        · skip
          have ic10 := zlt (a := j.toInt) (b := 0) rfl (by decide) c10
          refine lv_iload_n hx hb dX9_number_33 rfl (lv_at hl 1 rfl) ?_
          have heq9 : σ = σ := rfl
          have hpost : σ = σ ∧ True := by refine ⟨heq9, ?_⟩; trivial
          exact W.iret (v := f) hx hb hr (fun t9 ht hW => ⟨⟨f, σ, rfl, hpost, by rw [ht]; exact hP, va_K.moved hW.alike hK, hD⟩, hS.F ht⟩) hS.2.2 dX9_number_34
        · skip
          have ic10 := znlt (a := j.toInt) (b := 0) rfl (by decide) c10
          refine lv_aload_n hx hb dX9_number_13 rfl (lv_at hl 0 rfl) ?_
          refine va_get (D := (dC, dI)) (ci := 9) (v := .int (σ 0 10)) (C := RX9) (T := TX9) (N := 28) hx hb hts in9 hown hK hP 0 rfl rfl 10 (by decide) k143 (fun _ h9 => h9) rfl dX9_number_14 ?_
          refine lv_iload_n hx hb dX9_number_17 rfl (lv_at hl 1 rfl) ?_
          refine lv_imul hx hb dX9_number_18 ?_
          refine lv_topi (fun v18 ev18 => ?_)
          refine lv_aload_n hx hb dX9_number_19 rfl (lv_at hl 0 rfl) ?_
          refine va_get (D := (dC, dI)) (ci := 9) (v := .ref (a 11)) (C := RX9) (T := TX9) (N := 28) hx hb hts in9 hown hK hP 0 rfl rfl 20 (by decide) k40 (fun _ h9 => h9) rfl dX9_number_20 ?_
          refine lv_iload_n hx hb dX9_number_23 rfl (lv_at hl 2 rfl) ?_
          refine va_iald (D := (dC, dI)) (f := σ 11) hx hb hK hP 11 0 rfl rfl (i := j) (n := 10) (zin (by omega) (by omega)) dX9_number_24 ?_
          refine lv_topi (fun v24 ev24 => ?_)
          have tv24 := congrArg Int32.toInt ev24
          refine lv_iadd hx hb dX9_number_25 ?_
          refine lv_topi (fun v25 ev25 => ?_)
          refine lv_istore_n (lv' := [(1, .int v25), (0, .ref (a 0)), (2, .int j)]) hx hb dX9_number_26 rfl hl (by decide) rfl (fun ls hl => ?_)
          obtain ⟨v27, ev27⟩ : ∃ y : Int32, y = j + (-1) := ⟨_, rfl⟩
          refine lv_iinc (v := v27) (lv' := [(2, .int v27), (1, .int v25), (0, .ref (a 0))]) hx hb dX9_number_27 hl (k := 2) rfl (by rw [ev27]; rfl) (by decide) rfl (fun ls hl => ?_)
          have tv27 : v27.toInt = j.toInt + (-1) := by rw [ev27, zadd, show ((-1) : Int32).toInt = (-1) from by decide]; omega
          refine lv_goto (tgt := 9) hx hb dX9_number_30 (by decide) ?_
          exact ih (v25) (v27)  H locs ls (by omega) (by omega) hP hD hS (lv_sub hl [2, 1, 0] rfl)
  have hl := lv_entry ([.ref (a 0)]) (n := 3) (Nat.le_of_ble_eq_true rfl)
  rw [lg_entry_eq]
  generalize (lg_sl ([.ref (a 0)]) ++ List.replicate (3 - (lg_sl ([.ref (a 0)])).length) Slot.unset).toArray = ls at hl ⊢
  have hl : lv_has ls 3 [(0, .ref (a 0))] := hl
  suffices main : ∀ (H : Heap) (locs : List Loc), va_P (dC, dI) vwCl (wM a cI σ) H → va_D A (wM a cI σ) → va_S A s.heap H locs → W p l e (headSpec wsX9_number RM_X9_number).room s m ([.ref (a 0)] : List Value).toArray below meth c H locs 0 0 (MQ below (zQi (dC, dI) [(cI, .int)] (wM a cI) A (fun (r : Int32) (σ1 : Cn) => σ1 = σ ∧ True)) ([.ref (a 0)] : List Value).toArray s 0 0 A) (F0 m 0 ls []) from main s.heap [] hP hD hS
  intro H locs hP hD hS
  refine lv_iconst (v := 0) hx hb dX9_number_0 (by decide) ?_
  refine lv_istore_n (lv' := [(1, .int 0), (0, .ref (a 0))]) hx hb dX9_number_1 rfl hl (by decide) rfl (fun ls hl => ?_)
  refine lv_aload_n hx hb dX9_number_2 rfl (lv_at hl 1 rfl) ?_
  refine va_get (D := (dC, dI)) (ci := 9) (v := .int (σ 0 18)) (C := RX9) (T := TX9) (N := 28) hx hb hts in9 hown hK hP 0 rfl rfl 18 (by decide) k182 (fun _ h9 => h9) rfl dX9_number_3 ?_
  refine lv_iconst (v := 1) hx hb dX9_number_6 (by decide) ?_
  refine lv_isub hx hb dX9_number_7 ?_
  refine lv_topi (fun v7 ev7 => ?_)
  have tv7 : v7.toInt = (σ 0 18).toInt - 1 := by rw [ev7, zsub, show (1 : Int32).toInt = 1 from by decide]; omega
  refine lv_istore_n (lv' := [(2, .int v7), (1, .int 0), (0, .ref (a 0))]) hx hb dX9_number_8 rfl hl (by decide) rfl (fun ls hl => ?_)
  exact (LP _) (0) (v7)  H locs ls (by omega) (Nat.lt_succ_self _) hP hD hS (lv_sub hl [2, 1, 0] rfl)

abbrev RM_X9_worthNow : Room := { frames := 0, cells := 0, slots := 0, locals := 0 }
set_option maxHeartbeats 4000000 in
set_option maxRecDepth 100000 in
theorem c_X9_worthNow (l : Launch) (dC : Nat → ClassId) (dI : Nat → Nat → Nat) (cI : ClassId) (a : Nat → Nat) (N : (Nat → Prop) → State → Prop) (hok : zNok N) (σ : Cn) (sz : Nat) (x1 : Int32) (x2 : Int32) (x3 : Int32) (x4 : Int32) (x5 : Int32) (h1 : 0 ≤ x1.toInt ∧ x1.toInt < 4) (h2j : 0 ≤ x2.toInt ∧ x2.toInt < (σ 0 18).toInt) (hs : 0 ≤ (σ 0 18).toInt ∧ (σ 0 18).toInt ≤ 10) (hq : ∀ j : Nat, (j : Int) < (σ 0 18).toInt → 0 ≤ (σ 10 j).toInt ∧ (σ 10 j).toInt < 10) : Met l yX9_worthNow wsX9_worthNow RM_X9_worthNow (zPc (dC, dI) [(cI, .int)] N (wM a cI) σ sz [.ref (a 0), .int x1, .int x2, .int x3, .int x4, .int x5]) (zQi (dC, dI) [(cI, .int)] (wM a cI) (va_A (wM a cI σ) sz) (fun (r : Int32) (σ1 : Cn) => σ1 = σ ∧ True)) 0 0 (va_A (wM a cI σ) sz) := by
  refine Met.ofW (cc := cX9_worthNow) (maxL := 6) (ret := (some .int)) (by decide) rfl ?_
  intro p e s m args below meth c s₁ B hml hv
  obtain ⟨rfl, hsz, hP, hK, hD0, hN⟩ := hv
  have hx := B.exec
  have hb := B.bytes
  have hr := B.returns
  have hts := atoms_spec (ws := wsX9_worthNow) B.pre
  have hown : s.vm.findClass RX9 = some m.cls := findClass_of_methodNamed B.named
  have hlocks := B.notSynchronized
  subst hsz
  have hD := hD0.self (sz := s.heap.size)
  generalize hAe : va_A (wM a cI σ) s.heap.size = A at hD hN ⊢
  have hA : ∀ q : Nat, s.heap.size ≤ q → A q := fun q h => by rw [← hAe]; exact Or.inr h
  clear hAe hD0
  have hS : va_S A s.heap s.heap [] := va_S.rf
  have in9 : ∀ w ∈ u_ws RX9 TX9 28, w ∈ wsX9_worthNow := by decide +kernel
  have k34 := hts (.fieldLink RX9 34 "HouseSortedModel" "worths" "[I") (by decide +kernel)
  have k37 := hts (.fieldLink RX9 37 "HouseSortedModel" "which" "[I") (by decide +kernel)
  have hl := lv_entry ([.ref (a 0), .int x1, .int x2, .int x3, .int x4, .int x5]) (n := 6) (Nat.le_of_ble_eq_true rfl)
  rw [lg_entry_eq]
  generalize (lg_sl ([.ref (a 0), .int x1, .int x2, .int x3, .int x4, .int x5]) ++ List.replicate (6 - (lg_sl ([.ref (a 0), .int x1, .int x2, .int x3, .int x4, .int x5])).length) Slot.unset).toArray = ls at hl ⊢
  have hl : lv_has ls 6 [(0, .ref (a 0)), (1, .int x1), (2, .int x2), (3, .int x3), (4, .int x4), (5, .int x5)] := hl
  suffices main : ∀ (H : Heap) (locs : List Loc), va_P (dC, dI) vwCl (wM a cI σ) H → va_D A (wM a cI σ) → va_S A s.heap H locs → W p l e (headSpec wsX9_worthNow RM_X9_worthNow).room s m ([.ref (a 0), .int x1, .int x2, .int x3, .int x4, .int x5] : List Value).toArray below meth c H locs 0 0 (MQ below (zQi (dC, dI) [(cI, .int)] (wM a cI) A (fun (r : Int32) (σ1 : Cn) => σ1 = σ ∧ True)) ([.ref (a 0), .int x1, .int x2, .int x3, .int x4, .int x5] : List Value).toArray s 0 0 A) (F0 m 0 ls []) from main s.heap [] hP hD hS
  intro H locs hP hD hS
  refine lv_iload_n hx hb dX9_worthNow_0 rfl (lv_at hl 1 rfl) ?_
  refine lv_iload_n hx hb dX9_worthNow_1 rfl (lv_at hl 3 rfl) ?_
  refine lv_icmp_ne (tgt := 21) hx hb dX9_worthNow_2 (by decide) (fun c2 => ?_) (fun c2 => ?_)
  · skip
    have ic2 := zneq (a := x1.toInt) (b := x3.toInt) rfl rfl c2
    refine lv_aload_n hx hb dX9_worthNow_21 rfl (lv_at hl 0 rfl) ?_
    refine va_get (D := (dC, dI)) (ci := 9) (v := .ref (a 9)) (C := RX9) (T := TX9) (N := 28) hx hb hts in9 hown hK hP 0 rfl rfl 17 (by decide) k34 (fun _ h9 => h9) rfl dX9_worthNow_22 ?_
    refine lv_bipush (v := 10) hx hb dX9_worthNow_25 (by decide) ?_
    refine lv_iload_n hx hb dX9_worthNow_27 rfl (lv_at hl 1 rfl) ?_
    refine lv_imul hx hb dX9_worthNow_28 ?_
    refine lv_topi (fun v28 ev28 => ?_)
    have tv28 : v28.toInt = 10 * x1.toInt := by rw [ev28, zmul, show (10 : Int32).toInt = 10 from by decide]; omega
    refine lv_aload_n hx hb dX9_worthNow_29 rfl (lv_at hl 0 rfl) ?_
    refine va_get (D := (dC, dI)) (ci := 9) (v := .ref (a 10)) (C := RX9) (T := TX9) (N := 28) hx hb hts in9 hown hK hP 0 rfl rfl 19 (by decide) k37 (fun _ h9 => h9) rfl dX9_worthNow_30 ?_
    refine lv_iload_n hx hb dX9_worthNow_33 rfl (lv_at hl 2 rfl) ?_
    refine va_iald (D := (dC, dI)) (f := σ 10) hx hb hK hP 10 0 rfl rfl (i := x2) (n := 10) (zin (by omega) (by omega)) dX9_worthNow_34 ?_
    refine lv_topi (fun v34 ev34 => ?_)
    have tv34 := congrArg Int32.toInt ev34
    have hb9 := hq ((x2).toNatClampNeg) (by have q := zcl (x := x2) (by omega); omega)
    refine lv_iadd hx hb dX9_worthNow_35 ?_
    refine lv_topi (fun v35 ev35 => ?_)
    have tv35 : v35.toInt = v28.toInt + v34.toInt := by rw [ev35, zadd]; omega
    refine va_iald (D := (dC, dI)) (f := σ 9) hx hb hK hP 9 0 rfl rfl (i := v35) (n := 40) (zin (by omega) (by omega)) dX9_worthNow_36 ?_
    refine lv_topi (fun v36 ev36 => ?_)
    have tv36 := congrArg Int32.toInt ev36
    have heq9 : σ = σ := rfl
    have hpost : σ = σ ∧ True := by refine ⟨heq9, ?_⟩; trivial
    exact W.iret (v := v36) hx hb hr (fun t9 ht hW => ⟨⟨v36, σ, rfl, hpost, by rw [ht]; exact hP, va_K.moved hW.alike hK, hD⟩, hS.F ht⟩) hS.2.2 dX9_worthNow_37
  · skip
    have ic2 := zeq (a := x1.toInt) (b := x3.toInt) rfl rfl c2
    refine lv_aload_n hx hb dX9_worthNow_5 rfl (lv_at hl 0 rfl) ?_
    refine va_get (D := (dC, dI)) (ci := 9) (v := .ref (a 10)) (C := RX9) (T := TX9) (N := 28) hx hb hts in9 hown hK hP 0 rfl rfl 19 (by decide) k37 (fun _ h9 => h9) rfl dX9_worthNow_6 ?_
    refine lv_iload_n hx hb dX9_worthNow_9 rfl (lv_at hl 2 rfl) ?_
    refine va_iald (D := (dC, dI)) (f := σ 10) hx hb hK hP 10 0 rfl rfl (i := x2) (n := 10) (zin (by omega) (by omega)) dX9_worthNow_10 ?_
    refine lv_topi (fun v10 ev10 => ?_)
    have tv10 := congrArg Int32.toInt ev10
    refine lv_iload hx hb dX9_worthNow_11 (lv_at hl 4 rfl) ?_
    refine lv_icmp_ne (tgt := 21) hx hb dX9_worthNow_13 (by decide) (fun c13 => ?_) (fun c13 => ?_)
    · skip
      have ic13 := zneq (a := v10.toInt) (b := x4.toInt) rfl rfl c13
      refine lv_aload_n hx hb dX9_worthNow_21 rfl (lv_at hl 0 rfl) ?_
      refine va_get (D := (dC, dI)) (ci := 9) (v := .ref (a 9)) (C := RX9) (T := TX9) (N := 28) hx hb hts in9 hown hK hP 0 rfl rfl 17 (by decide) k34 (fun _ h9 => h9) rfl dX9_worthNow_22 ?_
      refine lv_bipush (v := 10) hx hb dX9_worthNow_25 (by decide) ?_
      refine lv_iload_n hx hb dX9_worthNow_27 rfl (lv_at hl 1 rfl) ?_
      refine lv_imul hx hb dX9_worthNow_28 ?_
      refine lv_topi (fun v28 ev28 => ?_)
      have tv28 : v28.toInt = 10 * x1.toInt := by rw [ev28, zmul, show (10 : Int32).toInt = 10 from by decide]; omega
      refine lv_aload_n hx hb dX9_worthNow_29 rfl (lv_at hl 0 rfl) ?_
      refine va_get (D := (dC, dI)) (ci := 9) (v := .ref (a 10)) (C := RX9) (T := TX9) (N := 28) hx hb hts in9 hown hK hP 0 rfl rfl 19 (by decide) k37 (fun _ h9 => h9) rfl dX9_worthNow_30 ?_
      refine lv_iload_n hx hb dX9_worthNow_33 rfl (lv_at hl 2 rfl) ?_
      refine va_iald (D := (dC, dI)) (f := σ 10) hx hb hK hP 10 0 rfl rfl (i := x2) (n := 10) (zin (by omega) (by omega)) dX9_worthNow_34 ?_
      refine lv_topi (fun v34 ev34 => ?_)
      have tv34 := congrArg Int32.toInt ev34
      have hb9 := hq ((x2).toNatClampNeg) (by have q := zcl (x := x2) (by omega); omega)
      refine lv_iadd hx hb dX9_worthNow_35 ?_
      refine lv_topi (fun v35 ev35 => ?_)
      have tv35 : v35.toInt = v28.toInt + v34.toInt := by rw [ev35, zadd]; omega
      refine va_iald (D := (dC, dI)) (f := σ 9) hx hb hK hP 9 0 rfl rfl (i := v35) (n := 40) (zin (by omega) (by omega)) dX9_worthNow_36 ?_
      refine lv_topi (fun v36 ev36 => ?_)
      have tv36 := congrArg Int32.toInt ev36
      have heq9 : σ = σ := rfl
      have hpost : σ = σ ∧ True := by refine ⟨heq9, ?_⟩; trivial
      exact W.iret (v := v36) hx hb hr (fun t9 ht hW => ⟨⟨v36, σ, rfl, hpost, by rw [ht]; exact hP, va_K.moved hW.alike hK, hD⟩, hS.F ht⟩) hS.2.2 dX9_worthNow_37
    · skip
      have ic13 := zeq (a := v10.toInt) (b := x4.toInt) rfl rfl c13
      refine lv_iload hx hb dX9_worthNow_16 (lv_at hl 5 rfl) ?_
      refine lv_goto (tgt := 37) hx hb dX9_worthNow_18 (by decide) ?_
      have heq9 : σ = σ := rfl
      have hpost : σ = σ ∧ True := by refine ⟨heq9, ?_⟩; trivial
      exact W.iret (v := x5) hx hb hr (fun t9 ht hW => ⟨⟨x5, σ, rfl, hpost, by rw [ht]; exact hP, va_K.moved hW.alike hK, hD⟩, hS.F ht⟩) hS.2.2 dX9_worthNow_37

abbrev RM_X9_sumOf : Room := { frames := 0, cells := 0, slots := 0, locals := 0 }
set_option maxHeartbeats 4000000 in
set_option maxRecDepth 100000 in
theorem c_X9_sumOf (l : Launch) (dC : Nat → ClassId) (dI : Nat → Nat → Nat) (cI : ClassId) (a : Nat → Nat) (N : (Nat → Prop) → State → Prop) (hok : zNok N) (σ : Cn) (sz : Nat) (x1 : Int32) (x2 : Int32) (h1 : 0 ≤ x1.toInt ∧ x1.toInt < 4) (hs : 0 ≤ (σ 0 18).toInt ∧ (σ 0 18).toInt ≤ 10) (hq : ∀ j : Nat, (j : Int) < (σ 0 18).toInt → 0 ≤ (σ 10 j).toInt ∧ (σ 10 j).toInt < 10) : Met l yX9_sumOf wsX9_sumOf RM_X9_sumOf (zPc (dC, dI) [(cI, .int)] N (wM a cI) σ sz [.ref (a 0), .int x1, .int x2]) (zQi (dC, dI) [(cI, .int)] (wM a cI) (va_A (wM a cI σ) sz) (fun (r : Int32) (σ1 : Cn) => σ1 = σ ∧ True)) 0 0 (va_A (wM a cI σ) sz) := by
  refine Met.ofW (cc := cX9_sumOf) (maxL := 5) (ret := (some .int)) (by decide) rfl ?_
  intro p e s m args below meth c s₁ B hml hv
  obtain ⟨rfl, hsz, hP, hK, hD0, hN⟩ := hv
  have hx := B.exec
  have hb := B.bytes
  have hr := B.returns
  have hts := atoms_spec (ws := wsX9_sumOf) B.pre
  have hown : s.vm.findClass RX9 = some m.cls := findClass_of_methodNamed B.named
  have hlocks := B.notSynchronized
  subst hsz
  have hD := hD0.self (sz := s.heap.size)
  generalize hAe : va_A (wM a cI σ) s.heap.size = A at hD hN ⊢
  have hA : ∀ q : Nat, s.heap.size ≤ q → A q := fun q h => by rw [← hAe]; exact Or.inr h
  clear hAe hD0
  have hS : va_S A s.heap s.heap [] := va_S.rf
  have in9 : ∀ w ∈ u_ws RX9 TX9 28, w ∈ wsX9_sumOf := by decide +kernel
  have k182 := hts (.fieldLink RX9 182 "HouseSortedModel" "shared" "I") (by decide +kernel)
  have k34 := hts (.fieldLink RX9 34 "HouseSortedModel" "worths" "[I") (by decide +kernel)
  have k37 := hts (.fieldLink RX9 37 "HouseSortedModel" "which" "[I") (by decide +kernel)
  have k40 := hts (.fieldLink RX9 40 "HouseSortedModel" "gets" "[I") (by decide +kernel)
  have LP : ∀ n : Nat, (∀ (f : Int32) (j : Int32) (H : Heap) (locs : List Loc) (ls : Array Slot), 0 ≤ j.toInt ∧ j.toInt ≤ 10 → (10 - j.toInt).toNat < n → va_P (dC, dI) vwCl (wM a cI σ) H → va_D A (wM a cI σ) → va_S A s.heap H locs → lv_has ls 5 [(0, .ref (a 0)), (1, .int x1), (2, .int x2), (3, .int f), (4, .int j)] → W p l e (headSpec wsX9_sumOf RM_X9_sumOf).room s m ([.ref (a 0), .int x1, .int x2] : List Value).toArray below meth c H locs 0 0 (MQ below (zQi (dC, dI) [(cI, .int)] (wM a cI) A (fun (r : Int32) (σ1 : Cn) => σ1 = σ ∧ True)) ([.ref (a 0), .int x1, .int x2] : List Value).toArray s 0 0 A) (F0 m 5 ls [])) := by
    intro n
    induction n with
    | zero => exact by intros; omega
    | succ n ih =>
      · intro f j H locs ls g1 hmu hP hD hS hl
        refine lv_iload hx hb dX9_sumOf_5 (lv_at hl 4 rfl) ?_
        refine lv_aload_n hx hb dX9_sumOf_7 rfl (lv_at hl 0 rfl) ?_
        refine va_get (D := (dC, dI)) (ci := 9) (v := .int (σ 0 18)) (C := RX9) (T := TX9) (N := 28) hx hb hts in9 hown hK hP 0 rfl rfl 18 (by decide) k182 (fun _ h9 => h9) rfl dX9_sumOf_8 ?_
        refine lv_icmp_ge (tgt := 55) hx hb dX9_sumOf_11 (by decide) (fun c11 => ?_) (fun c11 => ?_)
        · skip
          have ic11 := zle (a := (σ 0 18).toInt) (b := j.toInt) rfl rfl c11
          refine lv_iload_n hx hb dX9_sumOf_55 rfl (lv_at hl 3 rfl) ?_
          have heq9 : σ = σ := rfl
          have hpost : σ = σ ∧ True := by refine ⟨heq9, ?_⟩; trivial
          exact W.iret (v := f) hx hb hr (fun t9 ht hW => ⟨⟨f, σ, rfl, hpost, by rw [ht]; exact hP, va_K.moved hW.alike hK, hD⟩, hS.F ht⟩) hS.2.2 dX9_sumOf_56
        · skip
          have ic11 := znle (a := (σ 0 18).toInt) (b := j.toInt) rfl rfl c11
          refine lv_iload_n hx hb dX9_sumOf_14 rfl (lv_at hl 3 rfl) ?_
          refine lv_aload_n hx hb dX9_sumOf_15 rfl (lv_at hl 0 rfl) ?_
          refine va_get (D := (dC, dI)) (ci := 9) (v := .ref (a 11)) (C := RX9) (T := TX9) (N := 28) hx hb hts in9 hown hK hP 0 rfl rfl 20 (by decide) k40 (fun _ h9 => h9) rfl dX9_sumOf_16 ?_
          refine lv_iload hx hb dX9_sumOf_19 (lv_at hl 4 rfl) ?_
          refine va_iald (D := (dC, dI)) (f := σ 11) hx hb hK hP 11 0 rfl rfl (i := j) (n := 10) (zin (by omega) (by omega)) dX9_sumOf_21 ?_
          refine lv_topi (fun v21 ev21 => ?_)
          have tv21 := congrArg Int32.toInt ev21
          refine lv_iload_n hx hb dX9_sumOf_22 rfl (lv_at hl 2 rfl) ?_
          refine lv_icmp_ne (tgt := 46) hx hb dX9_sumOf_23 (by decide) (fun c23 => ?_) (fun c23 => ?_)
          · skip
            have ic23 := zneq (a := v21.toInt) (b := x2.toInt) rfl rfl c23
            refine lv_iconst (v := 0) hx hb dX9_sumOf_46 (by decide) ?_
            refine lv_iadd hx hb dX9_sumOf_47 ?_
            refine lv_topi (fun v47 ev47 => ?_)
            refine lv_istore_n (lv' := [(3, .int v47), (0, .ref (a 0)), (1, .int x1), (2, .int x2), (4, .int j)]) hx hb dX9_sumOf_48 rfl hl (by decide) rfl (fun ls hl => ?_)
            obtain ⟨v49, ev49⟩ : ∃ y : Int32, y = j + 1 := ⟨_, rfl⟩
            refine lv_iinc (v := v49) (lv' := [(4, .int v49), (3, .int v47), (0, .ref (a 0)), (1, .int x1), (2, .int x2)]) hx hb dX9_sumOf_49 hl (k := 4) rfl (by rw [ev49]; rfl) (by decide) rfl (fun ls hl => ?_)
            have tv49 : v49.toInt = j.toInt + 1 := by rw [ev49, zadd, show (1 : Int32).toInt = 1 from by decide]; omega
            refine lv_goto (tgt := 5) hx hb dX9_sumOf_52 (by decide) ?_
            exact ih (v47) (v49)  H locs ls (by omega) (by omega) hP hD hS (lv_sub hl [2, 3, 4, 1, 0] rfl)
          · skip
            have ic23 := zeq (a := v21.toInt) (b := x2.toInt) rfl rfl c23
            refine lv_aload_n hx hb dX9_sumOf_26 rfl (lv_at hl 0 rfl) ?_
            refine va_get (D := (dC, dI)) (ci := 9) (v := .ref (a 9)) (C := RX9) (T := TX9) (N := 28) hx hb hts in9 hown hK hP 0 rfl rfl 17 (by decide) k34 (fun _ h9 => h9) rfl dX9_sumOf_27 ?_
            refine lv_bipush (v := 10) hx hb dX9_sumOf_30 (by decide) ?_
            refine lv_iload_n hx hb dX9_sumOf_32 rfl (lv_at hl 1 rfl) ?_
            refine lv_imul hx hb dX9_sumOf_33 ?_
            refine lv_topi (fun v33 ev33 => ?_)
            have tv33 : v33.toInt = 10 * x1.toInt := by rw [ev33, zmul, show (10 : Int32).toInt = 10 from by decide]; omega
            refine lv_aload_n hx hb dX9_sumOf_34 rfl (lv_at hl 0 rfl) ?_
            refine va_get (D := (dC, dI)) (ci := 9) (v := .ref (a 10)) (C := RX9) (T := TX9) (N := 28) hx hb hts in9 hown hK hP 0 rfl rfl 19 (by decide) k37 (fun _ h9 => h9) rfl dX9_sumOf_35 ?_
            refine lv_iload hx hb dX9_sumOf_38 (lv_at hl 4 rfl) ?_
            refine va_iald (D := (dC, dI)) (f := σ 10) hx hb hK hP 10 0 rfl rfl (i := j) (n := 10) (zin (by omega) (by omega)) dX9_sumOf_40 ?_
            refine lv_topi (fun v40 ev40 => ?_)
            have tv40 := congrArg Int32.toInt ev40
            have hb9 := hq ((j).toNatClampNeg) (by have q := zcl (x := j) (by omega); omega)
            refine lv_iadd hx hb dX9_sumOf_41 ?_
            refine lv_topi (fun v41 ev41 => ?_)
            have tv41 : v41.toInt = v33.toInt + v40.toInt := by rw [ev41, zadd]; omega
            refine va_iald (D := (dC, dI)) (f := σ 9) hx hb hK hP 9 0 rfl rfl (i := v41) (n := 40) (zin (by omega) (by omega)) dX9_sumOf_42 ?_
            refine lv_topi (fun v42 ev42 => ?_)
            have tv42 := congrArg Int32.toInt ev42
            refine lv_goto (tgt := 47) hx hb dX9_sumOf_43 (by decide) ?_
            refine lv_iadd hx hb dX9_sumOf_47 ?_
            refine lv_topi (fun v47 ev47 => ?_)
            refine lv_istore_n (lv' := [(3, .int v47), (0, .ref (a 0)), (1, .int x1), (2, .int x2), (4, .int j)]) hx hb dX9_sumOf_48 rfl hl (by decide) rfl (fun ls hl => ?_)
            obtain ⟨v49, ev49⟩ : ∃ y : Int32, y = j + 1 := ⟨_, rfl⟩
            refine lv_iinc (v := v49) (lv' := [(4, .int v49), (3, .int v47), (0, .ref (a 0)), (1, .int x1), (2, .int x2)]) hx hb dX9_sumOf_49 hl (k := 4) rfl (by rw [ev49]; rfl) (by decide) rfl (fun ls hl => ?_)
            have tv49 : v49.toInt = j.toInt + 1 := by rw [ev49, zadd, show (1 : Int32).toInt = 1 from by decide]; omega
            refine lv_goto (tgt := 5) hx hb dX9_sumOf_52 (by decide) ?_
            exact ih (v47) (v49)  H locs ls (by omega) (by omega) hP hD hS (lv_sub hl [2, 3, 4, 1, 0] rfl)
  have hl := lv_entry ([.ref (a 0), .int x1, .int x2]) (n := 5) (Nat.le_of_ble_eq_true rfl)
  rw [lg_entry_eq]
  generalize (lg_sl ([.ref (a 0), .int x1, .int x2]) ++ List.replicate (5 - (lg_sl ([.ref (a 0), .int x1, .int x2])).length) Slot.unset).toArray = ls at hl ⊢
  have hl : lv_has ls 5 [(0, .ref (a 0)), (1, .int x1), (2, .int x2)] := hl
  suffices main : ∀ (H : Heap) (locs : List Loc), va_P (dC, dI) vwCl (wM a cI σ) H → va_D A (wM a cI σ) → va_S A s.heap H locs → W p l e (headSpec wsX9_sumOf RM_X9_sumOf).room s m ([.ref (a 0), .int x1, .int x2] : List Value).toArray below meth c H locs 0 0 (MQ below (zQi (dC, dI) [(cI, .int)] (wM a cI) A (fun (r : Int32) (σ1 : Cn) => σ1 = σ ∧ True)) ([.ref (a 0), .int x1, .int x2] : List Value).toArray s 0 0 A) (F0 m 0 ls []) from main s.heap [] hP hD hS
  intro H locs hP hD hS
  refine lv_iconst (v := 0) hx hb dX9_sumOf_0 (by decide) ?_
  refine lv_istore_n (lv' := [(3, .int 0), (0, .ref (a 0)), (1, .int x1), (2, .int x2)]) hx hb dX9_sumOf_1 rfl hl (by decide) rfl (fun ls hl => ?_)
  refine lv_iconst (v := 0) hx hb dX9_sumOf_2 (by decide) ?_
  refine lv_istore (lv' := [(4, .int 0), (3, .int 0), (0, .ref (a 0)), (1, .int x1), (2, .int x2)]) hx hb dX9_sumOf_3 hl (by decide) rfl (fun ls hl => ?_)
  exact (LP _) (0) (0)  H locs ls (by decide) (Nat.lt_succ_self _) hP hD hS (lv_sub hl [2, 3, 4, 1, 0] rfl)

