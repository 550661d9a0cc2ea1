abbrev RM_X9_isSharing : Room := { frames := 4, cells := 0, slots := 0, locals := 88 }
set_option maxHeartbeats 4000000 in
set_option maxRecDepth 100000 in
theorem c_X9_isSharing (l : Launch) (dC : Nat → ClassId) (dI : Nat → Nat → Nat) (cI : ClassId) (a : Nat → Nat) (N : (Nat → Prop) → State → Prop) (hok : zNok N) (σ : Cn) (sz : Nat) (x1 : Int32) (h0 : 0 ≤ (σ 0 10).toInt ∧ (σ 0 10).toInt ≤ 4) (h2 : 0 ≤ (σ 0 11).toInt ∧ (σ 0 11).toInt ≤ 10) : Met l yX9_isSharing wsX9_isSharing RM_X9_isSharing (zPc (dC, dI) [(cI, .int)] N (wM a cI) σ sz [.ref (a 0), .int x1]) (zQi (dC, dI) [(cI, .int)] (wM a cI) (va_A (wM a cI σ) sz) (fun (r : Int32) (σ1 : Cn) => ∃ n18 : Int32, ∃ u10 : Nat → Int32, ∃ u11 : Nat → Int32, σ1 = (upC (upC (upC σ 0 (upd (σ 0) 18 n18)) 10 u10) 11 u11) ∧ (((r : Int32).toInt = 1 ∧ 1 ≤ (σ 0 10).toInt) ∨ (r : Int32).toInt = 0) ∧ (0 ≤ n18.toInt ∧ n18.toInt ≤ 10) ∧ ∀ j : Nat, (j : Int) < n18.toInt → 0 ≤ (u10 j).toInt ∧ (u10 j).toInt < 10)) 0 0 (va_A (wM a cI σ) sz) := by
  refine Met.ofW (cc := cX9_isSharing) (maxL := 2) (ret := (some .boolean)) (by decide) rfl ?_
  intro p e s m args below meth c s₁ B hml hv
  obtain ⟨rfl, hsz, hP, hK, hD0, hN⟩ := hv
  have hx := B.exec
  have hb := B.bytes
  have hr := B.returns
  have hts := atoms_spec (ws := wsX9_isSharing) B.pre
  have hown : s.vm.findClass RX9 = some m.cls := findClass_of_methodNamed B.named
  have hlocks := B.notSynchronized
  subst hsz
  have hD := hD0.self (sz := s.heap.size)
  generalize hAe : va_A (wM a cI σ) s.heap.size = A at hD hN ⊢
  have hA : ∀ q : Nat, s.heap.size ≤ q → A q := fun q h => by rw [← hAe]; exact Or.inr h
  clear hAe hD0
  have hS : va_S A s.heap s.heap [] := va_S.rf
  have in9 : ∀ w ∈ u_ws RX9 TX9 28, w ∈ wsX9_isSharing := by decide +kernel
  have k143 := hts (.fieldLink RX9 143 "HouseSortedModel" "heirs" "I") (by decide +kernel)
  have hl := lv_entry ([.ref (a 0), .int x1]) (n := 2) (Nat.le_of_ble_eq_true rfl)
  rw [lg_entry_eq]
  generalize (lg_sl ([.ref (a 0), .int x1]) ++ List.replicate (2 - (lg_sl ([.ref (a 0), .int x1])).length) Slot.unset).toArray = ls at hl ⊢
  have hl : lv_has ls 2 [(0, .ref (a 0)), (1, .int x1)] := hl
  suffices main : ∀ (H : Heap) (locs : List Loc), va_P (dC, dI) vwCl (wM a cI σ) H → va_D A (wM a cI σ) → va_S A s.heap H locs → W p l e (headSpec wsX9_isSharing RM_X9_isSharing).room s m ([.ref (a 0), .int x1] : List Value).toArray below meth c H locs 0 0 (MQ below (zQi (dC, dI) [(cI, .int)] (wM a cI) A (fun (r : Int32) (σ1 : Cn) => ∃ n18 : Int32, ∃ u10 : Nat → Int32, ∃ u11 : Nat → Int32, σ1 = (upC (upC (upC σ 0 (upd (σ 0) 18 n18)) 10 u10) 11 u11) ∧ (((r : Int32).toInt = 1 ∧ 1 ≤ (σ 0 10).toInt) ∨ (r : Int32).toInt = 0) ∧ (0 ≤ n18.toInt ∧ n18.toInt ≤ 10) ∧ ∀ j : Nat, (j : Int) < n18.toInt → 0 ≤ (u10 j).toInt ∧ (u10 j).toInt < 10)) ([.ref (a 0), .int x1] : List Value).toArray s 0 0 A) (F0 m 0 ls []) from main s.heap [] hP hD hS
  intro H locs hP hD hS
  refine lv_aload_n hx hb dX9_isSharing_0 rfl (lv_at hl 0 rfl) ?_
  refine zcallv (va_runV (As := []) (rest := []) ⟨hx, hb, hml, hown, hts⟩ (c_X9_findShared l dC dI cI a N hok σ H.size  h0 h2) (cwV 0 hts gX9_isSharing_X9_findShared rfl rfl rfl (by decide +kernel) ⟨Nat.le_of_ble_eq_true rfl, Nat.le_of_ble_eq_true rfl⟩) (zpreV (wf := wM a cI) (q0 := 0) (ci := 9) hok hN hS hA hK hP hD rfl rfl) rfl rfl hl.1 rfl (lv_room (Nat.le_of_ble_eq_true rfl)) dX9_isSharing_1 ⟨Nat.zero_le _, Nat.zero_le _⟩) hD hS hA (fun σ1 H locs hv1 hP hD hS => ?_)
  obtain ⟨n18_1, u10_1, es9, hv1⟩ := hv1
  subst σ1
  have hP : va_P (dC, dI) vwCl (wM a cI (upC (upC σ 0 (upd (σ 0) 18 n18_1)) 10 u10_1)) H := hP
  have hD : va_D A (wM a cI (upC (upC σ 0 (upd (σ 0) 18 n18_1)) 10 u10_1)) := hD
  have hs : 0 ≤ n18_1.toInt ∧ n18_1.toInt ≤ 10 := by omega
  have hq : ∀ j : Nat, (j : Int) < n18_1.toInt → 0 ≤ (u10_1 j).toInt ∧ (u10_1 j).toInt < 10 := fun j hj => by have q := hv1.2 j hj; omega
  refine lv_aload_n hx hb dX9_isSharing_4 rfl (lv_at hl 0 rfl) ?_
  refine va_get (D := (dC, dI)) (ci := 9) (v := .int (σ 0 10)) (C := RX9) (T := TX9) (N := 28) hx hb hts in9 hown hK hP 0 rfl rfl 10 (by decide) k143 (fun _ h9 => h9) rfl dX9_isSharing_5 ?_
  refine lv_if_eq (tgt := 27) hx hb dX9_isSharing_8 (by decide) (fun c8 => ?_) (fun c8 => ?_)
  · skip
    have ic8 := zeq (a := (σ 0 10).toInt) (b := 0) rfl (by decide) c8
    refine lv_iconst (v := 0) hx hb dX9_isSharing_27 (by decide) ?_
    have heq9 : (upC (upC σ 0 (upd (σ 0) 18 n18_1)) 10 u10_1) = (upC (upC (upC σ 0 (upd (σ 0) 18 n18_1)) 10 u10_1) 11 (σ 11)) := by
      funext k
      by_cases e0 : k = 0
      · subst e0; rfl
      by_cases e10 : k = 10
      · subst e10; rfl
      by_cases e11 : k = 11
      · subst e11; rfl
      simp only [upC, if_neg e0, if_neg e10, if_neg e11]
    have hpost : ∃ n18 : Int32, ∃ u10 : Nat → Int32, ∃ u11 : Nat → Int32, (upC (upC σ 0 (upd (σ 0) 18 n18_1)) 10 u10_1) = (upC (upC (upC σ 0 (upd (σ 0) 18 n18)) 10 u10) 11 u11) ∧ (((0 : Int32).toInt = 1 ∧ 1 ≤ (σ 0 10).toInt) ∨ (0 : Int32).toInt = 0) ∧ (0 ≤ n18.toInt ∧ n18.toInt ≤ 10) ∧ ∀ j : Nat, (j : Int) < n18.toInt → 0 ≤ (u10 j).toInt ∧ (u10 j).toInt < 10 := by refine ⟨(n18_1), (u10_1), (σ 11), heq9, ?_⟩; first | exact ⟨Or.inr (by decide), hs, hq⟩ | exact ⟨Or.inl ⟨by decide, by omega⟩, hs, hq⟩
    exact W.zret (v := 0) hx hb hr (by decide +kernel) (fun t9 ht hW => ⟨⟨0, (upC (upC σ 0 (upd (σ 0) 18 n18_1)) 10 u10_1), rfl, hpost, by rw [ht]; exact hP, va_K.moved hW.alike hK, hD⟩, hS.F ht⟩) hS.2.2 dX9_isSharing_28
  · skip
    have ic8 := zneq (a := (σ 0 10).toInt) (b := 0) rfl (by decide) c8
    refine lv_iload_n hx hb dX9_isSharing_11 rfl (lv_at hl 1 rfl) ?_
    refine lv_i2l hx hb dX9_isSharing_12 rfl ?_
    refine lv_topl (fun v12 ev12 => ?_)
    have tv12 : v12.toInt = x1.toInt := by rw [ev12]; exact zi2l rfl
    refine lv_lconst (v := 0) hx hb dX9_isSharing_13 (by decide) ?_
    refine lv_aload_n hx hb dX9_isSharing_14 rfl (lv_at hl 0 rfl) ?_
    refine zcalli (va_runV (As := []) (rest := [.long 0, .long v12]) ⟨hx, hb, hml, hown, hts⟩ (c_X9_sharings l dC dI cI a N hok (upC (upC σ 0 (upd (σ 0) 18 n18_1)) 10 u10_1) H.size  hs) (cwV 0 hts gX9_isSharing_X9_sharings rfl rfl rfl (by decide +kernel) ⟨Nat.le_of_ble_eq_true rfl, Nat.le_of_ble_eq_true rfl⟩) (zpreV (wf := wM a cI) (q0 := 0) (ci := 9) hok hN hS hA hK hP hD rfl rfl) rfl rfl hl.1 rfl (lv_room (Nat.le_of_ble_eq_true rfl)) dX9_isSharing_15 ⟨Nat.zero_le _, Nat.zero_le _⟩) hD hS hA (fun v15 σ1 H locs hv15 hP hD hS => ?_)
    obtain ⟨es9, hv15⟩ := hv15
    subst σ1
    refine lv_iconst (v := 1) hx hb dX9_isSharing_18 (by decide) ?_
    refine lv_isub hx hb dX9_isSharing_19 ?_
    refine lv_topi (fun v19 ev19 => ?_)
    refine lv_i2l hx hb dX9_isSharing_20 rfl ?_
    refine lv_topl (fun v20 ev20 => ?_)
    have tv20 : v20.toInt = v19.toInt := by rw [ev20]; exact zi2l rfl
    refine zcalli (va_runS (As := [.long v12, .long 0, .long v20]) (rest := []) ⟨hx, hb, hml, hown, hts⟩ (c_X9_in l dC dI cI a N hok (upC (upC σ 0 (upd (σ 0) 18 n18_1)) 10 u10_1) H.size (v12) (0) (v20) ) (va_cwS 3 hts gX9_isSharing_X9_in rfl rfl rfl (by decide +kernel) ⟨Nat.le_of_ble_eq_true rfl, Nat.le_of_ble_eq_true rfl⟩) (zpreS (wf := wM a cI) hok hN hS hA hK hP hD) rfl rfl hl.1 rfl (lv_room (Nat.le_of_ble_eq_true rfl)) dX9_isSharing_21 ⟨Nat.zero_le _, Nat.zero_le _⟩) hD hS hA (fun v21 σ1 H locs hv21 hP hD hS => ?_)
    obtain ⟨es9, hv21⟩ := hv21
    subst σ1
    replace hv21 : ((v21 : Int32).toInt = 1 ∧ (0 : Int64).toInt ≤ (v12 : Int64).toInt ∧ (v12 : Int64).toInt ≤ (v20 : Int64).toInt ∨ (v21 : Int32).toInt = 0 ∧ ¬ ((0 : Int64).toInt ≤ (v12 : Int64).toInt ∧ (v12 : Int64).toInt ≤ (v20 : Int64).toInt)) := hv21
    try simp only [show (0 : Int64).toInt = 0 from by decide] at hv21
    refine lv_if_ne (tgt := 29) hx hb dX9_isSharing_24 (by decide) (fun c24 => ?_) (fun c24 => ?_)
    · skip
      have ic24 := zneq (a := v21.toInt) (b := 0) rfl (by decide) c24
      refine lv_aload_n hx hb dX9_isSharing_29 rfl (lv_at hl 0 rfl) ?_
      refine lv_iload_n hx hb dX9_isSharing_30 rfl (lv_at hl 1 rfl) ?_
      refine zcallv (va_runV (As := [.int x1]) (rest := []) ⟨hx, hb, hml, hown, hts⟩ (c_X9_parts l dC dI cI a N hok (upC (upC σ 0 (upd (σ 0) 18 n18_1)) 10 u10_1) H.size (x1) (by show 1 ≤ (σ 0 10).toInt ∧ (σ 0 10).toInt ≤ 4; omega) hs) (cwV 1 hts gX9_isSharing_X9_parts rfl rfl rfl (by decide +kernel) ⟨Nat.le_of_ble_eq_true rfl, Nat.le_of_ble_eq_true rfl⟩) (zpreV (wf := wM a cI) (q0 := 0) (ci := 9) hok hN hS hA hK hP hD rfl rfl) rfl rfl hl.1 rfl (lv_room (Nat.le_of_ble_eq_true rfl)) dX9_isSharing_31 ⟨Nat.zero_le _, Nat.zero_le _⟩) hD hS hA (fun σ1 H locs hv31 hP hD hS => ?_)
      obtain ⟨u11_31, es9, hv31⟩ := hv31
      subst σ1
      have hP : va_P (dC, dI) vwCl (wM a cI (upC (upC (upC σ 0 (upd (σ 0) 18 n18_1)) 10 u10_1) 11 u11_31)) H := hP
      have hD : va_D A (wM a cI (upC (upC (upC σ 0 (upd (σ 0) 18 n18_1)) 10 u10_1) 11 u11_31)) := hD
      refine lv_iconst (v := 1) hx hb dX9_isSharing_34 (by decide) ?_
      have heq9 : (upC (upC (upC σ 0 (upd (σ 0) 18 n18_1)) 10 u10_1) 11 u11_31) = (upC (upC (upC σ 0 (upd (σ 0) 18 n18_1)) 10 u10_1) 11 u11_31) := rfl
      have hpost : ∃ n18 : Int32, ∃ u10 : Nat → Int32, ∃ u11 : Nat → Int32, (upC (upC (upC σ 0 (upd (σ 0) 18 n18_1)) 10 u10_1) 11 u11_31) = (upC (upC (upC σ 0 (upd (σ 0) 18 n18)) 10 u10) 11 u11) ∧ (((1 : Int32).toInt = 1 ∧ 1 ≤ (σ 0 10).toInt) ∨ (1 : Int32).toInt = 0) ∧ (0 ≤ n18.toInt ∧ n18.toInt ≤ 10) ∧ ∀ j : Nat, (j : Int) < n18.toInt → 0 ≤ (u10 j).toInt ∧ (u10 j).toInt < 10 := by refine ⟨(n18_1), (u10_1), (u11_31), heq9, ?_⟩; first | exact ⟨Or.inr (by decide), hs, hq⟩ | exact ⟨Or.inl ⟨by decide, by omega⟩, hs, hq⟩
      exact W.zret (v := 1) hx hb hr (by decide +kernel) (fun t9 ht hW => ⟨⟨1, (upC (upC (upC σ 0 (upd (σ 0) 18 n18_1)) 10 u10_1) 11 u11_31), rfl, hpost, by rw [ht]; exact hP, va_K.moved hW.alike hK, hD⟩, hS.F ht⟩) hS.2.2 dX9_isSharing_35
    · skip
      have ic24 := zeq (a := v21.toInt) (b := 0) rfl (by decide) c24
      refine lv_iconst (v := 0) hx hb dX9_isSharing_27 (by decide) ?_
      have heq9 : (upC (upC σ 0 (upd (σ 0) 18 n18_1)) 10 u10_1) = (upC (upC (upC σ 0 (upd (σ 0) 18 n18_1)) 10 u10_1) 11 (σ 11)) := by
        funext k
        by_cases e0 : k = 0
        · subst e0; rfl
        by_cases e10 : k = 10
        · subst e10; rfl
        by_cases e11 : k = 11
        · subst e11; rfl
        simp only [upC, if_neg e0, if_neg e10, if_neg e11]
      have hpost : ∃ n18 : Int32, ∃ u10 : Nat → Int32, ∃ u11 : Nat → Int32, (upC (upC σ 0 (upd (σ 0) 18 n18_1)) 10 u10_1) = (upC (upC (upC σ 0 (upd (σ 0) 18 n18)) 10 u10) 11 u11) ∧ (((0 : Int32).toInt = 1 ∧ 1 ≤ (σ 0 10).toInt) ∨ (0 : Int32).toInt = 0) ∧ (0 ≤ n18.toInt ∧ n18.toInt ≤ 10) ∧ ∀ j : Nat, (j : Int) < n18.toInt → 0 ≤ (u10 j).toInt ∧ (u10 j).toInt < 10 := by refine ⟨(n18_1), (u10_1), (σ 11), heq9, ?_⟩; first | exact ⟨Or.inr (by decide), hs, hq⟩ | exact ⟨Or.inl ⟨by decide, by omega⟩, hs, hq⟩
      exact W.zret (v := 0) hx hb hr (by decide +kernel) (fun t9 ht hW => ⟨⟨0, (upC (upC σ 0 (upd (σ 0) 18 n18_1)) 10 u10_1), rfl, hpost, by rw [ht]; exact hP, va_K.moved hW.alike hK, hD⟩, hS.F ht⟩) hS.2.2 dX9_isSharing_28

abbrev RM_X9_sum : Room := { frames := 5, cells := 0, slots := 0, locals := 109 }
set_option maxHeartbeats 4000000 in
set_option maxRecDepth 100000 in
theorem c_X9_sum (l : Launch) (dC : Nat → ClassId) (dI : Nat → Nat → Nat) (cI : ClassId) (a : Nat → Nat) (N : (Nat → Prop) → State → Prop) (hok : zNok N) (σ : Cn) (sz : Nat) (x1 : Int32) (x2 : Int32) (x3 : Int32) (h0 : 0 ≤ (σ 0 10).toInt ∧ (σ 0 10).toInt ≤ 4) (h2 : 0 ≤ (σ 0 11).toInt ∧ (σ 0 11).toInt ≤ 10) : Met l yX9_sum wsX9_sum RM_X9_sum (zPc (dC, dI) [(cI, .int)] N (wM a cI) σ sz [.ref (a 0), .int x1, .int x2, .int x3]) (zQi (dC, dI) [(cI, .int)] (wM a cI) (va_A (wM a cI σ) sz) (fun (r : Int32) (σ1 : Cn) => ∃ n18 : Int32, ∃ u10 : Nat → Int32, ∃ u11 : Nat → Int32, σ1 = (upC (upC (upC σ 0 (upd (σ 0) 18 n18)) 10 u10) 11 u11) ∧ True)) 0 0 (va_A (wM a cI σ) sz) := by
  refine Met.ofW (cc := cX9_sum) (maxL := 4) (ret := (some .int)) (by decide) rfl ?_
  intro p e s m args below meth c s₁ B hml hv
  obtain ⟨rfl, hsz, hP, hK, hD0, hN⟩ := hv
  have hx := B.exec
  have hb := B.bytes
  have hr := B.returns
  have hts := atoms_spec (ws := wsX9_sum) B.pre
  have hown : s.vm.findClass RX9 = some m.cls := findClass_of_methodNamed B.named
  have hlocks := B.notSynchronized
  subst hsz
  have hD := hD0.self (sz := s.heap.size)
  generalize hAe : va_A (wM a cI σ) s.heap.size = A at hD hN ⊢
  have hA : ∀ q : Nat, s.heap.size ≤ q → A q := fun q h => by rw [← hAe]; exact Or.inr h
  clear hAe hD0
  have hS : va_S A s.heap s.heap [] := va_S.rf
  have hl := lv_entry ([.ref (a 0), .int x1, .int x2, .int x3]) (n := 4) (Nat.le_of_ble_eq_true rfl)
  rw [lg_entry_eq]
  generalize (lg_sl ([.ref (a 0), .int x1, .int x2, .int x3]) ++ List.replicate (4 - (lg_sl ([.ref (a 0), .int x1, .int x2, .int x3])).length) Slot.unset).toArray = ls at hl ⊢
  have hl : lv_has ls 4 [(0, .ref (a 0)), (1, .int x1), (2, .int x2), (3, .int x3)] := hl
  suffices main : ∀ (H : Heap) (locs : List Loc), va_P (dC, dI) vwCl (wM a cI σ) H → va_D A (wM a cI σ) → va_S A s.heap H locs → W p l e (headSpec wsX9_sum RM_X9_sum).room s m ([.ref (a 0), .int x1, .int x2, .int x3] : List Value).toArray below meth c H locs 0 0 (MQ below (zQi (dC, dI) [(cI, .int)] (wM a cI) A (fun (r : Int32) (σ1 : Cn) => ∃ n18 : Int32, ∃ u10 : Nat → Int32, ∃ u11 : Nat → Int32, σ1 = (upC (upC (upC σ 0 (upd (σ 0) 18 n18)) 10 u10) 11 u11) ∧ True)) ([.ref (a 0), .int x1, .int x2, .int x3] : List Value).toArray s 0 0 A) (F0 m 0 ls []) from main s.heap [] hP hD hS
  intro H locs hP hD hS
  refine lv_aload_n hx hb dX9_sum_0 rfl (lv_at hl 0 rfl) ?_
  refine lv_iload_n hx hb dX9_sum_1 rfl (lv_at hl 2 rfl) ?_
  refine zcalli (va_runV (As := [.int x2]) (rest := []) ⟨hx, hb, hml, hown, hts⟩ (c_X9_isHeir l dC dI cI a N hok σ H.size (x2) h0) (cwV 1 hts gX9_sum_X9_isHeir rfl rfl rfl (by decide +kernel) ⟨Nat.le_of_ble_eq_true rfl, Nat.le_of_ble_eq_true rfl⟩) (zpreV (wf := wM a cI) (q0 := 0) (ci := 9) hok hN hS hA hK hP hD rfl rfl) rfl rfl hl.1 rfl (lv_room (Nat.le_of_ble_eq_true rfl)) dX9_sum_2 ⟨Nat.zero_le _, Nat.zero_le _⟩) hD hS hA (fun v2 σ1 H locs hv2 hP hD hS => ?_)
  obtain ⟨es9, hv2⟩ := hv2
  subst σ1
  refine lv_if_eq (tgt := 33) hx hb dX9_sum_5 (by decide) (fun c5 => ?_) (fun c5 => ?_)
  · skip
    have ic5 := zeq (a := v2.toInt) (b := 0) rfl (by decide) c5
    replace hv2 := (hv2.resolve_left (fun q => by omega)).2
    refine lv_iconst (v := (-1)) hx hb dX9_sum_33 (by decide) ?_
    have heq9 : σ = (upC (upC (upC σ 0 (upd (σ 0) 18 (σ 0 18))) 10 (σ 10)) 11 (σ 11)) := by
      funext k
      by_cases e0 : k = 0
      · subst e0
        funext i
        by_cases f18 : i = 18
        · subst f18; rfl
        show (σ 0) i = (upd (σ 0) 18 (σ 0 18)) i
        simp only [upd, if_neg f18]
      by_cases e10 : k = 10
      · subst e10; rfl
      by_cases e11 : k = 11
      · subst e11; rfl
      simp only [upC, if_neg e0, if_neg e10, if_neg e11]
    have hpost : ∃ n18 : Int32, ∃ u10 : Nat → Int32, ∃ u11 : Nat → Int32, σ = (upC (upC (upC σ 0 (upd (σ 0) 18 n18)) 10 u10) 11 u11) ∧ True := by refine ⟨(σ 0 18), (σ 10), (σ 11), heq9, ?_⟩; trivial
    exact W.iret (v := (-1)) hx hb hr (fun t9 ht hW => ⟨⟨(-1), σ, rfl, hpost, by rw [ht]; exact hP, va_K.moved hW.alike hK, hD⟩, hS.F ht⟩) hS.2.2 dX9_sum_34
  · skip
    have ic5 := zneq (a := v2.toInt) (b := 0) rfl (by decide) c5
    replace hv2 := (hv2.resolve_right (fun q => by omega)).2
    refine lv_aload_n hx hb dX9_sum_8 rfl (lv_at hl 0 rfl) ?_
    refine lv_iload_n hx hb dX9_sum_9 rfl (lv_at hl 3 rfl) ?_
    refine zcalli (va_runV (As := [.int x3]) (rest := []) ⟨hx, hb, hml, hown, hts⟩ (c_X9_isHeir l dC dI cI a N hok σ H.size (x3) h0) (cwV 1 hts gX9_sum_X9_isHeir rfl rfl rfl (by decide +kernel) ⟨Nat.le_of_ble_eq_true rfl, Nat.le_of_ble_eq_true rfl⟩) (zpreV (wf := wM a cI) (q0 := 0) (ci := 9) hok hN hS hA hK hP hD rfl rfl) rfl rfl hl.1 rfl (lv_room (Nat.le_of_ble_eq_true rfl)) dX9_sum_10 ⟨Nat.zero_le _, Nat.zero_le _⟩) hD hS hA (fun v10 σ1 H locs hv10 hP hD hS => ?_)
    obtain ⟨es9, hv10⟩ := hv10
    subst σ1
    refine lv_if_eq (tgt := 33) hx hb dX9_sum_13 (by decide) (fun c13 => ?_) (fun c13 => ?_)
    · skip
      have ic13 := zeq (a := v10.toInt) (b := 0) rfl (by decide) c13
      replace hv10 := (hv10.resolve_left (fun q => by omega)).2
      refine lv_iconst (v := (-1)) hx hb dX9_sum_33 (by decide) ?_
      have heq9 : σ = (upC (upC (upC σ 0 (upd (σ 0) 18 (σ 0 18))) 10 (σ 10)) 11 (σ 11)) := by
        funext k
        by_cases e0 : k = 0
        · subst e0
          funext i
          by_cases f18 : i = 18
          · subst f18; rfl
          show (σ 0) i = (upd (σ 0) 18 (σ 0 18)) i
          simp only [upd, if_neg f18]
        by_cases e10 : k = 10
        · subst e10; rfl
        by_cases e11 : k = 11
        · subst e11; rfl
        simp only [upC, if_neg e0, if_neg e10, if_neg e11]
      have hpost : ∃ n18 : Int32, ∃ u10 : Nat → Int32, ∃ u11 : Nat → Int32, σ = (upC (upC (upC σ 0 (upd (σ 0) 18 n18)) 10 u10) 11 u11) ∧ True := by refine ⟨(σ 0 18), (σ 10), (σ 11), heq9, ?_⟩; trivial
      exact W.iret (v := (-1)) hx hb hr (fun t9 ht hW => ⟨⟨(-1), σ, rfl, hpost, by rw [ht]; exact hP, va_K.moved hW.alike hK, hD⟩, hS.F ht⟩) hS.2.2 dX9_sum_34
    · skip
      have ic13 := zneq (a := v10.toInt) (b := 0) rfl (by decide) c13
      replace hv10 := (hv10.resolve_right (fun q => by omega)).2
      refine lv_aload_n hx hb dX9_sum_16 rfl (lv_at hl 0 rfl) ?_
      refine lv_iload_n hx hb dX9_sum_17 rfl (lv_at hl 1 rfl) ?_
      refine zcalli (va_runV (As := [.int x1]) (rest := []) ⟨hx, hb, hml, hown, hts⟩ (c_X9_isSharing l dC dI cI a N hok σ H.size (x1) h0 h2) (cwV 1 hts gX9_sum_X9_isSharing rfl rfl rfl (by decide +kernel) ⟨Nat.le_of_ble_eq_true rfl, Nat.le_of_ble_eq_true rfl⟩) (zpreV (wf := wM a cI) (q0 := 0) (ci := 9) hok hN hS hA hK hP hD rfl rfl) rfl rfl hl.1 rfl (lv_room (Nat.le_of_ble_eq_true rfl)) dX9_sum_18 ⟨Nat.zero_le _, Nat.zero_le _⟩) hD hS hA (fun v18 σ1 H locs hv18 hP hD hS => ?_)
      obtain ⟨n18_18, u10_18, u11_18, es9, hv18⟩ := hv18
      subst σ1
      have hP : va_P (dC, dI) vwCl (wM a cI (upC (upC (upC σ 0 (upd (σ 0) 18 n18_18)) 10 u10_18) 11 u11_18)) H := hP
      have hD : va_D A (wM a cI (upC (upC (upC σ 0 (upd (σ 0) 18 n18_18)) 10 u10_18) 11 u11_18)) := hD
      have hs := hv18.2.1
      have hq := hv18.2.2
      refine lv_if_eq (tgt := 33) hx hb dX9_sum_21 (by decide) (fun c21 => ?_) (fun c21 => ?_)
      · skip
        have ic21 := zeq (a := v18.toInt) (b := 0) rfl (by decide) c21
        refine lv_iconst (v := (-1)) hx hb dX9_sum_33 (by decide) ?_
        have heq9 : (upC (upC (upC σ 0 (upd (σ 0) 18 n18_18)) 10 u10_18) 11 u11_18) = (upC (upC (upC σ 0 (upd (σ 0) 18 n18_18)) 10 u10_18) 11 u11_18) := rfl
        have hpost : ∃ n18 : Int32, ∃ u10 : Nat → Int32, ∃ u11 : Nat → Int32, (upC (upC (upC σ 0 (upd (σ 0) 18 n18_18)) 10 u10_18) 11 u11_18) = (upC (upC (upC σ 0 (upd (σ 0) 18 n18)) 10 u10) 11 u11) ∧ True := by refine ⟨(n18_18), (u10_18), (u11_18), heq9, ?_⟩; trivial
        exact W.iret (v := (-1)) hx hb hr (fun t9 ht hW => ⟨⟨(-1), (upC (upC (upC σ 0 (upd (σ 0) 18 n18_18)) 10 u10_18) 11 u11_18), rfl, hpost, by rw [ht]; exact hP, va_K.moved hW.alike hK, hD⟩, hS.F ht⟩) hS.2.2 dX9_sum_34
      · skip
        have ic21 := zneq (a := v18.toInt) (b := 0) rfl (by decide) c21
        refine lv_aload_n hx hb dX9_sum_24 rfl (lv_at hl 0 rfl) ?_
        refine lv_iload_n hx hb dX9_sum_25 rfl (lv_at hl 2 rfl) ?_
        refine lv_iload_n hx hb dX9_sum_26 rfl (lv_at hl 3 rfl) ?_
        refine zcalli (va_runV (As := [.int x2, .int x3]) (rest := []) ⟨hx, hb, hml, hown, hts⟩ (c_X9_sumOf l dC dI cI a N hok (upC (upC (upC σ 0 (upd (σ 0) 18 n18_18)) 10 u10_18) 11 u11_18) H.size (x2) (x3) (by omega) hs hq) (cwV 2 hts gX9_sum_X9_sumOf rfl rfl rfl (by decide +kernel) ⟨Nat.le_of_ble_eq_true rfl, Nat.le_of_ble_eq_true rfl⟩) (zpreV (wf := wM a cI) (q0 := 0) (ci := 9) hok hN hS hA hK hP hD rfl rfl) rfl rfl hl.1 rfl (lv_room (Nat.le_of_ble_eq_true rfl)) dX9_sum_27 ⟨Nat.zero_le _, Nat.zero_le _⟩) hD hS hA (fun v27 σ1 H locs hv27 hP hD hS => ?_)
        obtain ⟨es9, hv27⟩ := hv27
        subst σ1
        refine lv_goto (tgt := 34) hx hb dX9_sum_30 (by decide) ?_
        have heq9 : (upC (upC (upC σ 0 (upd (σ 0) 18 n18_18)) 10 u10_18) 11 u11_18) = (upC (upC (upC σ 0 (upd (σ 0) 18 n18_18)) 10 u10_18) 11 u11_18) := rfl
        have hpost : ∃ n18 : Int32, ∃ u10 : Nat → Int32, ∃ u11 : Nat → Int32, (upC (upC (upC σ 0 (upd (σ 0) 18 n18_18)) 10 u10_18) 11 u11_18) = (upC (upC (upC σ 0 (upd (σ 0) 18 n18)) 10 u10) 11 u11) ∧ True := by refine ⟨(n18_18), (u10_18), (u11_18), heq9, ?_⟩; trivial
        exact W.iret (v := v27) hx hb hr (fun t9 ht hW => ⟨⟨v27, (upC (upC (upC σ 0 (upd (σ 0) 18 n18_18)) 10 u10_18) 11 u11_18), rfl, hpost, by rw [ht]; exact hP, va_K.moved hW.alike hK, hD⟩, hS.F ht⟩) hS.2.2 dX9_sum_34

abbrev RM_X9_envyOf : Room := { frames := 1, cells := 0, slots := 0, locals := 24 }
set_option maxHeartbeats 4000000 in
set_option maxRecDepth 100000 in
theorem c_X9_envyOf (l : Launch) (dC : Nat → ClassId) (dI : Nat → Nat → Nat) (cI : ClassId) (a : Nat → Nat) (N : (Nat → Prop) → State → Prop) (hok : zNok N) (σ : Cn) (sz : Nat) (x1 : Int32) (x2 : Int32) (h1 : 0 ≤ x1.toInt ∧ x1.toInt < 4) (hs : 0 ≤ (σ 0 18).toInt ∧ (σ 0 18).toInt ≤ 10) (hq : ∀ j : Nat, (j : Int) < (σ 0 18).toInt → 0 ≤ (σ 10 j).toInt ∧ (σ 10 j).toInt < 10) : Met l yX9_envyOf wsX9_envyOf RM_X9_envyOf (zPc (dC, dI) [(cI, .int)] N (wM a cI) σ sz [.ref (a 0), .int x1, .int x2]) (zQi (dC, dI) [(cI, .int)] (wM a cI) (va_A (wM a cI σ) sz) (fun (r : Int32) (σ1 : Cn) => σ1 = σ ∧ True)) 0 0 (va_A (wM a cI σ) sz) := by
  refine Met.ofW (cc := cX9_envyOf) (maxL := 8) (ret := (some .int)) (by decide) rfl ?_
  intro p e s m args below meth c s₁ B hml hv
  obtain ⟨rfl, hsz, hP, hK, hD0, hN⟩ := hv
  have hx := B.exec
  have hb := B.bytes
  have hr := B.returns
  have hts := atoms_spec (ws := wsX9_envyOf) B.pre
  have hown : s.vm.findClass RX9 = some m.cls := findClass_of_methodNamed B.named
  have hlocks := B.notSynchronized
  subst hsz
  have hD := hD0.self (sz := s.heap.size)
  generalize hAe : va_A (wM a cI σ) s.heap.size = A at hD hN ⊢
  have hA : ∀ q : Nat, s.heap.size ≤ q → A q := fun q h => by rw [← hAe]; exact Or.inr h
  clear hAe hD0
  have hS : va_S A s.heap s.heap [] := va_S.rf
  have in9 : ∀ w ∈ u_ws RX9 TX9 28, w ∈ wsX9_envyOf := by decide +kernel
  have k182 := hts (.fieldLink RX9 182 "HouseSortedModel" "shared" "I") (by decide +kernel)
  have k34 := hts (.fieldLink RX9 34 "HouseSortedModel" "worths" "[I") (by decide +kernel)
  have k37 := hts (.fieldLink RX9 37 "HouseSortedModel" "which" "[I") (by decide +kernel)
  have k40 := hts (.fieldLink RX9 40 "HouseSortedModel" "gets" "[I") (by decide +kernel)
  have LP : ∀ n : Nat, (∀ (ow : Int32) (ot : Int32) (gr : Int32) (j : Int32) (H : Heap) (locs : List Loc) (ls : Array Slot), 0 ≤ j.toInt ∧ j.toInt ≤ 10 → (10 - j.toInt).toNat < n → va_P (dC, dI) vwCl (wM a cI σ) H → va_D A (wM a cI σ) → va_S A s.heap H locs → lv_has ls 8 [(0, .ref (a 0)), (1, .int x1), (2, .int x2), (3, .int ow), (4, .int ot), (5, .int gr), (6, .int j)] → W p l e (headSpec wsX9_envyOf RM_X9_envyOf).room s m ([.ref (a 0), .int x1, .int x2] : List Value).toArray below meth c H locs 0 0 (MQ below (zQi (dC, dI) [(cI, .int)] (wM a cI) A (fun (r : Int32) (σ1 : Cn) => σ1 = σ ∧ True)) ([.ref (a 0), .int x1, .int x2] : List Value).toArray s 0 0 A) (F0 m 21 ls [])) := by
    intro n
    induction n with
    | zero => exact by intros; omega
    | succ n ih =>
      · intro ow ot gr j H locs ls g1 hmu hP hD hS hl
        refine lv_iload hx hb dX9_envyOf_21 (lv_at hl 6 rfl) ?_
        refine lv_aload_n hx hb dX9_envyOf_23 rfl (lv_at hl 0 rfl) ?_
        refine va_get (D := (dC, dI)) (ci := 9) (v := .int (σ 0 18)) (C := RX9) (T := TX9) (N := 28) hx hb hts in9 hown hK hP 0 rfl rfl 18 (by decide) k182 (fun _ h9 => h9) rfl dX9_envyOf_24 ?_
        refine lv_icmp_ge (tgt := 82) hx hb dX9_envyOf_27 (by decide) (fun c27 => ?_) (fun c27 => ?_)
        · skip
          have ic27 := zle (a := (σ 0 18).toInt) (b := j.toInt) rfl rfl c27
          refine lv_iload hx hb dX9_envyOf_82 (lv_at hl 4 rfl) ?_
          refine lv_iload_n hx hb dX9_envyOf_84 rfl (lv_at hl 3 rfl) ?_
          refine lv_icmp_gt (tgt := 92) hx hb dX9_envyOf_85 (by decide) (fun c85 => ?_) (fun c85 => ?_)
          · skip
            have ic85 := zlt (a := ow.toInt) (b := ot.toInt) rfl rfl c85
            refine lv_iload hx hb dX9_envyOf_92 (lv_at hl 4 rfl) ?_
            refine lv_iload hx hb dX9_envyOf_94 (lv_at hl 5 rfl) ?_
            refine lv_isub hx hb dX9_envyOf_96 ?_
            refine lv_topi (fun v96 ev96 => ?_)
            refine lv_iload_n hx hb dX9_envyOf_97 rfl (lv_at hl 3 rfl) ?_
            refine lv_icmp_gt (tgt := 105) hx hb dX9_envyOf_98 (by decide) (fun c98 => ?_) (fun c98 => ?_)
            · skip
              have ic98 := zlt (a := ow.toInt) (b := v96.toInt) rfl rfl c98
              refine lv_iconst (v := 2) hx hb dX9_envyOf_105 (by decide) ?_
              have heq9 : σ = σ := rfl
              have hpost : σ = σ ∧ True := by refine ⟨heq9, ?_⟩; trivial
              exact W.iret (v := 2) hx hb hr (fun t9 ht hW => ⟨⟨2, σ, rfl, hpost, by rw [ht]; exact hP, va_K.moved hW.alike hK, hD⟩, hS.F ht⟩) hS.2.2 dX9_envyOf_106
            · skip
              have ic98 := znlt (a := ow.toInt) (b := v96.toInt) rfl rfl c98
              refine lv_iconst (v := 1) hx hb dX9_envyOf_101 (by decide) ?_
              refine lv_goto (tgt := 106) hx hb dX9_envyOf_102 (by decide) ?_
              have heq9 : σ = σ := rfl
              have hpost : σ = σ ∧ True := by refine ⟨heq9, ?_⟩; trivial
              exact W.iret (v := 1) hx hb hr (fun t9 ht hW => ⟨⟨1, σ, rfl, hpost, by rw [ht]; exact hP, va_K.moved hW.alike hK, hD⟩, hS.F ht⟩) hS.2.2 dX9_envyOf_106
          · skip
            have ic85 := znlt (a := ow.toInt) (b := ot.toInt) rfl rfl c85
            refine lv_iconst (v := 0) hx hb dX9_envyOf_88 (by decide) ?_
            refine lv_goto (tgt := 106) hx hb dX9_envyOf_89 (by decide) ?_
            have heq9 : σ = σ := rfl
            have hpost : σ = σ ∧ True := by refine ⟨heq9, ?_⟩; trivial
            exact W.iret (v := 0) hx hb hr (fun t9 ht hW => ⟨⟨0, σ, rfl, hpost, by rw [ht]; exact hP, va_K.moved hW.alike hK, hD⟩, hS.F ht⟩) hS.2.2 dX9_envyOf_106
        · skip
          have ic27 := znle (a := (σ 0 18).toInt) (b := j.toInt) rfl rfl c27
          refine lv_aload_n hx hb dX9_envyOf_30 rfl (lv_at hl 0 rfl) ?_
          refine va_get (D := (dC, dI)) (ci := 9) (v := .ref (a 9)) (C := RX9) (T := TX9) (N := 28) hx hb hts in9 hown hK hP 0 rfl rfl 17 (by decide) k34 (fun _ h9 => h9) rfl dX9_envyOf_31 ?_
          refine lv_bipush (v := 10) hx hb dX9_envyOf_34 (by decide) ?_
          refine lv_iload_n hx hb dX9_envyOf_36 rfl (lv_at hl 1 rfl) ?_
          refine lv_imul hx hb dX9_envyOf_37 ?_
          refine lv_topi (fun v37 ev37 => ?_)
          have tv37 : v37.toInt = 10 * x1.toInt := by rw [ev37, zmul, show (10 : Int32).toInt = 10 from by decide]; omega
          refine lv_aload_n hx hb dX9_envyOf_38 rfl (lv_at hl 0 rfl) ?_
          refine va_get (D := (dC, dI)) (ci := 9) (v := .ref (a 10)) (C := RX9) (T := TX9) (N := 28) hx hb hts in9 hown hK hP 0 rfl rfl 19 (by decide) k37 (fun _ h9 => h9) rfl dX9_envyOf_39 ?_
          refine lv_iload hx hb dX9_envyOf_42 (lv_at hl 6 rfl) ?_
          refine va_iald (D := (dC, dI)) (f := σ 10) hx hb hK hP 10 0 rfl rfl (i := j) (n := 10) (zin (by omega) (by omega)) dX9_envyOf_44 ?_
          refine lv_topi (fun v44 ev44 => ?_)
          have tv44 := congrArg Int32.toInt ev44
          have hb9 := hq ((j).toNatClampNeg) (by have q := zcl (x := j) (by omega); omega)
          refine lv_iadd hx hb dX9_envyOf_45 ?_
          refine lv_topi (fun v45 ev45 => ?_)
          have tv45 : v45.toInt = v37.toInt + v44.toInt := by rw [ev45, zadd]; omega
          refine va_iald (D := (dC, dI)) (f := σ 9) hx hb hK hP 9 0 rfl rfl (i := v45) (n := 40) (zin (by omega) (by omega)) dX9_envyOf_46 ?_
          refine lv_topi (fun v46 ev46 => ?_)
          have tv46 := congrArg Int32.toInt ev46
          refine lv_istore (lv' := [(7, .int v46), (0, .ref (a 0)), (1, .int x1), (2, .int x2), (3, .int ow), (4, .int ot), (5, .int gr), (6, .int j)]) hx hb dX9_envyOf_47 hl (by decide) rfl (fun ls hl => ?_)
          refine lv_aload_n hx hb dX9_envyOf_49 rfl (lv_at hl 1 rfl) ?_
          refine va_get (D := (dC, dI)) (ci := 9) (v := .ref (a 11)) (C := RX9) (T := TX9) (N := 28) hx hb hts in9 hown hK hP 0 rfl rfl 20 (by decide) k40 (fun _ h9 => h9) rfl dX9_envyOf_50 ?_
          refine lv_iload hx hb dX9_envyOf_53 (lv_at hl 7 rfl) ?_
          refine va_iald (D := (dC, dI)) (f := σ 11) hx hb hK hP 11 0 rfl rfl (i := j) (n := 10) (zin (by omega) (by omega)) dX9_envyOf_55 ?_
          refine lv_topi (fun v55 ev55 => ?_)
          have tv55 := congrArg Int32.toInt ev55
          refine lv_iload_n hx hb dX9_envyOf_56 rfl (lv_at hl 3 rfl) ?_
          refine lv_icmp_ne (tgt := 72) hx hb dX9_envyOf_57 (by decide) (fun c57 => ?_) (fun c57 => ?_)
          · skip
            have ic57 := zneq (a := v55.toInt) (b := x2.toInt) rfl rfl c57
            refine lv_iload hx hb dX9_envyOf_72 (lv_at hl 6 rfl) ?_
            refine lv_istore (lv' := [(5, .int gr), (7, .int v46), (0, .ref (a 0)), (1, .int x1), (2, .int x2), (3, .int ow), (4, .int ot), (6, .int j)]) hx hb dX9_envyOf_74 hl (by decide) rfl (fun ls hl => ?_)
            obtain ⟨v76, ev76⟩ : ∃ y : Int32, y = j + 1 := ⟨_, rfl⟩
            refine lv_iinc (v := v76) (lv' := [(6, .int v76), (5, .int gr), (7, .int v46), (0, .ref (a 0)), (1, .int x1), (2, .int x2), (3, .int ow), (4, .int ot)]) hx hb dX9_envyOf_76 hl (k := 7) rfl (by rw [ev76]; rfl) (by decide) rfl (fun ls hl => ?_)
            have tv76 : v76.toInt = j.toInt + 1 := by rw [ev76, zadd, show (1 : Int32).toInt = 1 from by decide]; omega
            refine lv_goto (tgt := 21) hx hb dX9_envyOf_79 (by decide) ?_
            exact ih (ow) (ot) (gr) (v76)  H locs ls (by omega) (by omega) hP hD hS (lv_sub hl [3, 4, 5, 6, 7, 1, 0] rfl)
          · skip
            have ic57 := zeq (a := v55.toInt) (b := x2.toInt) rfl rfl c57
            refine lv_iload hx hb dX9_envyOf_60 (lv_at hl 0 rfl) ?_
            refine lv_iload hx hb dX9_envyOf_62 (lv_at hl 6 rfl) ?_
            refine lv_icmp_le (tgt := 72) hx hb dX9_envyOf_64 (by decide) (fun c64 => ?_) (fun c64 => ?_)
            · skip
              have ic64 := zle (a := v46.toInt) (b := gr.toInt) rfl rfl c64
              refine lv_iload hx hb dX9_envyOf_72 (lv_at hl 6 rfl) ?_
              refine lv_istore (lv' := [(5, .int gr), (7, .int v46), (0, .ref (a 0)), (1, .int x1), (2, .int x2), (3, .int ow), (4, .int ot), (6, .int j)]) hx hb dX9_envyOf_74 hl (by decide) rfl (fun ls hl => ?_)
              obtain ⟨v76, ev76⟩ : ∃ y : Int32, y = j + 1 := ⟨_, rfl⟩
              refine lv_iinc (v := v76) (lv' := [(6, .int v76), (5, .int gr), (7, .int v46), (0, .ref (a 0)), (1, .int x1), (2, .int x2), (3, .int ow), (4, .int ot)]) hx hb dX9_envyOf_76 hl (k := 7) rfl (by rw [ev76]; rfl) (by decide) rfl (fun ls hl => ?_)
              have tv76 : v76.toInt = j.toInt + 1 := by rw [ev76, zadd, show (1 : Int32).toInt = 1 from by decide]; omega
              refine lv_goto (tgt := 21) hx hb dX9_envyOf_79 (by decide) ?_
              exact ih (ow) (ot) (gr) (v76)  H locs ls (by omega) (by omega) hP hD hS (lv_sub hl [3, 4, 5, 6, 7, 1, 0] rfl)
            · skip
              have ic64 := znle (a := v46.toInt) (b := gr.toInt) rfl rfl c64
              refine lv_iload hx hb dX9_envyOf_67 (lv_at hl 0 rfl) ?_
              refine lv_goto (tgt := 74) hx hb dX9_envyOf_69 (by decide) ?_
              refine lv_istore (lv' := [(5, .int v46), (7, .int v46), (0, .ref (a 0)), (1, .int x1), (2, .int x2), (3, .int ow), (4, .int ot), (6, .int j)]) hx hb dX9_envyOf_74 hl (by decide) rfl (fun ls hl => ?_)
              obtain ⟨v76, ev76⟩ : ∃ y : Int32, y = j + 1 := ⟨_, rfl⟩
              refine lv_iinc (v := v76) (lv' := [(6, .int v76), (5, .int v46), (7, .int v46), (0, .ref (a 0)), (1, .int x1), (2, .int x2), (3, .int ow), (4, .int ot)]) hx hb dX9_envyOf_76 hl (k := 7) rfl (by rw [ev76]; rfl) (by decide) rfl (fun ls hl => ?_)
              have tv76 : v76.toInt = j.toInt + 1 := by rw [ev76, zadd, show (1 : Int32).toInt = 1 from by decide]; omega
              refine lv_goto (tgt := 21) hx hb dX9_envyOf_79 (by decide) ?_
              exact ih (ow) (ot) (v46) (v76)  H locs ls (by omega) (by omega) hP hD hS (lv_sub hl [3, 4, 5, 6, 7, 1, 0] rfl)
  have hl := lv_entry ([.ref (a 0), .int x1, .int x2]) (n := 8) (Nat.le_of_ble_eq_true rfl)
  rw [lg_entry_eq]
  generalize (lg_sl ([.ref (a 0), .int x1, .int x2]) ++ List.replicate (8 - (lg_sl ([.ref (a 0), .int x1, .int x2])).length) Slot.unset).toArray = ls at hl ⊢
  have hl : lv_has ls 8 [(0, .ref (a 0)), (1, .int x1), (2, .int x2)] := hl
  suffices main : ∀ (H : Heap) (locs : List Loc), va_P (dC, dI) vwCl (wM a cI σ) H → va_D A (wM a cI σ) → va_S A s.heap H locs → W p l e (headSpec wsX9_envyOf RM_X9_envyOf).room s m ([.ref (a 0), .int x1, .int x2] : List Value).toArray below meth c H locs 0 0 (MQ below (zQi (dC, dI) [(cI, .int)] (wM a cI) A (fun (r : Int32) (σ1 : Cn) => σ1 = σ ∧ True)) ([.ref (a 0), .int x1, .int x2] : List Value).toArray s 0 0 A) (F0 m 0 ls []) from main s.heap [] hP hD hS
  intro H locs hP hD hS
  refine lv_aload_n hx hb dX9_envyOf_0 rfl (lv_at hl 0 rfl) ?_
  refine lv_iload_n hx hb dX9_envyOf_1 rfl (lv_at hl 1 rfl) ?_
  refine lv_iload_n hx hb dX9_envyOf_2 rfl (lv_at hl 1 rfl) ?_
  refine zcalli (va_runV (As := [.int x1, .int x1]) (rest := []) ⟨hx, hb, hml, hown, hts⟩ (c_X9_sumOf l dC dI cI a N hok σ H.size (x1) (x1) (by omega) hs hq) (cwV 2 hts gX9_envyOf_X9_sumOf rfl rfl rfl (by decide +kernel) ⟨Nat.le_of_ble_eq_true rfl, Nat.le_of_ble_eq_true rfl⟩) (zpreV (wf := wM a cI) (q0 := 0) (ci := 9) hok hN hS hA hK hP hD rfl rfl) rfl rfl hl.1 rfl (lv_room (Nat.le_of_ble_eq_true rfl)) dX9_envyOf_3 ⟨Nat.zero_le _, Nat.zero_le _⟩) hD hS hA (fun v3 σ1 H locs hv3 hP hD hS => ?_)
  obtain ⟨es9, hv3⟩ := hv3
  subst σ1
  refine lv_istore_n (lv' := [(3, .int v3), (0, .ref (a 0)), (1, .int x1), (2, .int x2)]) hx hb dX9_envyOf_6 rfl hl (by decide) rfl (fun ls hl => ?_)
  refine lv_aload_n hx hb dX9_envyOf_7 rfl (lv_at hl 1 rfl) ?_
  refine lv_iload_n hx hb dX9_envyOf_8 rfl (lv_at hl 2 rfl) ?_
  refine lv_iload_n hx hb dX9_envyOf_9 rfl (lv_at hl 3 rfl) ?_
  refine zcalli (va_runV (As := [.int x1, .int x2]) (rest := []) ⟨hx, hb, hml, hown, hts⟩ (c_X9_sumOf l dC dI cI a N hok σ H.size (x1) (x2) (by omega) hs hq) (cwV 2 hts gX9_envyOf_X9_sumOf rfl rfl rfl (by decide +kernel) ⟨Nat.le_of_ble_eq_true rfl, Nat.le_of_ble_eq_true rfl⟩) (zpreV (wf := wM a cI) (q0 := 0) (ci := 9) hok hN hS hA hK hP hD rfl rfl) rfl rfl hl.1 rfl (lv_room (Nat.le_of_ble_eq_true rfl)) dX9_envyOf_10 ⟨Nat.zero_le _, Nat.zero_le _⟩) hD hS hA (fun v10 σ1 H locs hv10 hP hD hS => ?_)
  obtain ⟨es9, hv10⟩ := hv10
  subst σ1
  refine lv_istore (lv' := [(4, .int v10), (3, .int v3), (0, .ref (a 0)), (1, .int x1), (2, .int x2)]) hx hb dX9_envyOf_13 hl (by decide) rfl (fun ls hl => ?_)
  refine lv_iconst (v := 0) hx hb dX9_envyOf_15 (by decide) ?_
  refine lv_istore (lv' := [(5, .int 0), (4, .int v10), (3, .int v3), (0, .ref (a 0)), (1, .int x1), (2, .int x2)]) hx hb dX9_envyOf_16 hl (by decide) rfl (fun ls hl => ?_)
  refine lv_iconst (v := 0) hx hb dX9_envyOf_18 (by decide) ?_
  refine lv_istore (lv' := [(6, .int 0), (5, .int 0), (4, .int v10), (3, .int v3), (0, .ref (a 0)), (1, .int x1), (2, .int x2)]) hx hb dX9_envyOf_19 hl (by decide) rfl (fun ls hl => ?_)
  exact (LP _) (v3) (v10) (0) (0)  H locs ls (by decide) (Nat.lt_succ_self _) hP hD hS (lv_sub hl [4, 5, 6, 3, 2, 1, 0] rfl)

abbrev RM_X9_envies : Room := { frames := 5, cells := 0, slots := 0, locals := 109 }
set_option maxHeartbeats 4000000 in
set_option maxRecDepth 100000 in
theorem c_X9_envies (l : Launch) (dC : Nat → ClassId) (dI : Nat → Nat → Nat) (cI : ClassId) (a : Nat → Nat) (N : (Nat → Prop) → State → Prop) (hok : zNok N) (σ : Cn) (sz : Nat) (x1 : Int32) (x2 : Int32) (x3 : Int32) (h0 : 0 ≤ (σ 0 10).toInt ∧ (σ 0 10).toInt ≤ 4) (h2 : 0 ≤ (σ 0 11).toInt ∧ (σ 0 11).toInt ≤ 10) : Met l yX9_envies wsX9_envies RM_X9_envies (zPc (dC, dI) [(cI, .int)] N (wM a cI) σ sz [.ref (a 0), .int x1, .int x2, .int x3]) (zQi (dC, dI) [(cI, .int)] (wM a cI) (va_A (wM a cI σ) sz) (fun (r : Int32) (σ1 : Cn) => ∃ n18 : Int32, ∃ u10 : Nat → Int32, ∃ u11 : Nat → Int32, σ1 = (upC (upC (upC σ 0 (upd (σ 0) 18 n18)) 10 u10) 11 u11) ∧ True)) 0 0 (va_A (wM a cI σ) sz) := by
  refine Met.ofW (cc := cX9_envies) (maxL := 4) (ret := (some .int)) (by decide) rfl ?_
  intro p e s m args below meth c s₁ B hml hv
  obtain ⟨rfl, hsz, hP, hK, hD0, hN⟩ := hv
  have hx := B.exec
  have hb := B.bytes
  have hr := B.returns
  have hts := atoms_spec (ws := wsX9_envies) B.pre
  have hown : s.vm.findClass RX9 = some m.cls := findClass_of_methodNamed B.named
  have hlocks := B.notSynchronized
  subst hsz
  have hD := hD0.self (sz := s.heap.size)
  generalize hAe : va_A (wM a cI σ) s.heap.size = A at hD hN ⊢
  have hA : ∀ q : Nat, s.heap.size ≤ q → A q := fun q h => by rw [← hAe]; exact Or.inr h
  clear hAe hD0
  have hS : va_S A s.heap s.heap [] := va_S.rf
  have hl := lv_entry ([.ref (a 0), .int x1, .int x2, .int x3]) (n := 4) (Nat.le_of_ble_eq_true rfl)
  rw [lg_entry_eq]
  generalize (lg_sl ([.ref (a 0), .int x1, .int x2, .int x3]) ++ List.replicate (4 - (lg_sl ([.ref (a 0), .int x1, .int x2, .int x3])).length) Slot.unset).toArray = ls at hl ⊢
  have hl : lv_has ls 4 [(0, .ref (a 0)), (1, .int x1), (2, .int x2), (3, .int x3)] := hl
  suffices main : ∀ (H : Heap) (locs : List Loc), va_P (dC, dI) vwCl (wM a cI σ) H → va_D A (wM a cI σ) → va_S A s.heap H locs → W p l e (headSpec wsX9_envies RM_X9_envies).room s m ([.ref (a 0), .int x1, .int x2, .int x3] : List Value).toArray below meth c H locs 0 0 (MQ below (zQi (dC, dI) [(cI, .int)] (wM a cI) A (fun (r : Int32) (σ1 : Cn) => ∃ n18 : Int32, ∃ u10 : Nat → Int32, ∃ u11 : Nat → Int32, σ1 = (upC (upC (upC σ 0 (upd (σ 0) 18 n18)) 10 u10) 11 u11) ∧ True)) ([.ref (a 0), .int x1, .int x2, .int x3] : List Value).toArray s 0 0 A) (F0 m 0 ls []) from main s.heap [] hP hD hS
  intro H locs hP hD hS
  refine lv_aload_n hx hb dX9_envies_0 rfl (lv_at hl 0 rfl) ?_
  refine lv_iload_n hx hb dX9_envies_1 rfl (lv_at hl 2 rfl) ?_
  refine zcalli (va_runV (As := [.int x2]) (rest := []) ⟨hx, hb, hml, hown, hts⟩ (c_X9_isHeir l dC dI cI a N hok σ H.size (x2) h0) (cwV 1 hts gX9_envies_X9_isHeir rfl rfl rfl (by decide +kernel) ⟨Nat.le_of_ble_eq_true rfl, Nat.le_of_ble_eq_true rfl⟩) (zpreV (wf := wM a cI) (q0 := 0) (ci := 9) hok hN hS hA hK hP hD rfl rfl) rfl rfl hl.1 rfl (lv_room (Nat.le_of_ble_eq_true rfl)) dX9_envies_2 ⟨Nat.zero_le _, Nat.zero_le _⟩) hD hS hA (fun v2 σ1 H locs hv2 hP hD hS => ?_)
  obtain ⟨es9, hv2⟩ := hv2
  subst σ1
  refine lv_if_eq (tgt := 38) hx hb dX9_envies_5 (by decide) (fun c5 => ?_) (fun c5 => ?_)
  · skip
    have ic5 := zeq (a := v2.toInt) (b := 0) rfl (by decide) c5
    replace hv2 := (hv2.resolve_left (fun q => by omega)).2
    refine lv_iconst (v := (-1)) hx hb dX9_envies_38 (by decide) ?_
    have heq9 : σ = (upC (upC (upC σ 0 (upd (σ 0) 18 (σ 0 18))) 10 (σ 10)) 11 (σ 11)) := by
      funext k
      by_cases e0 : k = 0
      · subst e0
        funext i
        by_cases f18 : i = 18
        · subst f18; rfl
        show (σ 0) i = (upd (σ 0) 18 (σ 0 18)) i
        simp only [upd, if_neg f18]
      by_cases e10 : k = 10
      · subst e10; rfl
      by_cases e11 : k = 11
      · subst e11; rfl
      simp only [upC, if_neg e0, if_neg e10, if_neg e11]
    have hpost : ∃ n18 : Int32, ∃ u10 : Nat → Int32, ∃ u11 : Nat → Int32, σ = (upC (upC (upC σ 0 (upd (σ 0) 18 n18)) 10 u10) 11 u11) ∧ True := by refine ⟨(σ 0 18), (σ 10), (σ 11), heq9, ?_⟩; trivial
    exact W.iret (v := (-1)) hx hb hr (fun t9 ht hW => ⟨⟨(-1), σ, rfl, hpost, by rw [ht]; exact hP, va_K.moved hW.alike hK, hD⟩, hS.F ht⟩) hS.2.2 dX9_envies_39
  · skip
    have ic5 := zneq (a := v2.toInt) (b := 0) rfl (by decide) c5
    replace hv2 := (hv2.resolve_right (fun q => by omega)).2
    refine lv_aload_n hx hb dX9_envies_8 rfl (lv_at hl 0 rfl) ?_
    refine lv_iload_n hx hb dX9_envies_9 rfl (lv_at hl 3 rfl) ?_
    refine zcalli (va_runV (As := [.int x3]) (rest := []) ⟨hx, hb, hml, hown, hts⟩ (c_X9_isHeir l dC dI cI a N hok σ H.size (x3) h0) (cwV 1 hts gX9_envies_X9_isHeir rfl rfl rfl (by decide +kernel) ⟨Nat.le_of_ble_eq_true rfl, Nat.le_of_ble_eq_true rfl⟩) (zpreV (wf := wM a cI) (q0 := 0) (ci := 9) hok hN hS hA hK hP hD rfl rfl) rfl rfl hl.1 rfl (lv_room (Nat.le_of_ble_eq_true rfl)) dX9_envies_10 ⟨Nat.zero_le _, Nat.zero_le _⟩) hD hS hA (fun v10 σ1 H locs hv10 hP hD hS => ?_)
    obtain ⟨es9, hv10⟩ := hv10
    subst σ1
    refine lv_if_eq (tgt := 38) hx hb dX9_envies_13 (by decide) (fun c13 => ?_) (fun c13 => ?_)
    · skip
      have ic13 := zeq (a := v10.toInt) (b := 0) rfl (by decide) c13
      replace hv10 := (hv10.resolve_left (fun q => by omega)).2
      refine lv_iconst (v := (-1)) hx hb dX9_envies_38 (by decide) ?_
      have heq9 : σ = (upC (upC (upC σ 0 (upd (σ 0) 18 (σ 0 18))) 10 (σ 10)) 11 (σ 11)) := by
        funext k
        by_cases e0 : k = 0
        · subst e0
          funext i
          by_cases f18 : i = 18
          · subst f18; rfl
          show (σ 0) i = (upd (σ 0) 18 (σ 0 18)) i
          simp only [upd, if_neg f18]
        by_cases e10 : k = 10
        · subst e10; rfl
        by_cases e11 : k = 11
        · subst e11; rfl
        simp only [upC, if_neg e0, if_neg e10, if_neg e11]
      have hpost : ∃ n18 : Int32, ∃ u10 : Nat → Int32, ∃ u11 : Nat → Int32, σ = (upC (upC (upC σ 0 (upd (σ 0) 18 n18)) 10 u10) 11 u11) ∧ True := by refine ⟨(σ 0 18), (σ 10), (σ 11), heq9, ?_⟩; trivial
      exact W.iret (v := (-1)) hx hb hr (fun t9 ht hW => ⟨⟨(-1), σ, rfl, hpost, by rw [ht]; exact hP, va_K.moved hW.alike hK, hD⟩, hS.F ht⟩) hS.2.2 dX9_envies_39
    · skip
      have ic13 := zneq (a := v10.toInt) (b := 0) rfl (by decide) c13
      replace hv10 := (hv10.resolve_right (fun q => by omega)).2
      refine lv_iload_n hx hb dX9_envies_16 rfl (lv_at hl 2 rfl) ?_
      refine lv_iload_n hx hb dX9_envies_17 rfl (lv_at hl 3 rfl) ?_
      refine lv_icmp_eq (tgt := 38) hx hb dX9_envies_18 (by decide) (fun c18 => ?_) (fun c18 => ?_)
      · skip
        have ic18 := zeq (a := x2.toInt) (b := x3.toInt) rfl rfl c18
        refine lv_iconst (v := (-1)) hx hb dX9_envies_38 (by decide) ?_
        have heq9 : σ = (upC (upC (upC σ 0 (upd (σ 0) 18 (σ 0 18))) 10 (σ 10)) 11 (σ 11)) := by
          funext k
          by_cases e0 : k = 0
          · subst e0
            funext i
            by_cases f18 : i = 18
            · subst f18; rfl
            show (σ 0) i = (upd (σ 0) 18 (σ 0 18)) i
            simp only [upd, if_neg f18]
          by_cases e10 : k = 10
          · subst e10; rfl
          by_cases e11 : k = 11
          · subst e11; rfl
          simp only [upC, if_neg e0, if_neg e10, if_neg e11]
        have hpost : ∃ n18 : Int32, ∃ u10 : Nat → Int32, ∃ u11 : Nat → Int32, σ = (upC (upC (upC σ 0 (upd (σ 0) 18 n18)) 10 u10) 11 u11) ∧ True := by refine ⟨(σ 0 18), (σ 10), (σ 11), heq9, ?_⟩; trivial
        exact W.iret (v := (-1)) hx hb hr (fun t9 ht hW => ⟨⟨(-1), σ, rfl, hpost, by rw [ht]; exact hP, va_K.moved hW.alike hK, hD⟩, hS.F ht⟩) hS.2.2 dX9_envies_39
      · skip
        have ic18 := zneq (a := x2.toInt) (b := x3.toInt) rfl rfl c18
        refine lv_aload_n hx hb dX9_envies_21 rfl (lv_at hl 0 rfl) ?_
        refine lv_iload_n hx hb dX9_envies_22 rfl (lv_at hl 1 rfl) ?_
        refine zcalli (va_runV (As := [.int x1]) (rest := []) ⟨hx, hb, hml, hown, hts⟩ (c_X9_isSharing l dC dI cI a N hok σ H.size (x1) h0 h2) (cwV 1 hts gX9_envies_X9_isSharing rfl rfl rfl (by decide +kernel) ⟨Nat.le_of_ble_eq_true rfl, Nat.le_of_ble_eq_true rfl⟩) (zpreV (wf := wM a cI) (q0 := 0) (ci := 9) hok hN hS hA hK hP hD rfl rfl) rfl rfl hl.1 rfl (lv_room (Nat.le_of_ble_eq_true rfl)) dX9_envies_23 ⟨Nat.zero_le _, Nat.zero_le _⟩) hD hS hA (fun v23 σ1 H locs hv23 hP hD hS => ?_)
        obtain ⟨n18_23, u10_23, u11_23, es9, hv23⟩ := hv23
        subst σ1
        have hP : va_P (dC, dI) vwCl (wM a cI (upC (upC (upC σ 0 (upd (σ 0) 18 n18_23)) 10 u10_23) 11 u11_23)) H := hP
        have hD : va_D A (wM a cI (upC (upC (upC σ 0 (upd (σ 0) 18 n18_23)) 10 u10_23) 11 u11_23)) := hD
        have hs := hv23.2.1
        have hq := hv23.2.2
        refine lv_if_eq (tgt := 38) hx hb dX9_envies_26 (by decide) (fun c26 => ?_) (fun c26 => ?_)
        · skip
          have ic26 := zeq (a := v23.toInt) (b := 0) rfl (by decide) c26
          refine lv_iconst (v := (-1)) hx hb dX9_envies_38 (by decide) ?_
          have heq9 : (upC (upC (upC σ 0 (upd (σ 0) 18 n18_23)) 10 u10_23) 11 u11_23) = (upC (upC (upC σ 0 (upd (σ 0) 18 n18_23)) 10 u10_23) 11 u11_23) := rfl
          have hpost : ∃ n18 : Int32, ∃ u10 : Nat → Int32, ∃ u11 : Nat → Int32, (upC (upC (upC σ 0 (upd (σ 0) 18 n18_23)) 10 u10_23) 11 u11_23) = (upC (upC (upC σ 0 (upd (σ 0) 18 n18)) 10 u10) 11 u11) ∧ True := by refine ⟨(n18_23), (u10_23), (u11_23), heq9, ?_⟩; trivial
          exact W.iret (v := (-1)) hx hb hr (fun t9 ht hW => ⟨⟨(-1), (upC (upC (upC σ 0 (upd (σ 0) 18 n18_23)) 10 u10_23) 11 u11_23), rfl, hpost, by rw [ht]; exact hP, va_K.moved hW.alike hK, hD⟩, hS.F ht⟩) hS.2.2 dX9_envies_39
        · skip
          have ic26 := zneq (a := v23.toInt) (b := 0) rfl (by decide) c26
          refine lv_aload_n hx hb dX9_envies_29 rfl (lv_at hl 0 rfl) ?_
          refine lv_iload_n hx hb dX9_envies_30 rfl (lv_at hl 2 rfl) ?_
          refine lv_iload_n hx hb dX9_envies_31 rfl (lv_at hl 3 rfl) ?_
          refine zcalli (va_runV (As := [.int x2, .int x3]) (rest := []) ⟨hx, hb, hml, hown, hts⟩ (c_X9_envyOf l dC dI cI a N hok (upC (upC (upC σ 0 (upd (σ 0) 18 n18_23)) 10 u10_23) 11 u11_23) H.size (x2) (x3) (by omega) hs hq) (cwV 2 hts gX9_envies_X9_envyOf rfl rfl rfl (by decide +kernel) ⟨Nat.le_of_ble_eq_true rfl, Nat.le_of_ble_eq_true rfl⟩) (zpreV (wf := wM a cI) (q0 := 0) (ci := 9) hok hN hS hA hK hP hD rfl rfl) rfl rfl hl.1 rfl (lv_room (Nat.le_of_ble_eq_true rfl)) dX9_envies_32 ⟨Nat.zero_le _, Nat.zero_le _⟩) hD hS hA (fun v32 σ1 H locs hv32 hP hD hS => ?_)
          obtain ⟨es9, hv32⟩ := hv32
          subst σ1
          refine lv_goto (tgt := 39) hx hb dX9_envies_35 (by decide) ?_
          have heq9 : (upC (upC (upC σ 0 (upd (σ 0) 18 n18_23)) 10 u10_23) 11 u11_23) = (upC (upC (upC σ 0 (upd (σ 0) 18 n18_23)) 10 u10_23) 11 u11_23) := rfl
          have hpost : ∃ n18 : Int32, ∃ u10 : Nat → Int32, ∃ u11 : Nat → Int32, (upC (upC (upC σ 0 (upd (σ 0) 18 n18_23)) 10 u10_23) 11 u11_23) = (upC (upC (upC σ 0 (upd (σ 0) 18 n18)) 10 u10) 11 u11) ∧ True := by refine ⟨(n18_23), (u10_23), (u11_23), heq9, ?_⟩; trivial
          exact W.iret (v := v32) hx hb hr (fun t9 ht hW => ⟨⟨v32, (upC (upC (upC σ 0 (upd (σ 0) 18 n18_23)) 10 u10_23) 11 u11_23), rfl, hpost, by rw [ht]; exact hP, va_K.moved hW.alike hK, hD⟩, hS.F ht⟩) hS.2.2 dX9_envies_39

abbrev RM_X9_envy : Room := { frames := 5, cells := 0, slots := 0, locals := 109 }
set_option maxHeartbeats 4000000 in
set_option maxRecDepth 100000 in
theorem c_X9_envy (l : Launch) (dC : Nat → ClassId) (dI : Nat → Nat → Nat) (cI : ClassId) (a : Nat → Nat) (N : (Nat → Prop) → State → Prop) (hok : zNok N) (σ : Cn) (sz : Nat) (x1 : Int32) (h0 : 0 ≤ (σ 0 10).toInt ∧ (σ 0 10).toInt ≤ 4) (h2 : 0 ≤ (σ 0 11).toInt ∧ (σ 0 11).toInt ≤ 10) : Met l yX9_envy wsX9_envy RM_X9_envy (zPc (dC, dI) [(cI, .int)] N (wM a cI) σ sz [.ref (a 0), .int x1]) (zQi (dC, dI) [(cI, .int)] (wM a cI) (va_A (wM a cI σ) sz) (fun (r : Int32) (σ1 : Cn) => ∃ n18 : Int32, ∃ u10 : Nat → Int32, ∃ u11 : Nat → Int32, σ1 = (upC (upC (upC σ 0 (upd (σ 0) 18 n18)) 10 u10) 11 u11) ∧ True)) 0 0 (va_A (wM a cI σ) sz) := by
  refine Met.ofW (cc := cX9_envy) (maxL := 5) (ret := (some .int)) (by decide) rfl ?_
  intro p e s m args below meth c s₁ B hml hv
  obtain ⟨rfl, hsz, hP, hK, hD0, hN⟩ := hv
  have hx := B.exec
  have hb := B.bytes
  have hr := B.returns
  have hts := atoms_spec (ws := wsX9_envy) B.pre
  have hown : s.vm.findClass RX9 = some m.cls := findClass_of_methodNamed B.named
  have hlocks := B.notSynchronized
  subst hsz
  have hD := hD0.self (sz := s.heap.size)
  generalize hAe : va_A (wM a cI σ) s.heap.size = A at hD hN ⊢
  have hA : ∀ q : Nat, s.heap.size ≤ q → A q := fun q h => by rw [← hAe]; exact Or.inr h
  clear hAe hD0
  have hS : va_S A s.heap s.heap [] := va_S.rf
  have in9 : ∀ w ∈ u_ws RX9 TX9 28, w ∈ wsX9_envy := by decide +kernel
  have k143 := hts (.fieldLink RX9 143 "HouseSortedModel" "heirs" "I") (by decide +kernel)
  have LP : ∀ n : Nat, (∀ (f : Int32) (j : Int32) (m18 : Int32) (w10 : Nat → Int32) (w11 : Nat → Int32) (H : Heap) (locs : List Loc) (ls : Array Slot), 0 ≤ j.toInt ∧ j.toInt ≤ 4 → 0 ≤ m18.toInt ∧ m18.toInt ≤ 10 → (∀ j : Nat, (j : Int) < m18.toInt → 0 ≤ (w10 j).toInt ∧ (w10 j).toInt < 10) → ((4 - j.toInt).toNat * 10) < n → va_P (dC, dI) vwCl (wM a cI (upC (upC (upC σ 0 (upd (σ 0) 18 m18)) 10 w10) 11 w11)) H → va_D A (wM a cI (upC (upC (upC σ 0 (upd (σ 0) 18 m18)) 10 w10) 11 w11)) → va_S A s.heap H locs → lv_has ls 5 [(0, .ref (a 0)), (2, .int f), (3, .int j)] → W p l e (headSpec wsX9_envy RM_X9_envy).room s m ([.ref (a 0), .int x1] : List Value).toArray below meth c H locs 0 0 (MQ below (zQi (dC, dI) [(cI, .int)] (wM a cI) A (fun (r : Int32) (σ1 : Cn) => ∃ n18 : Int32, ∃ u10 : Nat → Int32, ∃ u11 : Nat → Int32, σ1 = (upC (upC (upC σ 0 (upd (σ 0) 18 n18)) 10 u10) 11 u11) ∧ True)) ([.ref (a 0), .int x1] : List Value).toArray s 0 0 A) (F0 m 14 ls [])) ∧ (∀ (f : Int32) (j : Int32) (k : Int32) (m18 : Int32) (w10 : Nat → Int32) (w11 : Nat → Int32) (H : Heap) (locs : List Loc) (ls : Array Slot), 0 ≤ j.toInt ∧ j.toInt < 4 → 0 ≤ m18.toInt ∧ m18.toInt ≤ 10 → (∀ j : Nat, (j : Int) < m18.toInt → 0 ≤ (w10 j).toInt ∧ (w10 j).toInt < 10) → 0 ≤ k.toInt ∧ k.toInt ≤ 4 → ((3 - j.toInt).toNat * 10 + (4 - k.toInt).toNat + 1) < n → va_P (dC, dI) vwCl (wM a cI (upC (upC (upC σ 0 (upd (σ 0) 18 m18)) 10 w10) 11 w11)) H → va_D A (wM a cI (upC (upC (upC σ 0 (upd (σ 0) 18 m18)) 10 w10) 11 w11)) → va_S A s.heap H locs → lv_has ls 5 [(0, .ref (a 0)), (2, .int f), (3, .int j), (4, .int k)] → W p l e (headSpec wsX9_envy RM_X9_envy).room s m ([.ref (a 0), .int x1] : List Value).toArray below meth c H locs 0 0 (MQ below (zQi (dC, dI) [(cI, .int)] (wM a cI) A (fun (r : Int32) (σ1 : Cn) => ∃ n18 : Int32, ∃ u10 : Nat → Int32, ∃ u11 : Nat → Int32, σ1 = (upC (upC (upC σ 0 (upd (σ 0) 18 n18)) 10 u10) 11 u11) ∧ True)) ([.ref (a 0), .int x1] : List Value).toArray s 0 0 A) (F0 m 25 ls [])) := by
    intro n
    induction n with
    | zero => exact ⟨(by intros; omega), (by intros; omega)⟩
    | succ n ih =>
      refine ⟨?_, ?_⟩
      · intro f j m18 w10 w11 H locs ls g1 g2 g3 hmu hP hD hS hl
        have hs := g2
        have hq := g3
        refine lv_iload_n hx hb dX9_envy_14 rfl (lv_at hl 2 rfl) ?_
        refine lv_aload_n hx hb dX9_envy_15 rfl (lv_at hl 0 rfl) ?_
        refine va_get (D := (dC, dI)) (ci := 9) (v := .int (σ 0 10)) (C := RX9) (T := TX9) (N := 28) hx hb hts in9 hown hK hP 0 rfl rfl 10 (by decide) k143 (fun _ h9 => h9) rfl dX9_envy_16 ?_
        refine lv_icmp_ge (tgt := 70) hx hb dX9_envy_19 (by decide) (fun c19 => ?_) (fun c19 => ?_)
        · skip
          have ic19 := zle (a := (σ 0 10).toInt) (b := j.toInt) rfl rfl c19
          refine lv_iload_n hx hb dX9_envy_70 rfl (lv_at hl 1 rfl) ?_
          have heq9 : (upC (upC (upC σ 0 (upd (σ 0) 18 m18)) 10 w10) 11 w11) = (upC (upC (upC σ 0 (upd (σ 0) 18 m18)) 10 w10) 11 w11) := rfl
          have hpost : ∃ n18 : Int32, ∃ u10 : Nat → Int32, ∃ u11 : Nat → Int32, (upC (upC (upC σ 0 (upd (σ 0) 18 m18)) 10 w10) 11 w11) = (upC (upC (upC σ 0 (upd (σ 0) 18 n18)) 10 u10) 11 u11) ∧ True := by refine ⟨(m18), (w10), (w11), heq9, ?_⟩; trivial
          exact W.iret (v := f) hx hb hr (fun t9 ht hW => ⟨⟨f, (upC (upC (upC σ 0 (upd (σ 0) 18 m18)) 10 w10) 11 w11), rfl, hpost, by rw [ht]; exact hP, va_K.moved hW.alike hK, hD⟩, hS.F ht⟩) hS.2.2 dX9_envy_71
        · skip
          have ic19 := znle (a := (σ 0 10).toInt) (b := j.toInt) rfl rfl c19
          refine lv_iconst (v := 0) hx hb dX9_envy_22 (by decide) ?_
          refine lv_istore (lv' := [(4, .int 0), (0, .ref (a 0)), (2, .int f), (3, .int j)]) hx hb dX9_envy_23 hl (by decide) rfl (fun ls hl => ?_)
          exact ih.2 (f) (j) (0) (m18) (w10) (w11) H locs ls (by omega) (hs) (hq) (by first | omega | decide) (by first | omega | (rw [show (0 : Int32).toInt = 0 from by decide]; omega)) hP hD hS (lv_sub hl [1, 2, 3, 0] rfl)
      · intro f j k m18 w10 w11 H locs ls g1 g2 g3 g4 hmu hP hD hS hl
        have hs := g2
        have hq := g3
        refine lv_iload hx hb dX9_envy_25 (lv_at hl 3 rfl) ?_
        refine lv_aload_n hx hb dX9_envy_27 rfl (lv_at hl 0 rfl) ?_
        refine va_get (D := (dC, dI)) (ci := 9) (v := .int (σ 0 10)) (C := RX9) (T := TX9) (N := 28) hx hb hts in9 hown hK hP 0 rfl rfl 10 (by decide) k143 (fun _ h9 => h9) rfl dX9_envy_28 ?_
        refine lv_icmp_ge (tgt := 64) hx hb dX9_envy_31 (by decide) (fun c31 => ?_) (fun c31 => ?_)
        · skip
          have ic31 := zle (a := (σ 0 10).toInt) (b := k.toInt) rfl rfl c31
          obtain ⟨v64, ev64⟩ : ∃ y : Int32, y = j + 1 := ⟨_, rfl⟩
          refine lv_iinc (v := v64) (lv' := [(3, .int v64), (0, .ref (a 0)), (2, .int f), (4, .int k)]) hx hb dX9_envy_64 hl (k := 2) rfl (by rw [ev64]; rfl) (by decide) rfl (fun ls hl => ?_)
          have tv64 : v64.toInt = j.toInt + 1 := by rw [ev64, zadd, show (1 : Int32).toInt = 1 from by decide]; omega
          refine lv_goto (tgt := 14) hx hb dX9_envy_67 (by decide) ?_
          exact ih.1 (f) (v64) (m18) (w10) (w11) H locs ls (by first | omega | decide) (hs) (hq) (by omega) hP hD hS (lv_sub hl [1, 2, 0] rfl)
        · skip
          have ic31 := znle (a := (σ 0 10).toInt) (b := k.toInt) rfl rfl c31
          refine lv_iload_n hx hb dX9_envy_34 rfl (lv_at hl 1 rfl) ?_
          refine lv_iload_n hx hb dX9_envy_35 rfl (lv_at hl 2 rfl) ?_
          refine lv_iload hx hb dX9_envy_36 (lv_at hl 3 rfl) ?_
          refine lv_icmp_eq (tgt := 55) hx hb dX9_envy_38 (by decide) (fun c38 => ?_) (fun c38 => ?_)
          · skip
            have ic38 := zeq (a := j.toInt) (b := k.toInt) rfl rfl c38
            refine lv_iconst (v := 0) hx hb dX9_envy_55 (by decide) ?_
            refine lv_iadd hx hb dX9_envy_56 ?_
            refine lv_topi (fun v56 ev56 => ?_)
            refine lv_istore_n (lv' := [(2, .int v56), (0, .ref (a 0)), (3, .int j), (4, .int k)]) hx hb dX9_envy_57 rfl hl (by decide) rfl (fun ls hl => ?_)
            obtain ⟨v58, ev58⟩ : ∃ y : Int32, y = k + 1 := ⟨_, rfl⟩
            refine lv_iinc (v := v58) (lv' := [(4, .int v58), (2, .int v56), (0, .ref (a 0)), (3, .int j)]) hx hb dX9_envy_58 hl (k := 3) rfl (by rw [ev58]; rfl) (by decide) rfl (fun ls hl => ?_)
            have tv58 : v58.toInt = k.toInt + 1 := by rw [ev58, zadd, show (1 : Int32).toInt = 1 from by decide]; omega
            refine lv_goto (tgt := 25) hx hb dX9_envy_61 (by decide) ?_
            exact ih.2 (v56) (j) (v58) (m18) (w10) (w11) H locs ls (by omega) (hs) (hq) (by first | omega | decide) (by first | omega | (rw [show (0 : Int32).toInt = 0 from by decide]; omega)) hP hD hS (lv_sub hl [2, 1, 3, 0] rfl)
          · skip
            have ic38 := zneq (a := j.toInt) (b := k.toInt) rfl rfl c38
            refine lv_aload_n hx hb dX9_envy_41 rfl (lv_at hl 0 rfl) ?_
            refine lv_iload_n hx hb dX9_envy_42 rfl (lv_at hl 2 rfl) ?_
            refine lv_iload hx hb dX9_envy_43 (lv_at hl 3 rfl) ?_
            refine zcalli (va_runV (As := [.int j, .int k]) (rest := [.int f]) ⟨hx, hb, hml, hown, hts⟩ (c_X9_envyOf l dC dI cI a N hok (upC (upC (upC σ 0 (upd (σ 0) 18 m18)) 10 w10) 11 w11) H.size (j) (k) (by omega) hs hq) (cwV 2 hts gX9_envy_X9_envyOf rfl rfl rfl (by decide +kernel) ⟨Nat.le_of_ble_eq_true rfl, Nat.le_of_ble_eq_true rfl⟩) (zpreV (wf := wM a cI) (q0 := 0) (ci := 9) hok hN hS hA hK hP hD rfl rfl) rfl rfl hl.1 rfl (lv_room (Nat.le_of_ble_eq_true rfl)) dX9_envy_45 ⟨Nat.zero_le _, Nat.zero_le _⟩) hD hS hA (fun v45 σ1 H locs hv45 hP hD hS => ?_)
            obtain ⟨es9, hv45⟩ := hv45
            subst σ1
            refine lv_if_le (tgt := 55) hx hb dX9_envy_48 (by decide) (fun c48 => ?_) (fun c48 => ?_)
            · skip
              have ic48 := zle (a := v45.toInt) (b := 0) rfl (by decide) c48
              refine lv_iconst (v := 0) hx hb dX9_envy_55 (by decide) ?_
              refine lv_iadd hx hb dX9_envy_56 ?_
              refine lv_topi (fun v56 ev56 => ?_)
              refine lv_istore_n (lv' := [(2, .int v56), (0, .ref (a 0)), (3, .int j), (4, .int k)]) hx hb dX9_envy_57 rfl hl (by decide) rfl (fun ls hl => ?_)
              obtain ⟨v58, ev58⟩ : ∃ y : Int32, y = k + 1 := ⟨_, rfl⟩
              refine lv_iinc (v := v58) (lv' := [(4, .int v58), (2, .int v56), (0, .ref (a 0)), (3, .int j)]) hx hb dX9_envy_58 hl (k := 3) rfl (by rw [ev58]; rfl) (by decide) rfl (fun ls hl => ?_)
              have tv58 : v58.toInt = k.toInt + 1 := by rw [ev58, zadd, show (1 : Int32).toInt = 1 from by decide]; omega
              refine lv_goto (tgt := 25) hx hb dX9_envy_61 (by decide) ?_
              exact ih.2 (v56) (j) (v58) (m18) (w10) (w11) H locs ls (by omega) (hs) (hq) (by first | omega | decide) (by first | omega | (rw [show (0 : Int32).toInt = 0 from by decide]; omega)) hP hD hS (lv_sub hl [2, 1, 3, 0] rfl)
            · skip
              have ic48 := znle (a := v45.toInt) (b := 0) rfl (by decide) c48
              refine lv_iconst (v := 1) hx hb dX9_envy_51 (by decide) ?_
              refine lv_goto (tgt := 56) hx hb dX9_envy_52 (by decide) ?_
              refine lv_iadd hx hb dX9_envy_56 ?_
              refine lv_topi (fun v56 ev56 => ?_)
              refine lv_istore_n (lv' := [(2, .int v56), (0, .ref (a 0)), (3, .int j), (4, .int k)]) hx hb dX9_envy_57 rfl hl (by decide) rfl (fun ls hl => ?_)
              obtain ⟨v58, ev58⟩ : ∃ y : Int32, y = k + 1 := ⟨_, rfl⟩
              refine lv_iinc (v := v58) (lv' := [(4, .int v58), (2, .int v56), (0, .ref (a 0)), (3, .int j)]) hx hb dX9_envy_58 hl (k := 3) rfl (by rw [ev58]; rfl) (by decide) rfl (fun ls hl => ?_)
              have tv58 : v58.toInt = k.toInt + 1 := by rw [ev58, zadd, show (1 : Int32).toInt = 1 from by decide]; omega
              refine lv_goto (tgt := 25) hx hb dX9_envy_61 (by decide) ?_
              exact ih.2 (v56) (j) (v58) (m18) (w10) (w11) H locs ls (by omega) (hs) (hq) (by first | omega | decide) (by first | omega | (rw [show (0 : Int32).toInt = 0 from by decide]; omega)) hP hD hS (lv_sub hl [2, 1, 3, 0] rfl)
  have hl := lv_entry ([.ref (a 0), .int x1]) (n := 5) (Nat.le_of_ble_eq_true rfl)
  rw [lg_entry_eq]
  generalize (lg_sl ([.ref (a 0), .int x1]) ++ List.replicate (5 - (lg_sl ([.ref (a 0), .int x1])).length) Slot.unset).toArray = ls at hl ⊢
  have hl : lv_has ls 5 [(0, .ref (a 0)), (1, .int x1)] := hl
  suffices main : ∀ (H : Heap) (locs : List Loc), va_P (dC, dI) vwCl (wM a cI σ) H → va_D A (wM a cI σ) → va_S A s.heap H locs → W p l e (headSpec wsX9_envy RM_X9_envy).room s m ([.ref (a 0), .int x1] : List Value).toArray below meth c H locs 0 0 (MQ below (zQi (dC, dI) [(cI, .int)] (wM a cI) A (fun (r : Int32) (σ1 : Cn) => ∃ n18 : Int32, ∃ u10 : Nat → Int32, ∃ u11 : Nat → Int32, σ1 = (upC (upC (upC σ 0 (upd (σ 0) 18 n18)) 10 u10) 11 u11) ∧ True)) ([.ref (a 0), .int x1] : List Value).toArray s 0 0 A) (F0 m 0 ls []) from main s.heap [] hP hD hS
  intro H locs hP hD hS
  refine lv_aload_n hx hb dX9_envy_0 rfl (lv_at hl 0 rfl) ?_
  refine lv_iload_n hx hb dX9_envy_1 rfl (lv_at hl 1 rfl) ?_
  refine zcalli (va_runV (As := [.int x1]) (rest := []) ⟨hx, hb, hml, hown, hts⟩ (c_X9_isSharing l dC dI cI a N hok σ H.size (x1) h0 h2) (cwV 1 hts gX9_envy_X9_isSharing rfl rfl rfl (by decide +kernel) ⟨Nat.le_of_ble_eq_true rfl, Nat.le_of_ble_eq_true rfl⟩) (zpreV (wf := wM a cI) (q0 := 0) (ci := 9) hok hN hS hA hK hP hD rfl rfl) rfl rfl hl.1 rfl (lv_room (Nat.le_of_ble_eq_true rfl)) dX9_envy_2 ⟨Nat.zero_le _, Nat.zero_le _⟩) hD hS hA (fun v2 σ1 H locs hv2 hP hD hS => ?_)
  obtain ⟨n18_2, u10_2, u11_2, es9, hv2⟩ := hv2
  subst σ1
  have hP : va_P (dC, dI) vwCl (wM a cI (upC (upC (upC σ 0 (upd (σ 0) 18 n18_2)) 10 u10_2) 11 u11_2)) H := hP
  have hD : va_D A (wM a cI (upC (upC (upC σ 0 (upd (σ 0) 18 n18_2)) 10 u10_2) 11 u11_2)) := hD
  have hs := hv2.2.1
  have hq := hv2.2.2
  refine lv_if_ne (tgt := 10) hx hb dX9_envy_5 (by decide) (fun c5 => ?_) (fun c5 => ?_)
  · skip
    have ic5 := zneq (a := v2.toInt) (b := 0) rfl (by decide) c5
    refine lv_iconst (v := 0) hx hb dX9_envy_10 (by decide) ?_
    refine lv_istore_n (lv' := [(2, .int 0), (0, .ref (a 0)), (1, .int x1)]) hx hb dX9_envy_11 rfl hl (by decide) rfl (fun ls hl => ?_)
    refine lv_iconst (v := 0) hx hb dX9_envy_12 (by decide) ?_
    refine lv_istore_n (lv' := [(3, .int 0), (2, .int 0), (0, .ref (a 0)), (1, .int x1)]) hx hb dX9_envy_13 rfl hl (by decide) rfl (fun ls hl => ?_)
    exact (LP _).1 (0) (0) (n18_2) (u10_2) (u11_2) H locs ls (by decide) (hs) (hq) (Nat.lt_succ_self _) hP hD hS (lv_sub hl [2, 1, 0] rfl)
  · skip
    have ic5 := zeq (a := v2.toInt) (b := 0) rfl (by decide) c5
    refine lv_iconst (v := (-1)) hx hb dX9_envy_8 (by decide) ?_
    have heq9 : (upC (upC (upC σ 0 (upd (σ 0) 18 n18_2)) 10 u10_2) 11 u11_2) = (upC (upC (upC σ 0 (upd (σ 0) 18 n18_2)) 10 u10_2) 11 u11_2) := rfl
    have hpost : ∃ n18 : Int32, ∃ u10 : Nat → Int32, ∃ u11 : Nat → Int32, (upC (upC (upC σ 0 (upd (σ 0) 18 n18_2)) 10 u10_2) 11 u11_2) = (upC (upC (upC σ 0 (upd (σ 0) 18 n18)) 10 u10) 11 u11) ∧ True := by refine ⟨(n18_2), (u10_2), (u11_2), heq9, ?_⟩; trivial
    exact W.iret (v := (-1)) hx hb hr (fun t9 ht hW => ⟨⟨(-1), (upC (upC (upC σ 0 (upd (σ 0) 18 n18_2)) 10 u10_2) 11 u11_2), rfl, hpost, by rw [ht]; exact hP, va_K.moved hW.alike hK, hD⟩, hS.F ht⟩) hS.2.2 dX9_envy_9

abbrev RM_X9_fairest : Room := { frames := 4, cells := 0, slots := 0, locals := 88 }
set_option maxHeartbeats 4000000 in
set_option maxRecDepth 100000 in
theorem c_X9_fairest (l : Launch) (dC : Nat → ClassId) (dI : Nat → Nat → Nat) (cI : ClassId) (a : Nat → Nat) (N : (Nat → Prop) → State → Prop) (hok : zNok N) (σ : Cn) (sz : Nat)  (h0 : 0 ≤ (σ 0 10).toInt ∧ (σ 0 10).toInt ≤ 4) (h2 : 0 ≤ (σ 0 11).toInt ∧ (σ 0 11).toInt ≤ 10) : Met l yX9_fairest wsX9_fairest RM_X9_fairest (zPc (dC, dI) [(cI, .int)] N (wM a cI) σ sz [.ref (a 0)]) (zQi (dC, dI) [(cI, .int)] (wM a cI) (va_A (wM a cI σ) sz) (fun (r : Int32) (σ1 : Cn) => ∃ n18 : Int32, ∃ u10 : Nat → Int32, ∃ u11 : Nat → Int32, σ1 = (upC (upC (upC σ 0 (upd (σ 0) 18 n18)) 10 u10) 11 u11) ∧ True)) 0 0 (va_A (wM a cI σ) sz) := by
  refine Met.ofW (cc := cX9_fairest) (maxL := 10) (ret := (some .int)) (by decide) rfl ?_
  intro p e s m args below meth c s₁ B hml hv
  obtain ⟨rfl, hsz, hP, hK, hD0, hN⟩ := hv
  have hx := B.exec
  have hb := B.bytes
  have hr := B.returns
  have hts := atoms_spec (ws := wsX9_fairest) B.pre
  have hown : s.vm.findClass RX9 = some m.cls := findClass_of_methodNamed B.named
  have hlocks := B.notSynchronized
  subst hsz
  have hD := hD0.self (sz := s.heap.size)
  generalize hAe : va_A (wM a cI σ) s.heap.size = A at hD hN ⊢
  have hA : ∀ q : Nat, s.heap.size ≤ q → A q := fun q h => by rw [← hAe]; exact Or.inr h
  clear hAe hD0
  have hS : va_S A s.heap s.heap [] := va_S.rf
  have in9 : ∀ w ∈ u_ws RX9 TX9 28, w ∈ wsX9_fairest := by decide +kernel
  have k143 := hts (.fieldLink RX9 143 "HouseSortedModel" "heirs" "I") (by decide +kernel)
  have k182 := hts (.fieldLink RX9 182 "HouseSortedModel" "shared" "I") (by decide +kernel)
  have LP : ∀ n : Nat, (∀ (be : Int32) (bl : Int32) (ba : Int32) (mn : Int32) (j : Int32) (m18 : Int32) (w10 : Nat → Int32) (w11 : Nat → Int32) (H : Heap) (locs : List Loc) (ls : Array Slot), 0 ≤ j.toInt → 0 ≤ m18.toInt ∧ m18.toInt ≤ 10 → (∀ j : Nat, (j : Int) < m18.toInt → 0 ≤ (w10 j).toInt ∧ (w10 j).toInt < 10) → 1 ≤ (σ 0 10).toInt → ((mn.toInt - j.toInt).toNat * 10) < n → va_P (dC, dI) vwCl (wM a cI (upC (upC (upC σ 0 (upd (σ 0) 18 m18)) 10 w10) 11 w11)) H → va_D A (wM a cI (upC (upC (upC σ 0 (upd (σ 0) 18 m18)) 10 w10) 11 w11)) → va_S A s.heap H locs → lv_has ls 10 [(0, .ref (a 0)), (1, .int be), (2, .int bl), (3, .int ba), (4, .int mn), (5, .int j)] → W p l e (headSpec wsX9_fairest RM_X9_fairest).room s m ([.ref (a 0)] : List Value).toArray below meth c H locs 0 0 (MQ below (zQi (dC, dI) [(cI, .int)] (wM a cI) A (fun (r : Int32) (σ1 : Cn) => ∃ n18 : Int32, ∃ u10 : Nat → Int32, ∃ u11 : Nat → Int32, σ1 = (upC (upC (upC σ 0 (upd (σ 0) 18 n18)) 10 u10) 11 u11) ∧ True)) ([.ref (a 0)] : List Value).toArray s 0 0 A) (F0 m 39 ls [])) ∧ (∀ (be : Int32) (bl : Int32) (ba : Int32) (mn : Int32) (j : Int32) (lo : Int32) (al : Int32) (k : Int32) (m18 : Int32) (w10 : Nat → Int32) (w11 : Nat → Int32) (H : Heap) (locs : List Loc) (ls : Array Slot), 0 ≤ j.toInt ∧ j.toInt < mn.toInt → 0 ≤ m18.toInt ∧ m18.toInt ≤ 10 → (∀ j : Nat, (j : Int) < m18.toInt → 0 ≤ (w10 j).toInt ∧ (w10 j).toInt < 10) → 1 ≤ (σ 0 10).toInt → 0 ≤ k.toInt ∧ k.toInt ≤ 4 → ((mn.toInt - j.toInt - 1).toNat * 10 + (4 - k.toInt).toNat + 1) < n → va_P (dC, dI) vwCl (wM a cI (upC (upC (upC σ 0 (upd (σ 0) 18 m18)) 10 w10) 11 w11)) H → va_D A (wM a cI (upC (upC (upC σ 0 (upd (σ 0) 18 m18)) 10 w10) 11 w11)) → va_S A s.heap H locs → lv_has ls 10 [(0, .ref (a 0)), (1, .int be), (2, .int bl), (3, .int ba), (4, .int mn), (5, .int j), (6, .int lo), (7, .int al), (8, .int k)] → W p l e (headSpec wsX9_fairest RM_X9_fairest).room s m ([.ref (a 0)] : List Value).toArray below meth c H locs 0 0 (MQ below (zQi (dC, dI) [(cI, .int)] (wM a cI) A (fun (r : Int32) (σ1 : Cn) => ∃ n18 : Int32, ∃ u10 : Nat → Int32, ∃ u11 : Nat → Int32, σ1 = (upC (upC (upC σ 0 (upd (σ 0) 18 n18)) 10 u10) 11 u11) ∧ True)) ([.ref (a 0)] : List Value).toArray s 0 0 A) (F0 m 62 ls [])) := by
    intro n
    induction n with
    | zero => exact ⟨(by intros; omega), (by intros; omega)⟩
    | succ n ih =>
      refine ⟨?_, ?_⟩
      · intro be bl ba mn j m18 w10 w11 H locs ls g1 g2 g3 g4 hmu hP hD hS hl
        have hs := g2
        have hq := g3
        have r9 := zrng mn
        have hp : 1 ≤ (σ 0 10).toInt ∧ (σ 0 10).toInt ≤ 4 := by omega
        refine lv_iload hx hb dX9_fairest_39 (lv_at hl 5 rfl) ?_
        refine lv_iload hx hb dX9_fairest_41 (lv_at hl 4 rfl) ?_
        refine lv_icmp_ge (tgt := 156) hx hb dX9_fairest_43 (by decide) (fun c43 => ?_) (fun c43 => ?_)
        · skip
          have ic43 := zle (a := mn.toInt) (b := j.toInt) rfl rfl c43
          refine lv_iload_n hx hb dX9_fairest_156 rfl (lv_at hl 1 rfl) ?_
          have heq9 : (upC (upC (upC σ 0 (upd (σ 0) 18 m18)) 10 w10) 11 w11) = (upC (upC (upC σ 0 (upd (σ 0) 18 m18)) 10 w10) 11 w11) := rfl
          have hpost : ∃ n18 : Int32, ∃ u10 : Nat → Int32, ∃ u11 : Nat → Int32, (upC (upC (upC σ 0 (upd (σ 0) 18 m18)) 10 w10) 11 w11) = (upC (upC (upC σ 0 (upd (σ 0) 18 n18)) 10 u10) 11 u11) ∧ True := by refine ⟨(m18), (w10), (w11), heq9, ?_⟩; trivial
          exact W.iret (v := be) hx hb hr (fun t9 ht hW => ⟨⟨be, (upC (upC (upC σ 0 (upd (σ 0) 18 m18)) 10 w10) 11 w11), rfl, hpost, by rw [ht]; exact hP, va_K.moved hW.alike hK, hD⟩, hS.F ht⟩) hS.2.2 dX9_fairest_157
        · skip
          have ic43 := znle (a := mn.toInt) (b := j.toInt) rfl rfl c43
          refine lv_aload_n hx hb dX9_fairest_46 rfl (lv_at hl 0 rfl) ?_
          refine lv_iload hx hb dX9_fairest_47 (lv_at hl 5 rfl) ?_
          refine zcallv (va_runV (As := [.int j]) (rest := []) ⟨hx, hb, hml, hown, hts⟩ (c_X9_parts l dC dI cI a N hok (upC (upC (upC σ 0 (upd (σ 0) 18 m18)) 10 w10) 11 w11) H.size (j) hp hs) (cwV 1 hts gX9_fairest_X9_parts rfl rfl rfl (by decide +kernel) ⟨Nat.le_of_ble_eq_true rfl, Nat.le_of_ble_eq_true rfl⟩) (zpreV (wf := wM a cI) (q0 := 0) (ci := 9) hok hN hS hA hK hP hD rfl rfl) rfl rfl hl.1 rfl (lv_room (Nat.le_of_ble_eq_true rfl)) dX9_fairest_49 ⟨Nat.zero_le _, Nat.zero_le _⟩) hD hS hA (fun σ1 H locs hv49 hP hD hS => ?_)
          obtain ⟨u11_49, es9, hv49⟩ := hv49
          subst σ1
          have hP : va_P (dC, dI) vwCl (wM a cI (upC (upC (upC σ 0 (upd (σ 0) 18 m18)) 10 w10) 11 u11_49)) H := hP
          have hD : va_D A (wM a cI (upC (upC (upC σ 0 (upd (σ 0) 18 m18)) 10 w10) 11 u11_49)) := hD
          refine lv_bipush (v := (-4)) hx hb dX9_fairest_52 (by decide) ?_
          refine lv_istore (lv' := [(6, .int (-4)), (0, .ref (a 0)), (1, .int be), (2, .int bl), (3, .int ba), (4, .int mn), (5, .int j)]) hx hb dX9_fairest_54 hl (by decide) rfl (fun ls hl => ?_)
          refine lv_iconst (v := 0) hx hb dX9_fairest_56 (by decide) ?_
          refine lv_istore (lv' := [(7, .int 0), (6, .int (-4)), (0, .ref (a 0)), (1, .int be), (2, .int bl), (3, .int ba), (4, .int mn), (5, .int j)]) hx hb dX9_fairest_57 hl (by decide) rfl (fun ls hl => ?_)
          refine lv_iconst (v := 0) hx hb dX9_fairest_59 (by decide) ?_
          refine lv_istore (lv' := [(8, .int 0), (7, .int 0), (6, .int (-4)), (0, .ref (a 0)), (1, .int be), (2, .int bl), (3, .int ba), (4, .int mn), (5, .int j)]) hx hb dX9_fairest_60 hl (by decide) rfl (fun ls hl => ?_)
          exact ih.2 (be) (bl) (ba) (mn) (j) ((-4)) (0) (0) (m18) (w10) (u11_49) H locs ls (by omega) (hs) (hq) (by omega) (by first | omega | decide) (by first | omega | (rw [show (0 : Int32).toInt = 0 from by decide]; omega)) hP hD hS (lv_sub hl [3, 4, 5, 6, 7, 8, 2, 1, 0] rfl)
      · intro be bl ba mn j lo al k m18 w10 w11 H locs ls g1 g2 g3 g4 g5 hmu hP hD hS hl
        have hs := g2
        have hq := g3
        have r9 := zrng mn
        refine lv_iload hx hb dX9_fairest_62 (lv_at hl 8 rfl) ?_
        refine lv_aload_n hx hb dX9_fairest_64 rfl (lv_at hl 0 rfl) ?_
        refine va_get (D := (dC, dI)) (ci := 9) (v := .int (σ 0 10)) (C := RX9) (T := TX9) (N := 28) hx hb hts in9 hown hK hP 0 rfl rfl 10 (by decide) k143 (fun _ h9 => h9) rfl dX9_fairest_65 ?_
        refine lv_icmp_ge (tgt := 117) hx hb dX9_fairest_68 (by decide) (fun c68 => ?_) (fun c68 => ?_)
        · skip
          have ic68 := zle (a := (σ 0 10).toInt) (b := k.toInt) rfl rfl c68
          refine lv_iload_n hx hb dX9_fairest_117 rfl (lv_at hl 2 rfl) ?_
          refine lv_bipush (v := (-4)) hx hb dX9_fairest_118 (by decide) ?_
          refine lv_icmp_eq (tgt := 141) hx hb dX9_fairest_120 (by decide) (fun c120 => ?_) (fun c120 => ?_)
          · skip
            have ic120 := zeq (a := bl.toInt) (b := (-4)) rfl (by decide) c120
            refine lv_iload hx hb dX9_fairest_141 (lv_at hl 5 rfl) ?_
            refine lv_istore_n (lv' := [(1, .int j), (0, .ref (a 0)), (2, .int bl), (3, .int ba), (4, .int mn), (5, .int j), (6, .int lo), (7, .int al), (8, .int k)]) hx hb dX9_fairest_143 rfl hl (by decide) rfl (fun ls hl => ?_)
            refine lv_iload hx hb dX9_fairest_144 (lv_at hl 6 rfl) ?_
            refine lv_istore_n (lv' := [(2, .int lo), (1, .int j), (0, .ref (a 0)), (3, .int ba), (4, .int mn), (5, .int j), (6, .int lo), (7, .int al), (8, .int k)]) hx hb dX9_fairest_146 rfl hl (by decide) rfl (fun ls hl => ?_)
            refine lv_iload hx hb dX9_fairest_147 (lv_at hl 7 rfl) ?_
            refine lv_istore_n (lv' := [(3, .int al), (2, .int lo), (1, .int j), (0, .ref (a 0)), (4, .int mn), (5, .int j), (6, .int lo), (7, .int al), (8, .int k)]) hx hb dX9_fairest_149 rfl hl (by decide) rfl (fun ls hl => ?_)
            obtain ⟨v150, ev150⟩ : ∃ y : Int32, y = j + 1 := ⟨_, rfl⟩
            refine lv_iinc (v := v150) (lv' := [(5, .int v150), (3, .int al), (2, .int lo), (1, .int j), (0, .ref (a 0)), (4, .int mn), (6, .int lo), (7, .int al), (8, .int k)]) hx hb dX9_fairest_150 hl (k := 5) rfl (by rw [ev150]; rfl) (by decide) rfl (fun ls hl => ?_)
            have tv150 : v150.toInt = j.toInt + 1 := by rw [ev150, zadd, show (1 : Int32).toInt = 1 from by decide]; omega
            refine lv_goto (tgt := 39) hx hb dX9_fairest_153 (by decide) ?_
            exact ih.1 (j) (lo) (al) (mn) (v150) (m18) (w10) (w11) H locs ls (by omega) (hs) (hq) (by omega) (by omega) hP hD hS (lv_sub hl [4, 3, 2, 1, 5, 0] rfl)
          · skip
            have ic120 := zneq (a := bl.toInt) (b := (-4)) rfl (by decide) c120
            refine lv_iload hx hb dX9_fairest_123 (lv_at hl 6 rfl) ?_
            refine lv_iload_n hx hb dX9_fairest_125 rfl (lv_at hl 2 rfl) ?_
            refine lv_icmp_gt (tgt := 141) hx hb dX9_fairest_126 (by decide) (fun c126 => ?_) (fun c126 => ?_)
            · skip
              have ic126 := zlt (a := bl.toInt) (b := lo.toInt) rfl rfl c126
              refine lv_iload hx hb dX9_fairest_141 (lv_at hl 5 rfl) ?_
              refine lv_istore_n (lv' := [(1, .int j), (0, .ref (a 0)), (2, .int bl), (3, .int ba), (4, .int mn), (5, .int j), (6, .int lo), (7, .int al), (8, .int k)]) hx hb dX9_fairest_143 rfl hl (by decide) rfl (fun ls hl => ?_)
              refine lv_iload hx hb dX9_fairest_144 (lv_at hl 6 rfl) ?_
              refine lv_istore_n (lv' := [(2, .int lo), (1, .int j), (0, .ref (a 0)), (3, .int ba), (4, .int mn), (5, .int j), (6, .int lo), (7, .int al), (8, .int k)]) hx hb dX9_fairest_146 rfl hl (by decide) rfl (fun ls hl => ?_)
              refine lv_iload hx hb dX9_fairest_147 (lv_at hl 7 rfl) ?_
              refine lv_istore_n (lv' := [(3, .int al), (2, .int lo), (1, .int j), (0, .ref (a 0)), (4, .int mn), (5, .int j), (6, .int lo), (7, .int al), (8, .int k)]) hx hb dX9_fairest_149 rfl hl (by decide) rfl (fun ls hl => ?_)
              obtain ⟨v150, ev150⟩ : ∃ y : Int32, y = j + 1 := ⟨_, rfl⟩
              refine lv_iinc (v := v150) (lv' := [(5, .int v150), (3, .int al), (2, .int lo), (1, .int j), (0, .ref (a 0)), (4, .int mn), (6, .int lo), (7, .int al), (8, .int k)]) hx hb dX9_fairest_150 hl (k := 5) rfl (by rw [ev150]; rfl) (by decide) rfl (fun ls hl => ?_)
              have tv150 : v150.toInt = j.toInt + 1 := by rw [ev150, zadd, show (1 : Int32).toInt = 1 from by decide]; omega
              refine lv_goto (tgt := 39) hx hb dX9_fairest_153 (by decide) ?_
              exact ih.1 (j) (lo) (al) (mn) (v150) (m18) (w10) (w11) H locs ls (by omega) (hs) (hq) (by omega) (by omega) hP hD hS (lv_sub hl [4, 3, 2, 1, 5, 0] rfl)
            · skip
              have ic126 := znlt (a := bl.toInt) (b := lo.toInt) rfl rfl c126
              refine lv_iload hx hb dX9_fairest_129 (lv_at hl 6 rfl) ?_
              refine lv_iload_n hx hb dX9_fairest_131 rfl (lv_at hl 2 rfl) ?_
              refine lv_icmp_ne (tgt := 150) hx hb dX9_fairest_132 (by decide) (fun c132 => ?_) (fun c132 => ?_)
              · skip
                have ic132 := zneq (a := lo.toInt) (b := bl.toInt) rfl rfl c132
                obtain ⟨v150, ev150⟩ : ∃ y : Int32, y = j + 1 := ⟨_, rfl⟩
                refine lv_iinc (v := v150) (lv' := [(5, .int v150), (0, .ref (a 0)), (1, .int be), (2, .int bl), (3, .int ba), (4, .int mn), (6, .int lo), (7, .int al), (8, .int k)]) hx hb dX9_fairest_150 hl (k := 5) rfl (by rw [ev150]; rfl) (by decide) rfl (fun ls hl => ?_)
                have tv150 : v150.toInt = j.toInt + 1 := by rw [ev150, zadd, show (1 : Int32).toInt = 1 from by decide]; omega
                refine lv_goto (tgt := 39) hx hb dX9_fairest_153 (by decide) ?_
                exact ih.1 (be) (bl) (ba) (mn) (v150) (m18) (w10) (w11) H locs ls (by omega) (hs) (hq) (by omega) (by omega) hP hD hS (lv_sub hl [1, 2, 3, 4, 5, 0] rfl)
              · skip
                have ic132 := zeq (a := lo.toInt) (b := bl.toInt) rfl rfl c132
                refine lv_iload hx hb dX9_fairest_135 (lv_at hl 7 rfl) ?_
                refine lv_iload_n hx hb dX9_fairest_137 rfl (lv_at hl 3 rfl) ?_
                refine lv_icmp_le (tgt := 150) hx hb dX9_fairest_138 (by decide) (fun c138 => ?_) (fun c138 => ?_)
                · skip
                  have ic138 := zle (a := al.toInt) (b := ba.toInt) rfl rfl c138
                  obtain ⟨v150, ev150⟩ : ∃ y : Int32, y = j + 1 := ⟨_, rfl⟩
                  refine lv_iinc (v := v150) (lv' := [(5, .int v150), (0, .ref (a 0)), (1, .int be), (2, .int bl), (3, .int ba), (4, .int mn), (6, .int lo), (7, .int al), (8, .int k)]) hx hb dX9_fairest_150 hl (k := 5) rfl (by rw [ev150]; rfl) (by decide) rfl (fun ls hl => ?_)
                  have tv150 : v150.toInt = j.toInt + 1 := by rw [ev150, zadd, show (1 : Int32).toInt = 1 from by decide]; omega
                  refine lv_goto (tgt := 39) hx hb dX9_fairest_153 (by decide) ?_
                  exact ih.1 (be) (bl) (ba) (mn) (v150) (m18) (w10) (w11) H locs ls (by omega) (hs) (hq) (by omega) (by omega) hP hD hS (lv_sub hl [1, 2, 3, 4, 5, 0] rfl)
                · skip
                  have ic138 := znle (a := al.toInt) (b := ba.toInt) rfl rfl c138
                  refine lv_iload hx hb dX9_fairest_141 (lv_at hl 5 rfl) ?_
                  refine lv_istore_n (lv' := [(1, .int j), (0, .ref (a 0)), (2, .int bl), (3, .int ba), (4, .int mn), (5, .int j), (6, .int lo), (7, .int al), (8, .int k)]) hx hb dX9_fairest_143 rfl hl (by decide) rfl (fun ls hl => ?_)
                  refine lv_iload hx hb dX9_fairest_144 (lv_at hl 6 rfl) ?_
                  refine lv_istore_n (lv' := [(2, .int lo), (1, .int j), (0, .ref (a 0)), (3, .int ba), (4, .int mn), (5, .int j), (6, .int lo), (7, .int al), (8, .int k)]) hx hb dX9_fairest_146 rfl hl (by decide) rfl (fun ls hl => ?_)
                  refine lv_iload hx hb dX9_fairest_147 (lv_at hl 7 rfl) ?_
                  refine lv_istore_n (lv' := [(3, .int al), (2, .int lo), (1, .int j), (0, .ref (a 0)), (4, .int mn), (5, .int j), (6, .int lo), (7, .int al), (8, .int k)]) hx hb dX9_fairest_149 rfl hl (by decide) rfl (fun ls hl => ?_)
                  obtain ⟨v150, ev150⟩ : ∃ y : Int32, y = j + 1 := ⟨_, rfl⟩
                  refine lv_iinc (v := v150) (lv' := [(5, .int v150), (3, .int al), (2, .int lo), (1, .int j), (0, .ref (a 0)), (4, .int mn), (6, .int lo), (7, .int al), (8, .int k)]) hx hb dX9_fairest_150 hl (k := 5) rfl (by rw [ev150]; rfl) (by decide) rfl (fun ls hl => ?_)
                  have tv150 : v150.toInt = j.toInt + 1 := by rw [ev150, zadd, show (1 : Int32).toInt = 1 from by decide]; omega
                  refine lv_goto (tgt := 39) hx hb dX9_fairest_153 (by decide) ?_
                  exact ih.1 (j) (lo) (al) (mn) (v150) (m18) (w10) (w11) H locs ls (by omega) (hs) (hq) (by omega) (by omega) hP hD hS (lv_sub hl [4, 3, 2, 1, 5, 0] rfl)
        · skip
          have ic68 := znle (a := (σ 0 10).toInt) (b := k.toInt) rfl rfl c68
          refine lv_aload_n hx hb dX9_fairest_71 rfl (lv_at hl 0 rfl) ?_
          refine lv_iload hx hb dX9_fairest_72 (lv_at hl 8 rfl) ?_
          refine lv_iload hx hb dX9_fairest_74 (lv_at hl 8 rfl) ?_
          refine zcalli (va_runV (As := [.int k, .int k]) (rest := []) ⟨hx, hb, hml, hown, hts⟩ (c_X9_sumOf l dC dI cI a N hok (upC (upC (upC σ 0 (upd (σ 0) 18 m18)) 10 w10) 11 w11) H.size (k) (k) (by omega) hs hq) (cwV 2 hts gX9_fairest_X9_sumOf rfl rfl rfl (by decide +kernel) ⟨Nat.le_of_ble_eq_true rfl, Nat.le_of_ble_eq_true rfl⟩) (zpreV (wf := wM a cI) (q0 := 0) (ci := 9) hok hN hS hA hK hP hD rfl rfl) rfl rfl hl.1 rfl (lv_room (Nat.le_of_ble_eq_true rfl)) dX9_fairest_76 ⟨Nat.zero_le _, Nat.zero_le _⟩) hD hS hA (fun v76 σ1 H locs hv76 hP hD hS => ?_)
          obtain ⟨es9, hv76⟩ := hv76
          subst σ1
          refine lv_istore (lv' := [(9, .int v76), (0, .ref (a 0)), (1, .int be), (2, .int bl), (3, .int ba), (4, .int mn), (5, .int j), (6, .int lo), (7, .int al), (8, .int k)]) hx hb dX9_fairest_79 hl (by decide) rfl (fun ls hl => ?_)
          refine lv_iload hx hb dX9_fairest_81 (lv_at hl 7 rfl) ?_
          refine lv_bipush (v := (-4)) hx hb dX9_fairest_83 (by decide) ?_
          refine lv_icmp_eq (tgt := 95) hx hb dX9_fairest_85 (by decide) (fun c85 => ?_) (fun c85 => ?_)
          · skip
            have ic85 := zeq (a := lo.toInt) (b := (-4)) rfl (by decide) c85
            refine lv_iload hx hb dX9_fairest_95 (lv_at hl 0 rfl) ?_
            refine lv_goto (tgt := 102) hx hb dX9_fairest_97 (by decide) ?_
            refine lv_istore (lv' := [(6, .int v76), (9, .int v76), (0, .ref (a 0)), (1, .int be), (2, .int bl), (3, .int ba), (4, .int mn), (5, .int j), (7, .int al), (8, .int k)]) hx hb dX9_fairest_102 hl (by decide) rfl (fun ls hl => ?_)
            refine lv_iload hx hb dX9_fairest_104 (lv_at hl 8 rfl) ?_
            refine lv_iload hx hb dX9_fairest_106 (lv_at hl 1 rfl) ?_
            refine lv_iadd hx hb dX9_fairest_108 ?_
            refine lv_topi (fun v108 ev108 => ?_)
            refine lv_istore (lv' := [(7, .int v108), (6, .int v76), (9, .int v76), (0, .ref (a 0)), (1, .int be), (2, .int bl), (3, .int ba), (4, .int mn), (5, .int j), (8, .int k)]) hx hb dX9_fairest_109 hl (by decide) rfl (fun ls hl => ?_)
            obtain ⟨v111, ev111⟩ : ∃ y : Int32, y = k + 1 := ⟨_, rfl⟩
            refine lv_iinc (v := v111) (lv' := [(8, .int v111), (7, .int v108), (6, .int v76), (9, .int v76), (0, .ref (a 0)), (1, .int be), (2, .int bl), (3, .int ba), (4, .int mn), (5, .int j)]) hx hb dX9_fairest_111 hl (k := 9) rfl (by rw [ev111]; rfl) (by decide) rfl (fun ls hl => ?_)
            have tv111 : v111.toInt = k.toInt + 1 := by rw [ev111, zadd, show (1 : Int32).toInt = 1 from by decide]; omega
            refine lv_goto (tgt := 62) hx hb dX9_fairest_114 (by decide) ?_
            exact ih.2 (be) (bl) (ba) (mn) (j) (v76) (v108) (v111) (m18) (w10) (w11) H locs ls (by omega) (hs) (hq) (by omega) (by first | omega | decide) (by first | omega | (rw [show (0 : Int32).toInt = 0 from by decide]; omega)) hP hD hS (lv_sub hl [4, 5, 6, 7, 8, 9, 2, 1, 0] rfl)
          · skip
            have ic85 := zneq (a := lo.toInt) (b := (-4)) rfl (by decide) c85
            refine lv_iload hx hb dX9_fairest_88 (lv_at hl 0 rfl) ?_
            refine lv_iload hx hb dX9_fairest_90 (lv_at hl 7 rfl) ?_
            refine lv_icmp_ge (tgt := 100) hx hb dX9_fairest_92 (by decide) (fun c92 => ?_) (fun c92 => ?_)
            · skip
              have ic92 := zle (a := lo.toInt) (b := v76.toInt) rfl rfl c92
              refine lv_iload hx hb dX9_fairest_100 (lv_at hl 7 rfl) ?_
              refine lv_istore (lv' := [(6, .int lo), (9, .int v76), (0, .ref (a 0)), (1, .int be), (2, .int bl), (3, .int ba), (4, .int mn), (5, .int j), (7, .int al), (8, .int k)]) hx hb dX9_fairest_102 hl (by decide) rfl (fun ls hl => ?_)
              refine lv_iload hx hb dX9_fairest_104 (lv_at hl 8 rfl) ?_
              refine lv_iload hx hb dX9_fairest_106 (lv_at hl 1 rfl) ?_
              refine lv_iadd hx hb dX9_fairest_108 ?_
              refine lv_topi (fun v108 ev108 => ?_)
              refine lv_istore (lv' := [(7, .int v108), (6, .int lo), (9, .int v76), (0, .ref (a 0)), (1, .int be), (2, .int bl), (3, .int ba), (4, .int mn), (5, .int j), (8, .int k)]) hx hb dX9_fairest_109 hl (by decide) rfl (fun ls hl => ?_)
              obtain ⟨v111, ev111⟩ : ∃ y : Int32, y = k + 1 := ⟨_, rfl⟩
              refine lv_iinc (v := v111) (lv' := [(8, .int v111), (7, .int v108), (6, .int lo), (9, .int v76), (0, .ref (a 0)), (1, .int be), (2, .int bl), (3, .int ba), (4, .int mn), (5, .int j)]) hx hb dX9_fairest_111 hl (k := 9) rfl (by rw [ev111]; rfl) (by decide) rfl (fun ls hl => ?_)
              have tv111 : v111.toInt = k.toInt + 1 := by rw [ev111, zadd, show (1 : Int32).toInt = 1 from by decide]; omega
              refine lv_goto (tgt := 62) hx hb dX9_fairest_114 (by decide) ?_
              exact ih.2 (be) (bl) (ba) (mn) (j) (lo) (v108) (v111) (m18) (w10) (w11) H locs ls (by omega) (hs) (hq) (by omega) (by first | omega | decide) (by first | omega | (rw [show (0 : Int32).toInt = 0 from by decide]; omega)) hP hD hS (lv_sub hl [4, 5, 6, 7, 8, 9, 2, 1, 0] rfl)
            · skip
              have ic92 := znle (a := lo.toInt) (b := v76.toInt) rfl rfl c92
              refine lv_iload hx hb dX9_fairest_95 (lv_at hl 0 rfl) ?_
              refine lv_goto (tgt := 102) hx hb dX9_fairest_97 (by decide) ?_
              refine lv_istore (lv' := [(6, .int v76), (9, .int v76), (0, .ref (a 0)), (1, .int be), (2, .int bl), (3, .int ba), (4, .int mn), (5, .int j), (7, .int al), (8, .int k)]) hx hb dX9_fairest_102 hl (by decide) rfl (fun ls hl => ?_)
              refine lv_iload hx hb dX9_fairest_104 (lv_at hl 8 rfl) ?_
              refine lv_iload hx hb dX9_fairest_106 (lv_at hl 1 rfl) ?_
              refine lv_iadd hx hb dX9_fairest_108 ?_
              refine lv_topi (fun v108 ev108 => ?_)
              refine lv_istore (lv' := [(7, .int v108), (6, .int v76), (9, .int v76), (0, .ref (a 0)), (1, .int be), (2, .int bl), (3, .int ba), (4, .int mn), (5, .int j), (8, .int k)]) hx hb dX9_fairest_109 hl (by decide) rfl (fun ls hl => ?_)
              obtain ⟨v111, ev111⟩ : ∃ y : Int32, y = k + 1 := ⟨_, rfl⟩
              refine lv_iinc (v := v111) (lv' := [(8, .int v111), (7, .int v108), (6, .int v76), (9, .int v76), (0, .ref (a 0)), (1, .int be), (2, .int bl), (3, .int ba), (4, .int mn), (5, .int j)]) hx hb dX9_fairest_111 hl (k := 9) rfl (by rw [ev111]; rfl) (by decide) rfl (fun ls hl => ?_)
              have tv111 : v111.toInt = k.toInt + 1 := by rw [ev111, zadd, show (1 : Int32).toInt = 1 from by decide]; omega
              refine lv_goto (tgt := 62) hx hb dX9_fairest_114 (by decide) ?_
              exact ih.2 (be) (bl) (ba) (mn) (j) (v76) (v108) (v111) (m18) (w10) (w11) H locs ls (by omega) (hs) (hq) (by omega) (by first | omega | decide) (by first | omega | (rw [show (0 : Int32).toInt = 0 from by decide]; omega)) hP hD hS (lv_sub hl [4, 5, 6, 7, 8, 9, 2, 1, 0] rfl)
  have hl := lv_entry ([.ref (a 0)]) (n := 10) (Nat.le_of_ble_eq_true rfl)
  rw [lg_entry_eq]
  generalize (lg_sl ([.ref (a 0)]) ++ List.replicate (10 - (lg_sl ([.ref (a 0)])).length) Slot.unset).toArray = ls at hl ⊢
  have hl : lv_has ls 10 [(0, .ref (a 0))] := hl
  suffices main : ∀ (H : Heap) (locs : List Loc), va_P (dC, dI) vwCl (wM a cI σ) H → va_D A (wM a cI σ) → va_S A s.heap H locs → W p l e (headSpec wsX9_fairest RM_X9_fairest).room s m ([.ref (a 0)] : List Value).toArray below meth c H locs 0 0 (MQ below (zQi (dC, dI) [(cI, .int)] (wM a cI) A (fun (r : Int32) (σ1 : Cn) => ∃ n18 : Int32, ∃ u10 : Nat → Int32, ∃ u11 : Nat → Int32, σ1 = (upC (upC (upC σ 0 (upd (σ 0) 18 n18)) 10 u10) 11 u11) ∧ True)) ([.ref (a 0)] : List Value).toArray s 0 0 A) (F0 m 0 ls []) from main s.heap [] hP hD hS
  intro H locs hP hD hS
  refine lv_aload_n hx hb dX9_fairest_0 rfl (lv_at hl 0 rfl) ?_
  refine zcallv (va_runV (As := []) (rest := []) ⟨hx, hb, hml, hown, hts⟩ (c_X9_findShared l dC dI cI a N hok σ H.size  h0 h2) (cwV 0 hts gX9_fairest_X9_findShared rfl rfl rfl (by decide +kernel) ⟨Nat.le_of_ble_eq_true rfl, Nat.le_of_ble_eq_true rfl⟩) (zpreV (wf := wM a cI) (q0 := 0) (ci := 9) hok hN hS hA hK hP hD rfl rfl) rfl rfl hl.1 rfl (lv_room (Nat.le_of_ble_eq_true rfl)) dX9_fairest_1 ⟨Nat.zero_le _, Nat.zero_le _⟩) hD hS hA (fun σ1 H locs hv1 hP hD hS => ?_)
  obtain ⟨n18_1, u10_1, es9, hv1⟩ := hv1
  subst σ1
  have hP : va_P (dC, dI) vwCl (wM a cI (upC (upC σ 0 (upd (σ 0) 18 n18_1)) 10 u10_1)) H := hP
  have hD : va_D A (wM a cI (upC (upC σ 0 (upd (σ 0) 18 n18_1)) 10 u10_1)) := hD
  have hs : 0 ≤ n18_1.toInt ∧ n18_1.toInt ≤ 10 := by omega
  have hq : ∀ j : Nat, (j : Int) < n18_1.toInt → 0 ≤ (u10_1 j).toInt ∧ (u10_1 j).toInt < 10 := fun j hj => by have q := hv1.2 j hj; omega
  refine lv_aload_n hx hb dX9_fairest_4 rfl (lv_at hl 0 rfl) ?_
  refine va_get (D := (dC, dI)) (ci := 9) (v := .int (σ 0 10)) (C := RX9) (T := TX9) (N := 28) hx hb hts in9 hown hK hP 0 rfl rfl 10 (by decide) k143 (fun _ h9 => h9) rfl dX9_fairest_5 ?_
  refine lv_if_eq (tgt := 20) hx hb dX9_fairest_8 (by decide) (fun c8 => ?_) (fun c8 => ?_)
  · skip
    have ic8 := zeq (a := (σ 0 10).toInt) (b := 0) rfl (by decide) c8
    refine lv_bipush (v := (-2)) hx hb dX9_fairest_20 (by decide) ?_
    have heq9 : (upC (upC σ 0 (upd (σ 0) 18 n18_1)) 10 u10_1) = (upC (upC (upC σ 0 (upd (σ 0) 18 n18_1)) 10 u10_1) 11 (σ 11)) := by
      funext k
      by_cases e0 : k = 0
      · subst e0; rfl
      by_cases e10 : k = 10
      · subst e10; rfl
      by_cases e11 : k = 11
      · subst e11; rfl
      simp only [upC, if_neg e0, if_neg e10, if_neg e11]
    have hpost : ∃ n18 : Int32, ∃ u10 : Nat → Int32, ∃ u11 : Nat → Int32, (upC (upC σ 0 (upd (σ 0) 18 n18_1)) 10 u10_1) = (upC (upC (upC σ 0 (upd (σ 0) 18 n18)) 10 u10) 11 u11) ∧ True := by refine ⟨(n18_1), (u10_1), (σ 11), heq9, ?_⟩; trivial
    exact W.iret (v := (-2)) hx hb hr (fun t9 ht hW => ⟨⟨(-2), (upC (upC σ 0 (upd (σ 0) 18 n18_1)) 10 u10_1), rfl, hpost, by rw [ht]; exact hP, va_K.moved hW.alike hK, hD⟩, hS.F ht⟩) hS.2.2 dX9_fairest_22
  · skip
    have ic8 := zneq (a := (σ 0 10).toInt) (b := 0) rfl (by decide) c8
    refine lv_aload_n hx hb dX9_fairest_11 rfl (lv_at hl 0 rfl) ?_
    refine va_get (D := (dC, dI)) (ci := 9) (v := .int n18_1) (C := RX9) (T := TX9) (N := 28) hx hb hts in9 hown hK hP 0 rfl rfl 18 (by decide) k182 (fun _ h9 => h9) rfl dX9_fairest_12 ?_
    refine lv_bipush (v := 8) hx hb dX9_fairest_15 (by decide) ?_
    refine lv_icmp_le (tgt := 23) hx hb dX9_fairest_17 (by decide) (fun c17 => ?_) (fun c17 => ?_)
    · skip
      have ic17 := zle (a := n18_1.toInt) (b := 8) rfl (by decide) c17
      refine lv_iconst (v := 0) hx hb dX9_fairest_23 (by decide) ?_
      refine lv_istore_n (lv' := [(1, .int 0), (0, .ref (a 0))]) hx hb dX9_fairest_24 rfl hl (by decide) rfl (fun ls hl => ?_)
      refine lv_bipush (v := (-4)) hx hb dX9_fairest_25 (by decide) ?_
      refine lv_istore_n (lv' := [(2, .int (-4)), (1, .int 0), (0, .ref (a 0))]) hx hb dX9_fairest_27 rfl hl (by decide) rfl (fun ls hl => ?_)
      refine lv_iconst (v := 0) hx hb dX9_fairest_28 (by decide) ?_
      refine lv_istore_n (lv' := [(3, .int 0), (2, .int (-4)), (1, .int 0), (0, .ref (a 0))]) hx hb dX9_fairest_29 rfl hl (by decide) rfl (fun ls hl => ?_)
      refine lv_aload_n hx hb dX9_fairest_30 rfl (lv_at hl 3 rfl) ?_
      refine zcalli (va_runV (As := []) (rest := []) ⟨hx, hb, hml, hown, hts⟩ (c_X9_sharings l dC dI cI a N hok (upC (upC σ 0 (upd (σ 0) 18 n18_1)) 10 u10_1) H.size  hs) (cwV 0 hts gX9_fairest_X9_sharings rfl rfl rfl (by decide +kernel) ⟨Nat.le_of_ble_eq_true rfl, Nat.le_of_ble_eq_true rfl⟩) (zpreV (wf := wM a cI) (q0 := 0) (ci := 9) hok hN hS hA hK hP hD rfl rfl) rfl rfl hl.1 rfl (lv_room (Nat.le_of_ble_eq_true rfl)) dX9_fairest_31 ⟨Nat.zero_le _, Nat.zero_le _⟩) hD hS hA (fun v31 σ1 H locs hv31 hP hD hS => ?_)
      obtain ⟨es9, hv31⟩ := hv31
      subst σ1
      refine lv_istore (lv' := [(4, .int v31), (3, .int 0), (2, .int (-4)), (1, .int 0), (0, .ref (a 0))]) hx hb dX9_fairest_34 hl (by decide) rfl (fun ls hl => ?_)
      refine lv_iconst (v := 0) hx hb dX9_fairest_36 (by decide) ?_
      refine lv_istore (lv' := [(5, .int 0), (4, .int v31), (3, .int 0), (2, .int (-4)), (1, .int 0), (0, .ref (a 0))]) hx hb dX9_fairest_37 hl (by decide) rfl (fun ls hl => ?_)
      exact (LP _).1 (0) ((-4)) (0) (v31) (0) (n18_1) (u10_1) (σ 11) H locs ls (by decide) (hs) (hq) (by omega) (Nat.lt_succ_self _) hP hD hS (lv_sub hl [5, 4, 3, 2, 1, 0] rfl)
    · skip
      have ic17 := znle (a := n18_1.toInt) (b := 8) rfl (by decide) c17
      refine lv_bipush (v := (-2)) hx hb dX9_fairest_20 (by decide) ?_
      have heq9 : (upC (upC σ 0 (upd (σ 0) 18 n18_1)) 10 u10_1) = (upC (upC (upC σ 0 (upd (σ 0) 18 n18_1)) 10 u10_1) 11 (σ 11)) := by
        funext k
        by_cases e0 : k = 0
        · subst e0; rfl
        by_cases e10 : k = 10
        · subst e10; rfl
        by_cases e11 : k = 11
        · subst e11; rfl
        simp only [upC, if_neg e0, if_neg e10, if_neg e11]
      have hpost : ∃ n18 : Int32, ∃ u10 : Nat → Int32, ∃ u11 : Nat → Int32, (upC (upC σ 0 (upd (σ 0) 18 n18_1)) 10 u10_1) = (upC (upC (upC σ 0 (upd (σ 0) 18 n18)) 10 u10) 11 u11) ∧ True := by refine ⟨(n18_1), (u10_1), (σ 11), heq9, ?_⟩; trivial
      exact W.iret (v := (-2)) hx hb hr (fun t9 ht hW => ⟨⟨(-2), (upC (upC σ 0 (upd (σ 0) 18 n18_1)) 10 u10_1), rfl, hpost, by rw [ht]; exact hP, va_K.moved hW.alike hK, hD⟩, hS.F ht⟩) hS.2.2 dX9_fairest_22

