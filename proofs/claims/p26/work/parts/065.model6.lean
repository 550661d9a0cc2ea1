abbrev RM_X9_is : Room := { frames := 1, cells := 0, slots := 0, locals := 21 }
set_option maxHeartbeats 4000000 in
set_option maxRecDepth 100000 in
theorem c_X9_is (l : Launch) (dC : Nat → ClassId) (dI : Nat → Nat → Nat) (cI : ClassId) (a : Nat → Nat) (N : (Nat → Prop) → State → Prop) (hok : zNok N) (σ : Cn) (sz : Nat) (x1 : Int32) (x2 : Int32) (x3 : Int32) (x4 : Int32) (h3 : 0 ≤ (σ 0 1).toInt ∧ (σ 0 1).toInt ≤ 160) (hf : 0 ≤ (σ 0 3).toInt ∧ (σ 0 3).toInt ≤ 160) : Met l yX9_is wsX9_is RM_X9_is (zPc (dC, dI) [(cI, .int)] N (wM a cI) σ sz [.ref (a 0), .int x1, .int x2, .int x3, .int x4]) (zQi (dC, dI) [(cI, .int)] (wM a cI) (va_A (wM a cI σ) sz) (fun (r : Int32) (σ1 : Cn) => σ1 = σ ∧ ((r : Int32).toInt = 1 ∨ (r : Int32).toInt = 0))) 0 0 (va_A (wM a cI σ) sz) := by
  refine Met.ofW (cc := cX9_is) (maxL := 6) (ret := (some .boolean)) (by decide) rfl ?_
  intro p e s m args below meth c s₁ B hml hv
  obtain ⟨rfl, hsz, hP, hK, hD0, hN⟩ := hv
  have hx := B.exec
  have hb := B.bytes
  have hr := B.returns
  have hts := atoms_spec (ws := wsX9_is) B.pre
  have hown : s.vm.findClass RX9 = some m.cls := findClass_of_methodNamed B.named
  have hlocks := B.notSynchronized
  subst hsz
  have hD := hD0.self (sz := s.heap.size)
  generalize hAe : va_A (wM a cI σ) s.heap.size = A at hD hN ⊢
  have hA : ∀ q : Nat, s.heap.size ≤ q → A q := fun q h => by rw [← hAe]; exact Or.inr h
  clear hAe hD0
  have hS : va_S A s.heap s.heap [] := va_S.rf
  have in9 : ∀ w ∈ u_ws RX9 TX9 28, w ∈ wsX9_is := by decide +kernel
  have k74 := hts (.fieldLink RX9 74 "HouseSortedModel" "from" "I") (by decide +kernel)
  have k80 := hts (.fieldLink RX9 80 "HouseSortedModel" "at" "I") (by decide +kernel)
  have hl := lv_entry ([.ref (a 0), .int x1, .int x2, .int x3, .int x4]) (n := 6) (Nat.le_of_ble_eq_true rfl)
  rw [lg_entry_eq]
  generalize (lg_sl ([.ref (a 0), .int x1, .int x2, .int x3, .int x4]) ++ List.replicate (6 - (lg_sl ([.ref (a 0), .int x1, .int x2, .int x3, .int x4])).length) Slot.unset).toArray = ls at hl ⊢
  have hl : lv_has ls 6 [(0, .ref (a 0)), (1, .int x1), (2, .int x2), (3, .int x3), (4, .int x4)] := hl
  suffices main : ∀ (H : Heap) (locs : List Loc), va_P (dC, dI) vwCl (wM a cI σ) H → va_D A (wM a cI σ) → va_S A s.heap H locs → W p l e (headSpec wsX9_is RM_X9_is).room s m ([.ref (a 0), .int x1, .int x2, .int x3, .int x4] : List Value).toArray below meth c H locs 0 0 (MQ below (zQi (dC, dI) [(cI, .int)] (wM a cI) A (fun (r : Int32) (σ1 : Cn) => σ1 = σ ∧ ((r : Int32).toInt = 1 ∨ (r : Int32).toInt = 0))) ([.ref (a 0), .int x1, .int x2, .int x3, .int x4] : List Value).toArray s 0 0 A) (F0 m 0 ls []) from main s.heap [] hP hD hS
  intro H locs hP hD hS
  refine lv_iload hx hb dX9_is_0 (lv_at hl 4 rfl) ?_
  refine lv_if_ne (tgt := 9) hx hb dX9_is_2 (by decide) (fun c2 => ?_) (fun c2 => ?_)
  · skip
    have ic2 := zneq (a := x4.toInt) (b := 0) rfl (by decide) c2
    refine lv_iconst (v := 4) hx hb dX9_is_9 (by decide) ?_
    refine lv_istore (lv' := [(5, .int 4), (0, .ref (a 0)), (1, .int x1), (2, .int x2), (3, .int x3), (4, .int x4)]) hx hb dX9_is_10 hl (by decide) rfl (fun ls hl => ?_)
    refine lv_aload_n hx hb dX9_is_12 rfl (lv_at hl 1 rfl) ?_
    refine va_get (D := (dC, dI)) (ci := 9) (v := .int (σ 0 2)) (C := RX9) (T := TX9) (N := 28) hx hb hts in9 hown hK hP 0 rfl rfl 2 (by decide) k80 (fun _ h9 => h9) rfl dX9_is_13 ?_
    refine lv_aload_n hx hb dX9_is_16 rfl (lv_at hl 1 rfl) ?_
    refine va_get (D := (dC, dI)) (ci := 9) (v := .int (σ 0 3)) (C := RX9) (T := TX9) (N := 28) hx hb hts in9 hown hK hP 0 rfl rfl 3 (by decide) k74 (fun _ h9 => h9) rfl dX9_is_17 ?_
    refine lv_isub hx hb dX9_is_20 ?_
    refine lv_topi (fun v20 ev20 => ?_)
    refine lv_iload hx hb dX9_is_21 (lv_at hl 0 rfl) ?_
    refine lv_icmp_ne (tgt := 90) hx hb dX9_is_23 (by decide) (fun c23 => ?_) (fun c23 => ?_)
    · skip
      have ic23 := zneq (a := v20.toInt) (b := 4) rfl (by decide) c23
      refine lv_iconst (v := 0) hx hb dX9_is_90 (by decide) ?_
      have heq9 : σ = σ := rfl
      have hpost : σ = σ ∧ ((0 : Int32).toInt = 1 ∨ (0 : Int32).toInt = 0) := by refine ⟨heq9, ?_⟩; decide
      exact W.zret (v := 0) hx hb hr (by decide +kernel) (fun t9 ht hW => ⟨⟨0, σ, rfl, hpost, by rw [ht]; exact hP, va_K.moved hW.alike hK, hD⟩, hS.F ht⟩) hS.2.2 dX9_is_91
    · skip
      have ic23 := zeq (a := v20.toInt) (b := 4) rfl (by decide) c23
      refine lv_aload_n hx hb dX9_is_26 rfl (lv_at hl 1 rfl) ?_
      refine lv_aload_n hx hb dX9_is_27 rfl (lv_at hl 1 rfl) ?_
      refine va_get (D := (dC, dI)) (ci := 9) (v := .int (σ 0 3)) (C := RX9) (T := TX9) (N := 28) hx hb hts in9 hown hK hP 0 rfl rfl 3 (by decide) k74 (fun _ h9 => h9) rfl dX9_is_28 ?_
      refine zcalli (va_runV (As := [.int (σ 0 3)]) (rest := []) ⟨hx, hb, hml, hown, hts⟩ (c_X9_byteAt l dC dI cI a N hok σ H.size (σ 0 3) h3 (by omega)) (cwV 1 hts gX9_is_X9_byteAt rfl rfl rfl (by decide +kernel) ⟨Nat.le_of_ble_eq_true rfl, Nat.le_of_ble_eq_true rfl⟩) (zpreV (wf := wM a cI) (q0 := 0) (ci := 9) hok hN hS hA hK hP hD rfl rfl) rfl rfl hl.1 rfl (lv_room (Nat.le_of_ble_eq_true rfl)) dX9_is_31 ⟨Nat.zero_le _, Nat.zero_le _⟩) hD hS hA (fun v31 σ1 H locs hv31 hP hD hS => ?_)
      obtain ⟨es9, hv31⟩ := hv31
      subst σ1
      refine lv_iload_n hx hb dX9_is_34 rfl (lv_at hl 2 rfl) ?_
      refine lv_icmp_ne (tgt := 90) hx hb dX9_is_35 (by decide) (fun c35 => ?_) (fun c35 => ?_)
      · skip
        have ic35 := zneq (a := v31.toInt) (b := x1.toInt) rfl rfl c35
        refine lv_iconst (v := 0) hx hb dX9_is_90 (by decide) ?_
        have heq9 : σ = σ := rfl
        have hpost : σ = σ ∧ ((0 : Int32).toInt = 1 ∨ (0 : Int32).toInt = 0) := by refine ⟨heq9, ?_⟩; decide
        exact W.zret (v := 0) hx hb hr (by decide +kernel) (fun t9 ht hW => ⟨⟨0, σ, rfl, hpost, by rw [ht]; exact hP, va_K.moved hW.alike hK, hD⟩, hS.F ht⟩) hS.2.2 dX9_is_91
      · skip
        have ic35 := zeq (a := v31.toInt) (b := x1.toInt) rfl rfl c35
        refine lv_aload_n hx hb dX9_is_38 rfl (lv_at hl 1 rfl) ?_
        refine lv_aload_n hx hb dX9_is_39 rfl (lv_at hl 1 rfl) ?_
        refine va_get (D := (dC, dI)) (ci := 9) (v := .int (σ 0 3)) (C := RX9) (T := TX9) (N := 28) hx hb hts in9 hown hK hP 0 rfl rfl 3 (by decide) k74 (fun _ h9 => h9) rfl dX9_is_40 ?_
        refine lv_iconst (v := 1) hx hb dX9_is_43 (by decide) ?_
        refine lv_iadd hx hb dX9_is_44 ?_
        refine lv_topi (fun v44 ev44 => ?_)
        have tv44 : v44.toInt = (σ 0 3).toInt + 1 := by rw [ev44, zadd, show (1 : Int32).toInt = 1 from by decide]; omega
        refine zcalli (va_runV (As := [.int v44]) (rest := []) ⟨hx, hb, hml, hown, hts⟩ (c_X9_byteAt l dC dI cI a N hok σ H.size (v44) h3 (by omega)) (cwV 1 hts gX9_is_X9_byteAt rfl rfl rfl (by decide +kernel) ⟨Nat.le_of_ble_eq_true rfl, Nat.le_of_ble_eq_true rfl⟩) (zpreV (wf := wM a cI) (q0 := 0) (ci := 9) hok hN hS hA hK hP hD rfl rfl) rfl rfl hl.1 rfl (lv_room (Nat.le_of_ble_eq_true rfl)) dX9_is_45 ⟨Nat.zero_le _, Nat.zero_le _⟩) hD hS hA (fun v45 σ1 H locs hv45 hP hD hS => ?_)
        obtain ⟨es9, hv45⟩ := hv45
        subst σ1
        refine lv_iload_n hx hb dX9_is_48 rfl (lv_at hl 3 rfl) ?_
        refine lv_icmp_ne (tgt := 90) hx hb dX9_is_49 (by decide) (fun c49 => ?_) (fun c49 => ?_)
        · skip
          have ic49 := zneq (a := v45.toInt) (b := x2.toInt) rfl rfl c49
          refine lv_iconst (v := 0) hx hb dX9_is_90 (by decide) ?_
          have heq9 : σ = σ := rfl
          have hpost : σ = σ ∧ ((0 : Int32).toInt = 1 ∨ (0 : Int32).toInt = 0) := by refine ⟨heq9, ?_⟩; decide
          exact W.zret (v := 0) hx hb hr (by decide +kernel) (fun t9 ht hW => ⟨⟨0, σ, rfl, hpost, by rw [ht]; exact hP, va_K.moved hW.alike hK, hD⟩, hS.F ht⟩) hS.2.2 dX9_is_91
        · skip
          have ic49 := zeq (a := v45.toInt) (b := x2.toInt) rfl rfl c49
          refine lv_aload_n hx hb dX9_is_52 rfl (lv_at hl 1 rfl) ?_
          refine lv_aload_n hx hb dX9_is_53 rfl (lv_at hl 1 rfl) ?_
          refine va_get (D := (dC, dI)) (ci := 9) (v := .int (σ 0 3)) (C := RX9) (T := TX9) (N := 28) hx hb hts in9 hown hK hP 0 rfl rfl 3 (by decide) k74 (fun _ h9 => h9) rfl dX9_is_54 ?_
          refine lv_iconst (v := 2) hx hb dX9_is_57 (by decide) ?_
          refine lv_iadd hx hb dX9_is_58 ?_
          refine lv_topi (fun v58 ev58 => ?_)
          have tv58 : v58.toInt = (σ 0 3).toInt + 2 := by rw [ev58, zadd, show (2 : Int32).toInt = 2 from by decide]; omega
          refine zcalli (va_runV (As := [.int v58]) (rest := []) ⟨hx, hb, hml, hown, hts⟩ (c_X9_byteAt l dC dI cI a N hok σ H.size (v58) h3 (by omega)) (cwV 1 hts gX9_is_X9_byteAt rfl rfl rfl (by decide +kernel) ⟨Nat.le_of_ble_eq_true rfl, Nat.le_of_ble_eq_true rfl⟩) (zpreV (wf := wM a cI) (q0 := 0) (ci := 9) hok hN hS hA hK hP hD rfl rfl) rfl rfl hl.1 rfl (lv_room (Nat.le_of_ble_eq_true rfl)) dX9_is_59 ⟨Nat.zero_le _, Nat.zero_le _⟩) hD hS hA (fun v59 σ1 H locs hv59 hP hD hS => ?_)
          obtain ⟨es9, hv59⟩ := hv59
          subst σ1
          refine lv_iload_n hx hb dX9_is_62 rfl (lv_at hl 4 rfl) ?_
          refine lv_icmp_ne (tgt := 90) hx hb dX9_is_63 (by decide) (fun c63 => ?_) (fun c63 => ?_)
          · skip
            have ic63 := zneq (a := v59.toInt) (b := x3.toInt) rfl rfl c63
            refine lv_iconst (v := 0) hx hb dX9_is_90 (by decide) ?_
            have heq9 : σ = σ := rfl
            have hpost : σ = σ ∧ ((0 : Int32).toInt = 1 ∨ (0 : Int32).toInt = 0) := by refine ⟨heq9, ?_⟩; decide
            exact W.zret (v := 0) hx hb hr (by decide +kernel) (fun t9 ht hW => ⟨⟨0, σ, rfl, hpost, by rw [ht]; exact hP, va_K.moved hW.alike hK, hD⟩, hS.F ht⟩) hS.2.2 dX9_is_91
          · skip
            have ic63 := zeq (a := v59.toInt) (b := x3.toInt) rfl rfl c63
            refine lv_iload hx hb dX9_is_66 (lv_at hl 5 rfl) ?_
            refine lv_if_eq (tgt := 86) hx hb dX9_is_68 (by decide) (fun c68 => ?_) (fun c68 => ?_)
            · skip
              have ic68 := zeq (a := x4.toInt) (b := 0) rfl (by decide) c68
              refine lv_iconst (v := 1) hx hb dX9_is_86 (by decide) ?_
              refine lv_goto (tgt := 91) hx hb dX9_is_87 (by decide) ?_
              have heq9 : σ = σ := rfl
              have hpost : σ = σ ∧ ((1 : Int32).toInt = 1 ∨ (1 : Int32).toInt = 0) := by refine ⟨heq9, ?_⟩; decide
              exact W.zret (v := 1) hx hb hr (by decide +kernel) (fun t9 ht hW => ⟨⟨1, σ, rfl, hpost, by rw [ht]; exact hP, va_K.moved hW.alike hK, hD⟩, hS.F ht⟩) hS.2.2 dX9_is_91
            · skip
              have ic68 := zneq (a := x4.toInt) (b := 0) rfl (by decide) c68
              refine lv_aload_n hx hb dX9_is_71 rfl (lv_at hl 1 rfl) ?_
              refine lv_aload_n hx hb dX9_is_72 rfl (lv_at hl 1 rfl) ?_
              refine va_get (D := (dC, dI)) (ci := 9) (v := .int (σ 0 3)) (C := RX9) (T := TX9) (N := 28) hx hb hts in9 hown hK hP 0 rfl rfl 3 (by decide) k74 (fun _ h9 => h9) rfl dX9_is_73 ?_
              refine lv_iconst (v := 3) hx hb dX9_is_76 (by decide) ?_
              refine lv_iadd hx hb dX9_is_77 ?_
              refine lv_topi (fun v77 ev77 => ?_)
              have tv77 : v77.toInt = (σ 0 3).toInt + 3 := by rw [ev77, zadd, show (3 : Int32).toInt = 3 from by decide]; omega
              refine zcalli (va_runV (As := [.int v77]) (rest := []) ⟨hx, hb, hml, hown, hts⟩ (c_X9_byteAt l dC dI cI a N hok σ H.size (v77) h3 (by omega)) (cwV 1 hts gX9_is_X9_byteAt rfl rfl rfl (by decide +kernel) ⟨Nat.le_of_ble_eq_true rfl, Nat.le_of_ble_eq_true rfl⟩) (zpreV (wf := wM a cI) (q0 := 0) (ci := 9) hok hN hS hA hK hP hD rfl rfl) rfl rfl hl.1 rfl (lv_room (Nat.le_of_ble_eq_true rfl)) dX9_is_78 ⟨Nat.zero_le _, Nat.zero_le _⟩) hD hS hA (fun v78 σ1 H locs hv78 hP hD hS => ?_)
              obtain ⟨es9, hv78⟩ := hv78
              subst σ1
              refine lv_iload hx hb dX9_is_81 (lv_at hl 5 rfl) ?_
              refine lv_icmp_ne (tgt := 90) hx hb dX9_is_83 (by decide) (fun c83 => ?_) (fun c83 => ?_)
              · skip
                have ic83 := zneq (a := v78.toInt) (b := x4.toInt) rfl rfl c83
                refine lv_iconst (v := 0) hx hb dX9_is_90 (by decide) ?_
                have heq9 : σ = σ := rfl
                have hpost : σ = σ ∧ ((0 : Int32).toInt = 1 ∨ (0 : Int32).toInt = 0) := by refine ⟨heq9, ?_⟩; decide
                exact W.zret (v := 0) hx hb hr (by decide +kernel) (fun t9 ht hW => ⟨⟨0, σ, rfl, hpost, by rw [ht]; exact hP, va_K.moved hW.alike hK, hD⟩, hS.F ht⟩) hS.2.2 dX9_is_91
              · skip
                have ic83 := zeq (a := v78.toInt) (b := x4.toInt) rfl rfl c83
                refine lv_iconst (v := 1) hx hb dX9_is_86 (by decide) ?_
                refine lv_goto (tgt := 91) hx hb dX9_is_87 (by decide) ?_
                have heq9 : σ = σ := rfl
                have hpost : σ = σ ∧ ((1 : Int32).toInt = 1 ∨ (1 : Int32).toInt = 0) := by refine ⟨heq9, ?_⟩; decide
                exact W.zret (v := 1) hx hb hr (by decide +kernel) (fun t9 ht hW => ⟨⟨1, σ, rfl, hpost, by rw [ht]; exact hP, va_K.moved hW.alike hK, hD⟩, hS.F ht⟩) hS.2.2 dX9_is_91
  · skip
    have ic2 := zeq (a := x4.toInt) (b := 0) rfl (by decide) c2
    refine lv_iconst (v := 3) hx hb dX9_is_5 (by decide) ?_
    refine lv_goto (tgt := 10) hx hb dX9_is_6 (by decide) ?_
    refine lv_istore (lv' := [(5, .int 3), (0, .ref (a 0)), (1, .int x1), (2, .int x2), (3, .int x3), (4, .int x4)]) hx hb dX9_is_10 hl (by decide) rfl (fun ls hl => ?_)
    refine lv_aload_n hx hb dX9_is_12 rfl (lv_at hl 1 rfl) ?_
    refine va_get (D := (dC, dI)) (ci := 9) (v := .int (σ 0 2)) (C := RX9) (T := TX9) (N := 28) hx hb hts in9 hown hK hP 0 rfl rfl 2 (by decide) k80 (fun _ h9 => h9) rfl dX9_is_13 ?_
    refine lv_aload_n hx hb dX9_is_16 rfl (lv_at hl 1 rfl) ?_
    refine va_get (D := (dC, dI)) (ci := 9) (v := .int (σ 0 3)) (C := RX9) (T := TX9) (N := 28) hx hb hts in9 hown hK hP 0 rfl rfl 3 (by decide) k74 (fun _ h9 => h9) rfl dX9_is_17 ?_
    refine lv_isub hx hb dX9_is_20 ?_
    refine lv_topi (fun v20 ev20 => ?_)
    refine lv_iload hx hb dX9_is_21 (lv_at hl 0 rfl) ?_
    refine lv_icmp_ne (tgt := 90) hx hb dX9_is_23 (by decide) (fun c23 => ?_) (fun c23 => ?_)
    · skip
      have ic23 := zneq (a := v20.toInt) (b := 3) rfl (by decide) c23
      refine lv_iconst (v := 0) hx hb dX9_is_90 (by decide) ?_
      have heq9 : σ = σ := rfl
      have hpost : σ = σ ∧ ((0 : Int32).toInt = 1 ∨ (0 : Int32).toInt = 0) := by refine ⟨heq9, ?_⟩; decide
      exact W.zret (v := 0) hx hb hr (by decide +kernel) (fun t9 ht hW => ⟨⟨0, σ, rfl, hpost, by rw [ht]; exact hP, va_K.moved hW.alike hK, hD⟩, hS.F ht⟩) hS.2.2 dX9_is_91
    · skip
      have ic23 := zeq (a := v20.toInt) (b := 3) rfl (by decide) c23
      refine lv_aload_n hx hb dX9_is_26 rfl (lv_at hl 1 rfl) ?_
      refine lv_aload_n hx hb dX9_is_27 rfl (lv_at hl 1 rfl) ?_
      refine va_get (D := (dC, dI)) (ci := 9) (v := .int (σ 0 3)) (C := RX9) (T := TX9) (N := 28) hx hb hts in9 hown hK hP 0 rfl rfl 3 (by decide) k74 (fun _ h9 => h9) rfl dX9_is_28 ?_
      refine zcalli (va_runV (As := [.int (σ 0 3)]) (rest := []) ⟨hx, hb, hml, hown, hts⟩ (c_X9_byteAt l dC dI cI a N hok σ H.size (σ 0 3) h3 (by omega)) (cwV 1 hts gX9_is_X9_byteAt rfl rfl rfl (by decide +kernel) ⟨Nat.le_of_ble_eq_true rfl, Nat.le_of_ble_eq_true rfl⟩) (zpreV (wf := wM a cI) (q0 := 0) (ci := 9) hok hN hS hA hK hP hD rfl rfl) rfl rfl hl.1 rfl (lv_room (Nat.le_of_ble_eq_true rfl)) dX9_is_31 ⟨Nat.zero_le _, Nat.zero_le _⟩) hD hS hA (fun v31 σ1 H locs hv31 hP hD hS => ?_)
      obtain ⟨es9, hv31⟩ := hv31
      subst σ1
      refine lv_iload_n hx hb dX9_is_34 rfl (lv_at hl 2 rfl) ?_
      refine lv_icmp_ne (tgt := 90) hx hb dX9_is_35 (by decide) (fun c35 => ?_) (fun c35 => ?_)
      · skip
        have ic35 := zneq (a := v31.toInt) (b := x1.toInt) rfl rfl c35
        refine lv_iconst (v := 0) hx hb dX9_is_90 (by decide) ?_
        have heq9 : σ = σ := rfl
        have hpost : σ = σ ∧ ((0 : Int32).toInt = 1 ∨ (0 : Int32).toInt = 0) := by refine ⟨heq9, ?_⟩; decide
        exact W.zret (v := 0) hx hb hr (by decide +kernel) (fun t9 ht hW => ⟨⟨0, σ, rfl, hpost, by rw [ht]; exact hP, va_K.moved hW.alike hK, hD⟩, hS.F ht⟩) hS.2.2 dX9_is_91
      · skip
        have ic35 := zeq (a := v31.toInt) (b := x1.toInt) rfl rfl c35
        refine lv_aload_n hx hb dX9_is_38 rfl (lv_at hl 1 rfl) ?_
        refine lv_aload_n hx hb dX9_is_39 rfl (lv_at hl 1 rfl) ?_
        refine va_get (D := (dC, dI)) (ci := 9) (v := .int (σ 0 3)) (C := RX9) (T := TX9) (N := 28) hx hb hts in9 hown hK hP 0 rfl rfl 3 (by decide) k74 (fun _ h9 => h9) rfl dX9_is_40 ?_
        refine lv_iconst (v := 1) hx hb dX9_is_43 (by decide) ?_
        refine lv_iadd hx hb dX9_is_44 ?_
        refine lv_topi (fun v44 ev44 => ?_)
        have tv44 : v44.toInt = (σ 0 3).toInt + 1 := by rw [ev44, zadd, show (1 : Int32).toInt = 1 from by decide]; omega
        refine zcalli (va_runV (As := [.int v44]) (rest := []) ⟨hx, hb, hml, hown, hts⟩ (c_X9_byteAt l dC dI cI a N hok σ H.size (v44) h3 (by omega)) (cwV 1 hts gX9_is_X9_byteAt rfl rfl rfl (by decide +kernel) ⟨Nat.le_of_ble_eq_true rfl, Nat.le_of_ble_eq_true rfl⟩) (zpreV (wf := wM a cI) (q0 := 0) (ci := 9) hok hN hS hA hK hP hD rfl rfl) rfl rfl hl.1 rfl (lv_room (Nat.le_of_ble_eq_true rfl)) dX9_is_45 ⟨Nat.zero_le _, Nat.zero_le _⟩) hD hS hA (fun v45 σ1 H locs hv45 hP hD hS => ?_)
        obtain ⟨es9, hv45⟩ := hv45
        subst σ1
        refine lv_iload_n hx hb dX9_is_48 rfl (lv_at hl 3 rfl) ?_
        refine lv_icmp_ne (tgt := 90) hx hb dX9_is_49 (by decide) (fun c49 => ?_) (fun c49 => ?_)
        · skip
          have ic49 := zneq (a := v45.toInt) (b := x2.toInt) rfl rfl c49
          refine lv_iconst (v := 0) hx hb dX9_is_90 (by decide) ?_
          have heq9 : σ = σ := rfl
          have hpost : σ = σ ∧ ((0 : Int32).toInt = 1 ∨ (0 : Int32).toInt = 0) := by refine ⟨heq9, ?_⟩; decide
          exact W.zret (v := 0) hx hb hr (by decide +kernel) (fun t9 ht hW => ⟨⟨0, σ, rfl, hpost, by rw [ht]; exact hP, va_K.moved hW.alike hK, hD⟩, hS.F ht⟩) hS.2.2 dX9_is_91
        · skip
          have ic49 := zeq (a := v45.toInt) (b := x2.toInt) rfl rfl c49
          refine lv_aload_n hx hb dX9_is_52 rfl (lv_at hl 1 rfl) ?_
          refine lv_aload_n hx hb dX9_is_53 rfl (lv_at hl 1 rfl) ?_
          refine va_get (D := (dC, dI)) (ci := 9) (v := .int (σ 0 3)) (C := RX9) (T := TX9) (N := 28) hx hb hts in9 hown hK hP 0 rfl rfl 3 (by decide) k74 (fun _ h9 => h9) rfl dX9_is_54 ?_
          refine lv_iconst (v := 2) hx hb dX9_is_57 (by decide) ?_
          refine lv_iadd hx hb dX9_is_58 ?_
          refine lv_topi (fun v58 ev58 => ?_)
          have tv58 : v58.toInt = (σ 0 3).toInt + 2 := by rw [ev58, zadd, show (2 : Int32).toInt = 2 from by decide]; omega
          refine zcalli (va_runV (As := [.int v58]) (rest := []) ⟨hx, hb, hml, hown, hts⟩ (c_X9_byteAt l dC dI cI a N hok σ H.size (v58) h3 (by omega)) (cwV 1 hts gX9_is_X9_byteAt rfl rfl rfl (by decide +kernel) ⟨Nat.le_of_ble_eq_true rfl, Nat.le_of_ble_eq_true rfl⟩) (zpreV (wf := wM a cI) (q0 := 0) (ci := 9) hok hN hS hA hK hP hD rfl rfl) rfl rfl hl.1 rfl (lv_room (Nat.le_of_ble_eq_true rfl)) dX9_is_59 ⟨Nat.zero_le _, Nat.zero_le _⟩) hD hS hA (fun v59 σ1 H locs hv59 hP hD hS => ?_)
          obtain ⟨es9, hv59⟩ := hv59
          subst σ1
          refine lv_iload_n hx hb dX9_is_62 rfl (lv_at hl 4 rfl) ?_
          refine lv_icmp_ne (tgt := 90) hx hb dX9_is_63 (by decide) (fun c63 => ?_) (fun c63 => ?_)
          · skip
            have ic63 := zneq (a := v59.toInt) (b := x3.toInt) rfl rfl c63
            refine lv_iconst (v := 0) hx hb dX9_is_90 (by decide) ?_
            have heq9 : σ = σ := rfl
            have hpost : σ = σ ∧ ((0 : Int32).toInt = 1 ∨ (0 : Int32).toInt = 0) := by refine ⟨heq9, ?_⟩; decide
            exact W.zret (v := 0) hx hb hr (by decide +kernel) (fun t9 ht hW => ⟨⟨0, σ, rfl, hpost, by rw [ht]; exact hP, va_K.moved hW.alike hK, hD⟩, hS.F ht⟩) hS.2.2 dX9_is_91
          · skip
            have ic63 := zeq (a := v59.toInt) (b := x3.toInt) rfl rfl c63
            refine lv_iload hx hb dX9_is_66 (lv_at hl 5 rfl) ?_
            refine lv_if_eq (tgt := 86) hx hb dX9_is_68 (by decide) (fun c68 => ?_) (fun c68 => ?_)
            · skip
              have ic68 := zeq (a := x4.toInt) (b := 0) rfl (by decide) c68
              refine lv_iconst (v := 1) hx hb dX9_is_86 (by decide) ?_
              refine lv_goto (tgt := 91) hx hb dX9_is_87 (by decide) ?_
              have heq9 : σ = σ := rfl
              have hpost : σ = σ ∧ ((1 : Int32).toInt = 1 ∨ (1 : Int32).toInt = 0) := by refine ⟨heq9, ?_⟩; decide
              exact W.zret (v := 1) hx hb hr (by decide +kernel) (fun t9 ht hW => ⟨⟨1, σ, rfl, hpost, by rw [ht]; exact hP, va_K.moved hW.alike hK, hD⟩, hS.F ht⟩) hS.2.2 dX9_is_91
            · skip
              have ic68 := zneq (a := x4.toInt) (b := 0) rfl (by decide) c68
              refine lv_aload_n hx hb dX9_is_71 rfl (lv_at hl 1 rfl) ?_
              refine lv_aload_n hx hb dX9_is_72 rfl (lv_at hl 1 rfl) ?_
              refine va_get (D := (dC, dI)) (ci := 9) (v := .int (σ 0 3)) (C := RX9) (T := TX9) (N := 28) hx hb hts in9 hown hK hP 0 rfl rfl 3 (by decide) k74 (fun _ h9 => h9) rfl dX9_is_73 ?_
              refine lv_iconst (v := 3) hx hb dX9_is_76 (by decide) ?_
              refine lv_iadd hx hb dX9_is_77 ?_
              refine lv_topi (fun v77 ev77 => ?_)
              have tv77 : v77.toInt = (σ 0 3).toInt + 3 := by rw [ev77, zadd, show (3 : Int32).toInt = 3 from by decide]; omega
              refine zcalli (va_runV (As := [.int v77]) (rest := []) ⟨hx, hb, hml, hown, hts⟩ (c_X9_byteAt l dC dI cI a N hok σ H.size (v77) h3 (by omega)) (cwV 1 hts gX9_is_X9_byteAt rfl rfl rfl (by decide +kernel) ⟨Nat.le_of_ble_eq_true rfl, Nat.le_of_ble_eq_true rfl⟩) (zpreV (wf := wM a cI) (q0 := 0) (ci := 9) hok hN hS hA hK hP hD rfl rfl) rfl rfl hl.1 rfl (lv_room (Nat.le_of_ble_eq_true rfl)) dX9_is_78 ⟨Nat.zero_le _, Nat.zero_le _⟩) hD hS hA (fun v78 σ1 H locs hv78 hP hD hS => ?_)
              obtain ⟨es9, hv78⟩ := hv78
              subst σ1
              refine lv_iload hx hb dX9_is_81 (lv_at hl 5 rfl) ?_
              refine lv_icmp_ne (tgt := 90) hx hb dX9_is_83 (by decide) (fun c83 => ?_) (fun c83 => ?_)
              · skip
                have ic83 := zneq (a := v78.toInt) (b := x4.toInt) rfl rfl c83
                refine lv_iconst (v := 0) hx hb dX9_is_90 (by decide) ?_
                have heq9 : σ = σ := rfl
                have hpost : σ = σ ∧ ((0 : Int32).toInt = 1 ∨ (0 : Int32).toInt = 0) := by refine ⟨heq9, ?_⟩; decide
                exact W.zret (v := 0) hx hb hr (by decide +kernel) (fun t9 ht hW => ⟨⟨0, σ, rfl, hpost, by rw [ht]; exact hP, va_K.moved hW.alike hK, hD⟩, hS.F ht⟩) hS.2.2 dX9_is_91
              · skip
                have ic83 := zeq (a := v78.toInt) (b := x4.toInt) rfl rfl c83
                refine lv_iconst (v := 1) hx hb dX9_is_86 (by decide) ?_
                refine lv_goto (tgt := 91) hx hb dX9_is_87 (by decide) ?_
                have heq9 : σ = σ := rfl
                have hpost : σ = σ ∧ ((1 : Int32).toInt = 1 ∨ (1 : Int32).toInt = 0) := by refine ⟨heq9, ?_⟩; decide
                exact W.zret (v := 1) hx hb hr (by decide +kernel) (fun t9 ht hW => ⟨⟨1, σ, rfl, hpost, by rw [ht]; exact hP, va_K.moved hW.alike hK, hD⟩, hS.F ht⟩) hS.2.2 dX9_is_91

abbrev RM_X9_nameNow : Room := { frames := 2, cells := 0, slots := 0, locals := 46 }
set_option maxHeartbeats 4000000 in
set_option maxRecDepth 100000 in
theorem c_X9_nameNow (l : Launch) (dC : Nat → ClassId) (dI : Nat → Nat → Nat) (cI : ClassId) (a : Nat → Nat) (N : (Nat → Prop) → State → Prop) (hok : zNok N) (σ : Cn) (sz : Nat)  (h3 : 0 ≤ (σ 0 1).toInt ∧ (σ 0 1).toInt ≤ 160) (hf : 0 ≤ (σ 0 3).toInt ∧ (σ 0 3).toInt ≤ 160) : Met l yX9_nameNow wsX9_nameNow RM_X9_nameNow (zPc (dC, dI) [(cI, .int)] N (wM a cI) σ sz [.ref (a 0)]) (zQi (dC, dI) [(cI, .int)] (wM a cI) (va_A (wM a cI σ) sz) (fun (r : Int32) (σ1 : Cn) => σ1 = σ ∧ ((r : Int32).toInt = -4 ∨ 0 ≤ (r : Int32).toInt))) 0 0 (va_A (wM a cI σ) sz) := by
  refine Met.ofW (cc := cX9_nameNow) (maxL := 1) (ret := (some .int)) (by decide) rfl ?_
  intro p e s m args below meth c s₁ B hml hv
  obtain ⟨rfl, hsz, hP, hK, hD0, hN⟩ := hv
  have hx := B.exec
  have hb := B.bytes
  have hr := B.returns
  have hts := atoms_spec (ws := wsX9_nameNow) B.pre
  have hown : s.vm.findClass RX9 = some m.cls := findClass_of_methodNamed B.named
  have hlocks := B.notSynchronized
  subst hsz
  have hD := hD0.self (sz := s.heap.size)
  generalize hAe : va_A (wM a cI σ) s.heap.size = A at hD hN ⊢
  have hA : ∀ q : Nat, s.heap.size ≤ q → A q := fun q h => by rw [← hAe]; exact Or.inr h
  clear hAe hD0
  have hS : va_S A s.heap s.heap [] := va_S.rf
  have hl := lv_entry ([.ref (a 0)]) (n := 1) (Nat.le_of_ble_eq_true rfl)
  rw [lg_entry_eq]
  generalize (lg_sl ([.ref (a 0)]) ++ List.replicate (1 - (lg_sl ([.ref (a 0)])).length) Slot.unset).toArray = ls at hl ⊢
  have hl : lv_has ls 1 [(0, .ref (a 0))] := hl
  suffices main : ∀ (H : Heap) (locs : List Loc), va_P (dC, dI) vwCl (wM a cI σ) H → va_D A (wM a cI σ) → va_S A s.heap H locs → W p l e (headSpec wsX9_nameNow RM_X9_nameNow).room s m ([.ref (a 0)] : List Value).toArray below meth c H locs 0 0 (MQ below (zQi (dC, dI) [(cI, .int)] (wM a cI) A (fun (r : Int32) (σ1 : Cn) => σ1 = σ ∧ ((r : Int32).toInt = -4 ∨ 0 ≤ (r : Int32).toInt))) ([.ref (a 0)] : List Value).toArray s 0 0 A) (F0 m 0 ls []) from main s.heap [] hP hD hS
  intro H locs hP hD hS
  refine lv_aload_n hx hb dX9_nameNow_0 rfl (lv_at hl 0 rfl) ?_
  refine lv_bipush (v := 107) hx hb dX9_nameNow_1 (by decide) ?_
  refine lv_bipush (v := 101) hx hb dX9_nameNow_3 (by decide) ?_
  refine lv_bipush (v := 101) hx hb dX9_nameNow_5 (by decide) ?_
  refine lv_bipush (v := 112) hx hb dX9_nameNow_7 (by decide) ?_
  refine zcalli (va_runV (As := [.int 107, .int 101, .int 101, .int 112]) (rest := []) ⟨hx, hb, hml, hown, hts⟩ (c_X9_is l dC dI cI a N hok σ H.size (107) (101) (101) (112) h3 hf) (cwV 4 hts gX9_nameNow_X9_is rfl rfl rfl (by decide +kernel) ⟨Nat.le_of_ble_eq_true rfl, Nat.le_of_ble_eq_true rfl⟩) (zpreV (wf := wM a cI) (q0 := 0) (ci := 9) hok hN hS hA hK hP hD rfl rfl) rfl rfl hl.1 rfl (lv_room (Nat.le_of_ble_eq_true rfl)) dX9_nameNow_9 ⟨Nat.zero_le _, Nat.zero_le _⟩) hD hS hA (fun v9 σ1 H locs hv9 hP hD hS => ?_)
  obtain ⟨es9, hv9⟩ := hv9
  subst σ1
  try simp only [show (101 : Int32).toInt = 101 from by decide, show (107 : Int32).toInt = 107 from by decide, show (112 : Int32).toInt = 112 from by decide] at hv9
  refine lv_if_eq (tgt := 17) hx hb dX9_nameNow_12 (by decide) (fun c12 => ?_) (fun c12 => ?_)
  · skip
    have ic12 := zeq (a := v9.toInt) (b := 0) rfl (by decide) c12
    refine lv_aload_n hx hb dX9_nameNow_17 rfl (lv_at hl 0 rfl) ?_
    refine lv_bipush (v := 115) hx hb dX9_nameNow_18 (by decide) ?_
    refine lv_bipush (v := 97) hx hb dX9_nameNow_20 (by decide) ?_
    refine lv_bipush (v := 108) hx hb dX9_nameNow_22 (by decide) ?_
    refine lv_bipush (v := 101) hx hb dX9_nameNow_24 (by decide) ?_
    refine zcalli (va_runV (As := [.int 115, .int 97, .int 108, .int 101]) (rest := []) ⟨hx, hb, hml, hown, hts⟩ (c_X9_is l dC dI cI a N hok σ H.size (115) (97) (108) (101) h3 hf) (cwV 4 hts gX9_nameNow_X9_is rfl rfl rfl (by decide +kernel) ⟨Nat.le_of_ble_eq_true rfl, Nat.le_of_ble_eq_true rfl⟩) (zpreV (wf := wM a cI) (q0 := 0) (ci := 9) hok hN hS hA hK hP hD rfl rfl) rfl rfl hl.1 rfl (lv_room (Nat.le_of_ble_eq_true rfl)) dX9_nameNow_26 ⟨Nat.zero_le _, Nat.zero_le _⟩) hD hS hA (fun v26 σ1 H locs hv26 hP hD hS => ?_)
    obtain ⟨es9, hv26⟩ := hv26
    subst σ1
    try simp only [show (101 : Int32).toInt = 101 from by decide, show (108 : Int32).toInt = 108 from by decide, show (115 : Int32).toInt = 115 from by decide, show (97 : Int32).toInt = 97 from by decide] at hv26
    refine lv_if_eq (tgt := 34) hx hb dX9_nameNow_29 (by decide) (fun c29 => ?_) (fun c29 => ?_)
    · skip
      have ic29 := zeq (a := v26.toInt) (b := 0) rfl (by decide) c29
      refine lv_aload_n hx hb dX9_nameNow_34 rfl (lv_at hl 0 rfl) ?_
      refine lv_bipush (v := 103) hx hb dX9_nameNow_35 (by decide) ?_
      refine lv_bipush (v := 105) hx hb dX9_nameNow_37 (by decide) ?_
      refine lv_bipush (v := 102) hx hb dX9_nameNow_39 (by decide) ?_
      refine lv_bipush (v := 116) hx hb dX9_nameNow_41 (by decide) ?_
      refine zcalli (va_runV (As := [.int 103, .int 105, .int 102, .int 116]) (rest := []) ⟨hx, hb, hml, hown, hts⟩ (c_X9_is l dC dI cI a N hok σ H.size (103) (105) (102) (116) h3 hf) (cwV 4 hts gX9_nameNow_X9_is rfl rfl rfl (by decide +kernel) ⟨Nat.le_of_ble_eq_true rfl, Nat.le_of_ble_eq_true rfl⟩) (zpreV (wf := wM a cI) (q0 := 0) (ci := 9) hok hN hS hA hK hP hD rfl rfl) rfl rfl hl.1 rfl (lv_room (Nat.le_of_ble_eq_true rfl)) dX9_nameNow_43 ⟨Nat.zero_le _, Nat.zero_le _⟩) hD hS hA (fun v43 σ1 H locs hv43 hP hD hS => ?_)
      obtain ⟨es9, hv43⟩ := hv43
      subst σ1
      try simp only [show (102 : Int32).toInt = 102 from by decide, show (103 : Int32).toInt = 103 from by decide, show (105 : Int32).toInt = 105 from by decide, show (116 : Int32).toInt = 116 from by decide] at hv43
      refine lv_if_eq (tgt := 51) hx hb dX9_nameNow_46 (by decide) (fun c46 => ?_) (fun c46 => ?_)
      · skip
        have ic46 := zeq (a := v43.toInt) (b := 0) rfl (by decide) c46
        refine lv_aload_n hx hb dX9_nameNow_51 rfl (lv_at hl 0 rfl) ?_
        refine lv_bipush (v := 118) hx hb dX9_nameNow_52 (by decide) ?_
        refine lv_bipush (v := 97) hx hb dX9_nameNow_54 (by decide) ?_
        refine lv_bipush (v := 110) hx hb dX9_nameNow_56 (by decide) ?_
        refine lv_iconst (v := 0) hx hb dX9_nameNow_58 (by decide) ?_
        refine zcalli (va_runV (As := [.int 118, .int 97, .int 110, .int 0]) (rest := []) ⟨hx, hb, hml, hown, hts⟩ (c_X9_is l dC dI cI a N hok σ H.size (118) (97) (110) (0) h3 hf) (cwV 4 hts gX9_nameNow_X9_is rfl rfl rfl (by decide +kernel) ⟨Nat.le_of_ble_eq_true rfl, Nat.le_of_ble_eq_true rfl⟩) (zpreV (wf := wM a cI) (q0 := 0) (ci := 9) hok hN hS hA hK hP hD rfl rfl) rfl rfl hl.1 rfl (lv_room (Nat.le_of_ble_eq_true rfl)) dX9_nameNow_59 ⟨Nat.zero_le _, Nat.zero_le _⟩) hD hS hA (fun v59 σ1 H locs hv59 hP hD hS => ?_)
        obtain ⟨es9, hv59⟩ := hv59
        subst σ1
        try simp only [show (0 : Int32).toInt = 0 from by decide, show (110 : Int32).toInt = 110 from by decide, show (118 : Int32).toInt = 118 from by decide, show (97 : Int32).toInt = 97 from by decide] at hv59
        refine lv_if_eq (tgt := 67) hx hb dX9_nameNow_62 (by decide) (fun c62 => ?_) (fun c62 => ?_)
        · skip
          have ic62 := zeq (a := v59.toInt) (b := 0) rfl (by decide) c62
          refine lv_aload_n hx hb dX9_nameNow_67 rfl (lv_at hl 0 rfl) ?_
          refine lv_bipush (v := 108) hx hb dX9_nameNow_68 (by decide) ?_
          refine lv_bipush (v := 111) hx hb dX9_nameNow_70 (by decide) ?_
          refine lv_bipush (v := 111) hx hb dX9_nameNow_72 (by decide) ?_
          refine lv_bipush (v := 107) hx hb dX9_nameNow_74 (by decide) ?_
          refine zcalli (va_runV (As := [.int 108, .int 111, .int 111, .int 107]) (rest := []) ⟨hx, hb, hml, hown, hts⟩ (c_X9_is l dC dI cI a N hok σ H.size (108) (111) (111) (107) h3 hf) (cwV 4 hts gX9_nameNow_X9_is rfl rfl rfl (by decide +kernel) ⟨Nat.le_of_ble_eq_true rfl, Nat.le_of_ble_eq_true rfl⟩) (zpreV (wf := wM a cI) (q0 := 0) (ci := 9) hok hN hS hA hK hP hD rfl rfl) rfl rfl hl.1 rfl (lv_room (Nat.le_of_ble_eq_true rfl)) dX9_nameNow_76 ⟨Nat.zero_le _, Nat.zero_le _⟩) hD hS hA (fun v76 σ1 H locs hv76 hP hD hS => ?_)
          obtain ⟨es9, hv76⟩ := hv76
          subst σ1
          try simp only [show (107 : Int32).toInt = 107 from by decide, show (108 : Int32).toInt = 108 from by decide, show (111 : Int32).toInt = 111 from by decide] at hv76
          refine lv_if_eq (tgt := 84) hx hb dX9_nameNow_79 (by decide) (fun c79 => ?_) (fun c79 => ?_)
          · skip
            have ic79 := zeq (a := v76.toInt) (b := 0) rfl (by decide) c79
            refine lv_aload_n hx hb dX9_nameNow_84 rfl (lv_at hl 0 rfl) ?_
            refine lv_bipush (v := 102) hx hb dX9_nameNow_85 (by decide) ?_
            refine lv_bipush (v := 117) hx hb dX9_nameNow_87 (by decide) ?_
            refine lv_bipush (v := 114) hx hb dX9_nameNow_89 (by decide) ?_
            refine lv_iconst (v := 0) hx hb dX9_nameNow_91 (by decide) ?_
            refine zcalli (va_runV (As := [.int 102, .int 117, .int 114, .int 0]) (rest := []) ⟨hx, hb, hml, hown, hts⟩ (c_X9_is l dC dI cI a N hok σ H.size (102) (117) (114) (0) h3 hf) (cwV 4 hts gX9_nameNow_X9_is rfl rfl rfl (by decide +kernel) ⟨Nat.le_of_ble_eq_true rfl, Nat.le_of_ble_eq_true rfl⟩) (zpreV (wf := wM a cI) (q0 := 0) (ci := 9) hok hN hS hA hK hP hD rfl rfl) rfl rfl hl.1 rfl (lv_room (Nat.le_of_ble_eq_true rfl)) dX9_nameNow_92 ⟨Nat.zero_le _, Nat.zero_le _⟩) hD hS hA (fun v92 σ1 H locs hv92 hP hD hS => ?_)
            obtain ⟨es9, hv92⟩ := hv92
            subst σ1
            try simp only [show (0 : Int32).toInt = 0 from by decide, show (102 : Int32).toInt = 102 from by decide, show (114 : Int32).toInt = 114 from by decide, show (117 : Int32).toInt = 117 from by decide] at hv92
            refine lv_if_eq (tgt := 100) hx hb dX9_nameNow_95 (by decide) (fun c95 => ?_) (fun c95 => ?_)
            · skip
              have ic95 := zeq (a := v92.toInt) (b := 0) rfl (by decide) c95
              refine lv_aload_n hx hb dX9_nameNow_100 rfl (lv_at hl 0 rfl) ?_
              refine lv_bipush (v := 103) hx hb dX9_nameNow_101 (by decide) ?_
              refine lv_bipush (v := 117) hx hb dX9_nameNow_103 (by decide) ?_
              refine lv_bipush (v := 110) hx hb dX9_nameNow_105 (by decide) ?_
              refine lv_iconst (v := 0) hx hb dX9_nameNow_107 (by decide) ?_
              refine zcalli (va_runV (As := [.int 103, .int 117, .int 110, .int 0]) (rest := []) ⟨hx, hb, hml, hown, hts⟩ (c_X9_is l dC dI cI a N hok σ H.size (103) (117) (110) (0) h3 hf) (cwV 4 hts gX9_nameNow_X9_is rfl rfl rfl (by decide +kernel) ⟨Nat.le_of_ble_eq_true rfl, Nat.le_of_ble_eq_true rfl⟩) (zpreV (wf := wM a cI) (q0 := 0) (ci := 9) hok hN hS hA hK hP hD rfl rfl) rfl rfl hl.1 rfl (lv_room (Nat.le_of_ble_eq_true rfl)) dX9_nameNow_108 ⟨Nat.zero_le _, Nat.zero_le _⟩) hD hS hA (fun v108 σ1 H locs hv108 hP hD hS => ?_)
              obtain ⟨es9, hv108⟩ := hv108
              subst σ1
              try simp only [show (0 : Int32).toInt = 0 from by decide, show (103 : Int32).toInt = 103 from by decide, show (110 : Int32).toInt = 110 from by decide, show (117 : Int32).toInt = 117 from by decide] at hv108
              refine lv_if_eq (tgt := 117) hx hb dX9_nameNow_111 (by decide) (fun c111 => ?_) (fun c111 => ?_)
              · skip
                have ic111 := zeq (a := v108.toInt) (b := 0) rfl (by decide) c111
                refine lv_aload_n hx hb dX9_nameNow_117 rfl (lv_at hl 0 rfl) ?_
                refine lv_bipush (v := 107) hx hb dX9_nameNow_118 (by decide) ?_
                refine lv_bipush (v := 105) hx hb dX9_nameNow_120 (by decide) ?_
                refine lv_bipush (v := 110) hx hb dX9_nameNow_122 (by decide) ?_
                refine lv_iconst (v := 0) hx hb dX9_nameNow_124 (by decide) ?_
                refine zcalli (va_runV (As := [.int 107, .int 105, .int 110, .int 0]) (rest := []) ⟨hx, hb, hml, hown, hts⟩ (c_X9_is l dC dI cI a N hok σ H.size (107) (105) (110) (0) h3 hf) (cwV 4 hts gX9_nameNow_X9_is rfl rfl rfl (by decide +kernel) ⟨Nat.le_of_ble_eq_true rfl, Nat.le_of_ble_eq_true rfl⟩) (zpreV (wf := wM a cI) (q0 := 0) (ci := 9) hok hN hS hA hK hP hD rfl rfl) rfl rfl hl.1 rfl (lv_room (Nat.le_of_ble_eq_true rfl)) dX9_nameNow_125 ⟨Nat.zero_le _, Nat.zero_le _⟩) hD hS hA (fun v125 σ1 H locs hv125 hP hD hS => ?_)
                obtain ⟨es9, hv125⟩ := hv125
                subst σ1
                try simp only [show (0 : Int32).toInt = 0 from by decide, show (105 : Int32).toInt = 105 from by decide, show (107 : Int32).toInt = 107 from by decide, show (110 : Int32).toInt = 110 from by decide] at hv125
                refine lv_if_eq (tgt := 136) hx hb dX9_nameNow_128 (by decide) (fun c128 => ?_) (fun c128 => ?_)
                · skip
                  have ic128 := zeq (a := v125.toInt) (b := 0) rfl (by decide) c128
                  refine lv_aload_n hx hb dX9_nameNow_136 rfl (lv_at hl 0 rfl) ?_
                  refine lv_bipush (v := 116) hx hb dX9_nameNow_137 (by decide) ?_
                  refine lv_bipush (v := 105) hx hb dX9_nameNow_139 (by decide) ?_
                  refine lv_bipush (v := 112) hx hb dX9_nameNow_141 (by decide) ?_
                  refine lv_iconst (v := 0) hx hb dX9_nameNow_143 (by decide) ?_
                  refine zcalli (va_runV (As := [.int 116, .int 105, .int 112, .int 0]) (rest := []) ⟨hx, hb, hml, hown, hts⟩ (c_X9_is l dC dI cI a N hok σ H.size (116) (105) (112) (0) h3 hf) (cwV 4 hts gX9_nameNow_X9_is rfl rfl rfl (by decide +kernel) ⟨Nat.le_of_ble_eq_true rfl, Nat.le_of_ble_eq_true rfl⟩) (zpreV (wf := wM a cI) (q0 := 0) (ci := 9) hok hN hS hA hK hP hD rfl rfl) rfl rfl hl.1 rfl (lv_room (Nat.le_of_ble_eq_true rfl)) dX9_nameNow_144 ⟨Nat.zero_le _, Nat.zero_le _⟩) hD hS hA (fun v144 σ1 H locs hv144 hP hD hS => ?_)
                  obtain ⟨es9, hv144⟩ := hv144
                  subst σ1
                  try simp only [show (0 : Int32).toInt = 0 from by decide, show (105 : Int32).toInt = 105 from by decide, show (112 : Int32).toInt = 112 from by decide, show (116 : Int32).toInt = 116 from by decide] at hv144
                  refine lv_if_eq (tgt := 155) hx hb dX9_nameNow_147 (by decide) (fun c147 => ?_) (fun c147 => ?_)
                  · skip
                    have ic147 := zeq (a := v144.toInt) (b := 0) rfl (by decide) c147
                    refine lv_bipush (v := (-4)) hx hb dX9_nameNow_155 (by decide) ?_
                    have heq9 : σ = σ := rfl
                    have hpost : σ = σ ∧ (((-4) : Int32).toInt = -4 ∨ 0 ≤ ((-4) : Int32).toInt) := by refine ⟨heq9, ?_⟩; decide
                    exact W.iret (v := (-4)) hx hb hr (fun t9 ht hW => ⟨⟨(-4), σ, rfl, hpost, by rw [ht]; exact hP, va_K.moved hW.alike hK, hD⟩, hS.F ht⟩) hS.2.2 dX9_nameNow_157
                  · skip
                    have ic147 := zneq (a := v144.toInt) (b := 0) rfl (by decide) c147
                    refine lv_bipush (v := 8) hx hb dX9_nameNow_150 (by decide) ?_
                    refine lv_goto (tgt := 157) hx hb dX9_nameNow_152 (by decide) ?_
                    have heq9 : σ = σ := rfl
                    have hpost : σ = σ ∧ ((8 : Int32).toInt = -4 ∨ 0 ≤ (8 : Int32).toInt) := by refine ⟨heq9, ?_⟩; decide
                    exact W.iret (v := 8) hx hb hr (fun t9 ht hW => ⟨⟨8, σ, rfl, hpost, by rw [ht]; exact hP, va_K.moved hW.alike hK, hD⟩, hS.F ht⟩) hS.2.2 dX9_nameNow_157
                · skip
                  have ic128 := zneq (a := v125.toInt) (b := 0) rfl (by decide) c128
                  refine lv_bipush (v := 7) hx hb dX9_nameNow_131 (by decide) ?_
                  refine lv_goto (tgt := 157) hx hb dX9_nameNow_133 (by decide) ?_
                  have heq9 : σ = σ := rfl
                  have hpost : σ = σ ∧ ((7 : Int32).toInt = -4 ∨ 0 ≤ (7 : Int32).toInt) := by refine ⟨heq9, ?_⟩; decide
                  exact W.iret (v := 7) hx hb hr (fun t9 ht hW => ⟨⟨7, σ, rfl, hpost, by rw [ht]; exact hP, va_K.moved hW.alike hK, hD⟩, hS.F ht⟩) hS.2.2 dX9_nameNow_157
              · skip
                have ic111 := zneq (a := v108.toInt) (b := 0) rfl (by decide) c111
                refine lv_bipush (v := 6) hx hb dX9_nameNow_114 (by decide) ?_
                have heq9 : σ = σ := rfl
                have hpost : σ = σ ∧ ((6 : Int32).toInt = -4 ∨ 0 ≤ (6 : Int32).toInt) := by refine ⟨heq9, ?_⟩; decide
                exact W.iret (v := 6) hx hb hr (fun t9 ht hW => ⟨⟨6, σ, rfl, hpost, by rw [ht]; exact hP, va_K.moved hW.alike hK, hD⟩, hS.F ht⟩) hS.2.2 dX9_nameNow_116
            · skip
              have ic95 := zneq (a := v92.toInt) (b := 0) rfl (by decide) c95
              refine lv_iconst (v := 5) hx hb dX9_nameNow_98 (by decide) ?_
              have heq9 : σ = σ := rfl
              have hpost : σ = σ ∧ ((5 : Int32).toInt = -4 ∨ 0 ≤ (5 : Int32).toInt) := by refine ⟨heq9, ?_⟩; decide
              exact W.iret (v := 5) hx hb hr (fun t9 ht hW => ⟨⟨5, σ, rfl, hpost, by rw [ht]; exact hP, va_K.moved hW.alike hK, hD⟩, hS.F ht⟩) hS.2.2 dX9_nameNow_99
          · skip
            have ic79 := zneq (a := v76.toInt) (b := 0) rfl (by decide) c79
            refine lv_iconst (v := 4) hx hb dX9_nameNow_82 (by decide) ?_
            have heq9 : σ = σ := rfl
            have hpost : σ = σ ∧ ((4 : Int32).toInt = -4 ∨ 0 ≤ (4 : Int32).toInt) := by refine ⟨heq9, ?_⟩; decide
            exact W.iret (v := 4) hx hb hr (fun t9 ht hW => ⟨⟨4, σ, rfl, hpost, by rw [ht]; exact hP, va_K.moved hW.alike hK, hD⟩, hS.F ht⟩) hS.2.2 dX9_nameNow_83
        · skip
          have ic62 := zneq (a := v59.toInt) (b := 0) rfl (by decide) c62
          refine lv_iconst (v := 3) hx hb dX9_nameNow_65 (by decide) ?_
          have heq9 : σ = σ := rfl
          have hpost : σ = σ ∧ ((3 : Int32).toInt = -4 ∨ 0 ≤ (3 : Int32).toInt) := by refine ⟨heq9, ?_⟩; decide
          exact W.iret (v := 3) hx hb hr (fun t9 ht hW => ⟨⟨3, σ, rfl, hpost, by rw [ht]; exact hP, va_K.moved hW.alike hK, hD⟩, hS.F ht⟩) hS.2.2 dX9_nameNow_66
      · skip
        have ic46 := zneq (a := v43.toInt) (b := 0) rfl (by decide) c46
        refine lv_iconst (v := 2) hx hb dX9_nameNow_49 (by decide) ?_
        have heq9 : σ = σ := rfl
        have hpost : σ = σ ∧ ((2 : Int32).toInt = -4 ∨ 0 ≤ (2 : Int32).toInt) := by refine ⟨heq9, ?_⟩; decide
        exact W.iret (v := 2) hx hb hr (fun t9 ht hW => ⟨⟨2, σ, rfl, hpost, by rw [ht]; exact hP, va_K.moved hW.alike hK, hD⟩, hS.F ht⟩) hS.2.2 dX9_nameNow_50
    · skip
      have ic29 := zneq (a := v26.toInt) (b := 0) rfl (by decide) c29
      refine lv_iconst (v := 1) hx hb dX9_nameNow_32 (by decide) ?_
      have heq9 : σ = σ := rfl
      have hpost : σ = σ ∧ ((1 : Int32).toInt = -4 ∨ 0 ≤ (1 : Int32).toInt) := by refine ⟨heq9, ?_⟩; decide
      exact W.iret (v := 1) hx hb hr (fun t9 ht hW => ⟨⟨1, σ, rfl, hpost, by rw [ht]; exact hP, va_K.moved hW.alike hK, hD⟩, hS.F ht⟩) hS.2.2 dX9_nameNow_33
  · skip
    have ic12 := zneq (a := v9.toInt) (b := 0) rfl (by decide) c12
    refine lv_iconst (v := 0) hx hb dX9_nameNow_15 (by decide) ?_
    have heq9 : σ = σ := rfl
    have hpost : σ = σ ∧ ((0 : Int32).toInt = -4 ∨ 0 ≤ (0 : Int32).toInt) := by refine ⟨heq9, ?_⟩; decide
    exact W.iret (v := 0) hx hb hr (fun t9 ht hW => ⟨⟨0, σ, rfl, hpost, by rw [ht]; exact hP, va_K.moved hW.alike hK, hD⟩, hS.F ht⟩) hS.2.2 dX9_nameNow_16

abbrev RM_X9_wayOf : Room := { frames := 0, cells := 0, slots := 0, locals := 0 }
set_option maxHeartbeats 4000000 in
set_option maxRecDepth 100000 in
theorem c_X9_wayOf (l : Launch) (dC : Nat → ClassId) (dI : Nat → Nat → Nat) (cI : ClassId) (a : Nat → Nat) (N : (Nat → Prop) → State → Prop) (hok : zNok N) (σ : Cn) (sz : Nat) (x0 : Int32)  : Met l yX9_wayOf wsX9_wayOf RM_X9_wayOf (zPc (dC, dI) [(cI, .int)] N (wM a cI) σ sz [.int x0]) (zQi (dC, dI) [(cI, .int)] (wM a cI) (va_A (wM a cI σ) sz) (fun (r : Int32) (σ1 : Cn) => σ1 = σ ∧ True)) 0 0 (va_A (wM a cI σ) sz) := by
  refine Met.ofW (cc := cX9_wayOf) (maxL := 1) (ret := (some .int)) (by decide) rfl ?_
  intro p e s m args below meth c s₁ B hml hv
  obtain ⟨rfl, hsz, hP, hK, hD0, hN⟩ := hv
  have hx := B.exec
  have hb := B.bytes
  have hr := B.returns
  have hts := atoms_spec (ws := wsX9_wayOf) B.pre
  have hown : s.vm.findClass RX9 = some m.cls := findClass_of_methodNamed B.named
  have hlocks := B.notSynchronized
  subst hsz
  have hD := hD0.self (sz := s.heap.size)
  generalize hAe : va_A (wM a cI σ) s.heap.size = A at hD hN ⊢
  have hA : ∀ q : Nat, s.heap.size ≤ q → A q := fun q h => by rw [← hAe]; exact Or.inr h
  clear hAe hD0
  have hS : va_S A s.heap s.heap [] := va_S.rf
  have hl := lv_entry ([.int x0]) (n := 1) (Nat.le_of_ble_eq_true rfl)
  rw [lg_entry_eq]
  generalize (lg_sl ([.int x0]) ++ List.replicate (1 - (lg_sl ([.int x0])).length) Slot.unset).toArray = ls at hl ⊢
  have hl : lv_has ls 1 [(0, .int x0)] := hl
  suffices main : ∀ (H : Heap) (locs : List Loc), va_P (dC, dI) vwCl (wM a cI σ) H → va_D A (wM a cI σ) → va_S A s.heap H locs → W p l e (headSpec wsX9_wayOf RM_X9_wayOf).room s m ([.int x0] : List Value).toArray below meth c H locs 0 0 (MQ below (zQi (dC, dI) [(cI, .int)] (wM a cI) A (fun (r : Int32) (σ1 : Cn) => σ1 = σ ∧ True)) ([.int x0] : List Value).toArray s 0 0 A) (F0 m 0 ls []) from main s.heap [] hP hD hS
  intro H locs hP hD hS
  refine lv_iload_n hx hb dX9_wayOf_0 rfl (lv_at hl 0 rfl) ?_
  refine lv_bipush (v := 7) hx hb dX9_wayOf_1 (by decide) ?_
  refine lv_icmp_ne (tgt := 10) hx hb dX9_wayOf_3 (by decide) (fun c3 => ?_) (fun c3 => ?_)
  · skip
    have ic3 := zneq (a := x0.toInt) (b := 7) rfl (by decide) c3
    refine lv_iload_n hx hb dX9_wayOf_10 rfl (lv_at hl 0 rfl) ?_
    refine lv_iconst (v := 1) hx hb dX9_wayOf_11 (by decide) ?_
    refine lv_icmp_ne (tgt := 19) hx hb dX9_wayOf_12 (by decide) (fun c12 => ?_) (fun c12 => ?_)
    · skip
      have ic12 := zneq (a := x0.toInt) (b := 1) rfl (by decide) c12
      refine lv_iload_n hx hb dX9_wayOf_19 rfl (lv_at hl 0 rfl) ?_
      refine lv_iconst (v := 2) hx hb dX9_wayOf_20 (by decide) ?_
      refine lv_icmp_ne (tgt := 28) hx hb dX9_wayOf_21 (by decide) (fun c21 => ?_) (fun c21 => ?_)
      · skip
        have ic21 := zneq (a := x0.toInt) (b := 2) rfl (by decide) c21
        refine lv_iload_n hx hb dX9_wayOf_28 rfl (lv_at hl 0 rfl) ?_
        refine lv_bipush (v := 8) hx hb dX9_wayOf_29 (by decide) ?_
        refine lv_icmp_ne (tgt := 38) hx hb dX9_wayOf_31 (by decide) (fun c31 => ?_) (fun c31 => ?_)
        · skip
          have ic31 := zneq (a := x0.toInt) (b := 8) rfl (by decide) c31
          refine lv_bipush (v := (-4)) hx hb dX9_wayOf_38 (by decide) ?_
          have hpost : σ = σ ∧ True := by exact ⟨rfl, trivial⟩
          exact W.iret (v := (-4)) hx hb hr (fun t9 ht hW => ⟨⟨(-4), σ, rfl, hpost, by rw [ht]; exact hP, va_K.moved hW.alike hK, hD⟩, hS.F ht⟩) hS.2.2 dX9_wayOf_40
        · skip
          have ic31 := zeq (a := x0.toInt) (b := 8) rfl (by decide) c31
          refine lv_iconst (v := 3) hx hb dX9_wayOf_34 (by decide) ?_
          refine lv_goto (tgt := 40) hx hb dX9_wayOf_35 (by decide) ?_
          have hpost : σ = σ ∧ True := by exact ⟨rfl, trivial⟩
          exact W.iret (v := 3) hx hb hr (fun t9 ht hW => ⟨⟨3, σ, rfl, hpost, by rw [ht]; exact hP, va_K.moved hW.alike hK, hD⟩, hS.F ht⟩) hS.2.2 dX9_wayOf_40
      · skip
        have ic21 := zeq (a := x0.toInt) (b := 2) rfl (by decide) c21
        refine lv_iconst (v := 2) hx hb dX9_wayOf_24 (by decide) ?_
        refine lv_goto (tgt := 40) hx hb dX9_wayOf_25 (by decide) ?_
        have hpost : σ = σ ∧ True := by exact ⟨rfl, trivial⟩
        exact W.iret (v := 2) hx hb hr (fun t9 ht hW => ⟨⟨2, σ, rfl, hpost, by rw [ht]; exact hP, va_K.moved hW.alike hK, hD⟩, hS.F ht⟩) hS.2.2 dX9_wayOf_40
    · skip
      have ic12 := zeq (a := x0.toInt) (b := 1) rfl (by decide) c12
      refine lv_iconst (v := 1) hx hb dX9_wayOf_15 (by decide) ?_
      refine lv_goto (tgt := 40) hx hb dX9_wayOf_16 (by decide) ?_
      have hpost : σ = σ ∧ True := by exact ⟨rfl, trivial⟩
      exact W.iret (v := 1) hx hb hr (fun t9 ht hW => ⟨⟨1, σ, rfl, hpost, by rw [ht]; exact hP, va_K.moved hW.alike hK, hD⟩, hS.F ht⟩) hS.2.2 dX9_wayOf_40
  · skip
    have ic3 := zeq (a := x0.toInt) (b := 7) rfl (by decide) c3
    refine lv_iconst (v := 0) hx hb dX9_wayOf_6 (by decide) ?_
    refine lv_goto (tgt := 40) hx hb dX9_wayOf_7 (by decide) ?_
    have hpost : σ = σ ∧ True := by exact ⟨rfl, trivial⟩
    exact W.iret (v := 0) hx hb hr (fun t9 ht hW => ⟨⟨0, σ, rfl, hpost, by rw [ht]; exact hP, va_K.moved hW.alike hK, hD⟩, hS.F ht⟩) hS.2.2 dX9_wayOf_40

abbrev RM_X9_least : Room := { frames := 0, cells := 0, slots := 0, locals := 0 }
set_option maxHeartbeats 4000000 in
set_option maxRecDepth 100000 in
theorem c_X9_least (l : Launch) (dC : Nat → ClassId) (dI : Nat → Nat → Nat) (cI : ClassId) (a : Nat → Nat) (N : (Nat → Prop) → State → Prop) (hok : zNok N) (σ : Cn) (sz : Nat) (x0 : Int32)  : Met l yX9_least wsX9_least RM_X9_least (zPc (dC, dI) [(cI, .int)] N (wM a cI) σ sz [.int x0]) (zQi (dC, dI) [(cI, .int)] (wM a cI) (va_A (wM a cI σ) sz) (fun (r : Int32) (σ1 : Cn) => σ1 = σ ∧ True)) 0 0 (va_A (wM a cI σ) sz) := by
  refine Met.ofW (cc := cX9_least) (maxL := 1) (ret := (some .int)) (by decide) rfl ?_
  intro p e s m args below meth c s₁ B hml hv
  obtain ⟨rfl, hsz, hP, hK, hD0, hN⟩ := hv
  have hx := B.exec
  have hb := B.bytes
  have hr := B.returns
  have hts := atoms_spec (ws := wsX9_least) B.pre
  have hown : s.vm.findClass RX9 = some m.cls := findClass_of_methodNamed B.named
  have hlocks := B.notSynchronized
  subst hsz
  have hD := hD0.self (sz := s.heap.size)
  generalize hAe : va_A (wM a cI σ) s.heap.size = A at hD hN ⊢
  have hA : ∀ q : Nat, s.heap.size ≤ q → A q := fun q h => by rw [← hAe]; exact Or.inr h
  clear hAe hD0
  have hS : va_S A s.heap s.heap [] := va_S.rf
  have hl := lv_entry ([.int x0]) (n := 1) (Nat.le_of_ble_eq_true rfl)
  rw [lg_entry_eq]
  generalize (lg_sl ([.int x0]) ++ List.replicate (1 - (lg_sl ([.int x0])).length) Slot.unset).toArray = ls at hl ⊢
  have hl : lv_has ls 1 [(0, .int x0)] := hl
  suffices main : ∀ (H : Heap) (locs : List Loc), va_P (dC, dI) vwCl (wM a cI σ) H → va_D A (wM a cI σ) → va_S A s.heap H locs → W p l e (headSpec wsX9_least RM_X9_least).room s m ([.int x0] : List Value).toArray below meth c H locs 0 0 (MQ below (zQi (dC, dI) [(cI, .int)] (wM a cI) A (fun (r : Int32) (σ1 : Cn) => σ1 = σ ∧ True)) ([.int x0] : List Value).toArray s 0 0 A) (F0 m 0 ls []) from main s.heap [] hP hD hS
  intro H locs hP hD hS
  refine lv_iload_n hx hb dX9_least_0 rfl (lv_at hl 0 rfl) ?_
  refine lv_iconst (v := 3) hx hb dX9_least_1 (by decide) ?_
  refine lv_icmp_ne (tgt := 9) hx hb dX9_least_2 (by decide) (fun c2 => ?_) (fun c2 => ?_)
  · skip
    have ic2 := zneq (a := x0.toInt) (b := 3) rfl (by decide) c2
    refine lv_iconst (v := 0) hx hb dX9_least_9 (by decide) ?_
    have hpost : σ = σ ∧ True := by exact ⟨rfl, trivial⟩
    exact W.iret (v := 0) hx hb hr (fun t9 ht hW => ⟨⟨0, σ, rfl, hpost, by rw [ht]; exact hP, va_K.moved hW.alike hK, hD⟩, hS.F ht⟩) hS.2.2 dX9_least_10
  · skip
    have ic2 := zeq (a := x0.toInt) (b := 3) rfl (by decide) c2
    refine lv_iconst (v := 1) hx hb dX9_least_5 (by decide) ?_
    refine lv_goto (tgt := 10) hx hb dX9_least_6 (by decide) ?_
    have hpost : σ = σ ∧ True := by exact ⟨rfl, trivial⟩
    exact W.iret (v := 1) hx hb hr (fun t9 ht hW => ⟨⟨1, σ, rfl, hpost, by rw [ht]; exact hP, va_K.moved hW.alike hK, hD⟩, hS.F ht⟩) hS.2.2 dX9_least_10

abbrev RM_X9_most : Room := { frames := 0, cells := 0, slots := 0, locals := 0 }
set_option maxHeartbeats 4000000 in
set_option maxRecDepth 100000 in
theorem c_X9_most (l : Launch) (dC : Nat → ClassId) (dI : Nat → Nat → Nat) (cI : ClassId) (a : Nat → Nat) (N : (Nat → Prop) → State → Prop) (hok : zNok N) (σ : Cn) (sz : Nat) (x0 : Int32)  : Met l yX9_most wsX9_most RM_X9_most (zPc (dC, dI) [(cI, .int)] N (wM a cI) σ sz [.int x0]) (zQi (dC, dI) [(cI, .int)] (wM a cI) (va_A (wM a cI σ) sz) (fun (r : Int32) (σ1 : Cn) => σ1 = σ ∧ True)) 0 0 (va_A (wM a cI σ) sz) := by
  refine Met.ofW (cc := cX9_most) (maxL := 1) (ret := (some .int)) (by decide) rfl ?_
  intro p e s m args below meth c s₁ B hml hv
  obtain ⟨rfl, hsz, hP, hK, hD0, hN⟩ := hv
  have hx := B.exec
  have hb := B.bytes
  have hr := B.returns
  have hts := atoms_spec (ws := wsX9_most) B.pre
  have hown : s.vm.findClass RX9 = some m.cls := findClass_of_methodNamed B.named
  have hlocks := B.notSynchronized
  subst hsz
  have hD := hD0.self (sz := s.heap.size)
  generalize hAe : va_A (wM a cI σ) s.heap.size = A at hD hN ⊢
  have hA : ∀ q : Nat, s.heap.size ≤ q → A q := fun q h => by rw [← hAe]; exact Or.inr h
  clear hAe hD0
  have hS : va_S A s.heap s.heap [] := va_S.rf
  have hl := lv_entry ([.int x0]) (n := 1) (Nat.le_of_ble_eq_true rfl)
  rw [lg_entry_eq]
  generalize (lg_sl ([.int x0]) ++ List.replicate (1 - (lg_sl ([.int x0])).length) Slot.unset).toArray = ls at hl ⊢
  have hl : lv_has ls 1 [(0, .int x0)] := hl
  suffices main : ∀ (H : Heap) (locs : List Loc), va_P (dC, dI) vwCl (wM a cI σ) H → va_D A (wM a cI σ) → va_S A s.heap H locs → W p l e (headSpec wsX9_most RM_X9_most).room s m ([.int x0] : List Value).toArray below meth c H locs 0 0 (MQ below (zQi (dC, dI) [(cI, .int)] (wM a cI) A (fun (r : Int32) (σ1 : Cn) => σ1 = σ ∧ True)) ([.int x0] : List Value).toArray s 0 0 A) (F0 m 0 ls []) from main s.heap [] hP hD hS
  intro H locs hP hD hS
  refine lv_iload_n hx hb dX9_most_0 rfl (lv_at hl 0 rfl) ?_
  refine lv_if_ne (tgt := 9) hx hb dX9_most_1 (by decide) (fun c1 => ?_) (fun c1 => ?_)
  · skip
    have ic1 := zneq (a := x0.toInt) (b := 0) rfl (by decide) c1
    refine lv_iload_n hx hb dX9_most_9 rfl (lv_at hl 0 rfl) ?_
    refine lv_iconst (v := 2) hx hb dX9_most_10 (by decide) ?_
    refine lv_icmp_ne (tgt := 19) hx hb dX9_most_11 (by decide) (fun c11 => ?_) (fun c11 => ?_)
    · skip
      have ic11 := zneq (a := x0.toInt) (b := 2) rfl (by decide) c11
      refine lv_iload_n hx hb dX9_most_19 rfl (lv_at hl 0 rfl) ?_
      refine lv_iconst (v := 3) hx hb dX9_most_20 (by decide) ?_
      refine lv_icmp_ne (tgt := 30) hx hb dX9_most_21 (by decide) (fun c21 => ?_) (fun c21 => ?_)
      · skip
        have ic21 := zneq (a := x0.toInt) (b := 3) rfl (by decide) c21
        refine lv_sipush (v := 1000) hx hb dX9_most_30 (by decide) ?_
        have hpost : σ = σ ∧ True := by exact ⟨rfl, trivial⟩
        exact W.iret (v := 1000) hx hb hr (fun t9 ht hW => ⟨⟨1000, σ, rfl, hpost, by rw [ht]; exact hP, va_K.moved hW.alike hK, hD⟩, hS.F ht⟩) hS.2.2 dX9_most_33
      · skip
        have ic21 := zeq (a := x0.toInt) (b := 3) rfl (by decide) c21
        refine lv_sipush (v := 200) hx hb dX9_most_24 (by decide) ?_
        refine lv_goto (tgt := 33) hx hb dX9_most_27 (by decide) ?_
        have hpost : σ = σ ∧ True := by exact ⟨rfl, trivial⟩
        exact W.iret (v := 200) hx hb hr (fun t9 ht hW => ⟨⟨200, σ, rfl, hpost, by rw [ht]; exact hP, va_K.moved hW.alike hK, hD⟩, hS.F ht⟩) hS.2.2 dX9_most_33
    · skip
      have ic11 := zeq (a := x0.toInt) (b := 2) rfl (by decide) c11
      refine lv_bipush (v := 100) hx hb dX9_most_14 (by decide) ?_
      refine lv_goto (tgt := 33) hx hb dX9_most_16 (by decide) ?_
      have hpost : σ = σ ∧ True := by exact ⟨rfl, trivial⟩
      exact W.iret (v := 100) hx hb hr (fun t9 ht hW => ⟨⟨100, σ, rfl, hpost, by rw [ht]; exact hP, va_K.moved hW.alike hK, hD⟩, hS.F ht⟩) hS.2.2 dX9_most_33
  · skip
    have ic1 := zeq (a := x0.toInt) (b := 0) rfl (by decide) c1
    refine lv_bipush (v := 99) hx hb dX9_most_4 (by decide) ?_
    refine lv_goto (tgt := 33) hx hb dX9_most_6 (by decide) ?_
    have hpost : σ = σ ∧ True := by exact ⟨rfl, trivial⟩
    exact W.iret (v := 99) hx hb hr (fun t9 ht hW => ⟨⟨99, σ, rfl, hpost, by rw [ht]; exact hP, va_K.moved hW.alike hK, hD⟩, hS.F ht⟩) hS.2.2 dX9_most_33

abbrev RM_X9_wants : Room := { frames := 1, cells := 0, slots := 0, locals := 21 }
set_option maxHeartbeats 4000000 in
set_option maxRecDepth 100000 in
theorem c_X9_wants (l : Launch) (dC : Nat → ClassId) (dI : Nat → Nat → Nat) (cI : ClassId) (a : Nat → Nat) (N : (Nat → Prop) → State → Prop) (hok : zNok N) (σ : Cn) (sz : Nat) (x1 : Int32) (x2 : Int32)  : Met l yX9_wants wsX9_wants RM_X9_wants (zPc (dC, dI) [(cI, .int)] N (wM a cI) σ sz [.ref (a 0), .int x1, .int x2]) (zQv (dC, dI) [(cI, .int)] (wM a cI) (va_A (wM a cI σ) sz) (fun (σ1 : Cn) => ∃ n6 : Int32, ∃ n7 : Int32, σ1 = (upC σ 0 (upd (upd (σ 0) 6 n6) 7 n7)) ∧ ((¬ x1.toInt = 0 ∧ n6 = σ 0 6) ∨ (x1.toInt = 0 ∧ (σ 0 6).toInt = 0 ∧ n6 = x2) ∨ (x1.toInt = 0 ∧ ¬ (σ 0 6).toInt = 0 ∧ n6 = σ 0 6)))) 0 0 (va_A (wM a cI σ) sz) := by
  refine Met.ofW (cc := cX9_wants) (maxL := 3) (ret := none) (by decide) rfl ?_
  intro p e s m args below meth c s₁ B hml hv
  obtain ⟨rfl, hsz, hP, hK, hD0, hN⟩ := hv
  have hx := B.exec
  have hb := B.bytes
  have hr := B.returns
  have hts := atoms_spec (ws := wsX9_wants) B.pre
  have hown : s.vm.findClass RX9 = some m.cls := findClass_of_methodNamed B.named
  have hlocks := B.notSynchronized
  subst hsz
  have hD := hD0.self (sz := s.heap.size)
  generalize hAe : va_A (wM a cI σ) s.heap.size = A at hD hN ⊢
  have hA : ∀ q : Nat, s.heap.size ≤ q → A q := fun q h => by rw [← hAe]; exact Or.inr h
  clear hAe hD0
  have hS : va_S A s.heap s.heap [] := va_S.rf
  have hl := lv_entry ([.ref (a 0), .int x1, .int x2]) (n := 3) (Nat.le_of_ble_eq_true rfl)
  rw [lg_entry_eq]
  generalize (lg_sl ([.ref (a 0), .int x1, .int x2]) ++ List.replicate (3 - (lg_sl ([.ref (a 0), .int x1, .int x2])).length) Slot.unset).toArray = ls at hl ⊢
  have hl : lv_has ls 3 [(0, .ref (a 0)), (1, .int x1), (2, .int x2)] := hl
  suffices main : ∀ (H : Heap) (locs : List Loc), va_P (dC, dI) vwCl (wM a cI σ) H → va_D A (wM a cI σ) → va_S A s.heap H locs → W p l e (headSpec wsX9_wants RM_X9_wants).room s m ([.ref (a 0), .int x1, .int x2] : List Value).toArray below meth c H locs 0 0 (MQ below (zQv (dC, dI) [(cI, .int)] (wM a cI) A (fun (σ1 : Cn) => ∃ n6 : Int32, ∃ n7 : Int32, σ1 = (upC σ 0 (upd (upd (σ 0) 6 n6) 7 n7)) ∧ ((¬ x1.toInt = 0 ∧ n6 = σ 0 6) ∨ (x1.toInt = 0 ∧ (σ 0 6).toInt = 0 ∧ n6 = x2) ∨ (x1.toInt = 0 ∧ ¬ (σ 0 6).toInt = 0 ∧ n6 = σ 0 6)))) ([.ref (a 0), .int x1, .int x2] : List Value).toArray s 0 0 A) (F0 m 0 ls []) from main s.heap [] hP hD hS
  intro H locs hP hD hS
  refine lv_iload_n hx hb dX9_wants_0 rfl (lv_at hl 1 rfl) ?_
  refine lv_if_ne (tgt := 9) hx hb dX9_wants_1 (by decide) (fun c1 => ?_) (fun c1 => ?_)
  · skip
    have ic1 := zneq (a := x1.toInt) (b := 0) rfl (by decide) c1
    have heq9 : σ = (upC σ 0 (upd (upd (σ 0) 6 (σ 0 6)) 7 (σ 0 7))) := by
      funext k
      by_cases e0 : k = 0
      · subst e0
        funext i
        by_cases f6 : i = 6
        · subst f6; rfl
        by_cases f7 : i = 7
        · subst f7; rfl
        show (σ 0) i = (upd (upd (σ 0) 6 (σ 0 6)) 7 (σ 0 7)) i
        simp only [upd, if_neg f6, if_neg f7]
      simp only [upC, if_neg e0]
    have hpost : ∃ n6 : Int32, ∃ n7 : Int32, σ = (upC σ 0 (upd (upd (σ 0) 6 n6) 7 n7)) ∧ ((¬ x1.toInt = 0 ∧ n6 = σ 0 6) ∨ (x1.toInt = 0 ∧ (σ 0 6).toInt = 0 ∧ n6 = x2) ∨ (x1.toInt = 0 ∧ ¬ (σ 0 6).toInt = 0 ∧ n6 = σ 0 6)) := by refine ⟨(σ 0 6), (σ 0 7), heq9, ?_⟩; first | exact Or.inl ⟨by omega, rfl⟩ | (rcases hv6 with q | q; exact Or.inr (Or.inl ⟨by omega, q⟩); exact Or.inr (Or.inr ⟨by omega, q⟩))
    exact W.vret hx hb hr (fun t9 ht hW => ⟨⟨σ, rfl, hpost, by rw [ht]; exact hP, va_K.moved hW.alike hK, hD⟩, hS.F ht⟩) hS.2.2 dX9_wants_9
  · skip
    have ic1 := zeq (a := x1.toInt) (b := 0) rfl (by decide) c1
    refine lv_aload_n hx hb dX9_wants_4 rfl (lv_at hl 0 rfl) ?_
    refine lv_iload_n hx hb dX9_wants_5 rfl (lv_at hl 2 rfl) ?_
    refine zcallv (va_runV (As := [.int x2]) (rest := []) ⟨hx, hb, hml, hown, hts⟩ (c_X9_fails l dC dI cI a N hok σ H.size (x2) ) (cwV 1 hts gX9_wants_X9_fails rfl rfl rfl (by decide +kernel) ⟨Nat.le_of_ble_eq_true rfl, Nat.le_of_ble_eq_true rfl⟩) (zpreV (wf := wM a cI) (q0 := 0) (ci := 9) hok hN hS hA hK hP hD rfl rfl) rfl rfl hl.1 rfl (lv_room (Nat.le_of_ble_eq_true rfl)) dX9_wants_6 ⟨Nat.zero_le _, Nat.zero_le _⟩) hD hS hA (fun σ1 H locs hv6 hP hD hS => ?_)
    obtain ⟨n6_6, n7_6, es9, hv6⟩ := hv6
    subst σ1
    have hP : va_P (dC, dI) vwCl (wM a cI (upC σ 0 (upd (upd (σ 0) 6 n6_6) 7 n7_6))) H := hP
    have hD : va_D A (wM a cI (upC σ 0 (upd (upd (σ 0) 6 n6_6) 7 n7_6))) := hD
    have heq9 : (upC σ 0 (upd (upd (σ 0) 6 n6_6) 7 n7_6)) = (upC σ 0 (upd (upd (σ 0) 6 n6_6) 7 n7_6)) := rfl
    have hpost : ∃ n6 : Int32, ∃ n7 : Int32, (upC σ 0 (upd (upd (σ 0) 6 n6_6) 7 n7_6)) = (upC σ 0 (upd (upd (σ 0) 6 n6) 7 n7)) ∧ ((¬ x1.toInt = 0 ∧ n6 = σ 0 6) ∨ (x1.toInt = 0 ∧ (σ 0 6).toInt = 0 ∧ n6 = x2) ∨ (x1.toInt = 0 ∧ ¬ (σ 0 6).toInt = 0 ∧ n6 = σ 0 6)) := by refine ⟨(n6_6), (n7_6), heq9, ?_⟩; first | exact Or.inl ⟨by omega, rfl⟩ | (rcases hv6 with q | q; exact Or.inr (Or.inl ⟨by omega, q⟩); exact Or.inr (Or.inr ⟨by omega, q⟩))
    exact W.vret hx hb hr (fun t9 ht hW => ⟨⟨(upC σ 0 (upd (upd (σ 0) 6 n6_6) 7 n7_6)), rfl, hpost, by rw [ht]; exact hP, va_K.moved hW.alike hK, hD⟩, hS.F ht⟩) hS.2.2 dX9_wants_9

abbrev RM_X9_next : Room := { frames := 3, cells := 0, slots := 0, locals := 66 }
set_option maxHeartbeats 4000000 in
set_option maxRecDepth 100000 in
theorem c_X9_next (l : Launch) (dC : Nat → ClassId) (dI : Nat → Nat → Nat) (cI : ClassId) (a : Nat → Nat) (N : (Nat → Prop) → State → Prop) (hok : zNok N) (σ : Cn) (sz : Nat)  (h3 : 0 ≤ (σ 0 1).toInt ∧ (σ 0 1).toInt ≤ 160) (ha : 0 ≤ (σ 0 2).toInt ∧ (σ 0 2).toInt ≤ 160) (hx0 : 0 ≤ (σ 0 6).toInt) : Met l yX9_next wsX9_next RM_X9_next (zPc (dC, dI) [(cI, .int)] N (wM a cI) σ sz [.ref (a 0)]) (zQv (dC, dI) [(cI, .int)] (wM a cI) (va_A (wM a cI σ) sz) (fun (σ1 : Cn) => ∃ n2 : Int32, ∃ n3 : Int32, ∃ n4 : Int32, ∃ n5 : Int32, ∃ n6 : Int32, ∃ n7 : Int32, σ1 = (upC σ 0 (upd (upd (upd (upd (upd (upd (σ 0) 2 n2) 3 n3) 4 n4) 5 n5) 6 n6) 7 n7)) ∧ (0 ≤ n3.toInt ∧ n3.toInt ≤ 160) ∧ ((σ 0 2).toInt ≤ n2.toInt ∧ n2.toInt ≤ 160) ∧ 0 ≤ n6.toInt ∧ (n6.toInt = 0 → (σ 0 6).toInt = 0) ∧ (n6.toInt = 0 → ¬ n4.toInt = 0 → (σ 0 2).toInt < n2.toInt) ∧ (n6.toInt = 0 → n4.toInt = 1 → 0 ≤ n5.toInt))) 0 0 (va_A (wM a cI σ) sz) := by
  refine Met.ofW (cc := cX9_next) (maxL := 2) (ret := none) (by decide) rfl ?_
  intro p e s m args below meth c s₁ B hml hv
  obtain ⟨rfl, hsz, hP, hK, hD0, hN⟩ := hv
  have hx := B.exec
  have hb := B.bytes
  have hr := B.returns
  have hts := atoms_spec (ws := wsX9_next) B.pre
  have hown : s.vm.findClass RX9 = some m.cls := findClass_of_methodNamed B.named
  have hlocks := B.notSynchronized
  subst hsz
  have hD := hD0.self (sz := s.heap.size)
  generalize hAe : va_A (wM a cI σ) s.heap.size = A at hD hN ⊢
  have hA : ∀ q : Nat, s.heap.size ≤ q → A q := fun q h => by rw [← hAe]; exact Or.inr h
  clear hAe hD0
  have hS : va_S A s.heap s.heap [] := va_S.rf
  have in9 : ∀ w ∈ u_ws RX9 TX9 28, w ∈ wsX9_next := by decide +kernel
  have k102 := hts (.fieldLink RX9 102 "HouseSortedModel" "value" "I") (by decide +kernel)
  have k74 := hts (.fieldLink RX9 74 "HouseSortedModel" "from" "I") (by decide +kernel)
  have k80 := hts (.fieldLink RX9 80 "HouseSortedModel" "at" "I") (by decide +kernel)
  have k91 := hts (.fieldLink RX9 91 "HouseSortedModel" "sort" "I") (by decide +kernel)
  have kq109 := hts (.constantLong RX9 109 (48)) (by decide +kernel)
  have kq111 := hts (.constantLong RX9 111 (57)) (by decide +kernel)
  have kq94 := hts (.constantLong RX9 94 (97)) (by decide +kernel)
  have kq96 := hts (.constantLong RX9 96 (122)) (by decide +kernel)
  have LP : ∀ n : Nat, (∀ (m2 : Int32) (H : Heap) (locs : List Loc) (ls : Array Slot), (σ 0 2).toInt ≤ m2.toInt ∧ m2.toInt ≤ 160 → (1000 + (160 - m2.toInt).toNat) < n → va_P (dC, dI) vwCl (wM a cI (upC σ 0 (upd (σ 0) 2 m2))) H → va_D A (wM a cI (upC σ 0 (upd (σ 0) 2 m2))) → va_S A s.heap H locs → lv_has ls 2 [(0, .ref (a 0))] → W p l e (headSpec wsX9_next RM_X9_next).room s m ([.ref (a 0)] : List Value).toArray below meth c H locs 0 0 (MQ below (zQv (dC, dI) [(cI, .int)] (wM a cI) A (fun (σ1 : Cn) => ∃ n2 : Int32, ∃ n3 : Int32, ∃ n4 : Int32, ∃ n5 : Int32, ∃ n6 : Int32, ∃ n7 : Int32, σ1 = (upC σ 0 (upd (upd (upd (upd (upd (upd (σ 0) 2 n2) 3 n3) 4 n4) 5 n5) 6 n6) 7 n7)) ∧ (0 ≤ n3.toInt ∧ n3.toInt ≤ 160) ∧ ((σ 0 2).toInt ≤ n2.toInt ∧ n2.toInt ≤ 160) ∧ 0 ≤ n6.toInt ∧ (n6.toInt = 0 → (σ 0 6).toInt = 0) ∧ (n6.toInt = 0 → ¬ n4.toInt = 0 → (σ 0 2).toInt < n2.toInt) ∧ (n6.toInt = 0 → n4.toInt = 1 → 0 ≤ n5.toInt))) ([.ref (a 0)] : List Value).toArray s 0 0 A) (F0 m 0 ls [])) ∧ (∀ (c1 : Int32) (m2 : Int32) (m3 : Int32) (m4 : Int32) (H : Heap) (locs : List Loc) (ls : Array Slot), (σ 0 2).toInt ≤ m3.toInt ∧ m3.toInt ≤ m2.toInt ∧ m2.toInt ≤ 160 → (m3.toInt < m2.toInt ∨ (m2.toInt < (σ 0 1).toInt ∧ 97 ≤ (σ 1 m2.toNatClampNeg).toInt ∧ (σ 1 m2.toNatClampNeg).toInt ≤ 122)) → m4.toInt = 1 → (160 - m2.toInt).toNat < n → va_P (dC, dI) vwCl (wM a cI (upC σ 0 (upd (upd (upd (σ 0) 2 m2) 3 m3) 4 m4))) H → va_D A (wM a cI (upC σ 0 (upd (upd (upd (σ 0) 2 m2) 3 m3) 4 m4))) → va_S A s.heap H locs → lv_has ls 2 [(0, .ref (a 0)), (1, .int c1)] → W p l e (headSpec wsX9_next RM_X9_next).room s m ([.ref (a 0)] : List Value).toArray below meth c H locs 0 0 (MQ below (zQv (dC, dI) [(cI, .int)] (wM a cI) A (fun (σ1 : Cn) => ∃ n2 : Int32, ∃ n3 : Int32, ∃ n4 : Int32, ∃ n5 : Int32, ∃ n6 : Int32, ∃ n7 : Int32, σ1 = (upC σ 0 (upd (upd (upd (upd (upd (upd (σ 0) 2 n2) 3 n3) 4 n4) 5 n5) 6 n6) 7 n7)) ∧ (0 ≤ n3.toInt ∧ n3.toInt ≤ 160) ∧ ((σ 0 2).toInt ≤ n2.toInt ∧ n2.toInt ≤ 160) ∧ 0 ≤ n6.toInt ∧ (n6.toInt = 0 → (σ 0 6).toInt = 0) ∧ (n6.toInt = 0 → ¬ n4.toInt = 0 → (σ 0 2).toInt < n2.toInt) ∧ (n6.toInt = 0 → n4.toInt = 1 → 0 ≤ n5.toInt))) ([.ref (a 0)] : List Value).toArray s 0 0 A) (F0 m 74 ls [])) ∧ (∀ (c1 : Int32) (m2 : Int32) (m3 : Int32) (m4 : Int32) (m5 : Int32) (H : Heap) (locs : List Loc) (ls : Array Slot), (σ 0 2).toInt ≤ m3.toInt ∧ m3.toInt ≤ m2.toInt ∧ m2.toInt ≤ 160 → (m3.toInt < m2.toInt ∨ (m2.toInt < (σ 0 1).toInt ∧ 48 ≤ (σ 1 m2.toNatClampNeg).toInt ∧ (σ 1 m2.toNatClampNeg).toInt ≤ 57)) → m4.toInt = 2 → (160 - m2.toInt).toNat < n → va_P (dC, dI) vwCl (wM a cI (upC σ 0 (upd (upd (upd (upd (σ 0) 2 m2) 3 m3) 4 m4) 5 m5))) H → va_D A (wM a cI (upC σ 0 (upd (upd (upd (upd (σ 0) 2 m2) 3 m3) 4 m4) 5 m5))) → va_S A s.heap H locs → lv_has ls 2 [(0, .ref (a 0)), (1, .int c1)] → W p l e (headSpec wsX9_next RM_X9_next).room s m ([.ref (a 0)] : List Value).toArray below meth c H locs 0 0 (MQ below (zQv (dC, dI) [(cI, .int)] (wM a cI) A (fun (σ1 : Cn) => ∃ n2 : Int32, ∃ n3 : Int32, ∃ n4 : Int32, ∃ n5 : Int32, ∃ n6 : Int32, ∃ n7 : Int32, σ1 = (upC σ 0 (upd (upd (upd (upd (upd (upd (σ 0) 2 n2) 3 n3) 4 n4) 5 n5) 6 n6) 7 n7)) ∧ (0 ≤ n3.toInt ∧ n3.toInt ≤ 160) ∧ ((σ 0 2).toInt ≤ n2.toInt ∧ n2.toInt ≤ 160) ∧ 0 ≤ n6.toInt ∧ (n6.toInt = 0 → (σ 0 6).toInt = 0) ∧ (n6.toInt = 0 → ¬ n4.toInt = 0 → (σ 0 2).toInt < n2.toInt) ∧ (n6.toInt = 0 → n4.toInt = 1 → 0 ≤ n5.toInt))) ([.ref (a 0)] : List Value).toArray s 0 0 A) (F0 m 157 ls [])) := by
    intro n
    induction n with
    | zero => exact ⟨(by intros; omega), (by intros; omega), (by intros; omega)⟩
    | succ n ih =>
      refine ⟨?_, ?_, ?_⟩
      · intro m2 H locs ls g1 hmu hP hD hS hl
        refine lv_aload_n hx hb dX9_next_0 rfl (lv_at hl 0 rfl) ?_
        refine lv_aload_n hx hb dX9_next_1 rfl (lv_at hl 0 rfl) ?_
        refine va_get (D := (dC, dI)) (ci := 9) (v := .int m2) (C := RX9) (T := TX9) (N := 28) hx hb hts in9 hown hK hP 0 rfl rfl 2 (by decide) k80 (fun _ h9 => h9) rfl dX9_next_2 ?_
        refine zcalli (va_runV (As := [.int m2]) (rest := []) ⟨hx, hb, hml, hown, hts⟩ (c_X9_byteAt l dC dI cI a N hok (upC σ 0 (upd (σ 0) 2 m2)) H.size (m2) h3 (by omega)) (cwV 1 hts gX9_next_X9_byteAt rfl rfl rfl (by decide +kernel) ⟨Nat.le_of_ble_eq_true rfl, Nat.le_of_ble_eq_true rfl⟩) (zpreV (wf := wM a cI) (q0 := 0) (ci := 9) hok hN hS hA hK hP hD rfl rfl) rfl rfl hl.1 rfl (lv_room (Nat.le_of_ble_eq_true rfl)) dX9_next_5 ⟨Nat.zero_le _, Nat.zero_le _⟩) hD hS hA (fun v5 σ1 H locs hv5 hP hD hS => ?_)
        obtain ⟨es9, hv5⟩ := hv5
        subst σ1
        replace hv5 : (((m2 : Int32).toInt < ((σ 0 1)).toInt ∧ (v5 : Int32).toInt = ((σ 1) (m2 : Int32).toNatClampNeg).toInt) ∨ (((σ 0 1)).toInt ≤ (m2 : Int32).toInt ∧ (v5 : Int32).toInt = -1)) := hv5
        refine lv_bipush (v := 32) hx hb dX9_next_8 (by decide) ?_
        refine lv_icmp_ne (tgt := 26) hx hb dX9_next_10 (by decide) (fun c10 => ?_) (fun c10 => ?_)
        · skip
          have ic10 := zneq (a := v5.toInt) (b := 32) rfl (by decide) c10
          refine lv_aload_n hx hb dX9_next_26 rfl (lv_at hl 0 rfl) ?_
          refine lv_aload_n hx hb dX9_next_27 rfl (lv_at hl 0 rfl) ?_
          refine va_get (D := (dC, dI)) (ci := 9) (v := .int m2) (C := RX9) (T := TX9) (N := 28) hx hb hts in9 hown hK hP 0 rfl rfl 2 (by decide) k80 (fun _ h9 => h9) rfl dX9_next_28 ?_
          refine va_put (D := (dC, dI)) (ci := 9) (v := .int m2) (ty := .int) (C := RX9) (T := TX9) (N := 28) hx hb hts in9 tyX9 tyX9_ok nmX9 hown hK hP hD hS 0 rfl rfl 3 (by decide) k74 (fun _ h9 => h9) rfl (by decide +kernel) rfl rfl (Nat.le_of_ble_eq_true rfl) dX9_next_31 (fun H locs hP hD hS => ?_)
          have hP : va_P (dC, dI) vwCl (wM a cI (upC σ 0 (upd (upd (σ 0) 2 m2) 3 m2))) H := hP
          have hD : va_D A (wM a cI (upC σ 0 (upd (upd (σ 0) 2 m2) 3 m2))) := hD
          refine lv_aload_n hx hb dX9_next_34 rfl (lv_at hl 0 rfl) ?_
          refine lv_aload_n hx hb dX9_next_35 rfl (lv_at hl 0 rfl) ?_
          refine va_get (D := (dC, dI)) (ci := 9) (v := .int m2) (C := RX9) (T := TX9) (N := 28) hx hb hts in9 hown hK hP 0 rfl rfl 2 (by decide) k80 (fun _ h9 => h9) rfl dX9_next_36 ?_
          refine zcalli (va_runV (As := [.int m2]) (rest := []) ⟨hx, hb, hml, hown, hts⟩ (c_X9_byteAt l dC dI cI a N hok (upC σ 0 (upd (upd (σ 0) 2 m2) 3 m2)) H.size (m2) h3 (by omega)) (cwV 1 hts gX9_next_X9_byteAt rfl rfl rfl (by decide +kernel) ⟨Nat.le_of_ble_eq_true rfl, Nat.le_of_ble_eq_true rfl⟩) (zpreV (wf := wM a cI) (q0 := 0) (ci := 9) hok hN hS hA hK hP hD rfl rfl) rfl rfl hl.1 rfl (lv_room (Nat.le_of_ble_eq_true rfl)) dX9_next_39 ⟨Nat.zero_le _, Nat.zero_le _⟩) hD hS hA (fun v39 σ1 H locs hv39 hP hD hS => ?_)
          obtain ⟨es9, hv39⟩ := hv39
          subst σ1
          replace hv39 : (((m2 : Int32).toInt < ((σ 0 1)).toInt ∧ (v39 : Int32).toInt = ((σ 1) (m2 : Int32).toNatClampNeg).toInt) ∨ (((σ 0 1)).toInt ≤ (m2 : Int32).toInt ∧ (v39 : Int32).toInt = -1)) := hv39
          refine lv_istore_n (lv' := [(1, .int v39), (0, .ref (a 0))]) hx hb dX9_next_42 rfl hl (by decide) rfl (fun ls hl => ?_)
          refine lv_iload_n hx hb dX9_next_43 rfl (lv_at hl 0 rfl) ?_
          refine lv_if_ge (tgt := 55) hx hb dX9_next_44 (by decide) (fun c44 => ?_) (fun c44 => ?_)
          · skip
            have ic44 := zle (a := 0) (b := v39.toInt) (by decide) rfl c44
            refine lv_iload_n hx hb dX9_next_55 rfl (lv_at hl 0 rfl) ?_
            refine lv_i2l hx hb dX9_next_56 rfl ?_
            refine lv_topl (fun v56 ev56 => ?_)
            have tv56 : v56.toInt = v39.toInt := by rw [ev56]; exact zi2l rfl
            refine lv_ldc2 hx hb hown kq94 dX9_next_57 ?_
            refine lv_ldc2 hx hb hown kq96 dX9_next_60 ?_
            refine zcalli (va_runS (As := [.long v56, .long 97, .long 122]) (rest := []) ⟨hx, hb, hml, hown, hts⟩ (c_X9_in l dC dI cI a N hok (upC σ 0 (upd (upd (σ 0) 2 m2) 3 m2)) H.size (v56) (97) (122) ) (va_cwS 3 hts gX9_next_X9_in rfl rfl rfl (by decide +kernel) ⟨Nat.le_of_ble_eq_true rfl, Nat.le_of_ble_eq_true rfl⟩) (zpreS (wf := wM a cI) hok hN hS hA hK hP hD) rfl rfl hl.1 rfl (lv_room (Nat.le_of_ble_eq_true rfl)) dX9_next_63 ⟨Nat.zero_le _, Nat.zero_le _⟩) hD hS hA (fun v63 σ1 H locs hv63 hP hD hS => ?_)
            obtain ⟨es9, hv63⟩ := hv63
            subst σ1
            replace hv63 : ((v63 : Int32).toInt = 1 ∧ (97 : Int64).toInt ≤ (v56 : Int64).toInt ∧ (v56 : Int64).toInt ≤ (122 : Int64).toInt ∨ (v63 : Int32).toInt = 0 ∧ ¬ ((97 : Int64).toInt ≤ (v56 : Int64).toInt ∧ (v56 : Int64).toInt ≤ (122 : Int64).toInt)) := hv63
            try simp only [show (122 : Int64).toInt = 122 from by decide, show (97 : Int64).toInt = 97 from by decide] at hv63
            refine lv_if_eq (tgt := 133) hx hb dX9_next_66 (by decide) (fun c66 => ?_) (fun c66 => ?_)
            · skip
              have ic66 := zeq (a := v63.toInt) (b := 0) rfl (by decide) c66
              replace hv63 := (hv63.resolve_left (fun q => by omega)).2
              refine lv_iload_n hx hb dX9_next_133 rfl (lv_at hl 0 rfl) ?_
              refine lv_i2l hx hb dX9_next_134 rfl ?_
              refine lv_topl (fun v134 ev134 => ?_)
              have tv134 : v134.toInt = v39.toInt := by rw [ev134]; exact zi2l rfl
              refine lv_ldc2 hx hb hown kq109 dX9_next_135 ?_
              refine lv_ldc2 hx hb hown kq111 dX9_next_138 ?_
              refine zcalli (va_runS (As := [.long v134, .long 48, .long 57]) (rest := []) ⟨hx, hb, hml, hown, hts⟩ (c_X9_in l dC dI cI a N hok (upC σ 0 (upd (upd (σ 0) 2 m2) 3 m2)) H.size (v134) (48) (57) ) (va_cwS 3 hts gX9_next_X9_in rfl rfl rfl (by decide +kernel) ⟨Nat.le_of_ble_eq_true rfl, Nat.le_of_ble_eq_true rfl⟩) (zpreS (wf := wM a cI) hok hN hS hA hK hP hD) rfl rfl hl.1 rfl (lv_room (Nat.le_of_ble_eq_true rfl)) dX9_next_141 ⟨Nat.zero_le _, Nat.zero_le _⟩) hD hS hA (fun v141 σ1 H locs hv141 hP hD hS => ?_)
              obtain ⟨es9, hv141⟩ := hv141
              subst σ1
              replace hv141 : ((v141 : Int32).toInt = 1 ∧ (48 : Int64).toInt ≤ (v134 : Int64).toInt ∧ (v134 : Int64).toInt ≤ (57 : Int64).toInt ∨ (v141 : Int32).toInt = 0 ∧ ¬ ((48 : Int64).toInt ≤ (v134 : Int64).toInt ∧ (v134 : Int64).toInt ≤ (57 : Int64).toInt)) := hv141
              try simp only [show (48 : Int64).toInt = 48 from by decide, show (57 : Int64).toInt = 57 from by decide] at hv141
              refine lv_if_eq (tgt := 255) hx hb dX9_next_144 (by decide) (fun c144 => ?_) (fun c144 => ?_)
              · skip
                have ic144 := zeq (a := v141.toInt) (b := 0) rfl (by decide) c144
                replace hv141 := (hv141.resolve_left (fun q => by omega)).2
                refine lv_iload_n hx hb dX9_next_255 rfl (lv_at hl 0 rfl) ?_
                refine lv_bipush (v := 59) hx hb dX9_next_256 (by decide) ?_
                refine lv_icmp_ne (tgt := 279) hx hb dX9_next_258 (by decide) (fun c258 => ?_) (fun c258 => ?_)
                · skip
                  have ic258 := zneq (a := v39.toInt) (b := 59) rfl (by decide) c258
                  refine lv_aload_n hx hb dX9_next_279 rfl (lv_at hl 1 rfl) ?_
                  refine lv_iconst (v := 1) hx hb dX9_next_280 (by decide) ?_
                  refine zcallv (va_runV (As := [.int 1]) (rest := []) ⟨hx, hb, hml, hown, hts⟩ (c_X9_fails l dC dI cI a N hok (upC σ 0 (upd (upd (σ 0) 2 m2) 3 m2)) H.size (1) ) (cwV 1 hts gX9_next_X9_fails rfl rfl rfl (by decide +kernel) ⟨Nat.le_of_ble_eq_true rfl, Nat.le_of_ble_eq_true rfl⟩) (zpreV (wf := wM a cI) (q0 := 0) (ci := 9) hok hN hS hA hK hP hD rfl rfl) rfl rfl hl.1 rfl (lv_room (Nat.le_of_ble_eq_true rfl)) dX9_next_281 ⟨Nat.zero_le _, Nat.zero_le _⟩) hD hS hA (fun σ1 H locs hv281 hP hD hS => ?_)
                  obtain ⟨n6_281, n7_281, es9, hv281⟩ := hv281
                  subst σ1
                  have hP : va_P (dC, dI) vwCl (wM a cI (upC σ 0 (upd (upd (upd (upd (σ 0) 2 m2) 3 m2) 6 n6_281) 7 n7_281))) H := hP
                  have hD : va_D A (wM a cI (upC σ 0 (upd (upd (upd (upd (σ 0) 2 m2) 3 m2) 6 n6_281) 7 n7_281))) := hD
                  replace hv281 : ((((σ 0 6)).toInt = 0 ∧ n6_281 = (1 : Int32)) ∨ (¬ ((σ 0 6)).toInt = 0 ∧ n6_281 = (σ 0 6))) := hv281
                  try simp only [show (1 : Int32).toInt = 1 from by decide] at hv281
                  replace hv281 : (σ 0 6).toInt = 0 ∧ n6_281.toInt = 1 ∨ ¬ (σ 0 6).toInt = 0 ∧ n6_281.toInt = (σ 0 6).toInt := by rcases hv281 with q | q; exact Or.inl ⟨q.1, by rw [q.2]; decide⟩; exact Or.inr ⟨q.1, by rw [q.2]⟩
                  have heq9 : (upC σ 0 (upd (upd (upd (upd (σ 0) 2 m2) 3 m2) 6 n6_281) 7 n7_281)) = (upC σ 0 (upd (upd (upd (upd (upd (upd (σ 0) 2 m2) 3 m2) 4 (σ 0 4)) 5 (σ 0 5)) 6 n6_281) 7 n7_281)) := by
                    funext k
                    by_cases e0 : k = 0
                    · subst e0
                      funext i
                      by_cases f4 : i = 4
                      · subst f4; rfl
                      by_cases f5 : i = 5
                      · subst f5; rfl
                      show (upd (upd (upd (upd (σ 0) 2 m2) 3 m2) 6 n6_281) 7 n7_281) i = (upd (upd (upd (upd (upd (upd (σ 0) 2 m2) 3 m2) 4 (σ 0 4)) 5 (σ 0 5)) 6 n6_281) 7 n7_281) i
                      simp only [upd, if_neg f4, if_neg f5]
                    simp only [upC, if_neg e0]
                  have hpost : ∃ n2 : Int32, ∃ n3 : Int32, ∃ n4 : Int32, ∃ n5 : Int32, ∃ n6 : Int32, ∃ n7 : Int32, (upC σ 0 (upd (upd (upd (upd (σ 0) 2 m2) 3 m2) 6 n6_281) 7 n7_281)) = (upC σ 0 (upd (upd (upd (upd (upd (upd (σ 0) 2 n2) 3 n3) 4 n4) 5 n5) 6 n6) 7 n7)) ∧ (0 ≤ n3.toInt ∧ n3.toInt ≤ 160) ∧ ((σ 0 2).toInt ≤ n2.toInt ∧ n2.toInt ≤ 160) ∧ 0 ≤ n6.toInt ∧ (n6.toInt = 0 → (σ 0 6).toInt = 0) ∧ (n6.toInt = 0 → ¬ n4.toInt = 0 → (σ 0 2).toInt < n2.toInt) ∧ (n6.toInt = 0 → n4.toInt = 1 → 0 ≤ n5.toInt) := by refine ⟨(m2), (m2), (σ 0 4), (σ 0 5), (n6_281), (n7_281), heq9, ?_⟩; (try rw [show (0 : Int32).toInt = 0 from by decide]); (try rw [show (3 : Int32).toInt = 3 from by decide]); (refine ⟨by omega, by omega, by omega, by omega, by omega, by omega⟩)
                  exact W.vret hx hb hr (fun t9 ht hW => ⟨⟨(upC σ 0 (upd (upd (upd (upd (σ 0) 2 m2) 3 m2) 6 n6_281) 7 n7_281)), rfl, hpost, by rw [ht]; exact hP, va_K.moved hW.alike hK, hD⟩, hS.F ht⟩) hS.2.2 dX9_next_284
                · skip
                  have ic258 := zeq (a := v39.toInt) (b := 59) rfl (by decide) c258
                  refine lv_aload_n hx hb dX9_next_261 rfl (lv_at hl 1 rfl) ?_
                  refine lv_iconst (v := 3) hx hb dX9_next_262 (by decide) ?_
                  refine va_put (D := (dC, dI)) (ci := 9) (v := .int 3) (ty := .int) (C := RX9) (T := TX9) (N := 28) hx hb hts in9 tyX9 tyX9_ok nmX9 hown hK hP hD hS 0 rfl rfl 4 (by decide) k91 (fun _ h9 => h9) rfl (by decide +kernel) rfl rfl (Nat.le_of_ble_eq_true rfl) dX9_next_263 (fun H locs hP hD hS => ?_)
                  have hP : va_P (dC, dI) vwCl (wM a cI (upC σ 0 (upd (upd (upd (σ 0) 2 m2) 3 m2) 4 3))) H := hP
                  have hD : va_D A (wM a cI (upC σ 0 (upd (upd (upd (σ 0) 2 m2) 3 m2) 4 3))) := hD
                  refine lv_aload_n hx hb dX9_next_266 rfl (lv_at hl 1 rfl) ?_
                  refine lv_dup hx hb dX9_next_267 rfl ?_
                  refine va_get (D := (dC, dI)) (ci := 9) (v := .int m2) (C := RX9) (T := TX9) (N := 28) hx hb hts in9 hown hK hP 0 rfl rfl 2 (by decide) k80 (fun _ h9 => h9) rfl dX9_next_268 ?_
                  refine lv_iconst (v := 1) hx hb dX9_next_271 (by decide) ?_
                  refine lv_iadd hx hb dX9_next_272 ?_
                  refine lv_topi (fun v272 ev272 => ?_)
                  have tv272 : v272.toInt = m2.toInt + 1 := by rw [ev272, zadd, show (1 : Int32).toInt = 1 from by decide]; omega
                  refine va_put (D := (dC, dI)) (ci := 9) (v := .int v272) (ty := .int) (C := RX9) (T := TX9) (N := 28) hx hb hts in9 tyX9 tyX9_ok nmX9 hown hK hP hD hS 0 rfl rfl 2 (by decide) k80 (fun _ h9 => h9) rfl (by decide +kernel) rfl rfl (Nat.le_of_ble_eq_true rfl) dX9_next_273 (fun H locs hP hD hS => ?_)
                  have hP : va_P (dC, dI) vwCl (wM a cI (upC σ 0 (upd (upd (upd (σ 0) 2 v272) 3 m2) 4 3))) H := hP
                  have hD : va_D A (wM a cI (upC σ 0 (upd (upd (upd (σ 0) 2 v272) 3 m2) 4 3))) := hD
                  refine lv_goto (tgt := 284) hx hb dX9_next_276 (by decide) ?_
                  have heq9 : (upC σ 0 (upd (upd (upd (σ 0) 2 v272) 3 m2) 4 3)) = (upC σ 0 (upd (upd (upd (upd (upd (upd (σ 0) 2 v272) 3 m2) 4 3) 5 (σ 0 5)) 6 (σ 0 6)) 7 (σ 0 7))) := by
                    funext k
                    by_cases e0 : k = 0
                    · subst e0
                      funext i
                      by_cases f5 : i = 5
                      · subst f5; rfl
                      by_cases f6 : i = 6
                      · subst f6; rfl
                      by_cases f7 : i = 7
                      · subst f7; rfl
                      show (upd (upd (upd (σ 0) 2 v272) 3 m2) 4 3) i = (upd (upd (upd (upd (upd (upd (σ 0) 2 v272) 3 m2) 4 3) 5 (σ 0 5)) 6 (σ 0 6)) 7 (σ 0 7)) i
                      simp only [upd, if_neg f5, if_neg f6, if_neg f7]
                    simp only [upC, if_neg e0]
                  have hpost : ∃ n2 : Int32, ∃ n3 : Int32, ∃ n4 : Int32, ∃ n5 : Int32, ∃ n6 : Int32, ∃ n7 : Int32, (upC σ 0 (upd (upd (upd (σ 0) 2 v272) 3 m2) 4 3)) = (upC σ 0 (upd (upd (upd (upd (upd (upd (σ 0) 2 n2) 3 n3) 4 n4) 5 n5) 6 n6) 7 n7)) ∧ (0 ≤ n3.toInt ∧ n3.toInt ≤ 160) ∧ ((σ 0 2).toInt ≤ n2.toInt ∧ n2.toInt ≤ 160) ∧ 0 ≤ n6.toInt ∧ (n6.toInt = 0 → (σ 0 6).toInt = 0) ∧ (n6.toInt = 0 → ¬ n4.toInt = 0 → (σ 0 2).toInt < n2.toInt) ∧ (n6.toInt = 0 → n4.toInt = 1 → 0 ≤ n5.toInt) := by refine ⟨(v272), (m2), (3), (σ 0 5), (σ 0 6), (σ 0 7), heq9, ?_⟩; (try rw [show (0 : Int32).toInt = 0 from by decide]); (try rw [show (3 : Int32).toInt = 3 from by decide]); (refine ⟨by omega, by omega, by omega, by omega, by omega, by omega⟩)
                  exact W.vret hx hb hr (fun t9 ht hW => ⟨⟨(upC σ 0 (upd (upd (upd (σ 0) 2 v272) 3 m2) 4 3)), rfl, hpost, by rw [ht]; exact hP, va_K.moved hW.alike hK, hD⟩, hS.F ht⟩) hS.2.2 dX9_next_284
              · skip
                have ic144 := zneq (a := v141.toInt) (b := 0) rfl (by decide) c144
                replace hv141 := (hv141.resolve_right (fun q => by omega)).2
                refine lv_aload_n hx hb dX9_next_147 rfl (lv_at hl 1 rfl) ?_
                refine lv_iconst (v := 2) hx hb dX9_next_148 (by decide) ?_
                refine va_put (D := (dC, dI)) (ci := 9) (v := .int 2) (ty := .int) (C := RX9) (T := TX9) (N := 28) hx hb hts in9 tyX9 tyX9_ok nmX9 hown hK hP hD hS 0 rfl rfl 4 (by decide) k91 (fun _ h9 => h9) rfl (by decide +kernel) rfl rfl (Nat.le_of_ble_eq_true rfl) dX9_next_149 (fun H locs hP hD hS => ?_)
                have hP : va_P (dC, dI) vwCl (wM a cI (upC σ 0 (upd (upd (upd (σ 0) 2 m2) 3 m2) 4 2))) H := hP
                have hD : va_D A (wM a cI (upC σ 0 (upd (upd (upd (σ 0) 2 m2) 3 m2) 4 2))) := hD
                refine lv_aload_n hx hb dX9_next_152 rfl (lv_at hl 1 rfl) ?_
                refine lv_iconst (v := 0) hx hb dX9_next_153 (by decide) ?_
                refine va_put (D := (dC, dI)) (ci := 9) (v := .int 0) (ty := .int) (C := RX9) (T := TX9) (N := 28) hx hb hts in9 tyX9 tyX9_ok nmX9 hown hK hP hD hS 0 rfl rfl 5 (by decide) k102 (fun _ h9 => h9) rfl (by decide +kernel) rfl rfl (Nat.le_of_ble_eq_true rfl) dX9_next_154 (fun H locs hP hD hS => ?_)
                have hP : va_P (dC, dI) vwCl (wM a cI (upC σ 0 (upd (upd (upd (upd (σ 0) 2 m2) 3 m2) 4 2) 5 0))) H := hP
                have hD : va_D A (wM a cI (upC σ 0 (upd (upd (upd (upd (σ 0) 2 m2) 3 m2) 4 2) 5 0))) := hD
                exact ih.2.2 (v39) (m2) (m2) (2) (0) H locs ls (by omega) (by omega) (by first | exact g3 | decide) (by omega) hP hD hS (lv_sub hl [1, 0] rfl)
            · skip
              have ic66 := zneq (a := v63.toInt) (b := 0) rfl (by decide) c66
              replace hv63 := (hv63.resolve_right (fun q => by omega)).2
              refine lv_aload_n hx hb dX9_next_69 rfl (lv_at hl 1 rfl) ?_
              refine lv_iconst (v := 1) hx hb dX9_next_70 (by decide) ?_
              refine va_put (D := (dC, dI)) (ci := 9) (v := .int 1) (ty := .int) (C := RX9) (T := TX9) (N := 28) hx hb hts in9 tyX9 tyX9_ok nmX9 hown hK hP hD hS 0 rfl rfl 4 (by decide) k91 (fun _ h9 => h9) rfl (by decide +kernel) rfl rfl (Nat.le_of_ble_eq_true rfl) dX9_next_71 (fun H locs hP hD hS => ?_)
              have hP : va_P (dC, dI) vwCl (wM a cI (upC σ 0 (upd (upd (upd (σ 0) 2 m2) 3 m2) 4 1))) H := hP
              have hD : va_D A (wM a cI (upC σ 0 (upd (upd (upd (σ 0) 2 m2) 3 m2) 4 1))) := hD
              exact ih.2.1 (v39) (m2) (m2) (1) H locs ls (by omega) (by omega) (by first | exact g3 | decide) (by omega) hP hD hS (lv_sub hl [1, 0] rfl)
          · skip
            have ic44 := znle (a := 0) (b := v39.toInt) (by decide) rfl c44
            refine lv_aload_n hx hb dX9_next_47 rfl (lv_at hl 1 rfl) ?_
            refine lv_iconst (v := 0) hx hb dX9_next_48 (by decide) ?_
            refine va_put (D := (dC, dI)) (ci := 9) (v := .int 0) (ty := .int) (C := RX9) (T := TX9) (N := 28) hx hb hts in9 tyX9 tyX9_ok nmX9 hown hK hP hD hS 0 rfl rfl 4 (by decide) k91 (fun _ h9 => h9) rfl (by decide +kernel) rfl rfl (Nat.le_of_ble_eq_true rfl) dX9_next_49 (fun H locs hP hD hS => ?_)
            have hP : va_P (dC, dI) vwCl (wM a cI (upC σ 0 (upd (upd (upd (σ 0) 2 m2) 3 m2) 4 0))) H := hP
            have hD : va_D A (wM a cI (upC σ 0 (upd (upd (upd (σ 0) 2 m2) 3 m2) 4 0))) := hD
            refine lv_goto (tgt := 284) hx hb dX9_next_52 (by decide) ?_
            have heq9 : (upC σ 0 (upd (upd (upd (σ 0) 2 m2) 3 m2) 4 0)) = (upC σ 0 (upd (upd (upd (upd (upd (upd (σ 0) 2 m2) 3 m2) 4 0) 5 (σ 0 5)) 6 (σ 0 6)) 7 (σ 0 7))) := by
              funext k
              by_cases e0 : k = 0
              · subst e0
                funext i
                by_cases f5 : i = 5
                · subst f5; rfl
                by_cases f6 : i = 6
                · subst f6; rfl
                by_cases f7 : i = 7
                · subst f7; rfl
                show (upd (upd (upd (σ 0) 2 m2) 3 m2) 4 0) i = (upd (upd (upd (upd (upd (upd (σ 0) 2 m2) 3 m2) 4 0) 5 (σ 0 5)) 6 (σ 0 6)) 7 (σ 0 7)) i
                simp only [upd, if_neg f5, if_neg f6, if_neg f7]
              simp only [upC, if_neg e0]
            have hpost : ∃ n2 : Int32, ∃ n3 : Int32, ∃ n4 : Int32, ∃ n5 : Int32, ∃ n6 : Int32, ∃ n7 : Int32, (upC σ 0 (upd (upd (upd (σ 0) 2 m2) 3 m2) 4 0)) = (upC σ 0 (upd (upd (upd (upd (upd (upd (σ 0) 2 n2) 3 n3) 4 n4) 5 n5) 6 n6) 7 n7)) ∧ (0 ≤ n3.toInt ∧ n3.toInt ≤ 160) ∧ ((σ 0 2).toInt ≤ n2.toInt ∧ n2.toInt ≤ 160) ∧ 0 ≤ n6.toInt ∧ (n6.toInt = 0 → (σ 0 6).toInt = 0) ∧ (n6.toInt = 0 → ¬ n4.toInt = 0 → (σ 0 2).toInt < n2.toInt) ∧ (n6.toInt = 0 → n4.toInt = 1 → 0 ≤ n5.toInt) := by refine ⟨(m2), (m2), (0), (σ 0 5), (σ 0 6), (σ 0 7), heq9, ?_⟩; (try rw [show (0 : Int32).toInt = 0 from by decide]); (try rw [show (3 : Int32).toInt = 3 from by decide]); (refine ⟨by omega, by omega, by omega, by omega, by omega, by omega⟩)
            exact W.vret hx hb hr (fun t9 ht hW => ⟨⟨(upC σ 0 (upd (upd (upd (σ 0) 2 m2) 3 m2) 4 0)), rfl, hpost, by rw [ht]; exact hP, va_K.moved hW.alike hK, hD⟩, hS.F ht⟩) hS.2.2 dX9_next_284
        · skip
          have ic10 := zeq (a := v5.toInt) (b := 32) rfl (by decide) c10
          refine lv_aload_n hx hb dX9_next_13 rfl (lv_at hl 0 rfl) ?_
          refine lv_dup hx hb dX9_next_14 rfl ?_
          refine va_get (D := (dC, dI)) (ci := 9) (v := .int m2) (C := RX9) (T := TX9) (N := 28) hx hb hts in9 hown hK hP 0 rfl rfl 2 (by decide) k80 (fun _ h9 => h9) rfl dX9_next_15 ?_
          refine lv_iconst (v := 1) hx hb dX9_next_18 (by decide) ?_
          refine lv_iadd hx hb dX9_next_19 ?_
          refine lv_topi (fun v19 ev19 => ?_)
          have tv19 : v19.toInt = m2.toInt + 1 := by rw [ev19, zadd, show (1 : Int32).toInt = 1 from by decide]; omega
          refine va_put (D := (dC, dI)) (ci := 9) (v := .int v19) (ty := .int) (C := RX9) (T := TX9) (N := 28) hx hb hts in9 tyX9 tyX9_ok nmX9 hown hK hP hD hS 0 rfl rfl 2 (by decide) k80 (fun _ h9 => h9) rfl (by decide +kernel) rfl rfl (Nat.le_of_ble_eq_true rfl) dX9_next_20 (fun H locs hP hD hS => ?_)
          have hP : va_P (dC, dI) vwCl (wM a cI (upC σ 0 (upd (σ 0) 2 v19))) H := hP
          have hD : va_D A (wM a cI (upC σ 0 (upd (σ 0) 2 v19))) := hD
          refine lv_goto (tgt := 0) hx hb dX9_next_23 (by decide) ?_
          exact ih.1  (v19) H locs ls (by omega) (by omega) hP hD hS (lv_sub hl [0] rfl)
      · intro c1 m2 m3 m4 H locs ls g1 g2 g3 hmu hP hD hS hl
        refine lv_aload_n hx hb dX9_next_74 rfl (lv_at hl 0 rfl) ?_
        refine lv_aload_n hx hb dX9_next_75 rfl (lv_at hl 0 rfl) ?_
        refine va_get (D := (dC, dI)) (ci := 9) (v := .int m2) (C := RX9) (T := TX9) (N := 28) hx hb hts in9 hown hK hP 0 rfl rfl 2 (by decide) k80 (fun _ h9 => h9) rfl dX9_next_76 ?_
        refine zcalli (va_runV (As := [.int m2]) (rest := []) ⟨hx, hb, hml, hown, hts⟩ (c_X9_byteAt l dC dI cI a N hok (upC σ 0 (upd (upd (upd (σ 0) 2 m2) 3 m3) 4 m4)) H.size (m2) h3 (by omega)) (cwV 1 hts gX9_next_X9_byteAt rfl rfl rfl (by decide +kernel) ⟨Nat.le_of_ble_eq_true rfl, Nat.le_of_ble_eq_true rfl⟩) (zpreV (wf := wM a cI) (q0 := 0) (ci := 9) hok hN hS hA hK hP hD rfl rfl) rfl rfl hl.1 rfl (lv_room (Nat.le_of_ble_eq_true rfl)) dX9_next_79 ⟨Nat.zero_le _, Nat.zero_le _⟩) hD hS hA (fun v79 σ1 H locs hv79 hP hD hS => ?_)
        obtain ⟨es9, hv79⟩ := hv79
        subst σ1
        replace hv79 : (((m2 : Int32).toInt < ((σ 0 1)).toInt ∧ (v79 : Int32).toInt = ((σ 1) (m2 : Int32).toNatClampNeg).toInt) ∨ (((σ 0 1)).toInt ≤ (m2 : Int32).toInt ∧ (v79 : Int32).toInt = -1)) := hv79
        refine lv_i2l hx hb dX9_next_82 rfl ?_
        refine lv_topl (fun v82 ev82 => ?_)
        have tv82 : v82.toInt = v79.toInt := by rw [ev82]; exact zi2l rfl
        refine lv_ldc2 hx hb hown kq94 dX9_next_83 ?_
        refine lv_ldc2 hx hb hown kq96 dX9_next_86 ?_
        refine zcalli (va_runS (As := [.long v82, .long 97, .long 122]) (rest := []) ⟨hx, hb, hml, hown, hts⟩ (c_X9_in l dC dI cI a N hok (upC σ 0 (upd (upd (upd (σ 0) 2 m2) 3 m3) 4 m4)) H.size (v82) (97) (122) ) (va_cwS 3 hts gX9_next_X9_in rfl rfl rfl (by decide +kernel) ⟨Nat.le_of_ble_eq_true rfl, Nat.le_of_ble_eq_true rfl⟩) (zpreS (wf := wM a cI) hok hN hS hA hK hP hD) rfl rfl hl.1 rfl (lv_room (Nat.le_of_ble_eq_true rfl)) dX9_next_89 ⟨Nat.zero_le _, Nat.zero_le _⟩) hD hS hA (fun v89 σ1 H locs hv89 hP hD hS => ?_)
        obtain ⟨es9, hv89⟩ := hv89
        subst σ1
        replace hv89 : ((v89 : Int32).toInt = 1 ∧ (97 : Int64).toInt ≤ (v82 : Int64).toInt ∧ (v82 : Int64).toInt ≤ (122 : Int64).toInt ∨ (v89 : Int32).toInt = 0 ∧ ¬ ((97 : Int64).toInt ≤ (v82 : Int64).toInt ∧ (v82 : Int64).toInt ≤ (122 : Int64).toInt)) := hv89
        try simp only [show (122 : Int64).toInt = 122 from by decide, show (97 : Int64).toInt = 97 from by decide] at hv89
        refine lv_if_eq (tgt := 108) hx hb dX9_next_92 (by decide) (fun c92 => ?_) (fun c92 => ?_)
        · skip
          have ic92 := zeq (a := v89.toInt) (b := 0) rfl (by decide) c92
          replace hv89 := (hv89.resolve_left (fun q => by omega)).2
          refine lv_aload_n hx hb dX9_next_108 rfl (lv_at hl 0 rfl) ?_
          refine lv_aload_n hx hb dX9_next_109 rfl (lv_at hl 0 rfl) ?_
          refine zcalli (va_runV (As := []) (rest := [.ref (a 0)]) ⟨hx, hb, hml, hown, hts⟩ (c_X9_nameNow l dC dI cI a N hok (upC σ 0 (upd (upd (upd (σ 0) 2 m2) 3 m3) 4 m4)) H.size  h3 (by show 0 ≤ m3.toInt ∧ m3.toInt ≤ 160; omega)) (cwV 0 hts gX9_next_X9_nameNow rfl rfl rfl (by decide +kernel) ⟨Nat.le_of_ble_eq_true rfl, Nat.le_of_ble_eq_true rfl⟩) (zpreV (wf := wM a cI) (q0 := 0) (ci := 9) hok hN hS hA hK hP hD rfl rfl) rfl rfl hl.1 rfl (lv_room (Nat.le_of_ble_eq_true rfl)) dX9_next_110 ⟨Nat.zero_le _, Nat.zero_le _⟩) hD hS hA (fun v110 σ1 H locs hv110 hP hD hS => ?_)
          obtain ⟨es9, hv110⟩ := hv110
          subst σ1
          replace hv110 : ((v110 : Int32).toInt = -4 ∨ 0 ≤ (v110 : Int32).toInt) := hv110
          refine va_put (D := (dC, dI)) (ci := 9) (v := .int v110) (ty := .int) (C := RX9) (T := TX9) (N := 28) hx hb hts in9 tyX9 tyX9_ok nmX9 hown hK hP hD hS 0 rfl rfl 5 (by decide) k102 (fun _ h9 => h9) rfl (by decide +kernel) rfl rfl (Nat.le_of_ble_eq_true rfl) dX9_next_113 (fun H locs hP hD hS => ?_)
          have hP : va_P (dC, dI) vwCl (wM a cI (upC σ 0 (upd (upd (upd (upd (σ 0) 2 m2) 3 m3) 4 m4) 5 v110))) H := hP
          have hD : va_D A (wM a cI (upC σ 0 (upd (upd (upd (upd (σ 0) 2 m2) 3 m3) 4 m4) 5 v110))) := hD
          refine lv_aload_n hx hb dX9_next_116 rfl (lv_at hl 0 rfl) ?_
          refine va_get (D := (dC, dI)) (ci := 9) (v := .int v110) (C := RX9) (T := TX9) (N := 28) hx hb hts in9 hown hK hP 0 rfl rfl 5 (by decide) k102 (fun _ h9 => h9) rfl dX9_next_117 ?_
          refine lv_bipush (v := (-4)) hx hb dX9_next_120 (by decide) ?_
          refine lv_icmp_ne (tgt := 284) hx hb dX9_next_122 (by decide) (fun c122 => ?_) (fun c122 => ?_)
          · skip
            have ic122 := zneq (a := v110.toInt) (b := (-4)) rfl (by decide) c122
            have heq9 : (upC σ 0 (upd (upd (upd (upd (σ 0) 2 m2) 3 m3) 4 m4) 5 v110)) = (upC σ 0 (upd (upd (upd (upd (upd (upd (σ 0) 2 m2) 3 m3) 4 m4) 5 v110) 6 (σ 0 6)) 7 (σ 0 7))) := by
              funext k
              by_cases e0 : k = 0
              · subst e0
                funext i
                by_cases f6 : i = 6
                · subst f6; rfl
                by_cases f7 : i = 7
                · subst f7; rfl
                show (upd (upd (upd (upd (σ 0) 2 m2) 3 m3) 4 m4) 5 v110) i = (upd (upd (upd (upd (upd (upd (σ 0) 2 m2) 3 m3) 4 m4) 5 v110) 6 (σ 0 6)) 7 (σ 0 7)) i
                simp only [upd, if_neg f6, if_neg f7]
              simp only [upC, if_neg e0]
            have hpost : ∃ n2 : Int32, ∃ n3 : Int32, ∃ n4 : Int32, ∃ n5 : Int32, ∃ n6 : Int32, ∃ n7 : Int32, (upC σ 0 (upd (upd (upd (upd (σ 0) 2 m2) 3 m3) 4 m4) 5 v110)) = (upC σ 0 (upd (upd (upd (upd (upd (upd (σ 0) 2 n2) 3 n3) 4 n4) 5 n5) 6 n6) 7 n7)) ∧ (0 ≤ n3.toInt ∧ n3.toInt ≤ 160) ∧ ((σ 0 2).toInt ≤ n2.toInt ∧ n2.toInt ≤ 160) ∧ 0 ≤ n6.toInt ∧ (n6.toInt = 0 → (σ 0 6).toInt = 0) ∧ (n6.toInt = 0 → ¬ n4.toInt = 0 → (σ 0 2).toInt < n2.toInt) ∧ (n6.toInt = 0 → n4.toInt = 1 → 0 ≤ n5.toInt) := by refine ⟨(m2), (m3), (m4), (v110), (σ 0 6), (σ 0 7), heq9, ?_⟩; (try rw [show (0 : Int32).toInt = 0 from by decide]); (try rw [show (3 : Int32).toInt = 3 from by decide]); (refine ⟨by omega, by omega, by omega, by omega, by omega, by omega⟩)
            exact W.vret hx hb hr (fun t9 ht hW => ⟨⟨(upC σ 0 (upd (upd (upd (upd (σ 0) 2 m2) 3 m3) 4 m4) 5 v110)), rfl, hpost, by rw [ht]; exact hP, va_K.moved hW.alike hK, hD⟩, hS.F ht⟩) hS.2.2 dX9_next_284
          · skip
            have ic122 := zeq (a := v110.toInt) (b := (-4)) rfl (by decide) c122
            refine lv_aload_n hx hb dX9_next_125 rfl (lv_at hl 0 rfl) ?_
            refine lv_iconst (v := 1) hx hb dX9_next_126 (by decide) ?_
            refine zcallv (va_runV (As := [.int 1]) (rest := []) ⟨hx, hb, hml, hown, hts⟩ (c_X9_fails l dC dI cI a N hok (upC σ 0 (upd (upd (upd (upd (σ 0) 2 m2) 3 m3) 4 m4) 5 v110)) H.size (1) ) (cwV 1 hts gX9_next_X9_fails rfl rfl rfl (by decide +kernel) ⟨Nat.le_of_ble_eq_true rfl, Nat.le_of_ble_eq_true rfl⟩) (zpreV (wf := wM a cI) (q0 := 0) (ci := 9) hok hN hS hA hK hP hD rfl rfl) rfl rfl hl.1 rfl (lv_room (Nat.le_of_ble_eq_true rfl)) dX9_next_127 ⟨Nat.zero_le _, Nat.zero_le _⟩) hD hS hA (fun σ1 H locs hv127 hP hD hS => ?_)
            obtain ⟨n6_127, n7_127, es9, hv127⟩ := hv127
            subst σ1
            have hP : va_P (dC, dI) vwCl (wM a cI (upC σ 0 (upd (upd (upd (upd (upd (upd (σ 0) 2 m2) 3 m3) 4 m4) 5 v110) 6 n6_127) 7 n7_127))) H := hP
            have hD : va_D A (wM a cI (upC σ 0 (upd (upd (upd (upd (upd (upd (σ 0) 2 m2) 3 m3) 4 m4) 5 v110) 6 n6_127) 7 n7_127))) := hD
            replace hv127 : ((((σ 0 6)).toInt = 0 ∧ n6_127 = (1 : Int32)) ∨ (¬ ((σ 0 6)).toInt = 0 ∧ n6_127 = (σ 0 6))) := hv127
            try simp only [show (1 : Int32).toInt = 1 from by decide] at hv127
            replace hv127 : (σ 0 6).toInt = 0 ∧ n6_127.toInt = 1 ∨ ¬ (σ 0 6).toInt = 0 ∧ n6_127.toInt = (σ 0 6).toInt := by rcases hv127 with q | q; exact Or.inl ⟨q.1, by rw [q.2]; decide⟩; exact Or.inr ⟨q.1, by rw [q.2]⟩
            refine lv_goto (tgt := 284) hx hb dX9_next_130 (by decide) ?_
            have heq9 : (upC σ 0 (upd (upd (upd (upd (upd (upd (σ 0) 2 m2) 3 m3) 4 m4) 5 v110) 6 n6_127) 7 n7_127)) = (upC σ 0 (upd (upd (upd (upd (upd (upd (σ 0) 2 m2) 3 m3) 4 m4) 5 v110) 6 n6_127) 7 n7_127)) := rfl
            have hpost : ∃ n2 : Int32, ∃ n3 : Int32, ∃ n4 : Int32, ∃ n5 : Int32, ∃ n6 : Int32, ∃ n7 : Int32, (upC σ 0 (upd (upd (upd (upd (upd (upd (σ 0) 2 m2) 3 m3) 4 m4) 5 v110) 6 n6_127) 7 n7_127)) = (upC σ 0 (upd (upd (upd (upd (upd (upd (σ 0) 2 n2) 3 n3) 4 n4) 5 n5) 6 n6) 7 n7)) ∧ (0 ≤ n3.toInt ∧ n3.toInt ≤ 160) ∧ ((σ 0 2).toInt ≤ n2.toInt ∧ n2.toInt ≤ 160) ∧ 0 ≤ n6.toInt ∧ (n6.toInt = 0 → (σ 0 6).toInt = 0) ∧ (n6.toInt = 0 → ¬ n4.toInt = 0 → (σ 0 2).toInt < n2.toInt) ∧ (n6.toInt = 0 → n4.toInt = 1 → 0 ≤ n5.toInt) := by refine ⟨(m2), (m3), (m4), (v110), (n6_127), (n7_127), heq9, ?_⟩; (try rw [show (0 : Int32).toInt = 0 from by decide]); (try rw [show (3 : Int32).toInt = 3 from by decide]); (refine ⟨by omega, by omega, by omega, by omega, by omega, by omega⟩)
            exact W.vret hx hb hr (fun t9 ht hW => ⟨⟨(upC σ 0 (upd (upd (upd (upd (upd (upd (σ 0) 2 m2) 3 m3) 4 m4) 5 v110) 6 n6_127) 7 n7_127)), rfl, hpost, by rw [ht]; exact hP, va_K.moved hW.alike hK, hD⟩, hS.F ht⟩) hS.2.2 dX9_next_284
        · skip
          have ic92 := zneq (a := v89.toInt) (b := 0) rfl (by decide) c92
          replace hv89 := (hv89.resolve_right (fun q => by omega)).2
          refine lv_aload_n hx hb dX9_next_95 rfl (lv_at hl 0 rfl) ?_
          refine lv_dup hx hb dX9_next_96 rfl ?_
          refine va_get (D := (dC, dI)) (ci := 9) (v := .int m2) (C := RX9) (T := TX9) (N := 28) hx hb hts in9 hown hK hP 0 rfl rfl 2 (by decide) k80 (fun _ h9 => h9) rfl dX9_next_97 ?_
          refine lv_iconst (v := 1) hx hb dX9_next_100 (by decide) ?_
          refine lv_iadd hx hb dX9_next_101 ?_
          refine lv_topi (fun v101 ev101 => ?_)
          have tv101 : v101.toInt = m2.toInt + 1 := by rw [ev101, zadd, show (1 : Int32).toInt = 1 from by decide]; omega
          refine va_put (D := (dC, dI)) (ci := 9) (v := .int v101) (ty := .int) (C := RX9) (T := TX9) (N := 28) hx hb hts in9 tyX9 tyX9_ok nmX9 hown hK hP hD hS 0 rfl rfl 2 (by decide) k80 (fun _ h9 => h9) rfl (by decide +kernel) rfl rfl (Nat.le_of_ble_eq_true rfl) dX9_next_102 (fun H locs hP hD hS => ?_)
          have hP : va_P (dC, dI) vwCl (wM a cI (upC σ 0 (upd (upd (upd (σ 0) 2 v101) 3 m3) 4 m4))) H := hP
          have hD : va_D A (wM a cI (upC σ 0 (upd (upd (upd (σ 0) 2 v101) 3 m3) 4 m4))) := hD
          refine lv_goto (tgt := 74) hx hb dX9_next_105 (by decide) ?_
          exact ih.2.1 (c1) (v101) (m3) (m4) H locs ls (by omega) (by omega) (by first | exact g3 | decide) (by omega) hP hD hS (lv_sub hl [0, 1] rfl)
      · intro c1 m2 m3 m4 m5 H locs ls g1 g2 g3 hmu hP hD hS hl
        refine lv_aload_n hx hb dX9_next_157 rfl (lv_at hl 0 rfl) ?_
        refine lv_aload_n hx hb dX9_next_158 rfl (lv_at hl 0 rfl) ?_
        refine va_get (D := (dC, dI)) (ci := 9) (v := .int m2) (C := RX9) (T := TX9) (N := 28) hx hb hts in9 hown hK hP 0 rfl rfl 2 (by decide) k80 (fun _ h9 => h9) rfl dX9_next_159 ?_
        refine zcalli (va_runV (As := [.int m2]) (rest := []) ⟨hx, hb, hml, hown, hts⟩ (c_X9_byteAt l dC dI cI a N hok (upC σ 0 (upd (upd (upd (upd (σ 0) 2 m2) 3 m3) 4 m4) 5 m5)) H.size (m2) h3 (by omega)) (cwV 1 hts gX9_next_X9_byteAt rfl rfl rfl (by decide +kernel) ⟨Nat.le_of_ble_eq_true rfl, Nat.le_of_ble_eq_true rfl⟩) (zpreV (wf := wM a cI) (q0 := 0) (ci := 9) hok hN hS hA hK hP hD rfl rfl) rfl rfl hl.1 rfl (lv_room (Nat.le_of_ble_eq_true rfl)) dX9_next_162 ⟨Nat.zero_le _, Nat.zero_le _⟩) hD hS hA (fun v162 σ1 H locs hv162 hP hD hS => ?_)
        obtain ⟨es9, hv162⟩ := hv162
        subst σ1
        replace hv162 : (((m2 : Int32).toInt < ((σ 0 1)).toInt ∧ (v162 : Int32).toInt = ((σ 1) (m2 : Int32).toNatClampNeg).toInt) ∨ (((σ 0 1)).toInt ≤ (m2 : Int32).toInt ∧ (v162 : Int32).toInt = -1)) := hv162
        refine lv_i2l hx hb dX9_next_165 rfl ?_
        refine lv_topl (fun v165 ev165 => ?_)
        have tv165 : v165.toInt = v162.toInt := by rw [ev165]; exact zi2l rfl
        refine lv_ldc2 hx hb hown kq109 dX9_next_166 ?_
        refine lv_ldc2 hx hb hown kq111 dX9_next_169 ?_
        refine zcalli (va_runS (As := [.long v165, .long 48, .long 57]) (rest := []) ⟨hx, hb, hml, hown, hts⟩ (c_X9_in l dC dI cI a N hok (upC σ 0 (upd (upd (upd (upd (σ 0) 2 m2) 3 m3) 4 m4) 5 m5)) H.size (v165) (48) (57) ) (va_cwS 3 hts gX9_next_X9_in rfl rfl rfl (by decide +kernel) ⟨Nat.le_of_ble_eq_true rfl, Nat.le_of_ble_eq_true rfl⟩) (zpreS (wf := wM a cI) hok hN hS hA hK hP hD) rfl rfl hl.1 rfl (lv_room (Nat.le_of_ble_eq_true rfl)) dX9_next_172 ⟨Nat.zero_le _, Nat.zero_le _⟩) hD hS hA (fun v172 σ1 H locs hv172 hP hD hS => ?_)
        obtain ⟨es9, hv172⟩ := hv172
        subst σ1
        replace hv172 : ((v172 : Int32).toInt = 1 ∧ (48 : Int64).toInt ≤ (v165 : Int64).toInt ∧ (v165 : Int64).toInt ≤ (57 : Int64).toInt ∨ (v172 : Int32).toInt = 0 ∧ ¬ ((48 : Int64).toInt ≤ (v165 : Int64).toInt ∧ (v165 : Int64).toInt ≤ (57 : Int64).toInt)) := hv172
        try simp only [show (48 : Int64).toInt = 48 from by decide, show (57 : Int64).toInt = 57 from by decide] at hv172
        refine lv_if_eq (tgt := 234) hx hb dX9_next_175 (by decide) (fun c175 => ?_) (fun c175 => ?_)
        · skip
          have ic175 := zeq (a := v172.toInt) (b := 0) rfl (by decide) c175
          replace hv172 := (hv172.resolve_left (fun q => by omega)).2
          refine lv_aload_n hx hb dX9_next_234 rfl (lv_at hl 0 rfl) ?_
          refine va_get (D := (dC, dI)) (ci := 9) (v := .int m2) (C := RX9) (T := TX9) (N := 28) hx hb hts in9 hown hK hP 0 rfl rfl 2 (by decide) k80 (fun _ h9 => h9) rfl dX9_next_235 ?_
          refine lv_aload_n hx hb dX9_next_238 rfl (lv_at hl 0 rfl) ?_
          refine va_get (D := (dC, dI)) (ci := 9) (v := .int m3) (C := RX9) (T := TX9) (N := 28) hx hb hts in9 hown hK hP 0 rfl rfl 3 (by decide) k74 (fun _ h9 => h9) rfl dX9_next_239 ?_
          refine lv_isub hx hb dX9_next_242 ?_
          refine lv_topi (fun v242 ev242 => ?_)
          have tv242 : v242.toInt = m2.toInt - m3.toInt := by rw [ev242, zsub]; omega
          refine lv_iconst (v := 4) hx hb dX9_next_243 (by decide) ?_
          refine lv_icmp_le (tgt := 284) hx hb dX9_next_244 (by decide) (fun c244 => ?_) (fun c244 => ?_)
          · skip
            have ic244 := zle (a := v242.toInt) (b := 4) rfl (by decide) c244
            have heq9 : (upC σ 0 (upd (upd (upd (upd (σ 0) 2 m2) 3 m3) 4 m4) 5 m5)) = (upC σ 0 (upd (upd (upd (upd (upd (upd (σ 0) 2 m2) 3 m3) 4 m4) 5 m5) 6 (σ 0 6)) 7 (σ 0 7))) := by
              funext k
              by_cases e0 : k = 0
              · subst e0
                funext i
                by_cases f6 : i = 6
                · subst f6; rfl
                by_cases f7 : i = 7
                · subst f7; rfl
                show (upd (upd (upd (upd (σ 0) 2 m2) 3 m3) 4 m4) 5 m5) i = (upd (upd (upd (upd (upd (upd (σ 0) 2 m2) 3 m3) 4 m4) 5 m5) 6 (σ 0 6)) 7 (σ 0 7)) i
                simp only [upd, if_neg f6, if_neg f7]
              simp only [upC, if_neg e0]
            have hpost : ∃ n2 : Int32, ∃ n3 : Int32, ∃ n4 : Int32, ∃ n5 : Int32, ∃ n6 : Int32, ∃ n7 : Int32, (upC σ 0 (upd (upd (upd (upd (σ 0) 2 m2) 3 m3) 4 m4) 5 m5)) = (upC σ 0 (upd (upd (upd (upd (upd (upd (σ 0) 2 n2) 3 n3) 4 n4) 5 n5) 6 n6) 7 n7)) ∧ (0 ≤ n3.toInt ∧ n3.toInt ≤ 160) ∧ ((σ 0 2).toInt ≤ n2.toInt ∧ n2.toInt ≤ 160) ∧ 0 ≤ n6.toInt ∧ (n6.toInt = 0 → (σ 0 6).toInt = 0) ∧ (n6.toInt = 0 → ¬ n4.toInt = 0 → (σ 0 2).toInt < n2.toInt) ∧ (n6.toInt = 0 → n4.toInt = 1 → 0 ≤ n5.toInt) := by refine ⟨(m2), (m3), (m4), (m5), (σ 0 6), (σ 0 7), heq9, ?_⟩; (try rw [show (0 : Int32).toInt = 0 from by decide]); (try rw [show (3 : Int32).toInt = 3 from by decide]); (refine ⟨by omega, by omega, by omega, by omega, by omega, by omega⟩)
            exact W.vret hx hb hr (fun t9 ht hW => ⟨⟨(upC σ 0 (upd (upd (upd (upd (σ 0) 2 m2) 3 m3) 4 m4) 5 m5)), rfl, hpost, by rw [ht]; exact hP, va_K.moved hW.alike hK, hD⟩, hS.F ht⟩) hS.2.2 dX9_next_284
          · skip
            have ic244 := znle (a := v242.toInt) (b := 4) rfl (by decide) c244
            refine lv_aload_n hx hb dX9_next_247 rfl (lv_at hl 0 rfl) ?_
            refine lv_iconst (v := 1) hx hb dX9_next_248 (by decide) ?_
            refine zcallv (va_runV (As := [.int 1]) (rest := []) ⟨hx, hb, hml, hown, hts⟩ (c_X9_fails l dC dI cI a N hok (upC σ 0 (upd (upd (upd (upd (σ 0) 2 m2) 3 m3) 4 m4) 5 m5)) H.size (1) ) (cwV 1 hts gX9_next_X9_fails rfl rfl rfl (by decide +kernel) ⟨Nat.le_of_ble_eq_true rfl, Nat.le_of_ble_eq_true rfl⟩) (zpreV (wf := wM a cI) (q0 := 0) (ci := 9) hok hN hS hA hK hP hD rfl rfl) rfl rfl hl.1 rfl (lv_room (Nat.le_of_ble_eq_true rfl)) dX9_next_249 ⟨Nat.zero_le _, Nat.zero_le _⟩) hD hS hA (fun σ1 H locs hv249 hP hD hS => ?_)
            obtain ⟨n6_249, n7_249, es9, hv249⟩ := hv249
            subst σ1
            have hP : va_P (dC, dI) vwCl (wM a cI (upC σ 0 (upd (upd (upd (upd (upd (upd (σ 0) 2 m2) 3 m3) 4 m4) 5 m5) 6 n6_249) 7 n7_249))) H := hP
            have hD : va_D A (wM a cI (upC σ 0 (upd (upd (upd (upd (upd (upd (σ 0) 2 m2) 3 m3) 4 m4) 5 m5) 6 n6_249) 7 n7_249))) := hD
            replace hv249 : ((((σ 0 6)).toInt = 0 ∧ n6_249 = (1 : Int32)) ∨ (¬ ((σ 0 6)).toInt = 0 ∧ n6_249 = (σ 0 6))) := hv249
            try simp only [show (1 : Int32).toInt = 1 from by decide] at hv249
            replace hv249 : (σ 0 6).toInt = 0 ∧ n6_249.toInt = 1 ∨ ¬ (σ 0 6).toInt = 0 ∧ n6_249.toInt = (σ 0 6).toInt := by rcases hv249 with q | q; exact Or.inl ⟨q.1, by rw [q.2]; decide⟩; exact Or.inr ⟨q.1, by rw [q.2]⟩
            refine lv_goto (tgt := 284) hx hb dX9_next_252 (by decide) ?_
            have heq9 : (upC σ 0 (upd (upd (upd (upd (upd (upd (σ 0) 2 m2) 3 m3) 4 m4) 5 m5) 6 n6_249) 7 n7_249)) = (upC σ 0 (upd (upd (upd (upd (upd (upd (σ 0) 2 m2) 3 m3) 4 m4) 5 m5) 6 n6_249) 7 n7_249)) := rfl
            have hpost : ∃ n2 : Int32, ∃ n3 : Int32, ∃ n4 : Int32, ∃ n5 : Int32, ∃ n6 : Int32, ∃ n7 : Int32, (upC σ 0 (upd (upd (upd (upd (upd (upd (σ 0) 2 m2) 3 m3) 4 m4) 5 m5) 6 n6_249) 7 n7_249)) = (upC σ 0 (upd (upd (upd (upd (upd (upd (σ 0) 2 n2) 3 n3) 4 n4) 5 n5) 6 n6) 7 n7)) ∧ (0 ≤ n3.toInt ∧ n3.toInt ≤ 160) ∧ ((σ 0 2).toInt ≤ n2.toInt ∧ n2.toInt ≤ 160) ∧ 0 ≤ n6.toInt ∧ (n6.toInt = 0 → (σ 0 6).toInt = 0) ∧ (n6.toInt = 0 → ¬ n4.toInt = 0 → (σ 0 2).toInt < n2.toInt) ∧ (n6.toInt = 0 → n4.toInt = 1 → 0 ≤ n5.toInt) := by refine ⟨(m2), (m3), (m4), (m5), (n6_249), (n7_249), heq9, ?_⟩; (try rw [show (0 : Int32).toInt = 0 from by decide]); (try rw [show (3 : Int32).toInt = 3 from by decide]); (refine ⟨by omega, by omega, by omega, by omega, by omega, by omega⟩)
            exact W.vret hx hb hr (fun t9 ht hW => ⟨⟨(upC σ 0 (upd (upd (upd (upd (upd (upd (σ 0) 2 m2) 3 m3) 4 m4) 5 m5) 6 n6_249) 7 n7_249)), rfl, hpost, by rw [ht]; exact hP, va_K.moved hW.alike hK, hD⟩, hS.F ht⟩) hS.2.2 dX9_next_284
        · skip
          have ic175 := zneq (a := v172.toInt) (b := 0) rfl (by decide) c175
          replace hv172 := (hv172.resolve_right (fun q => by omega)).2
          refine lv_aload_n hx hb dX9_next_178 rfl (lv_at hl 0 rfl) ?_
          refine lv_aload_n hx hb dX9_next_179 rfl (lv_at hl 0 rfl) ?_
          refine va_get (D := (dC, dI)) (ci := 9) (v := .int m2) (C := RX9) (T := TX9) (N := 28) hx hb hts in9 hown hK hP 0 rfl rfl 2 (by decide) k80 (fun _ h9 => h9) rfl dX9_next_180 ?_
          refine lv_aload_n hx hb dX9_next_183 rfl (lv_at hl 0 rfl) ?_
          refine va_get (D := (dC, dI)) (ci := 9) (v := .int m3) (C := RX9) (T := TX9) (N := 28) hx hb hts in9 hown hK hP 0 rfl rfl 3 (by decide) k74 (fun _ h9 => h9) rfl dX9_next_184 ?_
          refine lv_isub hx hb dX9_next_187 ?_
          refine lv_topi (fun v187 ev187 => ?_)
          have tv187 : v187.toInt = m2.toInt - m3.toInt := by rw [ev187, zsub]; omega
          refine lv_iconst (v := 4) hx hb dX9_next_188 (by decide) ?_
          refine lv_icmp_ge (tgt := 214) hx hb dX9_next_189 (by decide) (fun c189 => ?_) (fun c189 => ?_)
          · skip
            have ic189 := zle (a := 4) (b := v187.toInt) (by decide) rfl c189
            refine lv_aload_n hx hb dX9_next_214 rfl (lv_at hl 0 rfl) ?_
            refine va_get (D := (dC, dI)) (ci := 9) (v := .int m5) (C := RX9) (T := TX9) (N := 28) hx hb hts in9 hown hK hP 0 rfl rfl 5 (by decide) k102 (fun _ h9 => h9) rfl dX9_next_215 ?_
            refine va_put (D := (dC, dI)) (ci := 9) (v := .int m5) (ty := .int) (C := RX9) (T := TX9) (N := 28) hx hb hts in9 tyX9 tyX9_ok nmX9 hown hK hP hD hS 0 rfl rfl 5 (by decide) k102 (fun _ h9 => h9) rfl (by decide +kernel) rfl rfl (Nat.le_of_ble_eq_true rfl) dX9_next_218 (fun H locs hP hD hS => ?_)
            have hP : va_P (dC, dI) vwCl (wM a cI (upC σ 0 (upd (upd (upd (upd (σ 0) 2 m2) 3 m3) 4 m4) 5 m5))) H := hP
            have hD : va_D A (wM a cI (upC σ 0 (upd (upd (upd (upd (σ 0) 2 m2) 3 m3) 4 m4) 5 m5))) := hD
            refine lv_aload_n hx hb dX9_next_221 rfl (lv_at hl 0 rfl) ?_
            refine lv_dup hx hb dX9_next_222 rfl ?_
            refine va_get (D := (dC, dI)) (ci := 9) (v := .int m2) (C := RX9) (T := TX9) (N := 28) hx hb hts in9 hown hK hP 0 rfl rfl 2 (by decide) k80 (fun _ h9 => h9) rfl dX9_next_223 ?_
            refine lv_iconst (v := 1) hx hb dX9_next_226 (by decide) ?_
            refine lv_iadd hx hb dX9_next_227 ?_
            refine lv_topi (fun v227 ev227 => ?_)
            have tv227 : v227.toInt = m2.toInt + 1 := by rw [ev227, zadd, show (1 : Int32).toInt = 1 from by decide]; omega
            refine va_put (D := (dC, dI)) (ci := 9) (v := .int v227) (ty := .int) (C := RX9) (T := TX9) (N := 28) hx hb hts in9 tyX9 tyX9_ok nmX9 hown hK hP hD hS 0 rfl rfl 2 (by decide) k80 (fun _ h9 => h9) rfl (by decide +kernel) rfl rfl (Nat.le_of_ble_eq_true rfl) dX9_next_228 (fun H locs hP hD hS => ?_)
            have hP : va_P (dC, dI) vwCl (wM a cI (upC σ 0 (upd (upd (upd (upd (σ 0) 2 v227) 3 m3) 4 m4) 5 m5))) H := hP
            have hD : va_D A (wM a cI (upC σ 0 (upd (upd (upd (upd (σ 0) 2 v227) 3 m3) 4 m4) 5 m5))) := hD
            refine lv_goto (tgt := 157) hx hb dX9_next_231 (by decide) ?_
            exact ih.2.2 (c1) (v227) (m3) (m4) (m5) H locs ls (by omega) (by omega) (by first | exact g3 | decide) (by omega) hP hD hS (lv_sub hl [0, 1] rfl)
          · skip
            have ic189 := znle (a := 4) (b := v187.toInt) (by decide) rfl c189
            refine lv_bipush (v := 10) hx hb dX9_next_192 (by decide) ?_
            refine lv_aload_n hx hb dX9_next_194 rfl (lv_at hl 0 rfl) ?_
            refine va_get (D := (dC, dI)) (ci := 9) (v := .int m5) (C := RX9) (T := TX9) (N := 28) hx hb hts in9 hown hK hP 0 rfl rfl 5 (by decide) k102 (fun _ h9 => h9) rfl dX9_next_195 ?_
            refine lv_imul hx hb dX9_next_198 ?_
            refine lv_topi (fun v198 ev198 => ?_)
            refine lv_aload_n hx hb dX9_next_199 rfl (lv_at hl 0 rfl) ?_
            refine lv_aload_n hx hb dX9_next_200 rfl (lv_at hl 0 rfl) ?_
            refine va_get (D := (dC, dI)) (ci := 9) (v := .int m2) (C := RX9) (T := TX9) (N := 28) hx hb hts in9 hown hK hP 0 rfl rfl 2 (by decide) k80 (fun _ h9 => h9) rfl dX9_next_201 ?_
            refine zcalli (va_runV (As := [.int m2]) (rest := [.int v198, .ref (a 0)]) ⟨hx, hb, hml, hown, hts⟩ (c_X9_byteAt l dC dI cI a N hok (upC σ 0 (upd (upd (upd (upd (σ 0) 2 m2) 3 m3) 4 m4) 5 m5)) H.size (m2) h3 (by omega)) (cwV 1 hts gX9_next_X9_byteAt rfl rfl rfl (by decide +kernel) ⟨Nat.le_of_ble_eq_true rfl, Nat.le_of_ble_eq_true rfl⟩) (zpreV (wf := wM a cI) (q0 := 0) (ci := 9) hok hN hS hA hK hP hD rfl rfl) rfl rfl hl.1 rfl (lv_room (Nat.le_of_ble_eq_true rfl)) dX9_next_204 ⟨Nat.zero_le _, Nat.zero_le _⟩) hD hS hA (fun v204 σ1 H locs hv204 hP hD hS => ?_)
            obtain ⟨es9, hv204⟩ := hv204
            subst σ1
            replace hv204 : (((m2 : Int32).toInt < ((σ 0 1)).toInt ∧ (v204 : Int32).toInt = ((σ 1) (m2 : Int32).toNatClampNeg).toInt) ∨ (((σ 0 1)).toInt ≤ (m2 : Int32).toInt ∧ (v204 : Int32).toInt = -1)) := hv204
            refine lv_iadd hx hb dX9_next_207 ?_
            refine lv_topi (fun v207 ev207 => ?_)
            refine lv_bipush (v := 48) hx hb dX9_next_208 (by decide) ?_
            refine lv_isub hx hb dX9_next_210 ?_
            refine lv_topi (fun v210 ev210 => ?_)
            refine lv_goto (tgt := 218) hx hb dX9_next_211 (by decide) ?_
            refine va_put (D := (dC, dI)) (ci := 9) (v := .int v210) (ty := .int) (C := RX9) (T := TX9) (N := 28) hx hb hts in9 tyX9 tyX9_ok nmX9 hown hK hP hD hS 0 rfl rfl 5 (by decide) k102 (fun _ h9 => h9) rfl (by decide +kernel) rfl rfl (Nat.le_of_ble_eq_true rfl) dX9_next_218 (fun H locs hP hD hS => ?_)
            have hP : va_P (dC, dI) vwCl (wM a cI (upC σ 0 (upd (upd (upd (upd (σ 0) 2 m2) 3 m3) 4 m4) 5 v210))) H := hP
            have hD : va_D A (wM a cI (upC σ 0 (upd (upd (upd (upd (σ 0) 2 m2) 3 m3) 4 m4) 5 v210))) := hD
            refine lv_aload_n hx hb dX9_next_221 rfl (lv_at hl 0 rfl) ?_
            refine lv_dup hx hb dX9_next_222 rfl ?_
            refine va_get (D := (dC, dI)) (ci := 9) (v := .int m2) (C := RX9) (T := TX9) (N := 28) hx hb hts in9 hown hK hP 0 rfl rfl 2 (by decide) k80 (fun _ h9 => h9) rfl dX9_next_223 ?_
            refine lv_iconst (v := 1) hx hb dX9_next_226 (by decide) ?_
            refine lv_iadd hx hb dX9_next_227 ?_
            refine lv_topi (fun v227 ev227 => ?_)
            have tv227 : v227.toInt = m2.toInt + 1 := by rw [ev227, zadd, show (1 : Int32).toInt = 1 from by decide]; omega
            refine va_put (D := (dC, dI)) (ci := 9) (v := .int v227) (ty := .int) (C := RX9) (T := TX9) (N := 28) hx hb hts in9 tyX9 tyX9_ok nmX9 hown hK hP hD hS 0 rfl rfl 2 (by decide) k80 (fun _ h9 => h9) rfl (by decide +kernel) rfl rfl (Nat.le_of_ble_eq_true rfl) dX9_next_228 (fun H locs hP hD hS => ?_)
            have hP : va_P (dC, dI) vwCl (wM a cI (upC σ 0 (upd (upd (upd (upd (σ 0) 2 v227) 3 m3) 4 m4) 5 v210))) H := hP
            have hD : va_D A (wM a cI (upC σ 0 (upd (upd (upd (upd (σ 0) 2 v227) 3 m3) 4 m4) 5 v210))) := hD
            refine lv_goto (tgt := 157) hx hb dX9_next_231 (by decide) ?_
            exact ih.2.2 (c1) (v227) (m3) (m4) (v210) H locs ls (by omega) (by omega) (by first | exact g3 | decide) (by omega) hP hD hS (lv_sub hl [0, 1] rfl)
  have hl := lv_entry ([.ref (a 0)]) (n := 2) (Nat.le_of_ble_eq_true rfl)
  rw [lg_entry_eq]
  generalize (lg_sl ([.ref (a 0)]) ++ List.replicate (2 - (lg_sl ([.ref (a 0)])).length) Slot.unset).toArray = ls at hl ⊢
  have hl : lv_has ls 2 [(0, .ref (a 0))] := hl
  suffices main : ∀ (H : Heap) (locs : List Loc), va_P (dC, dI) vwCl (wM a cI σ) H → va_D A (wM a cI σ) → va_S A s.heap H locs → W p l e (headSpec wsX9_next RM_X9_next).room s m ([.ref (a 0)] : List Value).toArray below meth c H locs 0 0 (MQ below (zQv (dC, dI) [(cI, .int)] (wM a cI) A (fun (σ1 : Cn) => ∃ n2 : Int32, ∃ n3 : Int32, ∃ n4 : Int32, ∃ n5 : Int32, ∃ n6 : Int32, ∃ n7 : Int32, σ1 = (upC σ 0 (upd (upd (upd (upd (upd (upd (σ 0) 2 n2) 3 n3) 4 n4) 5 n5) 6 n6) 7 n7)) ∧ (0 ≤ n3.toInt ∧ n3.toInt ≤ 160) ∧ ((σ 0 2).toInt ≤ n2.toInt ∧ n2.toInt ≤ 160) ∧ 0 ≤ n6.toInt ∧ (n6.toInt = 0 → (σ 0 6).toInt = 0) ∧ (n6.toInt = 0 → ¬ n4.toInt = 0 → (σ 0 2).toInt < n2.toInt) ∧ (n6.toInt = 0 → n4.toInt = 1 → 0 ≤ n5.toInt))) ([.ref (a 0)] : List Value).toArray s 0 0 A) (F0 m 0 ls []) from main s.heap [] hP hD hS
  intro H locs hP hD hS
  exact (LP _).1  (σ 0 2) H locs ls (by omega) (Nat.lt_succ_self _) hP hD hS (lv_sub hl [0] rfl)

abbrev RM_X9_goesOn : Room := { frames := 4, cells := 0, slots := 0, locals := 87 }
set_option maxHeartbeats 4000000 in
set_option maxRecDepth 100000 in
theorem c_X9_goesOn (l : Launch) (dC : Nat → ClassId) (dI : Nat → Nat → Nat) (cI : ClassId) (a : Nat → Nat) (N : (Nat → Prop) → State → Prop) (hok : zNok N) (σ : Cn) (sz : Nat)  (h3 : 0 ≤ (σ 0 1).toInt ∧ (σ 0 1).toInt ≤ 160) (ha : 0 ≤ (σ 0 2).toInt ∧ (σ 0 2).toInt ≤ 160) (hf : 0 ≤ (σ 0 3).toInt ∧ (σ 0 3).toInt ≤ 160) (hx0 : 0 ≤ (σ 0 6).toInt) : Met l yX9_goesOn wsX9_goesOn RM_X9_goesOn (zPc (dC, dI) [(cI, .int)] N (wM a cI) σ sz [.ref (a 0)]) (zQv (dC, dI) [(cI, .int)] (wM a cI) (va_A (wM a cI σ) sz) (fun (σ1 : Cn) => ∃ n2 : Int32, ∃ n3 : Int32, ∃ n4 : Int32, ∃ n5 : Int32, ∃ n6 : Int32, ∃ n7 : Int32, σ1 = (upC σ 0 (upd (upd (upd (upd (upd (upd (σ 0) 2 n2) 3 n3) 4 n4) 5 n5) 6 n6) 7 n7)) ∧ (0 ≤ n3.toInt ∧ n3.toInt ≤ 160) ∧ ((σ 0 2).toInt ≤ n2.toInt ∧ n2.toInt ≤ 160) ∧ 0 ≤ n6.toInt ∧ (n6.toInt = 0 → (σ 0 6).toInt = 0) ∧ (n6.toInt = 0 → ¬ n4.toInt = 0 → (σ 0 2).toInt < n2.toInt) ∧ (n6.toInt = 0 → n4.toInt = 1 → 0 ≤ n5.toInt))) 0 0 (va_A (wM a cI σ) sz) := by
  refine Met.ofW (cc := cX9_goesOn) (maxL := 1) (ret := none) (by decide) rfl ?_
  intro p e s m args below meth c s₁ B hml hv
  obtain ⟨rfl, hsz, hP, hK, hD0, hN⟩ := hv
  have hx := B.exec
  have hb := B.bytes
  have hr := B.returns
  have hts := atoms_spec (ws := wsX9_goesOn) B.pre
  have hown : s.vm.findClass RX9 = some m.cls := findClass_of_methodNamed B.named
  have hlocks := B.notSynchronized
  subst hsz
  have hD := hD0.self (sz := s.heap.size)
  generalize hAe : va_A (wM a cI σ) s.heap.size = A at hD hN ⊢
  have hA : ∀ q : Nat, s.heap.size ≤ q → A q := fun q h => by rw [← hAe]; exact Or.inr h
  clear hAe hD0
  have hS : va_S A s.heap s.heap [] := va_S.rf
  have in9 : ∀ w ∈ u_ws RX9 TX9 28, w ∈ wsX9_goesOn := by decide +kernel
  have k71 := hts (.fieldLink RX9 71 "HouseSortedModel" "fault" "I") (by decide +kernel)
  have hl := lv_entry ([.ref (a 0)]) (n := 1) (Nat.le_of_ble_eq_true rfl)
  rw [lg_entry_eq]
  generalize (lg_sl ([.ref (a 0)]) ++ List.replicate (1 - (lg_sl ([.ref (a 0)])).length) Slot.unset).toArray = ls at hl ⊢
  have hl : lv_has ls 1 [(0, .ref (a 0))] := hl
  suffices main : ∀ (H : Heap) (locs : List Loc), va_P (dC, dI) vwCl (wM a cI σ) H → va_D A (wM a cI σ) → va_S A s.heap H locs → W p l e (headSpec wsX9_goesOn RM_X9_goesOn).room s m ([.ref (a 0)] : List Value).toArray below meth c H locs 0 0 (MQ below (zQv (dC, dI) [(cI, .int)] (wM a cI) A (fun (σ1 : Cn) => ∃ n2 : Int32, ∃ n3 : Int32, ∃ n4 : Int32, ∃ n5 : Int32, ∃ n6 : Int32, ∃ n7 : Int32, σ1 = (upC σ 0 (upd (upd (upd (upd (upd (upd (σ 0) 2 n2) 3 n3) 4 n4) 5 n5) 6 n6) 7 n7)) ∧ (0 ≤ n3.toInt ∧ n3.toInt ≤ 160) ∧ ((σ 0 2).toInt ≤ n2.toInt ∧ n2.toInt ≤ 160) ∧ 0 ≤ n6.toInt ∧ (n6.toInt = 0 → (σ 0 6).toInt = 0) ∧ (n6.toInt = 0 → ¬ n4.toInt = 0 → (σ 0 2).toInt < n2.toInt) ∧ (n6.toInt = 0 → n4.toInt = 1 → 0 ≤ n5.toInt))) ([.ref (a 0)] : List Value).toArray s 0 0 A) (F0 m 0 ls []) from main s.heap [] hP hD hS
  intro H locs hP hD hS
  refine lv_aload_n hx hb dX9_goesOn_0 rfl (lv_at hl 0 rfl) ?_
  refine va_get (D := (dC, dI)) (ci := 9) (v := .int (σ 0 6)) (C := RX9) (T := TX9) (N := 28) hx hb hts in9 hown hK hP 0 rfl rfl 6 (by decide) k71 (fun _ h9 => h9) rfl dX9_goesOn_1 ?_
  refine lv_if_ne (tgt := 11) hx hb dX9_goesOn_4 (by decide) (fun c4 => ?_) (fun c4 => ?_)
  · skip
    have ic4 := zneq (a := (σ 0 6).toInt) (b := 0) rfl (by decide) c4
    have heq9 : σ = (upC σ 0 (upd (upd (upd (upd (upd (upd (σ 0) 2 (σ 0 2)) 3 (σ 0 3)) 4 (σ 0 4)) 5 (σ 0 5)) 6 (σ 0 6)) 7 (σ 0 7))) := by
      funext k
      by_cases e0 : k = 0
      · subst e0
        funext i
        by_cases f2 : i = 2
        · subst f2; rfl
        by_cases f3 : i = 3
        · subst f3; rfl
        by_cases f4 : i = 4
        · subst f4; rfl
        by_cases f5 : i = 5
        · subst f5; rfl
        by_cases f6 : i = 6
        · subst f6; rfl
        by_cases f7 : i = 7
        · subst f7; rfl
        show (σ 0) i = (upd (upd (upd (upd (upd (upd (σ 0) 2 (σ 0 2)) 3 (σ 0 3)) 4 (σ 0 4)) 5 (σ 0 5)) 6 (σ 0 6)) 7 (σ 0 7)) i
        simp only [upd, if_neg f2, if_neg f3, if_neg f4, if_neg f5, if_neg f6, if_neg f7]
      simp only [upC, if_neg e0]
    have hpost : ∃ n2 : Int32, ∃ n3 : Int32, ∃ n4 : Int32, ∃ n5 : Int32, ∃ n6 : Int32, ∃ n7 : Int32, σ = (upC σ 0 (upd (upd (upd (upd (upd (upd (σ 0) 2 n2) 3 n3) 4 n4) 5 n5) 6 n6) 7 n7)) ∧ (0 ≤ n3.toInt ∧ n3.toInt ≤ 160) ∧ ((σ 0 2).toInt ≤ n2.toInt ∧ n2.toInt ≤ 160) ∧ 0 ≤ n6.toInt ∧ (n6.toInt = 0 → (σ 0 6).toInt = 0) ∧ (n6.toInt = 0 → ¬ n4.toInt = 0 → (σ 0 2).toInt < n2.toInt) ∧ (n6.toInt = 0 → n4.toInt = 1 → 0 ≤ n5.toInt) := by refine ⟨(σ 0 2), (σ 0 3), (σ 0 4), (σ 0 5), (σ 0 6), (σ 0 7), heq9, ?_⟩; first | exact hv8 | (refine ⟨by omega, by omega, by omega, by omega, by omega, by omega⟩)
    exact W.vret hx hb hr (fun t9 ht hW => ⟨⟨σ, rfl, hpost, by rw [ht]; exact hP, va_K.moved hW.alike hK, hD⟩, hS.F ht⟩) hS.2.2 dX9_goesOn_11
  · skip
    have ic4 := zeq (a := (σ 0 6).toInt) (b := 0) rfl (by decide) c4
    refine lv_aload_n hx hb dX9_goesOn_7 rfl (lv_at hl 0 rfl) ?_
    refine zcallv (va_runV (As := []) (rest := []) ⟨hx, hb, hml, hown, hts⟩ (c_X9_next l dC dI cI a N hok σ H.size  h3 ha hx0) (cwV 0 hts gX9_goesOn_X9_next rfl rfl rfl (by decide +kernel) ⟨Nat.le_of_ble_eq_true rfl, Nat.le_of_ble_eq_true rfl⟩) (zpreV (wf := wM a cI) (q0 := 0) (ci := 9) hok hN hS hA hK hP hD rfl rfl) rfl rfl hl.1 rfl (lv_room (Nat.le_of_ble_eq_true rfl)) dX9_goesOn_8 ⟨Nat.zero_le _, Nat.zero_le _⟩) hD hS hA (fun σ1 H locs hv8 hP hD hS => ?_)
    obtain ⟨n2_8, n3_8, n4_8, n5_8, n6_8, n7_8, es9, hv8⟩ := hv8
    subst σ1
    have hP : va_P (dC, dI) vwCl (wM a cI (upC σ 0 (upd (upd (upd (upd (upd (upd (σ 0) 2 n2_8) 3 n3_8) 4 n4_8) 5 n5_8) 6 n6_8) 7 n7_8))) H := hP
    have hD : va_D A (wM a cI (upC σ 0 (upd (upd (upd (upd (upd (upd (σ 0) 2 n2_8) 3 n3_8) 4 n4_8) 5 n5_8) 6 n6_8) 7 n7_8))) := hD
    have heq9 : (upC σ 0 (upd (upd (upd (upd (upd (upd (σ 0) 2 n2_8) 3 n3_8) 4 n4_8) 5 n5_8) 6 n6_8) 7 n7_8)) = (upC σ 0 (upd (upd (upd (upd (upd (upd (σ 0) 2 n2_8) 3 n3_8) 4 n4_8) 5 n5_8) 6 n6_8) 7 n7_8)) := rfl
    have hpost : ∃ n2 : Int32, ∃ n3 : Int32, ∃ n4 : Int32, ∃ n5 : Int32, ∃ n6 : Int32, ∃ n7 : Int32, (upC σ 0 (upd (upd (upd (upd (upd (upd (σ 0) 2 n2_8) 3 n3_8) 4 n4_8) 5 n5_8) 6 n6_8) 7 n7_8)) = (upC σ 0 (upd (upd (upd (upd (upd (upd (σ 0) 2 n2) 3 n3) 4 n4) 5 n5) 6 n6) 7 n7)) ∧ (0 ≤ n3.toInt ∧ n3.toInt ≤ 160) ∧ ((σ 0 2).toInt ≤ n2.toInt ∧ n2.toInt ≤ 160) ∧ 0 ≤ n6.toInt ∧ (n6.toInt = 0 → (σ 0 6).toInt = 0) ∧ (n6.toInt = 0 → ¬ n4.toInt = 0 → (σ 0 2).toInt < n2.toInt) ∧ (n6.toInt = 0 → n4.toInt = 1 → 0 ≤ n5.toInt) := by refine ⟨(n2_8), (n3_8), (n4_8), (n5_8), (n6_8), (n7_8), heq9, ?_⟩; first | exact hv8 | (refine ⟨by omega, by omega, by omega, by omega, by omega, by omega⟩)
    exact W.vret hx hb hr (fun t9 ht hW => ⟨⟨(upC σ 0 (upd (upd (upd (upd (upd (upd (σ 0) 2 n2_8) 3 n3_8) 4 n4_8) 5 n5_8) 6 n6_8) 7 n7_8)), rfl, hpost, by rw [ht]; exact hP, va_K.moved hW.alike hK, hD⟩, hS.F ht⟩) hS.2.2 dX9_goesOn_11

