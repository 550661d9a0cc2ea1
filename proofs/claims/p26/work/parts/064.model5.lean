abbrev RM_X9_bidder : Room := { frames := 0, cells := 0, slots := 0, locals := 0 }
set_option maxHeartbeats 4000000 in
set_option maxRecDepth 100000 in
theorem c_X9_bidder (l : Launch) (dC : Nat → ClassId) (dI : Nat → Nat → Nat) (cI : ClassId) (a : Nat → Nat) (N : (Nat → Prop) → State → Prop) (hok : zNok N) (σ : Cn) (sz : Nat) (x1 : Int32) (h0 : 0 ≤ (σ 0 10).toInt ∧ (σ 0 10).toInt ≤ 4) (h1 : 0 ≤ x1.toInt ∧ x1.toInt < 10) : Met l yX9_bidder wsX9_bidder RM_X9_bidder (zPc (dC, dI) [(cI, .int)] N (wM a cI) σ sz [.ref (a 0), .int x1]) (zQi (dC, dI) [(cI, .int)] (wM a cI) (va_A (wM a cI σ) sz) (fun (r : Int32) (σ1 : Cn) => σ1 = σ ∧ True)) 0 0 (va_A (wM a cI σ) sz) := by
  refine Met.ofW (cc := cX9_bidder) (maxL := 4) (ret := (some .int)) (by decide) rfl ?_
  intro p e s m args below meth c s₁ B hml hv
  obtain ⟨rfl, hsz, hP, hK, hD0, hN⟩ := hv
  have hx := B.exec
  have hb := B.bytes
  have hr := B.returns
  have hts := atoms_spec (ws := wsX9_bidder) B.pre
  have hown : s.vm.findClass RX9 = some m.cls := findClass_of_methodNamed B.named
  have hlocks := B.notSynchronized
  subst hsz
  have hD := hD0.self (sz := s.heap.size)
  generalize hAe : va_A (wM a cI σ) s.heap.size = A at hD hN ⊢
  have hA : ∀ q : Nat, s.heap.size ≤ q → A q := fun q h => by rw [← hAe]; exact Or.inr h
  clear hAe hD0
  have hS : va_S A s.heap s.heap [] := va_S.rf
  have in9 : ∀ w ∈ u_ws RX9 TX9 28, w ∈ wsX9_bidder := by decide +kernel
  have k143 := hts (.fieldLink RX9 143 "HouseSortedModel" "heirs" "I") (by decide +kernel)
  have k34 := hts (.fieldLink RX9 34 "HouseSortedModel" "worths" "[I") (by decide +kernel)
  have LP : ∀ n : Nat, (∀ (b : Int32) (j : Int32) (H : Heap) (locs : List Loc) (ls : Array Slot), 0 ≤ b.toInt ∧ b.toInt < 4 → 1 ≤ j.toInt ∧ j.toInt ≤ 5 → (5 - j.toInt).toNat < n → va_P (dC, dI) vwCl (wM a cI σ) H → va_D A (wM a cI σ) → va_S A s.heap H locs → lv_has ls 4 [(0, .ref (a 0)), (1, .int x1), (2, .int b), (3, .int j)] → W p l e (headSpec wsX9_bidder RM_X9_bidder).room s m ([.ref (a 0), .int x1] : List Value).toArray below meth c H locs 0 0 (MQ below (zQi (dC, dI) [(cI, .int)] (wM a cI) A (fun (r : Int32) (σ1 : Cn) => σ1 = σ ∧ True)) ([.ref (a 0), .int x1] : List Value).toArray s 0 0 A) (F0 m 4 ls [])) := by
    intro n
    induction n with
    | zero => exact by intros; omega
    | succ n ih =>
      · intro b j H locs ls g1 g2 hmu hP hD hS hl
        refine lv_iload_n hx hb dX9_bidder_4 rfl (lv_at hl 3 rfl) ?_
        refine lv_aload_n hx hb dX9_bidder_5 rfl (lv_at hl 0 rfl) ?_
        refine va_get (D := (dC, dI)) (ci := 9) (v := .int (σ 0 10)) (C := RX9) (T := TX9) (N := 28) hx hb hts in9 hown hK hP 0 rfl rfl 10 (by decide) k143 (fun _ h9 => h9) rfl dX9_bidder_6 ?_
        refine lv_icmp_ge (tgt := 49) hx hb dX9_bidder_9 (by decide) (fun c9 => ?_) (fun c9 => ?_)
        · skip
          have ic9 := zle (a := (σ 0 10).toInt) (b := j.toInt) rfl rfl c9
          refine lv_iload_n hx hb dX9_bidder_49 rfl (lv_at hl 2 rfl) ?_
          have heq9 : σ = σ := rfl
          have hpost : σ = σ ∧ True := by refine ⟨heq9, ?_⟩; trivial
          exact W.iret (v := b) hx hb hr (fun t9 ht hW => ⟨⟨b, σ, rfl, hpost, by rw [ht]; exact hP, va_K.moved hW.alike hK, hD⟩, hS.F ht⟩) hS.2.2 dX9_bidder_50
        · skip
          have ic9 := znle (a := (σ 0 10).toInt) (b := j.toInt) rfl rfl c9
          refine lv_aload_n hx hb dX9_bidder_12 rfl (lv_at hl 0 rfl) ?_
          refine va_get (D := (dC, dI)) (ci := 9) (v := .ref (a 9)) (C := RX9) (T := TX9) (N := 28) hx hb hts in9 hown hK hP 0 rfl rfl 17 (by decide) k34 (fun _ h9 => h9) rfl dX9_bidder_13 ?_
          refine lv_bipush (v := 10) hx hb dX9_bidder_16 (by decide) ?_
          refine lv_iload_n hx hb dX9_bidder_18 rfl (lv_at hl 3 rfl) ?_
          refine lv_imul hx hb dX9_bidder_19 ?_
          refine lv_topi (fun v19 ev19 => ?_)
          have tv19 : v19.toInt = 10 * j.toInt := by rw [ev19, zmul, show (10 : Int32).toInt = 10 from by decide]; omega
          refine lv_iload_n hx hb dX9_bidder_20 rfl (lv_at hl 1 rfl) ?_
          refine lv_iadd hx hb dX9_bidder_21 ?_
          refine lv_topi (fun v21 ev21 => ?_)
          have tv21 : v21.toInt = v19.toInt + x1.toInt := by rw [ev21, zadd]; omega
          refine va_iald (D := (dC, dI)) (f := σ 9) hx hb hK hP 9 0 rfl rfl (i := v21) (n := 40) (zin (by omega) (by omega)) dX9_bidder_22 ?_
          refine lv_topi (fun v22 ev22 => ?_)
          have tv22 := congrArg Int32.toInt ev22
          refine lv_aload_n hx hb dX9_bidder_23 rfl (lv_at hl 0 rfl) ?_
          refine va_get (D := (dC, dI)) (ci := 9) (v := .ref (a 9)) (C := RX9) (T := TX9) (N := 28) hx hb hts in9 hown hK hP 0 rfl rfl 17 (by decide) k34 (fun _ h9 => h9) rfl dX9_bidder_24 ?_
          refine lv_bipush (v := 10) hx hb dX9_bidder_27 (by decide) ?_
          refine lv_iload_n hx hb dX9_bidder_29 rfl (lv_at hl 2 rfl) ?_
          refine lv_imul hx hb dX9_bidder_30 ?_
          refine lv_topi (fun v30 ev30 => ?_)
          have tv30 : v30.toInt = 10 * b.toInt := by rw [ev30, zmul, show (10 : Int32).toInt = 10 from by decide]; omega
          refine lv_iload_n hx hb dX9_bidder_31 rfl (lv_at hl 1 rfl) ?_
          refine lv_iadd hx hb dX9_bidder_32 ?_
          refine lv_topi (fun v32 ev32 => ?_)
          have tv32 : v32.toInt = v30.toInt + x1.toInt := by rw [ev32, zadd]; omega
          refine va_iald (D := (dC, dI)) (f := σ 9) hx hb hK hP 9 0 rfl rfl (i := v32) (n := 40) (zin (by omega) (by omega)) dX9_bidder_33 ?_
          refine lv_topi (fun v33 ev33 => ?_)
          have tv33 := congrArg Int32.toInt ev33
          refine lv_icmp_le (tgt := 41) hx hb dX9_bidder_34 (by decide) (fun c34 => ?_) (fun c34 => ?_)
          · skip
            have ic34 := zle (a := v22.toInt) (b := v33.toInt) rfl rfl c34
            refine lv_iload_n hx hb dX9_bidder_41 rfl (lv_at hl 2 rfl) ?_
            refine lv_istore_n (lv' := [(2, .int b), (0, .ref (a 0)), (1, .int x1), (3, .int j)]) hx hb dX9_bidder_42 rfl hl (by decide) rfl (fun ls hl => ?_)
            obtain ⟨v43, ev43⟩ : ∃ y : Int32, y = j + 1 := ⟨_, rfl⟩
            refine lv_iinc (v := v43) (lv' := [(3, .int v43), (2, .int b), (0, .ref (a 0)), (1, .int x1)]) hx hb dX9_bidder_43 hl (k := 3) rfl (by rw [ev43]; rfl) (by decide) rfl (fun ls hl => ?_)
            have tv43 : v43.toInt = j.toInt + 1 := by rw [ev43, zadd, show (1 : Int32).toInt = 1 from by decide]; omega
            refine lv_goto (tgt := 4) hx hb dX9_bidder_46 (by decide) ?_
            exact ih (b) (v43)  H locs ls (by omega) (by omega) (by omega) hP hD hS (lv_sub hl [2, 3, 1, 0] rfl)
          · skip
            have ic34 := znle (a := v22.toInt) (b := v33.toInt) rfl rfl c34
            refine lv_iload_n hx hb dX9_bidder_37 rfl (lv_at hl 3 rfl) ?_
            refine lv_goto (tgt := 42) hx hb dX9_bidder_38 (by decide) ?_
            refine lv_istore_n (lv' := [(2, .int j), (0, .ref (a 0)), (1, .int x1), (3, .int j)]) hx hb dX9_bidder_42 rfl hl (by decide) rfl (fun ls hl => ?_)
            obtain ⟨v43, ev43⟩ : ∃ y : Int32, y = j + 1 := ⟨_, rfl⟩
            refine lv_iinc (v := v43) (lv' := [(3, .int v43), (2, .int j), (0, .ref (a 0)), (1, .int x1)]) hx hb dX9_bidder_43 hl (k := 3) rfl (by rw [ev43]; rfl) (by decide) rfl (fun ls hl => ?_)
            have tv43 : v43.toInt = j.toInt + 1 := by rw [ev43, zadd, show (1 : Int32).toInt = 1 from by decide]; omega
            refine lv_goto (tgt := 4) hx hb dX9_bidder_46 (by decide) ?_
            exact ih (j) (v43)  H locs ls (by omega) (by omega) (by omega) hP hD hS (lv_sub hl [2, 3, 1, 0] rfl)
  have hl := lv_entry ([.ref (a 0), .int x1]) (n := 4) (Nat.le_of_ble_eq_true rfl)
  rw [lg_entry_eq]
  generalize (lg_sl ([.ref (a 0), .int x1]) ++ List.replicate (4 - (lg_sl ([.ref (a 0), .int x1])).length) Slot.unset).toArray = ls at hl ⊢
  have hl : lv_has ls 4 [(0, .ref (a 0)), (1, .int x1)] := hl
  suffices main : ∀ (H : Heap) (locs : List Loc), va_P (dC, dI) vwCl (wM a cI σ) H → va_D A (wM a cI σ) → va_S A s.heap H locs → W p l e (headSpec wsX9_bidder RM_X9_bidder).room s m ([.ref (a 0), .int x1] : List Value).toArray below meth c H locs 0 0 (MQ below (zQi (dC, dI) [(cI, .int)] (wM a cI) A (fun (r : Int32) (σ1 : Cn) => σ1 = σ ∧ True)) ([.ref (a 0), .int x1] : List Value).toArray s 0 0 A) (F0 m 0 ls []) from main s.heap [] hP hD hS
  intro H locs hP hD hS
  refine lv_iconst (v := 0) hx hb dX9_bidder_0 (by decide) ?_
  refine lv_istore_n (lv' := [(2, .int 0), (0, .ref (a 0)), (1, .int x1)]) hx hb dX9_bidder_1 rfl hl (by decide) rfl (fun ls hl => ?_)
  refine lv_iconst (v := 1) hx hb dX9_bidder_2 (by decide) ?_
  refine lv_istore_n (lv' := [(3, .int 1), (2, .int 0), (0, .ref (a 0)), (1, .int x1)]) hx hb dX9_bidder_3 rfl hl (by decide) rfl (fun ls hl => ?_)
  exact (LP _) (0) (1)  H locs ls (by decide) (by decide) (Nat.lt_succ_self _) hP hD hS (lv_sub hl [2, 3, 1, 0] rfl)

abbrev RM_X9_bid : Room := { frames := 3, cells := 0, slots := 0, locals := 67 }
set_option maxHeartbeats 4000000 in
set_option maxRecDepth 100000 in
theorem c_X9_bid (l : Launch) (dC : Nat → ClassId) (dI : Nat → Nat → Nat) (cI : ClassId) (a : Nat → Nat) (N : (Nat → Prop) → State → Prop) (hok : zNok N) (σ : Cn) (sz : Nat) (x1 : Int32) (h0 : 0 ≤ (σ 0 10).toInt ∧ (σ 0 10).toInt ≤ 4) (h2 : 0 ≤ (σ 0 11).toInt ∧ (σ 0 11).toInt ≤ 10) : Met l yX9_bid wsX9_bid RM_X9_bid (zPc (dC, dI) [(cI, .int)] N (wM a cI) σ sz [.ref (a 0), .int x1]) (zQi (dC, dI) [(cI, .int)] (wM a cI) (va_A (wM a cI σ) sz) (fun (r : Int32) (σ1 : Cn) => σ1 = σ ∧ True)) 0 0 (va_A (wM a cI σ) sz) := by
  refine Met.ofW (cc := cX9_bid) (maxL := 2) (ret := (some .int)) (by decide) rfl ?_
  intro p e s m args below meth c s₁ B hml hv
  obtain ⟨rfl, hsz, hP, hK, hD0, hN⟩ := hv
  have hx := B.exec
  have hb := B.bytes
  have hr := B.returns
  have hts := atoms_spec (ws := wsX9_bid) B.pre
  have hown : s.vm.findClass RX9 = some m.cls := findClass_of_methodNamed B.named
  have hlocks := B.notSynchronized
  subst hsz
  have hD := hD0.self (sz := s.heap.size)
  generalize hAe : va_A (wM a cI σ) s.heap.size = A at hD hN ⊢
  have hA : ∀ q : Nat, s.heap.size ≤ q → A q := fun q h => by rw [← hAe]; exact Or.inr h
  clear hAe hD0
  have hS : va_S A s.heap s.heap [] := va_S.rf
  have in9 : ∀ w ∈ u_ws RX9 TX9 28, w ∈ wsX9_bid := by decide +kernel
  have k143 := hts (.fieldLink RX9 143 "HouseSortedModel" "heirs" "I") (by decide +kernel)
  have hl := lv_entry ([.ref (a 0), .int x1]) (n := 2) (Nat.le_of_ble_eq_true rfl)
  rw [lg_entry_eq]
  generalize (lg_sl ([.ref (a 0), .int x1]) ++ List.replicate (2 - (lg_sl ([.ref (a 0), .int x1])).length) Slot.unset).toArray = ls at hl ⊢
  have hl : lv_has ls 2 [(0, .ref (a 0)), (1, .int x1)] := hl
  suffices main : ∀ (H : Heap) (locs : List Loc), va_P (dC, dI) vwCl (wM a cI σ) H → va_D A (wM a cI σ) → va_S A s.heap H locs → W p l e (headSpec wsX9_bid RM_X9_bid).room s m ([.ref (a 0), .int x1] : List Value).toArray below meth c H locs 0 0 (MQ below (zQi (dC, dI) [(cI, .int)] (wM a cI) A (fun (r : Int32) (σ1 : Cn) => σ1 = σ ∧ True)) ([.ref (a 0), .int x1] : List Value).toArray s 0 0 A) (F0 m 0 ls []) from main s.heap [] hP hD hS
  intro H locs hP hD hS
  refine lv_aload_n hx hb dX9_bid_0 rfl (lv_at hl 0 rfl) ?_
  refine lv_iload_n hx hb dX9_bid_1 rfl (lv_at hl 1 rfl) ?_
  refine zcalli (va_runV (As := [.int x1]) (rest := []) ⟨hx, hb, hml, hown, hts⟩ (c_X9_isThing l dC dI cI a N hok σ H.size (x1) h2) (cwV 1 hts gX9_bid_X9_isThing rfl rfl rfl (by decide +kernel) ⟨Nat.le_of_ble_eq_true rfl, Nat.le_of_ble_eq_true rfl⟩) (zpreV (wf := wM a cI) (q0 := 0) (ci := 9) hok hN hS hA hK hP hD rfl rfl) rfl rfl hl.1 rfl (lv_room (Nat.le_of_ble_eq_true rfl)) dX9_bid_2 ⟨Nat.zero_le _, Nat.zero_le _⟩) hD hS hA (fun v2 σ1 H locs hv2 hP hD hS => ?_)
  obtain ⟨es9, hv2⟩ := hv2
  subst σ1
  refine lv_if_ne (tgt := 10) hx hb dX9_bid_5 (by decide) (fun c5 => ?_) (fun c5 => ?_)
  · skip
    have ic5 := zneq (a := v2.toInt) (b := 0) rfl (by decide) c5
    replace hv2 := (hv2.resolve_right (fun q => by omega)).2
    refine lv_aload_n hx hb dX9_bid_10 rfl (lv_at hl 0 rfl) ?_
    refine va_get (D := (dC, dI)) (ci := 9) (v := .int (σ 0 10)) (C := RX9) (T := TX9) (N := 28) hx hb hts in9 hown hK hP 0 rfl rfl 10 (by decide) k143 (fun _ h9 => h9) rfl dX9_bid_11 ?_
    refine lv_if_ne (tgt := 20) hx hb dX9_bid_14 (by decide) (fun c14 => ?_) (fun c14 => ?_)
    · skip
      have ic14 := zneq (a := (σ 0 10).toInt) (b := 0) rfl (by decide) c14
      refine lv_aload_n hx hb dX9_bid_20 rfl (lv_at hl 0 rfl) ?_
      refine lv_iload_n hx hb dX9_bid_21 rfl (lv_at hl 1 rfl) ?_
      refine zcalli (va_runV (As := [.int x1]) (rest := []) ⟨hx, hb, hml, hown, hts⟩ (c_X9_wayNow l dC dI cI a N hok σ H.size (x1) h0 (by omega)) (cwV 1 hts gX9_bid_X9_wayNow rfl rfl rfl (by decide +kernel) ⟨Nat.le_of_ble_eq_true rfl, Nat.le_of_ble_eq_true rfl⟩) (zpreV (wf := wM a cI) (q0 := 0) (ci := 9) hok hN hS hA hK hP hD rfl rfl) rfl rfl hl.1 rfl (lv_room (Nat.le_of_ble_eq_true rfl)) dX9_bid_22 ⟨Nat.zero_le _, Nat.zero_le _⟩) hD hS hA (fun v22 σ1 H locs hv22 hP hD hS => ?_)
      obtain ⟨es9, hv22⟩ := hv22
      subst σ1
      refine lv_if_ne (tgt := 36) hx hb dX9_bid_25 (by decide) (fun c25 => ?_) (fun c25 => ?_)
      · skip
        have ic25 := zneq (a := v22.toInt) (b := 0) rfl (by decide) c25
        refine lv_bipush (v := (-4)) hx hb dX9_bid_36 (by decide) ?_
        have heq9 : σ = σ := rfl
        have hpost : σ = σ ∧ True := by refine ⟨heq9, ?_⟩; trivial
        exact W.iret (v := (-4)) hx hb hr (fun t9 ht hW => ⟨⟨(-4), σ, rfl, hpost, by rw [ht]; exact hP, va_K.moved hW.alike hK, hD⟩, hS.F ht⟩) hS.2.2 dX9_bid_38
      · skip
        have ic25 := zeq (a := v22.toInt) (b := 0) rfl (by decide) c25
        refine lv_aload_n hx hb dX9_bid_28 rfl (lv_at hl 0 rfl) ?_
        refine lv_iload_n hx hb dX9_bid_29 rfl (lv_at hl 1 rfl) ?_
        refine zcalli (va_runV (As := [.int x1]) (rest := []) ⟨hx, hb, hml, hown, hts⟩ (c_X9_bidder l dC dI cI a N hok σ H.size (x1) h0 (by omega)) (cwV 1 hts gX9_bid_X9_bidder rfl rfl rfl (by decide +kernel) ⟨Nat.le_of_ble_eq_true rfl, Nat.le_of_ble_eq_true rfl⟩) (zpreV (wf := wM a cI) (q0 := 0) (ci := 9) hok hN hS hA hK hP hD rfl rfl) rfl rfl hl.1 rfl (lv_room (Nat.le_of_ble_eq_true rfl)) dX9_bid_30 ⟨Nat.zero_le _, Nat.zero_le _⟩) hD hS hA (fun v30 σ1 H locs hv30 hP hD hS => ?_)
        obtain ⟨es9, hv30⟩ := hv30
        subst σ1
        refine lv_goto (tgt := 38) hx hb dX9_bid_33 (by decide) ?_
        have heq9 : σ = σ := rfl
        have hpost : σ = σ ∧ True := by refine ⟨heq9, ?_⟩; trivial
        exact W.iret (v := v30) hx hb hr (fun t9 ht hW => ⟨⟨v30, σ, rfl, hpost, by rw [ht]; exact hP, va_K.moved hW.alike hK, hD⟩, hS.F ht⟩) hS.2.2 dX9_bid_38
    · skip
      have ic14 := zeq (a := (σ 0 10).toInt) (b := 0) rfl (by decide) c14
      refine lv_bipush (v := (-2)) hx hb dX9_bid_17 (by decide) ?_
      have heq9 : σ = σ := rfl
      have hpost : σ = σ ∧ True := by refine ⟨heq9, ?_⟩; trivial
      exact W.iret (v := (-2)) hx hb hr (fun t9 ht hW => ⟨⟨(-2), σ, rfl, hpost, by rw [ht]; exact hP, va_K.moved hW.alike hK, hD⟩, hS.F ht⟩) hS.2.2 dX9_bid_19
  · skip
    have ic5 := zeq (a := v2.toInt) (b := 0) rfl (by decide) c5
    replace hv2 := (hv2.resolve_left (fun q => by omega)).2
    refine lv_iconst (v := (-1)) hx hb dX9_bid_8 (by decide) ?_
    have heq9 : σ = σ := rfl
    have hpost : σ = σ ∧ True := by refine ⟨heq9, ?_⟩; trivial
    exact W.iret (v := (-1)) hx hb hr (fun t9 ht hW => ⟨⟨(-1), σ, rfl, hpost, by rw [ht]; exact hP, va_K.moved hW.alike hK, hD⟩, hS.F ht⟩) hS.2.2 dX9_bid_9

abbrev RM_X9_claimOf : Room := { frames := 0, cells := 0, slots := 0, locals := 0 }
set_option maxHeartbeats 4000000 in
set_option maxRecDepth 100000 in
theorem c_X9_claimOf (l : Launch) (dC : Nat → ClassId) (dI : Nat → Nat → Nat) (cI : ClassId) (a : Nat → Nat) (N : (Nat → Prop) → State → Prop) (hok : zNok N) (σ : Cn) (sz : Nat) (x1 : Int32) (hp : 1 ≤ (σ 0 10).toInt ∧ (σ 0 10).toInt ≤ 4) (h1 : 0 ≤ x1.toInt ∧ x1.toInt < 4) (hs : 0 ≤ (σ 0 18).toInt ∧ (σ 0 18).toInt ≤ 10) (hq : ∀ j : Nat, (j : Int) < (σ 0 18).toInt → 0 ≤ (σ 10 j).toInt ∧ (σ 10 j).toInt < 10) : Met l yX9_claimOf wsX9_claimOf RM_X9_claimOf (zPc (dC, dI) [(cI, .int)] N (wM a cI) σ sz [.ref (a 0), .int x1]) (zQi (dC, dI) [(cI, .int)] (wM a cI) (va_A (wM a cI σ) sz) (fun (r : Int32) (σ1 : Cn) => σ1 = σ ∧ True)) 0 0 (va_A (wM a cI σ) sz) := by
  refine Met.ofW (cc := cX9_claimOf) (maxL := 4) (ret := (some .int)) (by decide) rfl ?_
  intro p e s m args below meth c s₁ B hml hv
  obtain ⟨rfl, hsz, hP, hK, hD0, hN⟩ := hv
  have hx := B.exec
  have hb := B.bytes
  have hr := B.returns
  have hts := atoms_spec (ws := wsX9_claimOf) B.pre
  have hown : s.vm.findClass RX9 = some m.cls := findClass_of_methodNamed B.named
  have hlocks := B.notSynchronized
  subst hsz
  have hD := hD0.self (sz := s.heap.size)
  generalize hAe : va_A (wM a cI σ) s.heap.size = A at hD hN ⊢
  have hA : ∀ q : Nat, s.heap.size ≤ q → A q := fun q h => by rw [← hAe]; exact Or.inr h
  clear hAe hD0
  have hS : va_S A s.heap s.heap [] := va_S.rf
  have in9 : ∀ w ∈ u_ws RX9 TX9 28, w ∈ wsX9_claimOf := by decide +kernel
  have k143 := hts (.fieldLink RX9 143 "HouseSortedModel" "heirs" "I") (by decide +kernel)
  have k182 := hts (.fieldLink RX9 182 "HouseSortedModel" "shared" "I") (by decide +kernel)
  have k34 := hts (.fieldLink RX9 34 "HouseSortedModel" "worths" "[I") (by decide +kernel)
  have k37 := hts (.fieldLink RX9 37 "HouseSortedModel" "which" "[I") (by decide +kernel)
  have LP : ∀ n : Nat, (∀ (f : Int32) (j : Int32) (H : Heap) (locs : List Loc) (ls : Array Slot), 0 ≤ j.toInt ∧ j.toInt ≤ 10 → (10 - j.toInt).toNat < n → va_P (dC, dI) vwCl (wM a cI σ) H → va_D A (wM a cI σ) → va_S A s.heap H locs → lv_has ls 4 [(0, .ref (a 0)), (1, .int x1), (2, .int f), (3, .int j)] → W p l e (headSpec wsX9_claimOf RM_X9_claimOf).room s m ([.ref (a 0), .int x1] : List Value).toArray below meth c H locs 0 0 (MQ below (zQi (dC, dI) [(cI, .int)] (wM a cI) A (fun (r : Int32) (σ1 : Cn) => σ1 = σ ∧ True)) ([.ref (a 0), .int x1] : List Value).toArray s 0 0 A) (F0 m 4 ls [])) := by
    intro n
    induction n with
    | zero => exact by intros; omega
    | succ n ih =>
      · intro f j H locs ls g1 hmu hP hD hS hl
        refine lv_iload_n hx hb dX9_claimOf_4 rfl (lv_at hl 3 rfl) ?_
        refine lv_aload_n hx hb dX9_claimOf_5 rfl (lv_at hl 0 rfl) ?_
        refine va_get (D := (dC, dI)) (ci := 9) (v := .int (σ 0 18)) (C := RX9) (T := TX9) (N := 28) hx hb hts in9 hown hK hP 0 rfl rfl 18 (by decide) k182 (fun _ h9 => h9) rfl dX9_claimOf_6 ?_
        refine lv_icmp_ge (tgt := 37) hx hb dX9_claimOf_9 (by decide) (fun c9 => ?_) (fun c9 => ?_)
        · skip
          have ic9 := zle (a := (σ 0 18).toInt) (b := j.toInt) rfl rfl c9
          refine lv_iload_n hx hb dX9_claimOf_37 rfl (lv_at hl 2 rfl) ?_
          refine lv_aload_n hx hb dX9_claimOf_38 rfl (lv_at hl 0 rfl) ?_
          refine va_get (D := (dC, dI)) (ci := 9) (v := .int (σ 0 10)) (C := RX9) (T := TX9) (N := 28) hx hb hts in9 hown hK hP 0 rfl rfl 10 (by decide) k143 (fun _ h9 => h9) rfl dX9_claimOf_39 ?_
          refine lv_idiv hx hb dX9_claimOf_42 (fun h0 => by have h1 := zeq (a := (σ 0 10).toInt) (b := 0) rfl (by decide) h0; omega) ?_
          refine lv_topi (fun v42 ev42 => ?_)
          have heq9 : σ = σ := rfl
          have hpost : σ = σ ∧ True := by refine ⟨heq9, ?_⟩; trivial
          exact W.iret (v := v42) hx hb hr (fun t9 ht hW => ⟨⟨v42, σ, rfl, hpost, by rw [ht]; exact hP, va_K.moved hW.alike hK, hD⟩, hS.F ht⟩) hS.2.2 dX9_claimOf_43
        · skip
          have ic9 := znle (a := (σ 0 18).toInt) (b := j.toInt) rfl rfl c9
          refine lv_iload_n hx hb dX9_claimOf_12 rfl (lv_at hl 2 rfl) ?_
          refine lv_aload_n hx hb dX9_claimOf_13 rfl (lv_at hl 0 rfl) ?_
          refine va_get (D := (dC, dI)) (ci := 9) (v := .ref (a 9)) (C := RX9) (T := TX9) (N := 28) hx hb hts in9 hown hK hP 0 rfl rfl 17 (by decide) k34 (fun _ h9 => h9) rfl dX9_claimOf_14 ?_
          refine lv_bipush (v := 10) hx hb dX9_claimOf_17 (by decide) ?_
          refine lv_iload_n hx hb dX9_claimOf_19 rfl (lv_at hl 1 rfl) ?_
          refine lv_imul hx hb dX9_claimOf_20 ?_
          refine lv_topi (fun v20 ev20 => ?_)
          have tv20 : v20.toInt = 10 * x1.toInt := by rw [ev20, zmul, show (10 : Int32).toInt = 10 from by decide]; omega
          refine lv_aload_n hx hb dX9_claimOf_21 rfl (lv_at hl 0 rfl) ?_
          refine va_get (D := (dC, dI)) (ci := 9) (v := .ref (a 10)) (C := RX9) (T := TX9) (N := 28) hx hb hts in9 hown hK hP 0 rfl rfl 19 (by decide) k37 (fun _ h9 => h9) rfl dX9_claimOf_22 ?_
          refine lv_iload_n hx hb dX9_claimOf_25 rfl (lv_at hl 3 rfl) ?_
          refine va_iald (D := (dC, dI)) (f := σ 10) hx hb hK hP 10 0 rfl rfl (i := j) (n := 10) (zin (by omega) (by omega)) dX9_claimOf_26 ?_
          refine lv_topi (fun v26 ev26 => ?_)
          have tv26 := congrArg Int32.toInt ev26
          have hb9 := hq ((j).toNatClampNeg) (by have q := zcl (x := j) (by omega); omega)
          refine lv_iadd hx hb dX9_claimOf_27 ?_
          refine lv_topi (fun v27 ev27 => ?_)
          have tv27 : v27.toInt = v20.toInt + v26.toInt := by rw [ev27, zadd]; omega
          refine va_iald (D := (dC, dI)) (f := σ 9) hx hb hK hP 9 0 rfl rfl (i := v27) (n := 40) (zin (by omega) (by omega)) dX9_claimOf_28 ?_
          refine lv_topi (fun v28 ev28 => ?_)
          have tv28 := congrArg Int32.toInt ev28
          refine lv_iadd hx hb dX9_claimOf_29 ?_
          refine lv_topi (fun v29 ev29 => ?_)
          refine lv_istore_n (lv' := [(2, .int v29), (0, .ref (a 0)), (1, .int x1), (3, .int j)]) hx hb dX9_claimOf_30 rfl hl (by decide) rfl (fun ls hl => ?_)
          obtain ⟨v31, ev31⟩ : ∃ y : Int32, y = j + 1 := ⟨_, rfl⟩
          refine lv_iinc (v := v31) (lv' := [(3, .int v31), (2, .int v29), (0, .ref (a 0)), (1, .int x1)]) hx hb dX9_claimOf_31 hl (k := 3) rfl (by rw [ev31]; rfl) (by decide) rfl (fun ls hl => ?_)
          have tv31 : v31.toInt = j.toInt + 1 := by rw [ev31, zadd, show (1 : Int32).toInt = 1 from by decide]; omega
          refine lv_goto (tgt := 4) hx hb dX9_claimOf_34 (by decide) ?_
          exact ih (v29) (v31)  H locs ls (by omega) (by omega) hP hD hS (lv_sub hl [2, 3, 1, 0] rfl)
  have hl := lv_entry ([.ref (a 0), .int x1]) (n := 4) (Nat.le_of_ble_eq_true rfl)
  rw [lg_entry_eq]
  generalize (lg_sl ([.ref (a 0), .int x1]) ++ List.replicate (4 - (lg_sl ([.ref (a 0), .int x1])).length) Slot.unset).toArray = ls at hl ⊢
  have hl : lv_has ls 4 [(0, .ref (a 0)), (1, .int x1)] := hl
  suffices main : ∀ (H : Heap) (locs : List Loc), va_P (dC, dI) vwCl (wM a cI σ) H → va_D A (wM a cI σ) → va_S A s.heap H locs → W p l e (headSpec wsX9_claimOf RM_X9_claimOf).room s m ([.ref (a 0), .int x1] : List Value).toArray below meth c H locs 0 0 (MQ below (zQi (dC, dI) [(cI, .int)] (wM a cI) A (fun (r : Int32) (σ1 : Cn) => σ1 = σ ∧ True)) ([.ref (a 0), .int x1] : List Value).toArray s 0 0 A) (F0 m 0 ls []) from main s.heap [] hP hD hS
  intro H locs hP hD hS
  refine lv_iconst (v := 0) hx hb dX9_claimOf_0 (by decide) ?_
  refine lv_istore_n (lv' := [(2, .int 0), (0, .ref (a 0)), (1, .int x1)]) hx hb dX9_claimOf_1 rfl hl (by decide) rfl (fun ls hl => ?_)
  refine lv_iconst (v := 0) hx hb dX9_claimOf_2 (by decide) ?_
  refine lv_istore_n (lv' := [(3, .int 0), (2, .int 0), (0, .ref (a 0)), (1, .int x1)]) hx hb dX9_claimOf_3 rfl hl (by decide) rfl (fun ls hl => ?_)
  exact (LP _) (0) (0)  H locs ls (by decide) (Nat.lt_succ_self _) hP hD hS (lv_sub hl [2, 3, 1, 0] rfl)

abbrev RM_X9_settled : Room := { frames := 4, cells := 0, slots := 0, locals := 88 }
set_option maxHeartbeats 4000000 in
set_option maxRecDepth 100000 in
theorem c_X9_settled (l : Launch) (dC : Nat → ClassId) (dI : Nat → Nat → Nat) (cI : ClassId) (a : Nat → Nat) (N : (Nat → Prop) → State → Prop) (hok : zNok N) (σ : Cn) (sz : Nat) (x1 : Int32) (x2 : Int32) (h0 : 0 ≤ (σ 0 10).toInt ∧ (σ 0 10).toInt ≤ 4) (h2 : 0 ≤ (σ 0 11).toInt ∧ (σ 0 11).toInt ≤ 10) : Met l yX9_settled wsX9_settled RM_X9_settled (zPc (dC, dI) [(cI, .int)] N (wM a cI) σ sz [.ref (a 0), .int x1, .int x2]) (zQi (dC, dI) [(cI, .int)] (wM a cI) (va_A (wM a cI σ) sz) (fun (r : Int32) (σ1 : Cn) => ∃ n18 : Int32, ∃ u10 : Nat → Int32, ∃ u11 : Nat → Int32, σ1 = (upC (upC (upC σ 0 (upd (σ 0) 18 n18)) 10 u10) 11 u11) ∧ True)) 0 0 (va_A (wM a cI σ) sz) := by
  refine Met.ofW (cc := cX9_settled) (maxL := 5) (ret := (some .int)) (by decide) rfl ?_
  intro p e s m args below meth c s₁ B hml hv
  obtain ⟨rfl, hsz, hP, hK, hD0, hN⟩ := hv
  have hx := B.exec
  have hb := B.bytes
  have hr := B.returns
  have hts := atoms_spec (ws := wsX9_settled) B.pre
  have hown : s.vm.findClass RX9 = some m.cls := findClass_of_methodNamed B.named
  have hlocks := B.notSynchronized
  subst hsz
  have hD := hD0.self (sz := s.heap.size)
  generalize hAe : va_A (wM a cI σ) s.heap.size = A at hD hN ⊢
  have hA : ∀ q : Nat, s.heap.size ≤ q → A q := fun q h => by rw [← hAe]; exact Or.inr h
  clear hAe hD0
  have hS : va_S A s.heap s.heap [] := va_S.rf
  have in9 : ∀ w ∈ u_ws RX9 TX9 28, w ∈ wsX9_settled := by decide +kernel
  have k143 := hts (.fieldLink RX9 143 "HouseSortedModel" "heirs" "I") (by decide +kernel)
  have k182 := hts (.fieldLink RX9 182 "HouseSortedModel" "shared" "I") (by decide +kernel)
  have k37 := hts (.fieldLink RX9 37 "HouseSortedModel" "which" "[I") (by decide +kernel)
  have k40 := hts (.fieldLink RX9 40 "HouseSortedModel" "gets" "[I") (by decide +kernel)
  have kl218 := hts (.constant RX9 218 (-100000)) (by decide +kernel)
  have kq180 := hts (.constantLong RX9 180 (3)) (by decide +kernel)
  have LP : ∀ n : Nat, (∀ (j : Int32) (m18 : Int32) (w10 : Nat → Int32) (w11 : Nat → Int32) (H : Heap) (locs : List Loc) (ls : Array Slot), 0 ≤ j.toInt ∧ j.toInt ≤ 10 → 0 ≤ m18.toInt ∧ m18.toInt ≤ 10 → (∀ j : Nat, (j : Int) < m18.toInt → 0 ≤ (w10 j).toInt ∧ (w10 j).toInt < 10) → 0 ≤ x1.toInt ∧ x1.toInt < (σ 0 10).toInt → (100 + (10 - j.toInt).toNat) < n → va_P (dC, dI) vwCl (wM a cI (upC (upC (upC σ 0 (upd (σ 0) 18 m18)) 10 w10) 11 w11)) H → va_D A (wM a cI (upC (upC (upC σ 0 (upd (σ 0) 18 m18)) 10 w10) 11 w11)) → va_S A s.heap H locs → lv_has ls 5 [(0, .ref (a 0)), (1, .int x1), (2, .int x2), (3, .int j)] → W p l e (headSpec wsX9_settled RM_X9_settled).room s m ([.ref (a 0), .int x1, .int x2] : List Value).toArray below meth c H locs 0 0 (MQ below (zQi (dC, dI) [(cI, .int)] (wM a cI) A (fun (r : Int32) (σ1 : Cn) => ∃ n18 : Int32, ∃ u10 : Nat → Int32, ∃ u11 : Nat → Int32, σ1 = (upC (upC (upC σ 0 (upd (σ 0) 18 n18)) 10 u10) 11 u11) ∧ True)) ([.ref (a 0), .int x1, .int x2] : List Value).toArray s 0 0 A) (F0 m 29 ls [])) ∧ (∀ (f : Int32) (j : Int32) (m18 : Int32) (w10 : Nat → Int32) (w11 : Nat → Int32) (H : Heap) (locs : List Loc) (ls : Array Slot), 0 ≤ j.toInt ∧ j.toInt ≤ 4 → 0 ≤ m18.toInt ∧ m18.toInt ≤ 10 → (∀ j : Nat, (j : Int) < m18.toInt → 0 ≤ (w10 j).toInt ∧ (w10 j).toInt < 10) → 0 ≤ x1.toInt ∧ x1.toInt < (σ 0 10).toInt → (4 - j.toInt).toNat < n → va_P (dC, dI) vwCl (wM a cI (upC (upC (upC σ 0 (upd (σ 0) 18 m18)) 10 w10) 11 w11)) H → va_D A (wM a cI (upC (upC (upC σ 0 (upd (σ 0) 18 m18)) 10 w10) 11 w11)) → va_S A s.heap H locs → lv_has ls 5 [(0, .ref (a 0)), (1, .int x1), (2, .int x2), (3, .int f), (4, .int j)] → W p l e (headSpec wsX9_settled RM_X9_settled).room s m ([.ref (a 0), .int x1, .int x2] : List Value).toArray below meth c H locs 0 0 (MQ below (zQi (dC, dI) [(cI, .int)] (wM a cI) A (fun (r : Int32) (σ1 : Cn) => ∃ n18 : Int32, ∃ u10 : Nat → Int32, ∃ u11 : Nat → Int32, σ1 = (upC (upC (upC σ 0 (upd (σ 0) 18 n18)) 10 u10) 11 u11) ∧ True)) ([.ref (a 0), .int x1, .int x2] : List Value).toArray s 0 0 A) (F0 m 64 ls [])) := by
    intro n
    induction n with
    | zero => exact ⟨(by intros; omega), (by intros; omega)⟩
    | succ n ih =>
      refine ⟨?_, ?_⟩
      · intro j m18 w10 w11 H locs ls g1 g2 g3 g4 hmu hP hD hS hl
        have hs := g2
        have hq := g3
        have hp : 1 ≤ (σ 0 10).toInt ∧ (σ 0 10).toInt ≤ 4 := by omega
        refine lv_iload_n hx hb dX9_settled_29 rfl (lv_at hl 3 rfl) ?_
        refine lv_aload_n hx hb dX9_settled_30 rfl (lv_at hl 0 rfl) ?_
        refine va_get (D := (dC, dI)) (ci := 9) (v := .int m18) (C := RX9) (T := TX9) (N := 28) hx hb hts in9 hown hK hP 0 rfl rfl 18 (by decide) k182 (fun _ h9 => h9) rfl dX9_settled_31 ?_
        refine lv_icmp_ge (tgt := 59) hx hb dX9_settled_34 (by decide) (fun c34 => ?_) (fun c34 => ?_)
        · skip
          have ic34 := zle (a := m18.toInt) (b := j.toInt) rfl rfl c34
          refine lv_iconst (v := 0) hx hb dX9_settled_59 (by decide) ?_
          refine lv_istore_n (lv' := [(3, .int 0), (0, .ref (a 0)), (1, .int x1), (2, .int x2)]) hx hb dX9_settled_60 rfl hl (by decide) rfl (fun ls hl => ?_)
          refine lv_iconst (v := 0) hx hb dX9_settled_61 (by decide) ?_
          refine lv_istore (lv' := [(4, .int 0), (3, .int 0), (0, .ref (a 0)), (1, .int x1), (2, .int x2)]) hx hb dX9_settled_62 hl (by decide) rfl (fun ls hl => ?_)
          exact ih.2 (0) (0) (m18) (w10) (w11) H locs ls (by first | omega | decide) (hs) (hq) (by omega) (by first | omega | (rw [show (0 : Int32).toInt = 0 from by decide]; omega)) hP hD hS (lv_sub hl [2, 3, 4, 1, 0] rfl)
        · skip
          have ic34 := znle (a := m18.toInt) (b := j.toInt) rfl rfl c34
          refine lv_aload_n hx hb dX9_settled_37 rfl (lv_at hl 0 rfl) ?_
          refine va_get (D := (dC, dI)) (ci := 9) (v := .ref (a 11)) (C := RX9) (T := TX9) (N := 28) hx hb hts in9 hown hK hP 0 rfl rfl 20 (by decide) k40 (fun _ h9 => h9) rfl dX9_settled_38 ?_
          refine lv_iload_n hx hb dX9_settled_41 rfl (lv_at hl 3 rfl) ?_
          refine lv_aload_n hx hb dX9_settled_42 rfl (lv_at hl 0 rfl) ?_
          refine lv_aload_n hx hb dX9_settled_43 rfl (lv_at hl 0 rfl) ?_
          refine va_get (D := (dC, dI)) (ci := 9) (v := .ref (a 10)) (C := RX9) (T := TX9) (N := 28) hx hb hts in9 hown hK hP 0 rfl rfl 19 (by decide) k37 (fun _ h9 => h9) rfl dX9_settled_44 ?_
          refine lv_iload_n hx hb dX9_settled_47 rfl (lv_at hl 3 rfl) ?_
          refine va_iald (D := (dC, dI)) (f := w10) hx hb hK hP 10 0 rfl rfl (i := j) (n := 10) (zin (by omega) (by omega)) dX9_settled_48 ?_
          refine lv_topi (fun v48 ev48 => ?_)
          have tv48 := congrArg Int32.toInt ev48
          have hb9 := hq ((j).toNatClampNeg) (by have q := zcl (x := j) (by omega); omega)
          refine zcalli (va_runV (As := [.int v48]) (rest := [.int j, .ref (a 11)]) ⟨hx, hb, hml, hown, hts⟩ (c_X9_bidder l dC dI cI a N hok (upC (upC (upC σ 0 (upd (σ 0) 18 m18)) 10 w10) 11 w11) H.size (v48) h0 (by omega)) (cwV 1 hts gX9_settled_X9_bidder rfl rfl rfl (by decide +kernel) ⟨Nat.le_of_ble_eq_true rfl, Nat.le_of_ble_eq_true rfl⟩) (zpreV (wf := wM a cI) (q0 := 0) (ci := 9) hok hN hS hA hK hP hD rfl rfl) rfl rfl hl.1 rfl (lv_room (Nat.le_of_ble_eq_true rfl)) dX9_settled_49 ⟨Nat.zero_le _, Nat.zero_le _⟩) hD hS hA (fun v49 σ1 H locs hv49 hP hD hS => ?_)
          obtain ⟨es9, hv49⟩ := hv49
          subst σ1
          refine va_iast (D := (dC, dI)) (f := w11) hx hb hK hP hD hS 11 0 rfl rfl (i := j) (n := 10) (zin (by omega) (by omega)) dX9_settled_52 (fun H locs hP hD hS => ?_)
          have hP : va_P (dC, dI) vwCl (wM a cI (upC (upC (upC σ 0 (upd (σ 0) 18 m18)) 10 w10) 11 (upd (w11) (j).toNatClampNeg v49))) H := hP
          have hD : va_D A (wM a cI (upC (upC (upC σ 0 (upd (σ 0) 18 m18)) 10 w10) 11 (upd (w11) (j).toNatClampNeg v49))) := hD
          obtain ⟨v53, ev53⟩ : ∃ y : Int32, y = j + 1 := ⟨_, rfl⟩
          refine lv_iinc (v := v53) (lv' := [(3, .int v53), (0, .ref (a 0)), (1, .int x1), (2, .int x2)]) hx hb dX9_settled_53 hl (k := 3) rfl (by rw [ev53]; rfl) (by decide) rfl (fun ls hl => ?_)
          have tv53 : v53.toInt = j.toInt + 1 := by rw [ev53, zadd, show (1 : Int32).toInt = 1 from by decide]; omega
          refine lv_goto (tgt := 29) hx hb dX9_settled_56 (by decide) ?_
          exact ih.1 (v53) (m18) (w10) (upd (w11) (j).toNatClampNeg v49) H locs ls (by omega) (hs) (hq) (by omega) (by omega) hP hD hS (lv_sub hl [1, 2, 3, 0] rfl)
      · intro f j m18 w10 w11 H locs ls g1 g2 g3 g4 hmu hP hD hS hl
        have hs := g2
        have hq := g3
        have hp : 1 ≤ (σ 0 10).toInt ∧ (σ 0 10).toInt ≤ 4 := by omega
        refine lv_iload hx hb dX9_settled_64 (lv_at hl 4 rfl) ?_
        refine lv_aload_n hx hb dX9_settled_66 rfl (lv_at hl 0 rfl) ?_
        refine va_get (D := (dC, dI)) (ci := 9) (v := .int (σ 0 10)) (C := RX9) (T := TX9) (N := 28) hx hb hts in9 hown hK hP 0 rfl rfl 10 (by decide) k143 (fun _ h9 => h9) rfl dX9_settled_67 ?_
        refine lv_icmp_ge (tgt := 97) hx hb dX9_settled_70 (by decide) (fun c70 => ?_) (fun c70 => ?_)
        · skip
          have ic70 := zle (a := (σ 0 10).toInt) (b := j.toInt) rfl rfl c70
          refine lv_aload_n hx hb dX9_settled_97 rfl (lv_at hl 0 rfl) ?_
          refine lv_iload_n hx hb dX9_settled_98 rfl (lv_at hl 1 rfl) ?_
          refine lv_iload_n hx hb dX9_settled_99 rfl (lv_at hl 1 rfl) ?_
          refine zcalli (va_runV (As := [.int x1, .int x1]) (rest := []) ⟨hx, hb, hml, hown, hts⟩ (c_X9_sumOf l dC dI cI a N hok (upC (upC (upC σ 0 (upd (σ 0) 18 m18)) 10 w10) 11 w11) H.size (x1) (x1) (by omega) hs hq) (cwV 2 hts gX9_settled_X9_sumOf rfl rfl rfl (by decide +kernel) ⟨Nat.le_of_ble_eq_true rfl, Nat.le_of_ble_eq_true rfl⟩) (zpreV (wf := wM a cI) (q0 := 0) (ci := 9) hok hN hS hA hK hP hD rfl rfl) rfl rfl hl.1 rfl (lv_room (Nat.le_of_ble_eq_true rfl)) dX9_settled_100 ⟨Nat.zero_le _, Nat.zero_le _⟩) hD hS hA (fun v100 σ1 H locs hv100 hP hD hS => ?_)
          obtain ⟨es9, hv100⟩ := hv100
          subst σ1
          refine lv_aload_n hx hb dX9_settled_103 rfl (lv_at hl 0 rfl) ?_
          refine lv_iload_n hx hb dX9_settled_104 rfl (lv_at hl 1 rfl) ?_
          refine zcalli (va_runV (As := [.int x1]) (rest := [.int v100]) ⟨hx, hb, hml, hown, hts⟩ (c_X9_claimOf l dC dI cI a N hok (upC (upC (upC σ 0 (upd (σ 0) 18 m18)) 10 w10) 11 w11) H.size (x1) hp (by omega) hs hq) (cwV 1 hts gX9_settled_X9_claimOf rfl rfl rfl (by decide +kernel) ⟨Nat.le_of_ble_eq_true rfl, Nat.le_of_ble_eq_true rfl⟩) (zpreV (wf := wM a cI) (q0 := 0) (ci := 9) hok hN hS hA hK hP hD rfl rfl) rfl rfl hl.1 rfl (lv_room (Nat.le_of_ble_eq_true rfl)) dX9_settled_105 ⟨Nat.zero_le _, Nat.zero_le _⟩) hD hS hA (fun v105 σ1 H locs hv105 hP hD hS => ?_)
          obtain ⟨es9, hv105⟩ := hv105
          subst σ1
          refine lv_isub hx hb dX9_settled_108 ?_
          refine lv_topi (fun v108 ev108 => ?_)
          refine lv_istore (lv' := [(4, .int v108), (0, .ref (a 0)), (1, .int x1), (2, .int x2), (3, .int f)]) hx hb dX9_settled_109 hl (by decide) rfl (fun ls hl => ?_)
          refine lv_iload_n hx hb dX9_settled_111 rfl (lv_at hl 3 rfl) ?_
          refine lv_if_ne (tgt := 124) hx hb dX9_settled_112 (by decide) (fun c112 => ?_) (fun c112 => ?_)
          · skip
            have ic112 := zneq (a := x2.toInt) (b := 0) rfl (by decide) c112
            refine lv_iload_n hx hb dX9_settled_124 rfl (lv_at hl 3 rfl) ?_
            refine lv_iconst (v := 1) hx hb dX9_settled_125 (by decide) ?_
            refine lv_icmp_ne (tgt := 137) hx hb dX9_settled_126 (by decide) (fun c126 => ?_) (fun c126 => ?_)
            · skip
              have ic126 := zneq (a := x2.toInt) (b := 1) rfl (by decide) c126
              refine lv_iload_n hx hb dX9_settled_137 rfl (lv_at hl 3 rfl) ?_
              refine lv_iconst (v := 2) hx hb dX9_settled_138 (by decide) ?_
              refine lv_icmp_ne (tgt := 147) hx hb dX9_settled_139 (by decide) (fun c139 => ?_) (fun c139 => ?_)
              · skip
                have ic139 := zneq (a := x2.toInt) (b := 2) rfl (by decide) c139
                refine lv_iload hx hb dX9_settled_147 (lv_at hl 0 rfl) ?_
                refine lv_iload_n hx hb dX9_settled_149 rfl (lv_at hl 4 rfl) ?_
                refine lv_aload_n hx hb dX9_settled_150 rfl (lv_at hl 1 rfl) ?_
                refine va_get (D := (dC, dI)) (ci := 9) (v := .int (σ 0 10)) (C := RX9) (T := TX9) (N := 28) hx hb hts in9 hown hK hP 0 rfl rfl 10 (by decide) k143 (fun _ h9 => h9) rfl dX9_settled_151 ?_
                refine zcalli (va_runS (As := [.int f, .int (σ 0 10)]) (rest := [.int v108]) ⟨hx, hb, hml, hown, hts⟩ (c_X9_down l dC dI cI a N hok (upC (upC (upC σ 0 (upd (σ 0) 18 m18)) 10 w10) 11 w11) H.size (f) (σ 0 10) (by omega)) (va_cwS 2 hts gX9_settled_X9_down rfl rfl rfl (by decide +kernel) ⟨Nat.le_of_ble_eq_true rfl, Nat.le_of_ble_eq_true rfl⟩) (zpreS (wf := wM a cI) hok hN hS hA hK hP hD) rfl rfl hl.1 rfl (lv_room (Nat.le_of_ble_eq_true rfl)) dX9_settled_154 ⟨Nat.zero_le _, Nat.zero_le _⟩) hD hS hA (fun v154 σ1 H locs hv154 hP hD hS => ?_)
                obtain ⟨es9, hv154⟩ := hv154
                subst σ1
                refine lv_isub hx hb dX9_settled_157 ?_
                refine lv_topi (fun v157 ev157 => ?_)
                have heq9 : (upC (upC (upC σ 0 (upd (σ 0) 18 m18)) 10 w10) 11 w11) = (upC (upC (upC σ 0 (upd (σ 0) 18 m18)) 10 w10) 11 w11) := rfl
                have hpost : ∃ n18 : Int32, ∃ u10 : Nat → Int32, ∃ u11 : Nat → Int32, (upC (upC (upC σ 0 (upd (σ 0) 18 m18)) 10 w10) 11 w11) = (upC (upC (upC σ 0 (upd (σ 0) 18 n18)) 10 u10) 11 u11) ∧ True := by refine ⟨(m18), (w10), (w11), heq9, ?_⟩; trivial
                exact W.iret (v := v157) hx hb hr (fun t9 ht hW => ⟨⟨v157, (upC (upC (upC σ 0 (upd (σ 0) 18 m18)) 10 w10) 11 w11), rfl, hpost, by rw [ht]; exact hP, va_K.moved hW.alike hK, hD⟩, hS.F ht⟩) hS.2.2 dX9_settled_158
              · skip
                have ic139 := zeq (a := x2.toInt) (b := 2) rfl (by decide) c139
                refine lv_iload hx hb dX9_settled_142 (lv_at hl 0 rfl) ?_
                refine lv_goto (tgt := 158) hx hb dX9_settled_144 (by decide) ?_
                have heq9 : (upC (upC (upC σ 0 (upd (σ 0) 18 m18)) 10 w10) 11 w11) = (upC (upC (upC σ 0 (upd (σ 0) 18 m18)) 10 w10) 11 w11) := rfl
                have hpost : ∃ n18 : Int32, ∃ u10 : Nat → Int32, ∃ u11 : Nat → Int32, (upC (upC (upC σ 0 (upd (σ 0) 18 m18)) 10 w10) 11 w11) = (upC (upC (upC σ 0 (upd (σ 0) 18 n18)) 10 u10) 11 u11) ∧ True := by refine ⟨(m18), (w10), (w11), heq9, ?_⟩; trivial
                exact W.iret (v := v108) hx hb hr (fun t9 ht hW => ⟨⟨v108, (upC (upC (upC σ 0 (upd (σ 0) 18 m18)) 10 w10) 11 w11), rfl, hpost, by rw [ht]; exact hP, va_K.moved hW.alike hK, hD⟩, hS.F ht⟩) hS.2.2 dX9_settled_158
            · skip
              have ic126 := zeq (a := x2.toInt) (b := 1) rfl (by decide) c126
              refine lv_aload_n hx hb dX9_settled_129 rfl (lv_at hl 1 rfl) ?_
              refine lv_iload_n hx hb dX9_settled_130 rfl (lv_at hl 2 rfl) ?_
              refine zcalli (va_runV (As := [.int x1]) (rest := []) ⟨hx, hb, hml, hown, hts⟩ (c_X9_claimOf l dC dI cI a N hok (upC (upC (upC σ 0 (upd (σ 0) 18 m18)) 10 w10) 11 w11) H.size (x1) hp (by omega) hs hq) (cwV 1 hts gX9_settled_X9_claimOf rfl rfl rfl (by decide +kernel) ⟨Nat.le_of_ble_eq_true rfl, Nat.le_of_ble_eq_true rfl⟩) (zpreV (wf := wM a cI) (q0 := 0) (ci := 9) hok hN hS hA hK hP hD rfl rfl) rfl rfl hl.1 rfl (lv_room (Nat.le_of_ble_eq_true rfl)) dX9_settled_131 ⟨Nat.zero_le _, Nat.zero_le _⟩) hD hS hA (fun v131 σ1 H locs hv131 hP hD hS => ?_)
              obtain ⟨es9, hv131⟩ := hv131
              subst σ1
              refine lv_goto (tgt := 158) hx hb dX9_settled_134 (by decide) ?_
              have heq9 : (upC (upC (upC σ 0 (upd (σ 0) 18 m18)) 10 w10) 11 w11) = (upC (upC (upC σ 0 (upd (σ 0) 18 m18)) 10 w10) 11 w11) := rfl
              have hpost : ∃ n18 : Int32, ∃ u10 : Nat → Int32, ∃ u11 : Nat → Int32, (upC (upC (upC σ 0 (upd (σ 0) 18 m18)) 10 w10) 11 w11) = (upC (upC (upC σ 0 (upd (σ 0) 18 n18)) 10 u10) 11 u11) ∧ True := by refine ⟨(m18), (w10), (w11), heq9, ?_⟩; trivial
              exact W.iret (v := v131) hx hb hr (fun t9 ht hW => ⟨⟨v131, (upC (upC (upC σ 0 (upd (σ 0) 18 m18)) 10 w10) 11 w11), rfl, hpost, by rw [ht]; exact hP, va_K.moved hW.alike hK, hD⟩, hS.F ht⟩) hS.2.2 dX9_settled_158
          · skip
            have ic112 := zeq (a := x2.toInt) (b := 0) rfl (by decide) c112
            refine lv_aload_n hx hb dX9_settled_115 rfl (lv_at hl 1 rfl) ?_
            refine lv_iload_n hx hb dX9_settled_116 rfl (lv_at hl 2 rfl) ?_
            refine lv_iload_n hx hb dX9_settled_117 rfl (lv_at hl 2 rfl) ?_
            refine zcalli (va_runV (As := [.int x1, .int x1]) (rest := []) ⟨hx, hb, hml, hown, hts⟩ (c_X9_sumOf l dC dI cI a N hok (upC (upC (upC σ 0 (upd (σ 0) 18 m18)) 10 w10) 11 w11) H.size (x1) (x1) (by omega) hs hq) (cwV 2 hts gX9_settled_X9_sumOf rfl rfl rfl (by decide +kernel) ⟨Nat.le_of_ble_eq_true rfl, Nat.le_of_ble_eq_true rfl⟩) (zpreV (wf := wM a cI) (q0 := 0) (ci := 9) hok hN hS hA hK hP hD rfl rfl) rfl rfl hl.1 rfl (lv_room (Nat.le_of_ble_eq_true rfl)) dX9_settled_118 ⟨Nat.zero_le _, Nat.zero_le _⟩) hD hS hA (fun v118 σ1 H locs hv118 hP hD hS => ?_)
            obtain ⟨es9, hv118⟩ := hv118
            subst σ1
            refine lv_goto (tgt := 158) hx hb dX9_settled_121 (by decide) ?_
            have heq9 : (upC (upC (upC σ 0 (upd (σ 0) 18 m18)) 10 w10) 11 w11) = (upC (upC (upC σ 0 (upd (σ 0) 18 m18)) 10 w10) 11 w11) := rfl
            have hpost : ∃ n18 : Int32, ∃ u10 : Nat → Int32, ∃ u11 : Nat → Int32, (upC (upC (upC σ 0 (upd (σ 0) 18 m18)) 10 w10) 11 w11) = (upC (upC (upC σ 0 (upd (σ 0) 18 n18)) 10 u10) 11 u11) ∧ True := by refine ⟨(m18), (w10), (w11), heq9, ?_⟩; trivial
            exact W.iret (v := v118) hx hb hr (fun t9 ht hW => ⟨⟨v118, (upC (upC (upC σ 0 (upd (σ 0) 18 m18)) 10 w10) 11 w11), rfl, hpost, by rw [ht]; exact hP, va_K.moved hW.alike hK, hD⟩, hS.F ht⟩) hS.2.2 dX9_settled_158
        · skip
          have ic70 := znle (a := (σ 0 10).toInt) (b := j.toInt) rfl rfl c70
          refine lv_iload_n hx hb dX9_settled_73 rfl (lv_at hl 3 rfl) ?_
          refine lv_aload_n hx hb dX9_settled_74 rfl (lv_at hl 0 rfl) ?_
          refine lv_iload hx hb dX9_settled_75 (lv_at hl 4 rfl) ?_
          refine lv_iload hx hb dX9_settled_77 (lv_at hl 4 rfl) ?_
          refine zcalli (va_runV (As := [.int j, .int j]) (rest := [.int f]) ⟨hx, hb, hml, hown, hts⟩ (c_X9_sumOf l dC dI cI a N hok (upC (upC (upC σ 0 (upd (σ 0) 18 m18)) 10 w10) 11 w11) H.size (j) (j) (by omega) hs hq) (cwV 2 hts gX9_settled_X9_sumOf rfl rfl rfl (by decide +kernel) ⟨Nat.le_of_ble_eq_true rfl, Nat.le_of_ble_eq_true rfl⟩) (zpreV (wf := wM a cI) (q0 := 0) (ci := 9) hok hN hS hA hK hP hD rfl rfl) rfl rfl hl.1 rfl (lv_room (Nat.le_of_ble_eq_true rfl)) dX9_settled_79 ⟨Nat.zero_le _, Nat.zero_le _⟩) hD hS hA (fun v79 σ1 H locs hv79 hP hD hS => ?_)
          obtain ⟨es9, hv79⟩ := hv79
          subst σ1
          refine lv_aload_n hx hb dX9_settled_82 rfl (lv_at hl 0 rfl) ?_
          refine lv_iload hx hb dX9_settled_83 (lv_at hl 4 rfl) ?_
          refine zcalli (va_runV (As := [.int j]) (rest := [.int v79, .int f]) ⟨hx, hb, hml, hown, hts⟩ (c_X9_claimOf l dC dI cI a N hok (upC (upC (upC σ 0 (upd (σ 0) 18 m18)) 10 w10) 11 w11) H.size (j) hp (by omega) hs hq) (cwV 1 hts gX9_settled_X9_claimOf rfl rfl rfl (by decide +kernel) ⟨Nat.le_of_ble_eq_true rfl, Nat.le_of_ble_eq_true rfl⟩) (zpreV (wf := wM a cI) (q0 := 0) (ci := 9) hok hN hS hA hK hP hD rfl rfl) rfl rfl hl.1 rfl (lv_room (Nat.le_of_ble_eq_true rfl)) dX9_settled_85 ⟨Nat.zero_le _, Nat.zero_le _⟩) hD hS hA (fun v85 σ1 H locs hv85 hP hD hS => ?_)
          obtain ⟨es9, hv85⟩ := hv85
          subst σ1
          refine lv_isub hx hb dX9_settled_88 ?_
          refine lv_topi (fun v88 ev88 => ?_)
          refine lv_iadd hx hb dX9_settled_89 ?_
          refine lv_topi (fun v89 ev89 => ?_)
          refine lv_istore_n (lv' := [(3, .int v89), (0, .ref (a 0)), (1, .int x1), (2, .int x2), (4, .int j)]) hx hb dX9_settled_90 rfl hl (by decide) rfl (fun ls hl => ?_)
          obtain ⟨v91, ev91⟩ : ∃ y : Int32, y = j + 1 := ⟨_, rfl⟩
          refine lv_iinc (v := v91) (lv' := [(4, .int v91), (3, .int v89), (0, .ref (a 0)), (1, .int x1), (2, .int x2)]) hx hb dX9_settled_91 hl (k := 4) rfl (by rw [ev91]; rfl) (by decide) rfl (fun ls hl => ?_)
          have tv91 : v91.toInt = j.toInt + 1 := by rw [ev91, zadd, show (1 : Int32).toInt = 1 from by decide]; omega
          refine lv_goto (tgt := 64) hx hb dX9_settled_94 (by decide) ?_
          exact ih.2 (v89) (v91) (m18) (w10) (w11) H locs ls (by first | omega | decide) (hs) (hq) (by omega) (by first | omega | (rw [show (0 : Int32).toInt = 0 from by decide]; omega)) hP hD hS (lv_sub hl [2, 3, 4, 1, 0] rfl)
  have hl := lv_entry ([.ref (a 0), .int x1, .int x2]) (n := 5) (Nat.le_of_ble_eq_true rfl)
  rw [lg_entry_eq]
  generalize (lg_sl ([.ref (a 0), .int x1, .int x2]) ++ List.replicate (5 - (lg_sl ([.ref (a 0), .int x1, .int x2])).length) Slot.unset).toArray = ls at hl ⊢
  have hl : lv_has ls 5 [(0, .ref (a 0)), (1, .int x1), (2, .int x2)] := hl
  suffices main : ∀ (H : Heap) (locs : List Loc), va_P (dC, dI) vwCl (wM a cI σ) H → va_D A (wM a cI σ) → va_S A s.heap H locs → W p l e (headSpec wsX9_settled RM_X9_settled).room s m ([.ref (a 0), .int x1, .int x2] : List Value).toArray below meth c H locs 0 0 (MQ below (zQi (dC, dI) [(cI, .int)] (wM a cI) A (fun (r : Int32) (σ1 : Cn) => ∃ n18 : Int32, ∃ u10 : Nat → Int32, ∃ u11 : Nat → Int32, σ1 = (upC (upC (upC σ 0 (upd (σ 0) 18 n18)) 10 u10) 11 u11) ∧ True)) ([.ref (a 0), .int x1, .int x2] : List Value).toArray s 0 0 A) (F0 m 0 ls []) from main s.heap [] hP hD hS
  intro H locs hP hD hS
  refine lv_aload_n hx hb dX9_settled_0 rfl (lv_at hl 0 rfl) ?_
  refine lv_iload_n hx hb dX9_settled_1 rfl (lv_at hl 1 rfl) ?_
  refine zcalli (va_runV (As := [.int x1]) (rest := []) ⟨hx, hb, hml, hown, hts⟩ (c_X9_isHeir l dC dI cI a N hok σ H.size (x1) h0) (cwV 1 hts gX9_settled_X9_isHeir rfl rfl rfl (by decide +kernel) ⟨Nat.le_of_ble_eq_true rfl, Nat.le_of_ble_eq_true rfl⟩) (zpreV (wf := wM a cI) (q0 := 0) (ci := 9) hok hN hS hA hK hP hD rfl rfl) rfl rfl hl.1 rfl (lv_room (Nat.le_of_ble_eq_true rfl)) dX9_settled_2 ⟨Nat.zero_le _, Nat.zero_le _⟩) hD hS hA (fun v2 σ1 H locs hv2 hP hD hS => ?_)
  obtain ⟨es9, hv2⟩ := hv2
  subst σ1
  refine lv_if_eq (tgt := 20) hx hb dX9_settled_5 (by decide) (fun c5 => ?_) (fun c5 => ?_)
  · skip
    have ic5 := zeq (a := v2.toInt) (b := 0) rfl (by decide) c5
    replace hv2 := (hv2.resolve_left (fun q => by omega)).2
    refine lv_ldc hx hb hown kl218 dX9_settled_20 ?_
    have heq9 : σ = (upC (upC (upC σ 0 (upd (σ 0) 18 (σ 0 18))) 10 (σ 10)) 11 (σ 11)) := by
      funext k
      by_cases e0 : k = 0
      · subst e0
        funext i
        by_cases f18 : i = 18
        · subst f18; rfl
        show (σ 0) i = (upd (σ 0) 18 (σ 0 18)) i
        simp only [upd, if_neg f18]
      by_cases e10 : k = 10
      · subst e10; rfl
      by_cases e11 : k = 11
      · subst e11; rfl
      simp only [upC, if_neg e0, if_neg e10, if_neg e11]
    have hpost : ∃ n18 : Int32, ∃ u10 : Nat → Int32, ∃ u11 : Nat → Int32, σ = (upC (upC (upC σ 0 (upd (σ 0) 18 n18)) 10 u10) 11 u11) ∧ True := by refine ⟨(σ 0 18), (σ 10), (σ 11), heq9, ?_⟩; trivial
    exact W.iret (v := (-100000)) hx hb hr (fun t9 ht hW => ⟨⟨(-100000), σ, rfl, hpost, by rw [ht]; exact hP, va_K.moved hW.alike hK, hD⟩, hS.F ht⟩) hS.2.2 dX9_settled_22
  · skip
    have ic5 := zneq (a := v2.toInt) (b := 0) rfl (by decide) c5
    replace hv2 := (hv2.resolve_right (fun q => by omega)).2
    refine lv_iload_n hx hb dX9_settled_8 rfl (lv_at hl 2 rfl) ?_
    refine lv_i2l hx hb dX9_settled_9 rfl ?_
    refine lv_topl (fun v9 ev9 => ?_)
    have tv9 : v9.toInt = x2.toInt := by rw [ev9]; exact zi2l rfl
    refine lv_lconst (v := 0) hx hb dX9_settled_10 (by decide) ?_
    refine lv_ldc2 hx hb hown kq180 dX9_settled_11 ?_
    refine zcalli (va_runS (As := [.long v9, .long 0, .long 3]) (rest := []) ⟨hx, hb, hml, hown, hts⟩ (c_X9_in l dC dI cI a N hok σ H.size (v9) (0) (3) ) (va_cwS 3 hts gX9_settled_X9_in rfl rfl rfl (by decide +kernel) ⟨Nat.le_of_ble_eq_true rfl, Nat.le_of_ble_eq_true rfl⟩) (zpreS (wf := wM a cI) hok hN hS hA hK hP hD) rfl rfl hl.1 rfl (lv_room (Nat.le_of_ble_eq_true rfl)) dX9_settled_14 ⟨Nat.zero_le _, Nat.zero_le _⟩) hD hS hA (fun v14 σ1 H locs hv14 hP hD hS => ?_)
    obtain ⟨es9, hv14⟩ := hv14
    subst σ1
    try simp only [show (0 : Int64).toInt = 0 from by decide, show (3 : Int64).toInt = 3 from by decide] at hv14
    refine lv_if_ne (tgt := 23) hx hb dX9_settled_17 (by decide) (fun c17 => ?_) (fun c17 => ?_)
    · skip
      have ic17 := zneq (a := v14.toInt) (b := 0) rfl (by decide) c17
      refine lv_aload_n hx hb dX9_settled_23 rfl (lv_at hl 0 rfl) ?_
      refine zcallv (va_runV (As := []) (rest := []) ⟨hx, hb, hml, hown, hts⟩ (c_X9_findShared l dC dI cI a N hok σ H.size  h0 h2) (cwV 0 hts gX9_settled_X9_findShared rfl rfl rfl (by decide +kernel) ⟨Nat.le_of_ble_eq_true rfl, Nat.le_of_ble_eq_true rfl⟩) (zpreV (wf := wM a cI) (q0 := 0) (ci := 9) hok hN hS hA hK hP hD rfl rfl) rfl rfl hl.1 rfl (lv_room (Nat.le_of_ble_eq_true rfl)) dX9_settled_24 ⟨Nat.zero_le _, Nat.zero_le _⟩) hD hS hA (fun σ1 H locs hv24 hP hD hS => ?_)
      obtain ⟨n18_24, u10_24, es9, hv24⟩ := hv24
      subst σ1
      have hP : va_P (dC, dI) vwCl (wM a cI (upC (upC σ 0 (upd (σ 0) 18 n18_24)) 10 u10_24)) H := hP
      have hD : va_D A (wM a cI (upC (upC σ 0 (upd (σ 0) 18 n18_24)) 10 u10_24)) := hD
      have hs : 0 ≤ n18_24.toInt ∧ n18_24.toInt ≤ 10 := by omega
      have hq : ∀ j : Nat, (j : Int) < n18_24.toInt → 0 ≤ (u10_24 j).toInt ∧ (u10_24 j).toInt < 10 := fun j hj => by have q := hv24.2 j hj; omega
      refine lv_iconst (v := 0) hx hb dX9_settled_27 (by decide) ?_
      refine lv_istore_n (lv' := [(3, .int 0), (0, .ref (a 0)), (1, .int x1), (2, .int x2)]) hx hb dX9_settled_28 rfl hl (by decide) rfl (fun ls hl => ?_)
      exact (LP _).1 (0) (n18_24) (u10_24) (σ 11) H locs ls (by decide) (hs) (hq) (by omega) (Nat.lt_succ_self _) hP hD hS (lv_sub hl [1, 2, 3, 0] rfl)
    · skip
      have ic17 := zeq (a := v14.toInt) (b := 0) rfl (by decide) c17
      refine lv_ldc hx hb hown kl218 dX9_settled_20 ?_
      have heq9 : σ = (upC (upC (upC σ 0 (upd (σ 0) 18 (σ 0 18))) 10 (σ 10)) 11 (σ 11)) := by
        funext k
        by_cases e0 : k = 0
        · subst e0
          funext i
          by_cases f18 : i = 18
          · subst f18; rfl
          show (σ 0) i = (upd (σ 0) 18 (σ 0 18)) i
          simp only [upd, if_neg f18]
        by_cases e10 : k = 10
        · subst e10; rfl
        by_cases e11 : k = 11
        · subst e11; rfl
        simp only [upC, if_neg e0, if_neg e10, if_neg e11]
      have hpost : ∃ n18 : Int32, ∃ u10 : Nat → Int32, ∃ u11 : Nat → Int32, σ = (upC (upC (upC σ 0 (upd (σ 0) 18 n18)) 10 u10) 11 u11) ∧ True := by refine ⟨(σ 0 18), (σ 10), (σ 11), heq9, ?_⟩; trivial
      exact W.iret (v := (-100000)) hx hb hr (fun t9 ht hW => ⟨⟨(-100000), σ, rfl, hpost, by rw [ht]; exact hP, va_K.moved hW.alike hK, hD⟩, hS.F ht⟩) hS.2.2 dX9_settled_22

abbrev RM_X9_isSheet : Room := { frames := 1, cells := 0, slots := 0, locals := 25 }
set_option maxHeartbeats 4000000 in
set_option maxRecDepth 100000 in
theorem c_X9_isSheet (l : Launch) (dC : Nat → ClassId) (dI : Nat → Nat → Nat) (cI : ClassId) (a : Nat → Nat) (N : (Nat → Prop) → State → Prop) (hok : zNok N) (σ : Cn) (sz : Nat) (x0 : Int32) (x1 : Int32)  : Met l yX9_isSheet wsX9_isSheet RM_X9_isSheet (zPc (dC, dI) [(cI, .int)] N (wM a cI) σ sz [.int x0, .int x1]) (zQi (dC, dI) [(cI, .int)] (wM a cI) (va_A (wM a cI σ) sz) (fun (r : Int32) (σ1 : Cn) => σ1 = σ ∧ ((r : Int32).toInt = 1 ∧ 0 ≤ x0.toInt ∧ x0.toInt ≤ 3 ∧ 0 ≤ x1.toInt ∧ x1.toInt ≤ 2 ∨ (r : Int32).toInt = 0 ∧ ¬ (0 ≤ x0.toInt ∧ x0.toInt ≤ 3 ∧ 0 ≤ x1.toInt ∧ x1.toInt ≤ 2)))) 0 0 (va_A (wM a cI σ) sz) := by
  refine Met.ofW (cc := cX9_isSheet) (maxL := 2) (ret := (some .boolean)) (by decide) rfl ?_
  intro p e s m args below meth c s₁ B hml hv
  obtain ⟨rfl, hsz, hP, hK, hD0, hN⟩ := hv
  have hx := B.exec
  have hb := B.bytes
  have hr := B.returns
  have hts := atoms_spec (ws := wsX9_isSheet) B.pre
  have hown : s.vm.findClass RX9 = some m.cls := findClass_of_methodNamed B.named
  have hlocks := B.notSynchronized
  subst hsz
  have hD := hD0.self (sz := s.heap.size)
  generalize hAe : va_A (wM a cI σ) s.heap.size = A at hD hN ⊢
  have hA : ∀ q : Nat, s.heap.size ≤ q → A q := fun q h => by rw [← hAe]; exact Or.inr h
  clear hAe hD0
  have hS : va_S A s.heap s.heap [] := va_S.rf
  have kq180 := hts (.constantLong RX9 180 (3)) (by decide +kernel)
  have kq234 := hts (.constantLong RX9 234 (2)) (by decide +kernel)
  have hl := lv_entry ([.int x0, .int x1]) (n := 2) (Nat.le_of_ble_eq_true rfl)
  rw [lg_entry_eq]
  generalize (lg_sl ([.int x0, .int x1]) ++ List.replicate (2 - (lg_sl ([.int x0, .int x1])).length) Slot.unset).toArray = ls at hl ⊢
  have hl : lv_has ls 2 [(0, .int x0), (1, .int x1)] := hl
  suffices main : ∀ (H : Heap) (locs : List Loc), va_P (dC, dI) vwCl (wM a cI σ) H → va_D A (wM a cI σ) → va_S A s.heap H locs → W p l e (headSpec wsX9_isSheet RM_X9_isSheet).room s m ([.int x0, .int x1] : List Value).toArray below meth c H locs 0 0 (MQ below (zQi (dC, dI) [(cI, .int)] (wM a cI) A (fun (r : Int32) (σ1 : Cn) => σ1 = σ ∧ ((r : Int32).toInt = 1 ∧ 0 ≤ x0.toInt ∧ x0.toInt ≤ 3 ∧ 0 ≤ x1.toInt ∧ x1.toInt ≤ 2 ∨ (r : Int32).toInt = 0 ∧ ¬ (0 ≤ x0.toInt ∧ x0.toInt ≤ 3 ∧ 0 ≤ x1.toInt ∧ x1.toInt ≤ 2)))) ([.int x0, .int x1] : List Value).toArray s 0 0 A) (F0 m 0 ls []) from main s.heap [] hP hD hS
  intro H locs hP hD hS
  refine lv_iload_n hx hb dX9_isSheet_0 rfl (lv_at hl 0 rfl) ?_
  refine lv_i2l hx hb dX9_isSheet_1 rfl ?_
  refine lv_topl (fun v1 ev1 => ?_)
  have tv1 : v1.toInt = x0.toInt := by rw [ev1]; exact zi2l rfl
  refine lv_lconst (v := 0) hx hb dX9_isSheet_2 (by decide) ?_
  refine lv_ldc2 hx hb hown kq180 dX9_isSheet_3 ?_
  refine zcalli (va_runS (As := [.long v1, .long 0, .long 3]) (rest := []) ⟨hx, hb, hml, hown, hts⟩ (c_X9_in l dC dI cI a N hok σ H.size (v1) (0) (3) ) (va_cwS 3 hts gX9_isSheet_X9_in rfl rfl rfl (by decide +kernel) ⟨Nat.le_of_ble_eq_true rfl, Nat.le_of_ble_eq_true rfl⟩) (zpreS (wf := wM a cI) hok hN hS hA hK hP hD) rfl rfl hl.1 rfl (lv_room (Nat.le_of_ble_eq_true rfl)) dX9_isSheet_6 ⟨Nat.zero_le _, Nat.zero_le _⟩) hD hS hA (fun v6 σ1 H locs hv6 hP hD hS => ?_)
  obtain ⟨es9, hv6⟩ := hv6
  subst σ1
  try simp only [show (0 : Int64).toInt = 0 from by decide, show (3 : Int64).toInt = 3 from by decide] at hv6
  refine lv_if_eq (tgt := 28) hx hb dX9_isSheet_9 (by decide) (fun c9 => ?_) (fun c9 => ?_)
  · skip
    have ic9 := zeq (a := v6.toInt) (b := 0) rfl (by decide) c9
    refine lv_iconst (v := 0) hx hb dX9_isSheet_28 (by decide) ?_
    have hpost : σ = σ ∧ ((0 : Int32).toInt = 1 ∧ 0 ≤ x0.toInt ∧ x0.toInt ≤ 3 ∧ 0 ≤ x1.toInt ∧ x1.toInt ≤ 2 ∨ (0 : Int32).toInt = 0 ∧ ¬ (0 ≤ x0.toInt ∧ x0.toInt ≤ 3 ∧ 0 ≤ x1.toInt ∧ x1.toInt ≤ 2)) := by exact ⟨rfl, by first | (left; exact ⟨by decide, by omega⟩) | (right; exact ⟨by decide, by omega⟩)⟩
    exact W.zret (v := 0) hx hb hr (by decide +kernel) (fun t9 ht hW => ⟨⟨0, σ, rfl, hpost, by rw [ht]; exact hP, va_K.moved hW.alike hK, hD⟩, hS.F ht⟩) hS.2.2 dX9_isSheet_29
  · skip
    have ic9 := zneq (a := v6.toInt) (b := 0) rfl (by decide) c9
    refine lv_iload_n hx hb dX9_isSheet_12 rfl (lv_at hl 1 rfl) ?_
    refine lv_i2l hx hb dX9_isSheet_13 rfl ?_
    refine lv_topl (fun v13 ev13 => ?_)
    have tv13 : v13.toInt = x1.toInt := by rw [ev13]; exact zi2l rfl
    refine lv_lconst (v := 0) hx hb dX9_isSheet_14 (by decide) ?_
    refine lv_ldc2 hx hb hown kq234 dX9_isSheet_15 ?_
    refine zcalli (va_runS (As := [.long v13, .long 0, .long 2]) (rest := []) ⟨hx, hb, hml, hown, hts⟩ (c_X9_in l dC dI cI a N hok σ H.size (v13) (0) (2) ) (va_cwS 3 hts gX9_isSheet_X9_in rfl rfl rfl (by decide +kernel) ⟨Nat.le_of_ble_eq_true rfl, Nat.le_of_ble_eq_true rfl⟩) (zpreS (wf := wM a cI) hok hN hS hA hK hP hD) rfl rfl hl.1 rfl (lv_room (Nat.le_of_ble_eq_true rfl)) dX9_isSheet_18 ⟨Nat.zero_le _, Nat.zero_le _⟩) hD hS hA (fun v18 σ1 H locs hv18 hP hD hS => ?_)
    obtain ⟨es9, hv18⟩ := hv18
    subst σ1
    try simp only [show (0 : Int64).toInt = 0 from by decide, show (2 : Int64).toInt = 2 from by decide] at hv18
    refine lv_if_eq (tgt := 28) hx hb dX9_isSheet_21 (by decide) (fun c21 => ?_) (fun c21 => ?_)
    · skip
      have ic21 := zeq (a := v18.toInt) (b := 0) rfl (by decide) c21
      refine lv_iconst (v := 0) hx hb dX9_isSheet_28 (by decide) ?_
      have hpost : σ = σ ∧ ((0 : Int32).toInt = 1 ∧ 0 ≤ x0.toInt ∧ x0.toInt ≤ 3 ∧ 0 ≤ x1.toInt ∧ x1.toInt ≤ 2 ∨ (0 : Int32).toInt = 0 ∧ ¬ (0 ≤ x0.toInt ∧ x0.toInt ≤ 3 ∧ 0 ≤ x1.toInt ∧ x1.toInt ≤ 2)) := by exact ⟨rfl, by first | (left; exact ⟨by decide, by omega⟩) | (right; exact ⟨by decide, by omega⟩)⟩
      exact W.zret (v := 0) hx hb hr (by decide +kernel) (fun t9 ht hW => ⟨⟨0, σ, rfl, hpost, by rw [ht]; exact hP, va_K.moved hW.alike hK, hD⟩, hS.F ht⟩) hS.2.2 dX9_isSheet_29
    · skip
      have ic21 := zneq (a := v18.toInt) (b := 0) rfl (by decide) c21
      refine lv_iconst (v := 1) hx hb dX9_isSheet_24 (by decide) ?_
      refine lv_goto (tgt := 29) hx hb dX9_isSheet_25 (by decide) ?_
      have hpost : σ = σ ∧ ((1 : Int32).toInt = 1 ∧ 0 ≤ x0.toInt ∧ x0.toInt ≤ 3 ∧ 0 ≤ x1.toInt ∧ x1.toInt ≤ 2 ∨ (1 : Int32).toInt = 0 ∧ ¬ (0 ≤ x0.toInt ∧ x0.toInt ≤ 3 ∧ 0 ≤ x1.toInt ∧ x1.toInt ≤ 2)) := by exact ⟨rfl, by first | (left; exact ⟨by decide, by omega⟩) | (right; exact ⟨by decide, by omega⟩)⟩
      exact W.zret (v := 1) hx hb hr (by decide +kernel) (fun t9 ht hW => ⟨⟨1, σ, rfl, hpost, by rw [ht]; exact hP, va_K.moved hW.alike hK, hD⟩, hS.F ht⟩) hS.2.2 dX9_isSheet_29

abbrev RM_X9_sheet : Room := { frames := 2, cells := 0, slots := 0, locals := 46 }
set_option maxHeartbeats 4000000 in
set_option maxRecDepth 100000 in
theorem c_X9_sheet (l : Launch) (dC : Nat → ClassId) (dI : Nat → Nat → Nat) (cI : ClassId) (a : Nat → Nat) (N : (Nat → Prop) → State → Prop) (hok : zNok N) (σ : Cn) (sz : Nat) (x1 : Int32) (x2 : Int32) (x3 : Int32) (hz : ∀ k : Nat, k < 4 → 0 ≤ (σ 16 k).toInt ∧ (σ 16 k).toInt ≤ 60) : Met l yX9_sheet wsX9_sheet RM_X9_sheet (zPc (dC, dI) [(cI, .int)] N (wM a cI) σ sz [.ref (a 0), .int x1, .int x2, .int x3]) (zQi (dC, dI) [(cI, .int)] (wM a cI) (va_A (wM a cI σ) sz) (fun (r : Int32) (σ1 : Cn) => ∃ u15 : Nat → Int32, ∃ u16 : Nat → Int32, ∃ u17 : Nat → Int32, σ1 = (upC (upC (upC σ 15 u15) 16 u16) 17 u17) ∧ (∀ k : Nat, k < 4 → 0 ≤ (u16 k).toInt ∧ (u16 k).toInt ≤ 60) ∧ ((¬ (0 ≤ x1.toInt ∧ x1.toInt ≤ 3 ∧ 0 ≤ x2.toInt ∧ x2.toInt ≤ 2 ∧ x3.toInt ≤ 60) ∧ (r : Int32).toInt = -1) ∨ ((0 ≤ x1.toInt ∧ x1.toInt ≤ 3 ∧ 0 ≤ x2.toInt ∧ x2.toInt ≤ 2 ∧ x3.toInt ≤ 60) ∧ x3.toInt < 0 ∧ (r : Int32).toInt = -14) ∨ ((0 ≤ x1.toInt ∧ x1.toInt ≤ 3 ∧ 0 ≤ x2.toInt ∧ x2.toInt ≤ 2 ∧ x3.toInt ≤ 60) ∧ 0 ≤ x3.toInt ∧ (r : Int32).toInt = 1)))) 0 0 (va_A (wM a cI σ) sz) := by
  refine Met.ofW (cc := cX9_sheet) (maxL := 5) (ret := (some .int)) (by decide) rfl ?_
  intro p e s m args below meth c s₁ B hml hv
  obtain ⟨rfl, hsz, hP, hK, hD0, hN⟩ := hv
  have hx := B.exec
  have hb := B.bytes
  have hr := B.returns
  have hts := atoms_spec (ws := wsX9_sheet) B.pre
  have hown : s.vm.findClass RX9 = some m.cls := findClass_of_methodNamed B.named
  have hlocks := B.notSynchronized
  subst hsz
  have hD := hD0.self (sz := s.heap.size)
  generalize hAe : va_A (wM a cI σ) s.heap.size = A at hD hN ⊢
  have hA : ∀ q : Nat, s.heap.size ≤ q → A q := fun q h => by rw [← hAe]; exact Or.inr h
  clear hAe hD0
  have hS : va_S A s.heap s.heap [] := va_S.rf
  have in9 : ∀ w ∈ u_ws RX9 TX9 28, w ∈ wsX9_sheet := by decide +kernel
  have k52 := hts (.fieldLink RX9 52 "HouseSortedModel" "lanes" "[I") (by decide +kernel)
  have k55 := hts (.fieldLink RX9 55 "HouseSortedModel" "sizes" "[I") (by decide +kernel)
  have k58 := hts (.fieldLink RX9 58 "HouseSortedModel" "cells" "[I") (by decide +kernel)
  have LP : ∀ n : Nat, (∀ (j : Int32) (w15 : Nat → Int32) (w16 : Nat → Int32) (w17 : Nat → Int32) (H : Heap) (locs : List Loc) (ls : Array Slot), 0 ≤ j.toInt ∧ j.toInt ≤ 60 → (0 ≤ x1.toInt ∧ x1.toInt ≤ 3 ∧ 0 ≤ x2.toInt ∧ x2.toInt ≤ 2 ∧ x3.toInt ≤ 60) ∧ 0 ≤ x3.toInt → (∀ k : Nat, k < 4 → 0 ≤ (w16 k).toInt ∧ (w16 k).toInt ≤ 60) → (60 - j.toInt).toNat < n → va_P (dC, dI) vwCl (wM a cI (upC (upC (upC σ 15 w15) 16 w16) 17 w17)) H → va_D A (wM a cI (upC (upC (upC σ 15 w15) 16 w16) 17 w17)) → va_S A s.heap H locs → lv_has ls 5 [(0, .ref (a 0)), (1, .int x1), (2, .int x2), (3, .int x3), (4, .int j)] → W p l e (headSpec wsX9_sheet RM_X9_sheet).room s m ([.ref (a 0), .int x1, .int x2, .int x3] : List Value).toArray below meth c H locs 0 0 (MQ below (zQi (dC, dI) [(cI, .int)] (wM a cI) A (fun (r : Int32) (σ1 : Cn) => ∃ u15 : Nat → Int32, ∃ u16 : Nat → Int32, ∃ u17 : Nat → Int32, σ1 = (upC (upC (upC σ 15 u15) 16 u16) 17 u17) ∧ (∀ k : Nat, k < 4 → 0 ≤ (u16 k).toInt ∧ (u16 k).toInt ≤ 60) ∧ ((¬ (0 ≤ x1.toInt ∧ x1.toInt ≤ 3 ∧ 0 ≤ x2.toInt ∧ x2.toInt ≤ 2 ∧ x3.toInt ≤ 60) ∧ (r : Int32).toInt = -1) ∨ ((0 ≤ x1.toInt ∧ x1.toInt ≤ 3 ∧ 0 ≤ x2.toInt ∧ x2.toInt ≤ 2 ∧ x3.toInt ≤ 60) ∧ x3.toInt < 0 ∧ (r : Int32).toInt = -14) ∨ ((0 ≤ x1.toInt ∧ x1.toInt ≤ 3 ∧ 0 ≤ x2.toInt ∧ x2.toInt ≤ 2 ∧ x3.toInt ≤ 60) ∧ 0 ≤ x3.toInt ∧ (r : Int32).toInt = 1)))) ([.ref (a 0), .int x1, .int x2, .int x3] : List Value).toArray s 0 0 A) (F0 m 40 ls [])) := by
    intro n
    induction n with
    | zero => exact by intros; omega
    | succ n ih =>
      · intro j w15 w16 w17 H locs ls g1 g2 g3 hmu hP hD hS hl
        refine lv_iload hx hb dX9_sheet_40 (lv_at hl 4 rfl) ?_
        refine lv_bipush (v := 60) hx hb dX9_sheet_42 (by decide) ?_
        refine lv_icmp_ge (tgt := 66) hx hb dX9_sheet_44 (by decide) (fun c44 => ?_) (fun c44 => ?_)
        · skip
          have ic44 := zle (a := 60) (b := j.toInt) (by decide) rfl c44
          refine lv_iconst (v := 1) hx hb dX9_sheet_66 (by decide) ?_
          have heq9 : (upC (upC (upC σ 15 w15) 16 w16) 17 w17) = (upC (upC (upC σ 15 w15) 16 w16) 17 w17) := rfl
          have hpost : ∃ u15 : Nat → Int32, ∃ u16 : Nat → Int32, ∃ u17 : Nat → Int32, (upC (upC (upC σ 15 w15) 16 w16) 17 w17) = (upC (upC (upC σ 15 u15) 16 u16) 17 u17) ∧ (∀ k : Nat, k < 4 → 0 ≤ (u16 k).toInt ∧ (u16 k).toInt ≤ 60) ∧ ((¬ (0 ≤ x1.toInt ∧ x1.toInt ≤ 3 ∧ 0 ≤ x2.toInt ∧ x2.toInt ≤ 2 ∧ x3.toInt ≤ 60) ∧ (1 : Int32).toInt = -1) ∨ ((0 ≤ x1.toInt ∧ x1.toInt ≤ 3 ∧ 0 ≤ x2.toInt ∧ x2.toInt ≤ 2 ∧ x3.toInt ≤ 60) ∧ x3.toInt < 0 ∧ (1 : Int32).toInt = -14) ∨ ((0 ≤ x1.toInt ∧ x1.toInt ≤ 3 ∧ 0 ≤ x2.toInt ∧ x2.toInt ≤ 2 ∧ x3.toInt ≤ 60) ∧ 0 ≤ x3.toInt ∧ (1 : Int32).toInt = 1)) := by refine ⟨(w15), (w16), (w17), heq9, ?_⟩; exact ⟨g3, Or.inr (Or.inr ⟨by omega, by omega, by decide⟩)⟩
          exact W.iret (v := 1) hx hb hr (fun t9 ht hW => ⟨⟨1, (upC (upC (upC σ 15 w15) 16 w16) 17 w17), rfl, hpost, by rw [ht]; exact hP, va_K.moved hW.alike hK, hD⟩, hS.F ht⟩) hS.2.2 dX9_sheet_67
        · skip
          have ic44 := znle (a := 60) (b := j.toInt) (by decide) rfl c44
          refine lv_aload_n hx hb dX9_sheet_47 rfl (lv_at hl 0 rfl) ?_
          refine va_get (D := (dC, dI)) (ci := 9) (v := .ref (a 17)) (C := RX9) (T := TX9) (N := 28) hx hb hts in9 hown hK hP 0 rfl rfl 27 (by decide) k58 (fun _ h9 => h9) rfl dX9_sheet_48 ?_
          refine lv_bipush (v := 60) hx hb dX9_sheet_51 (by decide) ?_
          refine lv_iload_n hx hb dX9_sheet_53 rfl (lv_at hl 1 rfl) ?_
          refine lv_imul hx hb dX9_sheet_54 ?_
          refine lv_topi (fun v54 ev54 => ?_)
          have tv54 : v54.toInt = 60 * x1.toInt := by rw [ev54, zmul, show (60 : Int32).toInt = 60 from by decide]; omega
          refine lv_iload hx hb dX9_sheet_55 (lv_at hl 4 rfl) ?_
          refine lv_iadd hx hb dX9_sheet_57 ?_
          refine lv_topi (fun v57 ev57 => ?_)
          have tv57 : v57.toInt = v54.toInt + j.toInt := by rw [ev57, zadd]; omega
          refine lv_iconst (v := 0) hx hb dX9_sheet_58 (by decide) ?_
          refine va_iast (D := (dC, dI)) (f := w17) hx hb hK hP hD hS 17 0 rfl rfl (i := v57) (n := 240) (zin (by omega) (by omega)) dX9_sheet_59 (fun H locs hP hD hS => ?_)
          have hP : va_P (dC, dI) vwCl (wM a cI (upC (upC (upC σ 15 w15) 16 w16) 17 (upd (w17) (v57).toNatClampNeg 0))) H := hP
          have hD : va_D A (wM a cI (upC (upC (upC σ 15 w15) 16 w16) 17 (upd (w17) (v57).toNatClampNeg 0))) := hD
          obtain ⟨v60, ev60⟩ : ∃ y : Int32, y = j + 1 := ⟨_, rfl⟩
          refine lv_iinc (v := v60) (lv' := [(4, .int v60), (0, .ref (a 0)), (1, .int x1), (2, .int x2), (3, .int x3)]) hx hb dX9_sheet_60 hl (k := 4) rfl (by rw [ev60]; rfl) (by decide) rfl (fun ls hl => ?_)
          have tv60 : v60.toInt = j.toInt + 1 := by rw [ev60, zadd, show (1 : Int32).toInt = 1 from by decide]; omega
          refine lv_goto (tgt := 40) hx hb dX9_sheet_63 (by decide) ?_
          exact ih (v60) (w15) (w16) (upd (w17) (v57).toNatClampNeg 0) H locs ls (by omega) (g2) (g3) (by omega) hP hD hS (lv_sub hl [1, 2, 3, 4, 0] rfl)
  have hl := lv_entry ([.ref (a 0), .int x1, .int x2, .int x3]) (n := 5) (Nat.le_of_ble_eq_true rfl)
  rw [lg_entry_eq]
  generalize (lg_sl ([.ref (a 0), .int x1, .int x2, .int x3]) ++ List.replicate (5 - (lg_sl ([.ref (a 0), .int x1, .int x2, .int x3])).length) Slot.unset).toArray = ls at hl ⊢
  have hl : lv_has ls 5 [(0, .ref (a 0)), (1, .int x1), (2, .int x2), (3, .int x3)] := hl
  suffices main : ∀ (H : Heap) (locs : List Loc), va_P (dC, dI) vwCl (wM a cI σ) H → va_D A (wM a cI σ) → va_S A s.heap H locs → W p l e (headSpec wsX9_sheet RM_X9_sheet).room s m ([.ref (a 0), .int x1, .int x2, .int x3] : List Value).toArray below meth c H locs 0 0 (MQ below (zQi (dC, dI) [(cI, .int)] (wM a cI) A (fun (r : Int32) (σ1 : Cn) => ∃ u15 : Nat → Int32, ∃ u16 : Nat → Int32, ∃ u17 : Nat → Int32, σ1 = (upC (upC (upC σ 15 u15) 16 u16) 17 u17) ∧ (∀ k : Nat, k < 4 → 0 ≤ (u16 k).toInt ∧ (u16 k).toInt ≤ 60) ∧ ((¬ (0 ≤ x1.toInt ∧ x1.toInt ≤ 3 ∧ 0 ≤ x2.toInt ∧ x2.toInt ≤ 2 ∧ x3.toInt ≤ 60) ∧ (r : Int32).toInt = -1) ∨ ((0 ≤ x1.toInt ∧ x1.toInt ≤ 3 ∧ 0 ≤ x2.toInt ∧ x2.toInt ≤ 2 ∧ x3.toInt ≤ 60) ∧ x3.toInt < 0 ∧ (r : Int32).toInt = -14) ∨ ((0 ≤ x1.toInt ∧ x1.toInt ≤ 3 ∧ 0 ≤ x2.toInt ∧ x2.toInt ≤ 2 ∧ x3.toInt ≤ 60) ∧ 0 ≤ x3.toInt ∧ (r : Int32).toInt = 1)))) ([.ref (a 0), .int x1, .int x2, .int x3] : List Value).toArray s 0 0 A) (F0 m 0 ls []) from main s.heap [] hP hD hS
  intro H locs hP hD hS
  refine lv_iload_n hx hb dX9_sheet_0 rfl (lv_at hl 1 rfl) ?_
  refine lv_iload_n hx hb dX9_sheet_1 rfl (lv_at hl 2 rfl) ?_
  refine zcalli (va_runS (As := [.int x1, .int x2]) (rest := []) ⟨hx, hb, hml, hown, hts⟩ (c_X9_isSheet l dC dI cI a N hok σ H.size (x1) (x2) ) (va_cwS 2 hts gX9_sheet_X9_isSheet rfl rfl rfl (by decide +kernel) ⟨Nat.le_of_ble_eq_true rfl, Nat.le_of_ble_eq_true rfl⟩) (zpreS (wf := wM a cI) hok hN hS hA hK hP hD) rfl rfl hl.1 rfl (lv_room (Nat.le_of_ble_eq_true rfl)) dX9_sheet_2 ⟨Nat.zero_le _, Nat.zero_le _⟩) hD hS hA (fun v2 σ1 H locs hv2 hP hD hS => ?_)
  obtain ⟨es9, hv2⟩ := hv2
  subst σ1
  refine lv_if_eq (tgt := 14) hx hb dX9_sheet_5 (by decide) (fun c5 => ?_) (fun c5 => ?_)
  · skip
    have ic5 := zeq (a := v2.toInt) (b := 0) rfl (by decide) c5
    replace hv2 := (hv2.resolve_left (fun q => by omega)).2
    refine lv_iconst (v := (-1)) hx hb dX9_sheet_14 (by decide) ?_
    have heq9 : σ = (upC (upC (upC σ 15 (σ 15)) 16 (σ 16)) 17 (σ 17)) := by
      funext k
      by_cases e15 : k = 15
      · subst e15; rfl
      by_cases e16 : k = 16
      · subst e16; rfl
      by_cases e17 : k = 17
      · subst e17; rfl
      simp only [upC, if_neg e15, if_neg e16, if_neg e17]
    have hpost : ∃ u15 : Nat → Int32, ∃ u16 : Nat → Int32, ∃ u17 : Nat → Int32, σ = (upC (upC (upC σ 15 u15) 16 u16) 17 u17) ∧ (∀ k : Nat, k < 4 → 0 ≤ (u16 k).toInt ∧ (u16 k).toInt ≤ 60) ∧ ((¬ (0 ≤ x1.toInt ∧ x1.toInt ≤ 3 ∧ 0 ≤ x2.toInt ∧ x2.toInt ≤ 2 ∧ x3.toInt ≤ 60) ∧ ((-1) : Int32).toInt = -1) ∨ ((0 ≤ x1.toInt ∧ x1.toInt ≤ 3 ∧ 0 ≤ x2.toInt ∧ x2.toInt ≤ 2 ∧ x3.toInt ≤ 60) ∧ x3.toInt < 0 ∧ ((-1) : Int32).toInt = -14) ∨ ((0 ≤ x1.toInt ∧ x1.toInt ≤ 3 ∧ 0 ≤ x2.toInt ∧ x2.toInt ≤ 2 ∧ x3.toInt ≤ 60) ∧ 0 ≤ x3.toInt ∧ ((-1) : Int32).toInt = 1)) := by refine ⟨(σ 15), (σ 16), (σ 17), heq9, ?_⟩; first | exact ⟨hz, Or.inl ⟨by omega, by decide⟩⟩ | exact ⟨hz, Or.inr (Or.inl ⟨by omega, by omega, by decide⟩)⟩
    exact W.iret (v := (-1)) hx hb hr (fun t9 ht hW => ⟨⟨(-1), σ, rfl, hpost, by rw [ht]; exact hP, va_K.moved hW.alike hK, hD⟩, hS.F ht⟩) hS.2.2 dX9_sheet_15
  · skip
    have ic5 := zneq (a := v2.toInt) (b := 0) rfl (by decide) c5
    replace hv2 := (hv2.resolve_right (fun q => by omega)).2
    refine lv_iload_n hx hb dX9_sheet_8 rfl (lv_at hl 3 rfl) ?_
    refine lv_bipush (v := 60) hx hb dX9_sheet_9 (by decide) ?_
    refine lv_icmp_le (tgt := 16) hx hb dX9_sheet_11 (by decide) (fun c11 => ?_) (fun c11 => ?_)
    · skip
      have ic11 := zle (a := x3.toInt) (b := 60) rfl (by decide) c11
      refine lv_iload_n hx hb dX9_sheet_16 rfl (lv_at hl 3 rfl) ?_
      refine lv_if_ge (tgt := 23) hx hb dX9_sheet_17 (by decide) (fun c17 => ?_) (fun c17 => ?_)
      · skip
        have ic17 := zle (a := 0) (b := x3.toInt) (by decide) rfl c17
        refine lv_aload_n hx hb dX9_sheet_23 rfl (lv_at hl 0 rfl) ?_
        refine va_get (D := (dC, dI)) (ci := 9) (v := .ref (a 15)) (C := RX9) (T := TX9) (N := 28) hx hb hts in9 hown hK hP 0 rfl rfl 25 (by decide) k52 (fun _ h9 => h9) rfl dX9_sheet_24 ?_
        refine lv_iload_n hx hb dX9_sheet_27 rfl (lv_at hl 1 rfl) ?_
        refine lv_iload_n hx hb dX9_sheet_28 rfl (lv_at hl 2 rfl) ?_
        refine va_iast (D := (dC, dI)) (f := σ 15) hx hb hK hP hD hS 15 0 rfl rfl (i := x1) (n := 4) (zin (by omega) (by omega)) dX9_sheet_29 (fun H locs hP hD hS => ?_)
        have hP : va_P (dC, dI) vwCl (wM a cI (upC σ 15 (upd (σ 15) (x1).toNatClampNeg x2))) H := hP
        have hD : va_D A (wM a cI (upC σ 15 (upd (σ 15) (x1).toNatClampNeg x2))) := hD
        refine lv_aload_n hx hb dX9_sheet_30 rfl (lv_at hl 0 rfl) ?_
        refine va_get (D := (dC, dI)) (ci := 9) (v := .ref (a 16)) (C := RX9) (T := TX9) (N := 28) hx hb hts in9 hown hK hP 0 rfl rfl 26 (by decide) k55 (fun _ h9 => h9) rfl dX9_sheet_31 ?_
        refine lv_iload_n hx hb dX9_sheet_34 rfl (lv_at hl 1 rfl) ?_
        refine lv_iload_n hx hb dX9_sheet_35 rfl (lv_at hl 3 rfl) ?_
        refine va_iast (D := (dC, dI)) (f := σ 16) hx hb hK hP hD hS 16 0 rfl rfl (i := x1) (n := 4) (zin (by omega) (by omega)) dX9_sheet_36 (fun H locs hP hD hS => ?_)
        have hP : va_P (dC, dI) vwCl (wM a cI (upC (upC σ 15 (upd (σ 15) (x1).toNatClampNeg x2)) 16 (upd (σ 16) (x1).toNatClampNeg x3))) H := hP
        have hD : va_D A (wM a cI (upC (upC σ 15 (upd (σ 15) (x1).toNatClampNeg x2)) 16 (upd (σ 16) (x1).toNatClampNeg x3))) := hD
        refine lv_iconst (v := 0) hx hb dX9_sheet_37 (by decide) ?_
        refine lv_istore (lv' := [(4, .int 0), (0, .ref (a 0)), (1, .int x1), (2, .int x2), (3, .int x3)]) hx hb dX9_sheet_38 hl (by decide) rfl (fun ls hl => ?_)
        exact (LP _) (0) (upd (σ 15) (x1).toNatClampNeg x2) (upd (σ 16) (x1).toNatClampNeg x3) (σ 17) H locs ls (by decide) (by omega) (by intro i hi; by_cases q : i = x1.toNatClampNeg; rw [q, pk_us]; omega; rw [pk_un q]; exact hz i hi) (Nat.lt_succ_self _) hP hD hS (lv_sub hl [1, 2, 3, 4, 0] rfl)
      · skip
        have ic17 := znle (a := 0) (b := x3.toInt) (by decide) rfl c17
        refine lv_bipush (v := (-14)) hx hb dX9_sheet_20 (by decide) ?_
        have heq9 : σ = (upC (upC (upC σ 15 (σ 15)) 16 (σ 16)) 17 (σ 17)) := by
          funext k
          by_cases e15 : k = 15
          · subst e15; rfl
          by_cases e16 : k = 16
          · subst e16; rfl
          by_cases e17 : k = 17
          · subst e17; rfl
          simp only [upC, if_neg e15, if_neg e16, if_neg e17]
        have hpost : ∃ u15 : Nat → Int32, ∃ u16 : Nat → Int32, ∃ u17 : Nat → Int32, σ = (upC (upC (upC σ 15 u15) 16 u16) 17 u17) ∧ (∀ k : Nat, k < 4 → 0 ≤ (u16 k).toInt ∧ (u16 k).toInt ≤ 60) ∧ ((¬ (0 ≤ x1.toInt ∧ x1.toInt ≤ 3 ∧ 0 ≤ x2.toInt ∧ x2.toInt ≤ 2 ∧ x3.toInt ≤ 60) ∧ ((-14) : Int32).toInt = -1) ∨ ((0 ≤ x1.toInt ∧ x1.toInt ≤ 3 ∧ 0 ≤ x2.toInt ∧ x2.toInt ≤ 2 ∧ x3.toInt ≤ 60) ∧ x3.toInt < 0 ∧ ((-14) : Int32).toInt = -14) ∨ ((0 ≤ x1.toInt ∧ x1.toInt ≤ 3 ∧ 0 ≤ x2.toInt ∧ x2.toInt ≤ 2 ∧ x3.toInt ≤ 60) ∧ 0 ≤ x3.toInt ∧ ((-14) : Int32).toInt = 1)) := by refine ⟨(σ 15), (σ 16), (σ 17), heq9, ?_⟩; first | exact ⟨hz, Or.inl ⟨by omega, by decide⟩⟩ | exact ⟨hz, Or.inr (Or.inl ⟨by omega, by omega, by decide⟩)⟩
        exact W.iret (v := (-14)) hx hb hr (fun t9 ht hW => ⟨⟨(-14), σ, rfl, hpost, by rw [ht]; exact hP, va_K.moved hW.alike hK, hD⟩, hS.F ht⟩) hS.2.2 dX9_sheet_22
    · skip
      have ic11 := znle (a := x3.toInt) (b := 60) rfl (by decide) c11
      refine lv_iconst (v := (-1)) hx hb dX9_sheet_14 (by decide) ?_
      have heq9 : σ = (upC (upC (upC σ 15 (σ 15)) 16 (σ 16)) 17 (σ 17)) := by
        funext k
        by_cases e15 : k = 15
        · subst e15; rfl
        by_cases e16 : k = 16
        · subst e16; rfl
        by_cases e17 : k = 17
        · subst e17; rfl
        simp only [upC, if_neg e15, if_neg e16, if_neg e17]
      have hpost : ∃ u15 : Nat → Int32, ∃ u16 : Nat → Int32, ∃ u17 : Nat → Int32, σ = (upC (upC (upC σ 15 u15) 16 u16) 17 u17) ∧ (∀ k : Nat, k < 4 → 0 ≤ (u16 k).toInt ∧ (u16 k).toInt ≤ 60) ∧ ((¬ (0 ≤ x1.toInt ∧ x1.toInt ≤ 3 ∧ 0 ≤ x2.toInt ∧ x2.toInt ≤ 2 ∧ x3.toInt ≤ 60) ∧ ((-1) : Int32).toInt = -1) ∨ ((0 ≤ x1.toInt ∧ x1.toInt ≤ 3 ∧ 0 ≤ x2.toInt ∧ x2.toInt ≤ 2 ∧ x3.toInt ≤ 60) ∧ x3.toInt < 0 ∧ ((-1) : Int32).toInt = -14) ∨ ((0 ≤ x1.toInt ∧ x1.toInt ≤ 3 ∧ 0 ≤ x2.toInt ∧ x2.toInt ≤ 2 ∧ x3.toInt ≤ 60) ∧ 0 ≤ x3.toInt ∧ ((-1) : Int32).toInt = 1)) := by refine ⟨(σ 15), (σ 16), (σ 17), heq9, ?_⟩; first | exact ⟨hz, Or.inl ⟨by omega, by decide⟩⟩ | exact ⟨hz, Or.inr (Or.inl ⟨by omega, by omega, by decide⟩)⟩
      exact W.iret (v := (-1)) hx hb hr (fun t9 ht hW => ⟨⟨(-1), σ, rfl, hpost, by rw [ht]; exact hP, va_K.moved hW.alike hK, hD⟩, hS.F ht⟩) hS.2.2 dX9_sheet_15

abbrev RM_X9_lay : Room := { frames := 2, cells := 0, slots := 0, locals := 46 }
set_option maxHeartbeats 4000000 in
set_option maxRecDepth 100000 in
theorem c_X9_lay (l : Launch) (dC : Nat → ClassId) (dI : Nat → Nat → Nat) (cI : ClassId) (a : Nat → Nat) (N : (Nat → Prop) → State → Prop) (hok : zNok N) (σ : Cn) (sz : Nat) (x1 : Int32) (x2 : Int32) (x3 : Int32) (hz : ∀ k : Nat, k < 4 → 0 ≤ (σ 16 k).toInt ∧ (σ 16 k).toInt ≤ 60) : Met l yX9_lay wsX9_lay RM_X9_lay (zPc (dC, dI) [(cI, .int)] N (wM a cI) σ sz [.ref (a 0), .int x1, .int x2, .int x3]) (zQi (dC, dI) [(cI, .int)] (wM a cI) (va_A (wM a cI σ) sz) (fun (r : Int32) (σ1 : Cn) => ∃ u17 : Nat → Int32, σ1 = (upC σ 17 u17) ∧ True)) 0 0 (va_A (wM a cI σ) sz) := by
  refine Met.ofW (cc := cX9_lay) (maxL := 4) (ret := (some .int)) (by decide) rfl ?_
  intro p e s m args below meth c s₁ B hml hv
  obtain ⟨rfl, hsz, hP, hK, hD0, hN⟩ := hv
  have hx := B.exec
  have hb := B.bytes
  have hr := B.returns
  have hts := atoms_spec (ws := wsX9_lay) B.pre
  have hown : s.vm.findClass RX9 = some m.cls := findClass_of_methodNamed B.named
  have hlocks := B.notSynchronized
  subst hsz
  have hD := hD0.self (sz := s.heap.size)
  generalize hAe : va_A (wM a cI σ) s.heap.size = A at hD hN ⊢
  have hA : ∀ q : Nat, s.heap.size ≤ q → A q := fun q h => by rw [← hAe]; exact Or.inr h
  clear hAe hD0
  have hS : va_S A s.heap s.heap [] := va_S.rf
  have in9 : ∀ w ∈ u_ws RX9 TX9 28, w ∈ wsX9_lay := by decide +kernel
  have k52 := hts (.fieldLink RX9 52 "HouseSortedModel" "lanes" "[I") (by decide +kernel)
  have k55 := hts (.fieldLink RX9 55 "HouseSortedModel" "sizes" "[I") (by decide +kernel)
  have k58 := hts (.fieldLink RX9 58 "HouseSortedModel" "cells" "[I") (by decide +kernel)
  have hl := lv_entry ([.ref (a 0), .int x1, .int x2, .int x3]) (n := 4) (Nat.le_of_ble_eq_true rfl)
  rw [lg_entry_eq]
  generalize (lg_sl ([.ref (a 0), .int x1, .int x2, .int x3]) ++ List.replicate (4 - (lg_sl ([.ref (a 0), .int x1, .int x2, .int x3])).length) Slot.unset).toArray = ls at hl ⊢
  have hl : lv_has ls 4 [(0, .ref (a 0)), (1, .int x1), (2, .int x2), (3, .int x3)] := hl
  suffices main : ∀ (H : Heap) (locs : List Loc), va_P (dC, dI) vwCl (wM a cI σ) H → va_D A (wM a cI σ) → va_S A s.heap H locs → W p l e (headSpec wsX9_lay RM_X9_lay).room s m ([.ref (a 0), .int x1, .int x2, .int x3] : List Value).toArray below meth c H locs 0 0 (MQ below (zQi (dC, dI) [(cI, .int)] (wM a cI) A (fun (r : Int32) (σ1 : Cn) => ∃ u17 : Nat → Int32, σ1 = (upC σ 17 u17) ∧ True)) ([.ref (a 0), .int x1, .int x2, .int x3] : List Value).toArray s 0 0 A) (F0 m 0 ls []) from main s.heap [] hP hD hS
  intro H locs hP hD hS
  refine lv_iload_n hx hb dX9_lay_0 rfl (lv_at hl 1 rfl) ?_
  refine lv_iconst (v := 0) hx hb dX9_lay_1 (by decide) ?_
  refine zcalli (va_runS (As := [.int x1, .int 0]) (rest := []) ⟨hx, hb, hml, hown, hts⟩ (c_X9_isSheet l dC dI cI a N hok σ H.size (x1) (0) ) (va_cwS 2 hts gX9_lay_X9_isSheet rfl rfl rfl (by decide +kernel) ⟨Nat.le_of_ble_eq_true rfl, Nat.le_of_ble_eq_true rfl⟩) (zpreS (wf := wM a cI) hok hN hS hA hK hP hD) rfl rfl hl.1 rfl (lv_room (Nat.le_of_ble_eq_true rfl)) dX9_lay_2 ⟨Nat.zero_le _, Nat.zero_le _⟩) hD hS hA (fun v2 σ1 H locs hv2 hP hD hS => ?_)
  obtain ⟨es9, hv2⟩ := hv2
  subst σ1
  try simp only [show (0 : Int32).toInt = 0 from by decide] at hv2
  refine lv_if_ne (tgt := 10) hx hb dX9_lay_5 (by decide) (fun c5 => ?_) (fun c5 => ?_)
  · skip
    have ic5 := zneq (a := v2.toInt) (b := 0) rfl (by decide) c5
    replace hv2 := (hv2.resolve_right (fun q => by omega)).2
    refine lv_aload_n hx hb dX9_lay_10 rfl (lv_at hl 0 rfl) ?_
    refine va_get (D := (dC, dI)) (ci := 9) (v := .ref (a 15)) (C := RX9) (T := TX9) (N := 28) hx hb hts in9 hown hK hP 0 rfl rfl 25 (by decide) k52 (fun _ h9 => h9) rfl dX9_lay_11 ?_
    refine lv_iload_n hx hb dX9_lay_14 rfl (lv_at hl 1 rfl) ?_
    refine va_iald (D := (dC, dI)) (f := σ 15) hx hb hK hP 15 0 rfl rfl (i := x1) (n := 4) (zin (by omega) (by omega)) dX9_lay_15 ?_
    refine lv_topi (fun v15 ev15 => ?_)
    have tv15 := congrArg Int32.toInt ev15
    refine lv_bipush (v := (-4)) hx hb dX9_lay_16 (by decide) ?_
    refine lv_icmp_ne (tgt := 24) hx hb dX9_lay_18 (by decide) (fun c18 => ?_) (fun c18 => ?_)
    · skip
      have ic18 := zneq (a := v15.toInt) (b := (-4)) rfl (by decide) c18
      refine lv_iload_n hx hb dX9_lay_24 rfl (lv_at hl 2 rfl) ?_
      refine lv_i2l hx hb dX9_lay_25 rfl ?_
      refine lv_topl (fun v25 ev25 => ?_)
      have tv25 : v25.toInt = x2.toInt := by rw [ev25]; exact zi2l rfl
      refine lv_lconst (v := 0) hx hb dX9_lay_26 (by decide) ?_
      refine lv_aload_n hx hb dX9_lay_27 rfl (lv_at hl 0 rfl) ?_
      refine va_get (D := (dC, dI)) (ci := 9) (v := .ref (a 16)) (C := RX9) (T := TX9) (N := 28) hx hb hts in9 hown hK hP 0 rfl rfl 26 (by decide) k55 (fun _ h9 => h9) rfl dX9_lay_28 ?_
      refine lv_iload_n hx hb dX9_lay_31 rfl (lv_at hl 1 rfl) ?_
      refine va_iald (D := (dC, dI)) (f := σ 16) hx hb hK hP 16 0 rfl rfl (i := x1) (n := 4) (zin (by omega) (by omega)) dX9_lay_32 ?_
      refine lv_topi (fun v32 ev32 => ?_)
      have tv32 := congrArg Int32.toInt ev32
      have hb9 := hz ((x1).toNatClampNeg) (by have q := zcl (x := x1) (by omega); omega)
      refine lv_iconst (v := 1) hx hb dX9_lay_33 (by decide) ?_
      refine lv_isub hx hb dX9_lay_34 ?_
      refine lv_topi (fun v34 ev34 => ?_)
      have tv34 : v34.toInt = v32.toInt - 1 := by rw [ev34, zsub, show (1 : Int32).toInt = 1 from by decide]; omega
      refine lv_i2l hx hb dX9_lay_35 rfl ?_
      refine lv_topl (fun v35 ev35 => ?_)
      have tv35 : v35.toInt = v34.toInt := by rw [ev35]; exact zi2l rfl
      refine zcalli (va_runS (As := [.long v25, .long 0, .long v35]) (rest := []) ⟨hx, hb, hml, hown, hts⟩ (c_X9_in l dC dI cI a N hok σ H.size (v25) (0) (v35) ) (va_cwS 3 hts gX9_lay_X9_in rfl rfl rfl (by decide +kernel) ⟨Nat.le_of_ble_eq_true rfl, Nat.le_of_ble_eq_true rfl⟩) (zpreS (wf := wM a cI) hok hN hS hA hK hP hD) rfl rfl hl.1 rfl (lv_room (Nat.le_of_ble_eq_true rfl)) dX9_lay_36 ⟨Nat.zero_le _, Nat.zero_le _⟩) hD hS hA (fun v36 σ1 H locs hv36 hP hD hS => ?_)
      obtain ⟨es9, hv36⟩ := hv36
      subst σ1
      try simp only [show (0 : Int64).toInt = 0 from by decide] at hv36
      refine lv_if_ne (tgt := 45) hx hb dX9_lay_39 (by decide) (fun c39 => ?_) (fun c39 => ?_)
      · skip
        have ic39 := zneq (a := v36.toInt) (b := 0) rfl (by decide) c39
        replace hv36 := (hv36.resolve_right (fun q => by omega)).2
        refine lv_aload_n hx hb dX9_lay_45 rfl (lv_at hl 0 rfl) ?_
        refine va_get (D := (dC, dI)) (ci := 9) (v := .ref (a 17)) (C := RX9) (T := TX9) (N := 28) hx hb hts in9 hown hK hP 0 rfl rfl 27 (by decide) k58 (fun _ h9 => h9) rfl dX9_lay_46 ?_
        refine lv_bipush (v := 60) hx hb dX9_lay_49 (by decide) ?_
        refine lv_iload_n hx hb dX9_lay_51 rfl (lv_at hl 1 rfl) ?_
        refine lv_imul hx hb dX9_lay_52 ?_
        refine lv_topi (fun v52 ev52 => ?_)
        have tv52 : v52.toInt = 60 * x1.toInt := by rw [ev52, zmul, show (60 : Int32).toInt = 60 from by decide]; omega
        refine lv_iload_n hx hb dX9_lay_53 rfl (lv_at hl 2 rfl) ?_
        refine lv_iadd hx hb dX9_lay_54 ?_
        refine lv_topi (fun v54 ev54 => ?_)
        have tv54 : v54.toInt = v52.toInt + x2.toInt := by rw [ev54, zadd]; omega
        refine lv_aload_n hx hb dX9_lay_55 rfl (lv_at hl 0 rfl) ?_
        refine va_get (D := (dC, dI)) (ci := 9) (v := .ref (a 15)) (C := RX9) (T := TX9) (N := 28) hx hb hts in9 hown hK hP 0 rfl rfl 25 (by decide) k52 (fun _ h9 => h9) rfl dX9_lay_56 ?_
        refine lv_iload_n hx hb dX9_lay_59 rfl (lv_at hl 1 rfl) ?_
        refine va_iald (D := (dC, dI)) (f := σ 15) hx hb hK hP 15 0 rfl rfl (i := x1) (n := 4) (zin (by omega) (by omega)) dX9_lay_60 ?_
        refine lv_topi (fun v60 ev60 => ?_)
        have tv60 := congrArg Int32.toInt ev60
        refine lv_if_ne (tgt := 69) hx hb dX9_lay_61 (by decide) (fun c61 => ?_) (fun c61 => ?_)
        · skip
          have ic61 := zneq (a := v60.toInt) (b := 0) rfl (by decide) c61
          refine lv_aload_n hx hb dX9_lay_69 rfl (lv_at hl 0 rfl) ?_
          refine va_get (D := (dC, dI)) (ci := 9) (v := .ref (a 15)) (C := RX9) (T := TX9) (N := 28) hx hb hts in9 hown hK hP 0 rfl rfl 25 (by decide) k52 (fun _ h9 => h9) rfl dX9_lay_70 ?_
          refine lv_iload_n hx hb dX9_lay_73 rfl (lv_at hl 1 rfl) ?_
          refine va_iald (D := (dC, dI)) (f := σ 15) hx hb hK hP 15 0 rfl rfl (i := x1) (n := 4) (zin (by omega) (by omega)) dX9_lay_74 ?_
          refine lv_topi (fun v74 ev74 => ?_)
          have tv74 := congrArg Int32.toInt ev74
          refine lv_iconst (v := 1) hx hb dX9_lay_75 (by decide) ?_
          refine lv_icmp_ne (tgt := 84) hx hb dX9_lay_76 (by decide) (fun c76 => ?_) (fun c76 => ?_)
          · skip
            have ic76 := zneq (a := v74.toInt) (b := 1) rfl (by decide) c76
            refine lv_iload_n hx hb dX9_lay_84 rfl (lv_at hl 3 rfl) ?_
            refine va_iast (D := (dC, dI)) (f := σ 17) hx hb hK hP hD hS 17 0 rfl rfl (i := v54) (n := 240) (zin (by omega) (by omega)) dX9_lay_85 (fun H locs hP hD hS => ?_)
            have hP : va_P (dC, dI) vwCl (wM a cI (upC σ 17 (upd (σ 17) (v54).toNatClampNeg x3))) H := hP
            have hD : va_D A (wM a cI (upC σ 17 (upd (σ 17) (v54).toNatClampNeg x3))) := hD
            refine lv_iconst (v := 1) hx hb dX9_lay_86 (by decide) ?_
            have heq9 : (upC σ 17 (upd (σ 17) (v54).toNatClampNeg x3)) = (upC σ 17 (upd (σ 17) (v54).toNatClampNeg x3)) := rfl
            have hpost : ∃ u17 : Nat → Int32, (upC σ 17 (upd (σ 17) (v54).toNatClampNeg x3)) = (upC σ 17 u17) ∧ True := by refine ⟨(upd (σ 17) (v54).toNatClampNeg x3), heq9, ?_⟩; trivial
            exact W.iret (v := 1) hx hb hr (fun t9 ht hW => ⟨⟨1, (upC σ 17 (upd (σ 17) (v54).toNatClampNeg x3)), rfl, hpost, by rw [ht]; exact hP, va_K.moved hW.alike hK, hD⟩, hS.F ht⟩) hS.2.2 dX9_lay_87
          · skip
            have ic76 := zeq (a := v74.toInt) (b := 1) rfl (by decide) c76
            refine lv_iload_n hx hb dX9_lay_79 rfl (lv_at hl 3 rfl) ?_
            refine lv_i2s hx hb dX9_lay_80 rfl ?_
            refine lv_topi (fun v80 ev80 => ?_)
            refine lv_goto (tgt := 85) hx hb dX9_lay_81 (by decide) ?_
            refine va_iast (D := (dC, dI)) (f := σ 17) hx hb hK hP hD hS 17 0 rfl rfl (i := v54) (n := 240) (zin (by omega) (by omega)) dX9_lay_85 (fun H locs hP hD hS => ?_)
            have hP : va_P (dC, dI) vwCl (wM a cI (upC σ 17 (upd (σ 17) (v54).toNatClampNeg v80))) H := hP
            have hD : va_D A (wM a cI (upC σ 17 (upd (σ 17) (v54).toNatClampNeg v80))) := hD
            refine lv_iconst (v := 1) hx hb dX9_lay_86 (by decide) ?_
            have heq9 : (upC σ 17 (upd (σ 17) (v54).toNatClampNeg v80)) = (upC σ 17 (upd (σ 17) (v54).toNatClampNeg v80)) := rfl
            have hpost : ∃ u17 : Nat → Int32, (upC σ 17 (upd (σ 17) (v54).toNatClampNeg v80)) = (upC σ 17 u17) ∧ True := by refine ⟨(upd (σ 17) (v54).toNatClampNeg v80), heq9, ?_⟩; trivial
            exact W.iret (v := 1) hx hb hr (fun t9 ht hW => ⟨⟨1, (upC σ 17 (upd (σ 17) (v54).toNatClampNeg v80)), rfl, hpost, by rw [ht]; exact hP, va_K.moved hW.alike hK, hD⟩, hS.F ht⟩) hS.2.2 dX9_lay_87
        · skip
          have ic61 := zeq (a := v60.toInt) (b := 0) rfl (by decide) c61
          refine lv_iload_n hx hb dX9_lay_64 rfl (lv_at hl 3 rfl) ?_
          refine lv_i2b hx hb dX9_lay_65 rfl ?_
          refine lv_topi (fun v65 ev65 => ?_)
          refine lv_goto (tgt := 85) hx hb dX9_lay_66 (by decide) ?_
          refine va_iast (D := (dC, dI)) (f := σ 17) hx hb hK hP hD hS 17 0 rfl rfl (i := v54) (n := 240) (zin (by omega) (by omega)) dX9_lay_85 (fun H locs hP hD hS => ?_)
          have hP : va_P (dC, dI) vwCl (wM a cI (upC σ 17 (upd (σ 17) (v54).toNatClampNeg v65))) H := hP
          have hD : va_D A (wM a cI (upC σ 17 (upd (σ 17) (v54).toNatClampNeg v65))) := hD
          refine lv_iconst (v := 1) hx hb dX9_lay_86 (by decide) ?_
          have heq9 : (upC σ 17 (upd (σ 17) (v54).toNatClampNeg v65)) = (upC σ 17 (upd (σ 17) (v54).toNatClampNeg v65)) := rfl
          have hpost : ∃ u17 : Nat → Int32, (upC σ 17 (upd (σ 17) (v54).toNatClampNeg v65)) = (upC σ 17 u17) ∧ True := by refine ⟨(upd (σ 17) (v54).toNatClampNeg v65), heq9, ?_⟩; trivial
          exact W.iret (v := 1) hx hb hr (fun t9 ht hW => ⟨⟨1, (upC σ 17 (upd (σ 17) (v54).toNatClampNeg v65)), rfl, hpost, by rw [ht]; exact hP, va_K.moved hW.alike hK, hD⟩, hS.F ht⟩) hS.2.2 dX9_lay_87
      · skip
        have ic39 := zeq (a := v36.toInt) (b := 0) rfl (by decide) c39
        replace hv36 := (hv36.resolve_left (fun q => by omega)).2
        refine lv_bipush (v := (-12)) hx hb dX9_lay_42 (by decide) ?_
        have heq9 : σ = (upC σ 17 (σ 17)) := by
          funext k
          by_cases e17 : k = 17
          · subst e17; rfl
          simp only [upC, if_neg e17]
        have hpost : ∃ u17 : Nat → Int32, σ = (upC σ 17 u17) ∧ True := by refine ⟨(σ 17), heq9, ?_⟩; trivial
        exact W.iret (v := (-12)) hx hb hr (fun t9 ht hW => ⟨⟨(-12), σ, rfl, hpost, by rw [ht]; exact hP, va_K.moved hW.alike hK, hD⟩, hS.F ht⟩) hS.2.2 dX9_lay_44
    · skip
      have ic18 := zeq (a := v15.toInt) (b := (-4)) rfl (by decide) c18
      refine lv_bipush (v := (-11)) hx hb dX9_lay_21 (by decide) ?_
      have heq9 : σ = (upC σ 17 (σ 17)) := by
        funext k
        by_cases e17 : k = 17
        · subst e17; rfl
        simp only [upC, if_neg e17]
      have hpost : ∃ u17 : Nat → Int32, σ = (upC σ 17 u17) ∧ True := by refine ⟨(σ 17), heq9, ?_⟩; trivial
      exact W.iret (v := (-11)) hx hb hr (fun t9 ht hW => ⟨⟨(-11), σ, rfl, hpost, by rw [ht]; exact hP, va_K.moved hW.alike hK, hD⟩, hS.F ht⟩) hS.2.2 dX9_lay_23
  · skip
    have ic5 := zeq (a := v2.toInt) (b := 0) rfl (by decide) c5
    replace hv2 := (hv2.resolve_left (fun q => by omega)).2
    refine lv_iconst (v := (-1)) hx hb dX9_lay_8 (by decide) ?_
    have heq9 : σ = (upC σ 17 (σ 17)) := by
      funext k
      by_cases e17 : k = 17
      · subst e17; rfl
      simp only [upC, if_neg e17]
    have hpost : ∃ u17 : Nat → Int32, σ = (upC σ 17 u17) ∧ True := by refine ⟨(σ 17), heq9, ?_⟩; trivial
    exact W.iret (v := (-1)) hx hb hr (fun t9 ht hW => ⟨⟨(-1), σ, rfl, hpost, by rw [ht]; exact hP, va_K.moved hW.alike hK, hD⟩, hS.F ht⟩) hS.2.2 dX9_lay_9

abbrev RM_X9_worths : Room := { frames := 2, cells := 0, slots := 0, locals := 46 }
set_option maxHeartbeats 4000000 in
set_option maxRecDepth 100000 in
theorem c_X9_worths (l : Launch) (dC : Nat → ClassId) (dI : Nat → Nat → Nat) (cI : ClassId) (a : Nat → Nat) (N : (Nat → Prop) → State → Prop) (hok : zNok N) (σ : Cn) (sz : Nat) (x1 : Int32) (x2 : Int32) (x3 : Int32) (x4 : Int32) (h0 : 0 ≤ (σ 0 10).toInt ∧ (σ 0 10).toInt ≤ 4) (h2 : 0 ≤ (σ 0 11).toInt ∧ (σ 0 11).toInt ≤ 10) (hz : ∀ k : Nat, k < 4 → 0 ≤ (σ 16 k).toInt ∧ (σ 16 k).toInt ≤ 60) : Met l yX9_worths wsX9_worths RM_X9_worths (zPc (dC, dI) [(cI, .int)] N (wM a cI) σ sz [.ref (a 0), .int x1, .int x2, .int x3, .int x4]) (zQi (dC, dI) [(cI, .int)] (wM a cI) (va_A (wM a cI σ) sz) (fun (r : Int32) (σ1 : Cn) => ∃ u9 : Nat → Int32, σ1 = (upC σ 9 u9) ∧ True)) 0 0 (va_A (wM a cI σ) sz) := by
  refine Met.ofW (cc := cX9_worths) (maxL := 8) (ret := (some .int)) (by decide) rfl ?_
  intro p e s m args below meth c s₁ B hml hv
  obtain ⟨rfl, hsz, hP, hK, hD0, hN⟩ := hv
  have hx := B.exec
  have hb := B.bytes
  have hr := B.returns
  have hts := atoms_spec (ws := wsX9_worths) B.pre
  have hown : s.vm.findClass RX9 = some m.cls := findClass_of_methodNamed B.named
  have hlocks := B.notSynchronized
  subst hsz
  have hD := hD0.self (sz := s.heap.size)
  generalize hAe : va_A (wM a cI σ) s.heap.size = A at hD hN ⊢
  have hA : ∀ q : Nat, s.heap.size ≤ q → A q := fun q h => by rw [← hAe]; exact Or.inr h
  clear hAe hD0
  have hS : va_S A s.heap s.heap [] := va_S.rf
  have in9 : ∀ w ∈ u_ws RX9 TX9 28, w ∈ wsX9_worths := by decide +kernel
  have k146 := hts (.fieldLink RX9 146 "HouseSortedModel" "things" "I") (by decide +kernel)
  have k34 := hts (.fieldLink RX9 34 "HouseSortedModel" "worths" "[I") (by decide +kernel)
  have k52 := hts (.fieldLink RX9 52 "HouseSortedModel" "lanes" "[I") (by decide +kernel)
  have k55 := hts (.fieldLink RX9 55 "HouseSortedModel" "sizes" "[I") (by decide +kernel)
  have k58 := hts (.fieldLink RX9 58 "HouseSortedModel" "cells" "[I") (by decide +kernel)
  have kq164 := hts (.constantLong RX9 164 (100)) (by decide +kernel)
  have LP : ∀ n : Nat, (∀ (j : Int32) (H : Heap) (locs : List Loc) (ls : Array Slot), 0 ≤ j.toInt ∧ j.toInt ≤ 10 → (0 ≤ x1.toInt ∧ x1.toInt < 4 ∧ 0 ≤ x2.toInt ∧ x2.toInt ≤ 3) → (∀ t : Nat, (t : Int) < j.toInt → 0 ≤ x4.toInt + t ∧ x4.toInt + t < 60) → (100 + (10 - j.toInt).toNat) < n → va_P (dC, dI) vwCl (wM a cI σ) H → va_D A (wM a cI σ) → va_S A s.heap H locs → lv_has ls 8 [(0, .ref (a 0)), (1, .int x1), (2, .int x2), (3, .int x3), (4, .int x4), (5, .int j)] → W p l e (headSpec wsX9_worths RM_X9_worths).room s m ([.ref (a 0), .int x1, .int x2, .int x3, .int x4] : List Value).toArray below meth c H locs 0 0 (MQ below (zQi (dC, dI) [(cI, .int)] (wM a cI) A (fun (r : Int32) (σ1 : Cn) => ∃ u9 : Nat → Int32, σ1 = (upC σ 9 u9) ∧ True)) ([.ref (a 0), .int x1, .int x2, .int x3, .int x4] : List Value).toArray s 0 0 A) (F0 m 50 ls [])) ∧ (∀ (f : Int32) (j : Int32) (w9 : Nat → Int32) (H : Heap) (locs : List Loc) (ls : Array Slot), 0 ≤ j.toInt ∧ j.toInt ≤ 10 → (0 ≤ x1.toInt ∧ x1.toInt < 4 ∧ 0 ≤ x2.toInt ∧ x2.toInt ≤ 3) → (∀ t : Nat, (t : Int) < (σ 0 11).toInt → 0 ≤ x4.toInt + t ∧ x4.toInt + t < 60) → (10 - j.toInt).toNat < n → va_P (dC, dI) vwCl (wM a cI (upC σ 9 w9)) H → va_D A (wM a cI (upC σ 9 w9)) → va_S A s.heap H locs → lv_has ls 8 [(0, .ref (a 0)), (1, .int x1), (2, .int x2), (3, .int x3), (4, .int x4), (5, .int f), (6, .int j)] → W p l e (headSpec wsX9_worths RM_X9_worths).room s m ([.ref (a 0), .int x1, .int x2, .int x3, .int x4] : List Value).toArray below meth c H locs 0 0 (MQ below (zQi (dC, dI) [(cI, .int)] (wM a cI) A (fun (r : Int32) (σ1 : Cn) => ∃ u9 : Nat → Int32, σ1 = (upC σ 9 u9) ∧ True)) ([.ref (a 0), .int x1, .int x2, .int x3, .int x4] : List Value).toArray s 0 0 A) (F0 m 133 ls [])) := by
    intro n
    induction n with
    | zero => exact ⟨(by intros; omega), (by intros; omega)⟩
    | succ n ih =>
      refine ⟨?_, ?_⟩
      · intro j H locs ls g1 g2 g3 hmu hP hD hS hl
        refine lv_iload hx hb dX9_worths_50 (lv_at hl 5 rfl) ?_
        refine lv_aload_n hx hb dX9_worths_52 rfl (lv_at hl 0 rfl) ?_
        refine va_get (D := (dC, dI)) (ci := 9) (v := .int (σ 0 11)) (C := RX9) (T := TX9) (N := 28) hx hb hts in9 hown hK hP 0 rfl rfl 11 (by decide) k146 (fun _ h9 => h9) rfl dX9_worths_53 ?_
        refine lv_icmp_ge (tgt := 127) hx hb dX9_worths_56 (by decide) (fun c56 => ?_) (fun c56 => ?_)
        · skip
          have ic56 := zle (a := (σ 0 11).toInt) (b := j.toInt) rfl rfl c56
          refine lv_iconst (v := 0) hx hb dX9_worths_127 (by decide) ?_
          refine lv_istore (lv' := [(5, .int 0), (0, .ref (a 0)), (1, .int x1), (2, .int x2), (3, .int x3), (4, .int x4)]) hx hb dX9_worths_128 hl (by decide) rfl (fun ls hl => ?_)
          refine lv_iconst (v := 0) hx hb dX9_worths_130 (by decide) ?_
          refine lv_istore (lv' := [(6, .int 0), (5, .int 0), (0, .ref (a 0)), (1, .int x1), (2, .int x2), (3, .int x3), (4, .int x4)]) hx hb dX9_worths_131 hl (by decide) rfl (fun ls hl => ?_)
          exact ih.2 (0) (0) (σ 9) H locs ls (by first | omega | decide) (g2) (by first | exact g3 | exact fun t ht => g3 t (by omega)) (by first | omega | (rw [show (0 : Int32).toInt = 0 from by decide]; omega)) hP hD hS (lv_sub hl [2, 3, 4, 5, 6, 1, 0] rfl)
        · skip
          have ic56 := znle (a := (σ 0 11).toInt) (b := j.toInt) rfl rfl c56
          refine lv_iload hx hb dX9_worths_59 (lv_at hl 4 rfl) ?_
          refine lv_i2l hx hb dX9_worths_61 rfl ?_
          refine lv_topl (fun v61 ev61 => ?_)
          have tv61 : v61.toInt = x4.toInt := by rw [ev61]; exact zi2l rfl
          refine lv_iload hx hb dX9_worths_62 (lv_at hl 5 rfl) ?_
          refine lv_i2l hx hb dX9_worths_64 rfl ?_
          refine lv_topl (fun v64 ev64 => ?_)
          have tv64 : v64.toInt = j.toInt := by rw [ev64]; exact zi2l rfl
          refine lv_ladd hx hb dX9_worths_65 ?_
          refine lv_topl (fun v65 ev65 => ?_)
          have tv65 : v65.toInt = v61.toInt + v64.toInt := by rw [ev65, zladd]; have r1 := zrng x4; omega
          refine lv_lstore (lv' := [(6, .long v65), (0, .ref (a 0)), (1, .int x1), (2, .int x2), (3, .int x3), (4, .int x4), (5, .int j)]) hx hb dX9_worths_66 hl (by decide) rfl (fun ls hl => ?_)
          refine lv_lload hx hb dX9_worths_68 (lv_at hl 0 rfl) ?_
          refine lv_lconst (v := 0) hx hb dX9_worths_70 (by decide) ?_
          refine W.lcmp hx hb dX9_worths_71 ?_
          refine lv_topi (fun v71 ev71 => ?_)
          have tv71 := zlcmp (x := v65) (y := 0) (a := v65.toInt) (b := 0) rfl (by decide) ev71
          refine lv_if_lt (tgt := 88) hx hb dX9_worths_72 (by decide) (fun c72 => ?_) (fun c72 => ?_)
          · skip
            have ic72 := zlt (a := v71.toInt) (b := 0) rfl (by decide) c72
            refine lv_bipush (v := (-12)) hx hb dX9_worths_88 (by decide) ?_
            have heq9 : σ = (upC σ 9 (σ 9)) := by
              funext k
              by_cases e9 : k = 9
              · subst e9; rfl
              simp only [upC, if_neg e9]
            have hpost : ∃ u9 : Nat → Int32, σ = (upC σ 9 u9) ∧ True := by refine ⟨(σ 9), heq9, ?_⟩; trivial
            exact W.iret (v := (-12)) hx hb hr (fun t9 ht hW => ⟨⟨(-12), σ, rfl, hpost, by rw [ht]; exact hP, va_K.moved hW.alike hK, hD⟩, hS.F ht⟩) hS.2.2 dX9_worths_90
          · skip
            have ic72 := znlt (a := v71.toInt) (b := 0) rfl (by decide) c72
            refine lv_lload hx hb dX9_worths_75 (lv_at hl 0 rfl) ?_
            refine lv_aload_n hx hb dX9_worths_77 rfl (lv_at hl 1 rfl) ?_
            refine va_get (D := (dC, dI)) (ci := 9) (v := .ref (a 16)) (C := RX9) (T := TX9) (N := 28) hx hb hts in9 hown hK hP 0 rfl rfl 26 (by decide) k55 (fun _ h9 => h9) rfl dX9_worths_78 ?_
            refine lv_iload_n hx hb dX9_worths_81 rfl (lv_at hl 3 rfl) ?_
            refine va_iald (D := (dC, dI)) (f := σ 16) hx hb hK hP 16 0 rfl rfl (i := x2) (n := 4) (zin (by omega) (by omega)) dX9_worths_82 ?_
            refine lv_topi (fun v82 ev82 => ?_)
            have tv82 := congrArg Int32.toInt ev82
            have hb9 := hz ((x2).toNatClampNeg) (by have q := zcl (x := x2) (by omega); omega)
            refine lv_i2l hx hb dX9_worths_83 rfl ?_
            refine lv_topl (fun v83 ev83 => ?_)
            have tv83 : v83.toInt = v82.toInt := by rw [ev83]; exact zi2l rfl
            refine W.lcmp hx hb dX9_worths_84 ?_
            refine lv_topi (fun v84 ev84 => ?_)
            have tv84 := zlcmp (x := v65) (y := v83) (a := v65.toInt) (b := v83.toInt) rfl rfl ev84
            refine lv_if_lt (tgt := 91) hx hb dX9_worths_85 (by decide) (fun c85 => ?_) (fun c85 => ?_)
            · skip
              have ic85 := zlt (a := v84.toInt) (b := 0) rfl (by decide) c85
              refine lv_aload_n hx hb dX9_worths_91 rfl (lv_at hl 1 rfl) ?_
              refine va_get (D := (dC, dI)) (ci := 9) (v := .ref (a 17)) (C := RX9) (T := TX9) (N := 28) hx hb hts in9 hown hK hP 0 rfl rfl 27 (by decide) k58 (fun _ h9 => h9) rfl dX9_worths_92 ?_
              refine lv_bipush (v := 60) hx hb dX9_worths_95 (by decide) ?_
              refine lv_iload_n hx hb dX9_worths_97 rfl (lv_at hl 3 rfl) ?_
              refine lv_imul hx hb dX9_worths_98 ?_
              refine lv_topi (fun v98 ev98 => ?_)
              have tv98 : v98.toInt = 60 * x2.toInt := by rw [ev98, zmul, show (60 : Int32).toInt = 60 from by decide]; omega
              refine lv_lload hx hb dX9_worths_99 (lv_at hl 0 rfl) ?_
              refine lv_l2i hx hb dX9_worths_101 rfl ?_
              refine lv_topi (fun v101 ev101 => ?_)
              have tv101 : v101.toInt = v65.toInt := by rw [ev101, zl2i]; omega
              refine lv_iadd hx hb dX9_worths_102 ?_
              refine lv_topi (fun v102 ev102 => ?_)
              have tv102 : v102.toInt = v98.toInt + v101.toInt := by rw [ev102, zadd]; omega
              refine va_iald (D := (dC, dI)) (f := σ 17) hx hb hK hP 17 0 rfl rfl (i := v102) (n := 240) (zin (by omega) (by omega)) dX9_worths_103 ?_
              refine lv_topi (fun v103 ev103 => ?_)
              have tv103 := congrArg Int32.toInt ev103
              refine lv_i2l hx hb dX9_worths_104 rfl ?_
              refine lv_topl (fun v104 ev104 => ?_)
              have tv104 : v104.toInt = v103.toInt := by rw [ev104]; exact zi2l rfl
              refine lv_lconst (v := 0) hx hb dX9_worths_105 (by decide) ?_
              refine lv_ldc2 hx hb hown kq164 dX9_worths_106 ?_
              refine zcalli (va_runS (As := [.long v104, .long 0, .long 100]) (rest := []) ⟨hx, hb, hml, hown, hts⟩ (c_X9_in l dC dI cI a N hok σ H.size (v104) (0) (100) ) (va_cwS 3 hts gX9_worths_X9_in rfl rfl rfl (by decide +kernel) ⟨Nat.le_of_ble_eq_true rfl, Nat.le_of_ble_eq_true rfl⟩) (zpreS (wf := wM a cI) hok hN hS hA hK hP hD) rfl rfl hl.1 rfl (lv_room (Nat.le_of_ble_eq_true rfl)) dX9_worths_109 ⟨Nat.zero_le _, Nat.zero_le _⟩) hD hS hA (fun v109 σ1 H locs hv109 hP hD hS => ?_)
              obtain ⟨es9, hv109⟩ := hv109
              subst σ1
              try simp only [show (0 : Int64).toInt = 0 from by decide, show (100 : Int64).toInt = 100 from by decide] at hv109
              refine lv_if_ne (tgt := 121) hx hb dX9_worths_112 (by decide) (fun c112 => ?_) (fun c112 => ?_)
              · skip
                have ic112 := zneq (a := v109.toInt) (b := 0) rfl (by decide) c112
                obtain ⟨v121, ev121⟩ : ∃ y : Int32, y = j + 1 := ⟨_, rfl⟩
                refine lv_iinc (v := v121) (lv' := [(5, .int v121), (6, .long v65), (0, .ref (a 0)), (1, .int x1), (2, .int x2), (3, .int x3), (4, .int x4)]) hx hb dX9_worths_121 hl (k := 6) rfl (by rw [ev121]; rfl) (by decide) rfl (fun ls hl => ?_)
                have tv121 : v121.toInt = j.toInt + 1 := by rw [ev121, zadd, show (1 : Int32).toInt = 1 from by decide]; omega
                refine lv_goto (tgt := 50) hx hb dX9_worths_124 (by decide) ?_
                exact ih.1 (v121)  H locs ls (by omega) (g2) (by intro t ht; rcases (show (t : Int) < j.toInt ∨ (t : Int) = j.toInt from by omega) with q9 | q9; exact g3 t q9; omega) (by omega) hP hD hS (lv_sub hl [2, 3, 4, 5, 6, 0] rfl)
              · skip
                have ic112 := zeq (a := v109.toInt) (b := 0) rfl (by decide) c112
                refine lv_bipush (v := (-20)) hx hb dX9_worths_115 (by decide) ?_
                refine lv_iload hx hb dX9_worths_117 (lv_at hl 6 rfl) ?_
                refine lv_isub hx hb dX9_worths_119 ?_
                refine lv_topi (fun v119 ev119 => ?_)
                have heq9 : σ = (upC σ 9 (σ 9)) := by
                  funext k
                  by_cases e9 : k = 9
                  · subst e9; rfl
                  simp only [upC, if_neg e9]
                have hpost : ∃ u9 : Nat → Int32, σ = (upC σ 9 u9) ∧ True := by refine ⟨(σ 9), heq9, ?_⟩; trivial
                exact W.iret (v := v119) hx hb hr (fun t9 ht hW => ⟨⟨v119, σ, rfl, hpost, by rw [ht]; exact hP, va_K.moved hW.alike hK, hD⟩, hS.F ht⟩) hS.2.2 dX9_worths_120
            · skip
              have ic85 := znlt (a := v84.toInt) (b := 0) rfl (by decide) c85
              refine lv_bipush (v := (-12)) hx hb dX9_worths_88 (by decide) ?_
              have heq9 : σ = (upC σ 9 (σ 9)) := by
                funext k
                by_cases e9 : k = 9
                · subst e9; rfl
                simp only [upC, if_neg e9]
              have hpost : ∃ u9 : Nat → Int32, σ = (upC σ 9 u9) ∧ True := by refine ⟨(σ 9), heq9, ?_⟩; trivial
              exact W.iret (v := (-12)) hx hb hr (fun t9 ht hW => ⟨⟨(-12), σ, rfl, hpost, by rw [ht]; exact hP, va_K.moved hW.alike hK, hD⟩, hS.F ht⟩) hS.2.2 dX9_worths_90
      · intro f j w9 H locs ls g1 g2 g3 hmu hP hD hS hl
        refine lv_iload hx hb dX9_worths_133 (lv_at hl 6 rfl) ?_
        refine lv_aload_n hx hb dX9_worths_135 rfl (lv_at hl 0 rfl) ?_
        refine va_get (D := (dC, dI)) (ci := 9) (v := .int (σ 0 11)) (C := RX9) (T := TX9) (N := 28) hx hb hts in9 hown hK hP 0 rfl rfl 11 (by decide) k146 (fun _ h9 => h9) rfl dX9_worths_136 ?_
        refine lv_icmp_ge (tgt := 206) hx hb dX9_worths_139 (by decide) (fun c139 => ?_) (fun c139 => ?_)
        · skip
          have ic139 := zle (a := (σ 0 11).toInt) (b := j.toInt) rfl rfl c139
          refine lv_iload hx hb dX9_worths_206 (lv_at hl 5 rfl) ?_
          have heq9 : (upC σ 9 w9) = (upC σ 9 w9) := rfl
          have hpost : ∃ u9 : Nat → Int32, (upC σ 9 w9) = (upC σ 9 u9) ∧ True := by refine ⟨(w9), heq9, ?_⟩; trivial
          exact W.iret (v := f) hx hb hr (fun t9 ht hW => ⟨⟨f, (upC σ 9 w9), rfl, hpost, by rw [ht]; exact hP, va_K.moved hW.alike hK, hD⟩, hS.F ht⟩) hS.2.2 dX9_worths_208
        · skip
          have ic139 := znle (a := (σ 0 11).toInt) (b := j.toInt) rfl rfl c139
          have h6 := g3 (j.toNatClampNeg) (by have q9 := zcl (x := j) (by omega); omega)
          have h7 := zcl (x := j) (by omega)
          refine lv_aload_n hx hb dX9_worths_142 rfl (lv_at hl 0 rfl) ?_
          refine va_get (D := (dC, dI)) (ci := 9) (v := .ref (a 17)) (C := RX9) (T := TX9) (N := 28) hx hb hts in9 hown hK hP 0 rfl rfl 27 (by decide) k58 (fun _ h9 => h9) rfl dX9_worths_143 ?_
          refine lv_bipush (v := 60) hx hb dX9_worths_146 (by decide) ?_
          refine lv_iload_n hx hb dX9_worths_148 rfl (lv_at hl 2 rfl) ?_
          refine lv_imul hx hb dX9_worths_149 ?_
          refine lv_topi (fun v149 ev149 => ?_)
          have tv149 : v149.toInt = 60 * x2.toInt := by rw [ev149, zmul, show (60 : Int32).toInt = 60 from by decide]; omega
          refine lv_iload hx hb dX9_worths_150 (lv_at hl 4 rfl) ?_
          refine lv_iadd hx hb dX9_worths_152 ?_
          refine lv_topi (fun v152 ev152 => ?_)
          have tv152 : v152.toInt = v149.toInt + x4.toInt := by rw [ev152, zadd]; omega
          refine lv_iload hx hb dX9_worths_153 (lv_at hl 6 rfl) ?_
          refine lv_iadd hx hb dX9_worths_155 ?_
          refine lv_topi (fun v155 ev155 => ?_)
          have tv155 : v155.toInt = v152.toInt + j.toInt := by rw [ev155, zadd]; omega
          refine va_iald (D := (dC, dI)) (f := σ 17) hx hb hK hP 17 0 rfl rfl (i := v155) (n := 240) (zin (by omega) (by omega)) dX9_worths_156 ?_
          refine lv_topi (fun v156 ev156 => ?_)
          have tv156 := congrArg Int32.toInt ev156
          refine lv_istore (lv' := [(7, .int v156), (0, .ref (a 0)), (1, .int x1), (2, .int x2), (3, .int x3), (4, .int x4), (5, .int f), (6, .int j)]) hx hb dX9_worths_157 hl (by decide) rfl (fun ls hl => ?_)
          refine lv_iload hx hb dX9_worths_159 (lv_at hl 6 rfl) ?_
          refine lv_aload_n hx hb dX9_worths_161 rfl (lv_at hl 1 rfl) ?_
          refine va_get (D := (dC, dI)) (ci := 9) (v := .ref (a 9)) (C := RX9) (T := TX9) (N := 28) hx hb hts in9 hown hK hP 0 rfl rfl 17 (by decide) k34 (fun _ h9 => h9) rfl dX9_worths_162 ?_
          refine lv_bipush (v := 10) hx hb dX9_worths_165 (by decide) ?_
          refine lv_iload_n hx hb dX9_worths_167 rfl (lv_at hl 2 rfl) ?_
          refine lv_imul hx hb dX9_worths_168 ?_
          refine lv_topi (fun v168 ev168 => ?_)
          have tv168 : v168.toInt = 10 * x1.toInt := by rw [ev168, zmul, show (10 : Int32).toInt = 10 from by decide]; omega
          refine lv_iload hx hb dX9_worths_169 (lv_at hl 7 rfl) ?_
          refine lv_iadd hx hb dX9_worths_171 ?_
          refine lv_topi (fun v171 ev171 => ?_)
          have tv171 : v171.toInt = v168.toInt + j.toInt := by rw [ev171, zadd]; omega
          refine va_iald (D := (dC, dI)) (f := w9) hx hb hK hP 9 0 rfl rfl (i := v171) (n := 40) (zin (by omega) (by omega)) dX9_worths_172 ?_
          refine lv_topi (fun v172 ev172 => ?_)
          have tv172 := congrArg Int32.toInt ev172
          refine lv_iload hx hb dX9_worths_173 (lv_at hl 0 rfl) ?_
          refine lv_icmp_ne (tgt := 182) hx hb dX9_worths_175 (by decide) (fun c175 => ?_) (fun c175 => ?_)
          · skip
            have ic175 := zneq (a := v172.toInt) (b := v156.toInt) rfl rfl c175
            refine lv_iconst (v := 1) hx hb dX9_worths_182 (by decide) ?_
            refine lv_iadd hx hb dX9_worths_183 ?_
            refine lv_topi (fun v183 ev183 => ?_)
            refine lv_istore (lv' := [(5, .int v183), (7, .int v156), (0, .ref (a 0)), (1, .int x1), (2, .int x2), (3, .int x3), (4, .int x4), (6, .int j)]) hx hb dX9_worths_184 hl (by decide) rfl (fun ls hl => ?_)
            refine lv_aload_n hx hb dX9_worths_186 rfl (lv_at hl 2 rfl) ?_
            refine va_get (D := (dC, dI)) (ci := 9) (v := .ref (a 9)) (C := RX9) (T := TX9) (N := 28) hx hb hts in9 hown hK hP 0 rfl rfl 17 (by decide) k34 (fun _ h9 => h9) rfl dX9_worths_187 ?_
            refine lv_bipush (v := 10) hx hb dX9_worths_190 (by decide) ?_
            refine lv_iload_n hx hb dX9_worths_192 rfl (lv_at hl 3 rfl) ?_
            refine lv_imul hx hb dX9_worths_193 ?_
            refine lv_topi (fun v193 ev193 => ?_)
            have tv193 : v193.toInt = 10 * x1.toInt := by rw [ev193, zmul, show (10 : Int32).toInt = 10 from by decide]; omega
            refine lv_iload hx hb dX9_worths_194 (lv_at hl 7 rfl) ?_
            refine lv_iadd hx hb dX9_worths_196 ?_
            refine lv_topi (fun v196 ev196 => ?_)
            have tv196 : v196.toInt = v193.toInt + j.toInt := by rw [ev196, zadd]; omega
            refine lv_iload hx hb dX9_worths_197 (lv_at hl 1 rfl) ?_
            refine va_iast (D := (dC, dI)) (f := w9) hx hb hK hP hD hS 9 0 rfl rfl (i := v196) (n := 40) (zin (by omega) (by omega)) dX9_worths_199 (fun H locs hP hD hS => ?_)
            have hP : va_P (dC, dI) vwCl (wM a cI (upC σ 9 (upd (w9) (v196).toNatClampNeg v156))) H := hP
            have hD : va_D A (wM a cI (upC σ 9 (upd (w9) (v196).toNatClampNeg v156))) := hD
            obtain ⟨v200, ev200⟩ : ∃ y : Int32, y = j + 1 := ⟨_, rfl⟩
            refine lv_iinc (v := v200) (lv' := [(6, .int v200), (5, .int v183), (7, .int v156), (0, .ref (a 0)), (1, .int x1), (2, .int x2), (3, .int x3), (4, .int x4)]) hx hb dX9_worths_200 hl (k := 7) rfl (by rw [ev200]; rfl) (by decide) rfl (fun ls hl => ?_)
            have tv200 : v200.toInt = j.toInt + 1 := by rw [ev200, zadd, show (1 : Int32).toInt = 1 from by decide]; omega
            refine lv_goto (tgt := 133) hx hb dX9_worths_203 (by decide) ?_
            exact ih.2 (v183) (v200) (upd (w9) (v196).toNatClampNeg v156) H locs ls (by first | omega | decide) (g2) (by first | exact g3 | exact fun t ht => g3 t (by omega)) (by first | omega | (rw [show (0 : Int32).toInt = 0 from by decide]; omega)) hP hD hS (lv_sub hl [3, 4, 5, 6, 7, 1, 0] rfl)
          · skip
            have ic175 := zeq (a := v172.toInt) (b := v156.toInt) rfl rfl c175
            refine lv_iconst (v := 0) hx hb dX9_worths_178 (by decide) ?_
            refine lv_goto (tgt := 183) hx hb dX9_worths_179 (by decide) ?_
            refine lv_iadd hx hb dX9_worths_183 ?_
            refine lv_topi (fun v183 ev183 => ?_)
            refine lv_istore (lv' := [(5, .int v183), (7, .int v156), (0, .ref (a 0)), (1, .int x1), (2, .int x2), (3, .int x3), (4, .int x4), (6, .int j)]) hx hb dX9_worths_184 hl (by decide) rfl (fun ls hl => ?_)
            refine lv_aload_n hx hb dX9_worths_186 rfl (lv_at hl 2 rfl) ?_
            refine va_get (D := (dC, dI)) (ci := 9) (v := .ref (a 9)) (C := RX9) (T := TX9) (N := 28) hx hb hts in9 hown hK hP 0 rfl rfl 17 (by decide) k34 (fun _ h9 => h9) rfl dX9_worths_187 ?_
            refine lv_bipush (v := 10) hx hb dX9_worths_190 (by decide) ?_
            refine lv_iload_n hx hb dX9_worths_192 rfl (lv_at hl 3 rfl) ?_
            refine lv_imul hx hb dX9_worths_193 ?_
            refine lv_topi (fun v193 ev193 => ?_)
            have tv193 : v193.toInt = 10 * x1.toInt := by rw [ev193, zmul, show (10 : Int32).toInt = 10 from by decide]; omega
            refine lv_iload hx hb dX9_worths_194 (lv_at hl 7 rfl) ?_
            refine lv_iadd hx hb dX9_worths_196 ?_
            refine lv_topi (fun v196 ev196 => ?_)
            have tv196 : v196.toInt = v193.toInt + j.toInt := by rw [ev196, zadd]; omega
            refine lv_iload hx hb dX9_worths_197 (lv_at hl 1 rfl) ?_
            refine va_iast (D := (dC, dI)) (f := w9) hx hb hK hP hD hS 9 0 rfl rfl (i := v196) (n := 40) (zin (by omega) (by omega)) dX9_worths_199 (fun H locs hP hD hS => ?_)
            have hP : va_P (dC, dI) vwCl (wM a cI (upC σ 9 (upd (w9) (v196).toNatClampNeg v156))) H := hP
            have hD : va_D A (wM a cI (upC σ 9 (upd (w9) (v196).toNatClampNeg v156))) := hD
            obtain ⟨v200, ev200⟩ : ∃ y : Int32, y = j + 1 := ⟨_, rfl⟩
            refine lv_iinc (v := v200) (lv' := [(6, .int v200), (5, .int v183), (7, .int v156), (0, .ref (a 0)), (1, .int x1), (2, .int x2), (3, .int x3), (4, .int x4)]) hx hb dX9_worths_200 hl (k := 7) rfl (by rw [ev200]; rfl) (by decide) rfl (fun ls hl => ?_)
            have tv200 : v200.toInt = j.toInt + 1 := by rw [ev200, zadd, show (1 : Int32).toInt = 1 from by decide]; omega
            refine lv_goto (tgt := 133) hx hb dX9_worths_203 (by decide) ?_
            exact ih.2 (v183) (v200) (upd (w9) (v196).toNatClampNeg v156) H locs ls (by first | omega | decide) (g2) (by first | exact g3 | exact fun t ht => g3 t (by omega)) (by first | omega | (rw [show (0 : Int32).toInt = 0 from by decide]; omega)) hP hD hS (lv_sub hl [3, 4, 5, 6, 7, 1, 0] rfl)
  have hl := lv_entry ([.ref (a 0), .int x1, .int x2, .int x3, .int x4]) (n := 8) (Nat.le_of_ble_eq_true rfl)
  rw [lg_entry_eq]
  generalize (lg_sl ([.ref (a 0), .int x1, .int x2, .int x3, .int x4]) ++ List.replicate (8 - (lg_sl ([.ref (a 0), .int x1, .int x2, .int x3, .int x4])).length) Slot.unset).toArray = ls at hl ⊢
  have hl : lv_has ls 8 [(0, .ref (a 0)), (1, .int x1), (2, .int x2), (3, .int x3), (4, .int x4)] := hl
  suffices main : ∀ (H : Heap) (locs : List Loc), va_P (dC, dI) vwCl (wM a cI σ) H → va_D A (wM a cI σ) → va_S A s.heap H locs → W p l e (headSpec wsX9_worths RM_X9_worths).room s m ([.ref (a 0), .int x1, .int x2, .int x3, .int x4] : List Value).toArray below meth c H locs 0 0 (MQ below (zQi (dC, dI) [(cI, .int)] (wM a cI) A (fun (r : Int32) (σ1 : Cn) => ∃ u9 : Nat → Int32, σ1 = (upC σ 9 u9) ∧ True)) ([.ref (a 0), .int x1, .int x2, .int x3, .int x4] : List Value).toArray s 0 0 A) (F0 m 0 ls []) from main s.heap [] hP hD hS
  intro H locs hP hD hS
  refine lv_aload_n hx hb dX9_worths_0 rfl (lv_at hl 0 rfl) ?_
  refine lv_iload_n hx hb dX9_worths_1 rfl (lv_at hl 1 rfl) ?_
  refine zcalli (va_runV (As := [.int x1]) (rest := []) ⟨hx, hb, hml, hown, hts⟩ (c_X9_isHeir l dC dI cI a N hok σ H.size (x1) h0) (cwV 1 hts gX9_worths_X9_isHeir rfl rfl rfl (by decide +kernel) ⟨Nat.le_of_ble_eq_true rfl, Nat.le_of_ble_eq_true rfl⟩) (zpreV (wf := wM a cI) (q0 := 0) (ci := 9) hok hN hS hA hK hP hD rfl rfl) rfl rfl hl.1 rfl (lv_room (Nat.le_of_ble_eq_true rfl)) dX9_worths_2 ⟨Nat.zero_le _, Nat.zero_le _⟩) hD hS hA (fun v2 σ1 H locs hv2 hP hD hS => ?_)
  obtain ⟨es9, hv2⟩ := hv2
  subst σ1
  refine lv_if_eq (tgt := 16) hx hb dX9_worths_5 (by decide) (fun c5 => ?_) (fun c5 => ?_)
  · skip
    have ic5 := zeq (a := v2.toInt) (b := 0) rfl (by decide) c5
    replace hv2 := (hv2.resolve_left (fun q => by omega)).2
    refine lv_iconst (v := (-1)) hx hb dX9_worths_16 (by decide) ?_
    have heq9 : σ = (upC σ 9 (σ 9)) := by
      funext k
      by_cases e9 : k = 9
      · subst e9; rfl
      simp only [upC, if_neg e9]
    have hpost : ∃ u9 : Nat → Int32, σ = (upC σ 9 u9) ∧ True := by refine ⟨(σ 9), heq9, ?_⟩; trivial
    exact W.iret (v := (-1)) hx hb hr (fun t9 ht hW => ⟨⟨(-1), σ, rfl, hpost, by rw [ht]; exact hP, va_K.moved hW.alike hK, hD⟩, hS.F ht⟩) hS.2.2 dX9_worths_17
  · skip
    have ic5 := zneq (a := v2.toInt) (b := 0) rfl (by decide) c5
    replace hv2 := (hv2.resolve_right (fun q => by omega)).2
    refine lv_iload_n hx hb dX9_worths_8 rfl (lv_at hl 2 rfl) ?_
    refine lv_iload_n hx hb dX9_worths_9 rfl (lv_at hl 3 rfl) ?_
    refine zcalli (va_runS (As := [.int x2, .int x3]) (rest := []) ⟨hx, hb, hml, hown, hts⟩ (c_X9_isSheet l dC dI cI a N hok σ H.size (x2) (x3) ) (va_cwS 2 hts gX9_worths_X9_isSheet rfl rfl rfl (by decide +kernel) ⟨Nat.le_of_ble_eq_true rfl, Nat.le_of_ble_eq_true rfl⟩) (zpreS (wf := wM a cI) hok hN hS hA hK hP hD) rfl rfl hl.1 rfl (lv_room (Nat.le_of_ble_eq_true rfl)) dX9_worths_10 ⟨Nat.zero_le _, Nat.zero_le _⟩) hD hS hA (fun v10 σ1 H locs hv10 hP hD hS => ?_)
    obtain ⟨es9, hv10⟩ := hv10
    subst σ1
    refine lv_if_ne (tgt := 18) hx hb dX9_worths_13 (by decide) (fun c13 => ?_) (fun c13 => ?_)
    · skip
      have ic13 := zneq (a := v10.toInt) (b := 0) rfl (by decide) c13
      replace hv10 := (hv10.resolve_right (fun q => by omega)).2
      refine lv_aload_n hx hb dX9_worths_18 rfl (lv_at hl 0 rfl) ?_
      refine va_get (D := (dC, dI)) (ci := 9) (v := .ref (a 15)) (C := RX9) (T := TX9) (N := 28) hx hb hts in9 hown hK hP 0 rfl rfl 25 (by decide) k52 (fun _ h9 => h9) rfl dX9_worths_19 ?_
      refine lv_iload_n hx hb dX9_worths_22 rfl (lv_at hl 2 rfl) ?_
      refine va_iald (D := (dC, dI)) (f := σ 15) hx hb hK hP 15 0 rfl rfl (i := x2) (n := 4) (zin (by omega) (by omega)) dX9_worths_23 ?_
      refine lv_topi (fun v23 ev23 => ?_)
      have tv23 := congrArg Int32.toInt ev23
      refine lv_iload_n hx hb dX9_worths_24 rfl (lv_at hl 3 rfl) ?_
      refine lv_icmp_eq (tgt := 47) hx hb dX9_worths_25 (by decide) (fun c25 => ?_) (fun c25 => ?_)
      · skip
        have ic25 := zeq (a := v23.toInt) (b := x3.toInt) rfl rfl c25
        refine lv_iconst (v := 0) hx hb dX9_worths_47 (by decide) ?_
        refine lv_istore (lv' := [(5, .int 0), (0, .ref (a 0)), (1, .int x1), (2, .int x2), (3, .int x3), (4, .int x4)]) hx hb dX9_worths_48 hl (by decide) rfl (fun ls hl => ?_)
        exact (LP _).1 (0)  H locs ls (by decide) (by omega) (by intro t ht; rw [show (0 : Int32).toInt = 0 from by decide] at ht; omega) (Nat.lt_succ_self _) hP hD hS (lv_sub hl [1, 2, 3, 4, 5, 0] rfl)
      · skip
        have ic25 := zneq (a := v23.toInt) (b := x3.toInt) rfl rfl c25
        refine lv_aload_n hx hb dX9_worths_28 rfl (lv_at hl 0 rfl) ?_
        refine va_get (D := (dC, dI)) (ci := 9) (v := .ref (a 15)) (C := RX9) (T := TX9) (N := 28) hx hb hts in9 hown hK hP 0 rfl rfl 25 (by decide) k52 (fun _ h9 => h9) rfl dX9_worths_29 ?_
        refine lv_iload_n hx hb dX9_worths_32 rfl (lv_at hl 2 rfl) ?_
        refine va_iald (D := (dC, dI)) (f := σ 15) hx hb hK hP 15 0 rfl rfl (i := x2) (n := 4) (zin (by omega) (by omega)) dX9_worths_33 ?_
        refine lv_topi (fun v33 ev33 => ?_)
        have tv33 := congrArg Int32.toInt ev33
        refine lv_bipush (v := (-4)) hx hb dX9_worths_34 (by decide) ?_
        refine lv_icmp_ne (tgt := 44) hx hb dX9_worths_36 (by decide) (fun c36 => ?_) (fun c36 => ?_)
        · skip
          have ic36 := zneq (a := v33.toInt) (b := (-4)) rfl (by decide) c36
          refine lv_bipush (v := (-13)) hx hb dX9_worths_44 (by decide) ?_
          have heq9 : σ = (upC σ 9 (σ 9)) := by
            funext k
            by_cases e9 : k = 9
            · subst e9; rfl
            simp only [upC, if_neg e9]
          have hpost : ∃ u9 : Nat → Int32, σ = (upC σ 9 u9) ∧ True := by refine ⟨(σ 9), heq9, ?_⟩; trivial
          exact W.iret (v := (-13)) hx hb hr (fun t9 ht hW => ⟨⟨(-13), σ, rfl, hpost, by rw [ht]; exact hP, va_K.moved hW.alike hK, hD⟩, hS.F ht⟩) hS.2.2 dX9_worths_46
        · skip
          have ic36 := zeq (a := v33.toInt) (b := (-4)) rfl (by decide) c36
          refine lv_bipush (v := (-11)) hx hb dX9_worths_39 (by decide) ?_
          refine lv_goto (tgt := 46) hx hb dX9_worths_41 (by decide) ?_
          have heq9 : σ = (upC σ 9 (σ 9)) := by
            funext k
            by_cases e9 : k = 9
            · subst e9; rfl
            simp only [upC, if_neg e9]
          have hpost : ∃ u9 : Nat → Int32, σ = (upC σ 9 u9) ∧ True := by refine ⟨(σ 9), heq9, ?_⟩; trivial
          exact W.iret (v := (-11)) hx hb hr (fun t9 ht hW => ⟨⟨(-11), σ, rfl, hpost, by rw [ht]; exact hP, va_K.moved hW.alike hK, hD⟩, hS.F ht⟩) hS.2.2 dX9_worths_46
    · skip
      have ic13 := zeq (a := v10.toInt) (b := 0) rfl (by decide) c13
      replace hv10 := (hv10.resolve_left (fun q => by omega)).2
      refine lv_iconst (v := (-1)) hx hb dX9_worths_16 (by decide) ?_
      have heq9 : σ = (upC σ 9 (σ 9)) := by
        funext k
        by_cases e9 : k = 9
        · subst e9; rfl
        simp only [upC, if_neg e9]
      have hpost : ∃ u9 : Nat → Int32, σ = (upC σ 9 u9) ∧ True := by refine ⟨(σ 9), heq9, ?_⟩; trivial
      exact W.iret (v := (-1)) hx hb hr (fun t9 ht hW => ⟨⟨(-1), σ, rfl, hpost, by rw [ht]; exact hP, va_K.moved hW.alike hK, hD⟩, hS.F ht⟩) hS.2.2 dX9_worths_17

abbrev RM_X9_count : Room := { frames := 4, cells := 0, slots := 0, locals := 88 }
set_option maxHeartbeats 4000000 in
set_option maxRecDepth 100000 in
theorem c_X9_count (l : Launch) (dC : Nat → ClassId) (dI : Nat → Nat → Nat) (cI : ClassId) (a : Nat → Nat) (N : (Nat → Prop) → State → Prop) (hok : zNok N) (σ : Cn) (sz : Nat) (x1 : Int32) (h0 : 0 ≤ (σ 0 10).toInt ∧ (σ 0 10).toInt ≤ 4) (h2 : 0 ≤ (σ 0 11).toInt ∧ (σ 0 11).toInt ≤ 10) : Met l yX9_count wsX9_count RM_X9_count (zPc (dC, dI) [(cI, .int)] N (wM a cI) σ sz [.ref (a 0), .int x1]) (zQi (dC, dI) [(cI, .int)] (wM a cI) (va_A (wM a cI σ) sz) (fun (r : Int32) (σ1 : Cn) => ∃ n18 : Int32, ∃ u10 : Nat → Int32, σ1 = (upC (upC σ 0 (upd (σ 0) 18 n18)) 10 u10) ∧ True)) 0 0 (va_A (wM a cI σ) sz) := by
  refine Met.ofW (cc := cX9_count) (maxL := 2) (ret := (some .int)) (by decide) rfl ?_
  intro p e s m args below meth c s₁ B hml hv
  obtain ⟨rfl, hsz, hP, hK, hD0, hN⟩ := hv
  have hx := B.exec
  have hb := B.bytes
  have hr := B.returns
  have hts := atoms_spec (ws := wsX9_count) B.pre
  have hown : s.vm.findClass RX9 = some m.cls := findClass_of_methodNamed B.named
  have hlocks := B.notSynchronized
  subst hsz
  have hD := hD0.self (sz := s.heap.size)
  generalize hAe : va_A (wM a cI σ) s.heap.size = A at hD hN ⊢
  have hA : ∀ q : Nat, s.heap.size ≤ q → A q := fun q h => by rw [← hAe]; exact Or.inr h
  clear hAe hD0
  have hS : va_S A s.heap s.heap [] := va_S.rf
  have in9 : ∀ w ∈ u_ws RX9 TX9 28, w ∈ wsX9_count := by decide +kernel
  have k143 := hts (.fieldLink RX9 143 "HouseSortedModel" "heirs" "I") (by decide +kernel)
  have k146 := hts (.fieldLink RX9 146 "HouseSortedModel" "things" "I") (by decide +kernel)
  have k182 := hts (.fieldLink RX9 182 "HouseSortedModel" "shared" "I") (by decide +kernel)
  have hl := lv_entry ([.ref (a 0), .int x1]) (n := 2) (Nat.le_of_ble_eq_true rfl)
  rw [lg_entry_eq]
  generalize (lg_sl ([.ref (a 0), .int x1]) ++ List.replicate (2 - (lg_sl ([.ref (a 0), .int x1])).length) Slot.unset).toArray = ls at hl ⊢
  have hl : lv_has ls 2 [(0, .ref (a 0)), (1, .int x1)] := hl
  suffices main : ∀ (H : Heap) (locs : List Loc), va_P (dC, dI) vwCl (wM a cI σ) H → va_D A (wM a cI σ) → va_S A s.heap H locs → W p l e (headSpec wsX9_count RM_X9_count).room s m ([.ref (a 0), .int x1] : List Value).toArray below meth c H locs 0 0 (MQ below (zQi (dC, dI) [(cI, .int)] (wM a cI) A (fun (r : Int32) (σ1 : Cn) => ∃ n18 : Int32, ∃ u10 : Nat → Int32, σ1 = (upC (upC σ 0 (upd (σ 0) 18 n18)) 10 u10) ∧ True)) ([.ref (a 0), .int x1] : List Value).toArray s 0 0 A) (F0 m 0 ls []) from main s.heap [] hP hD hS
  intro H locs hP hD hS
  refine lv_aload_n hx hb dX9_count_0 rfl (lv_at hl 0 rfl) ?_
  refine zcallv (va_runV (As := []) (rest := []) ⟨hx, hb, hml, hown, hts⟩ (c_X9_findShared l dC dI cI a N hok σ H.size  h0 h2) (cwV 0 hts gX9_count_X9_findShared rfl rfl rfl (by decide +kernel) ⟨Nat.le_of_ble_eq_true rfl, Nat.le_of_ble_eq_true rfl⟩) (zpreV (wf := wM a cI) (q0 := 0) (ci := 9) hok hN hS hA hK hP hD rfl rfl) rfl rfl hl.1 rfl (lv_room (Nat.le_of_ble_eq_true rfl)) dX9_count_1 ⟨Nat.zero_le _, Nat.zero_le _⟩) hD hS hA (fun σ1 H locs hv1 hP hD hS => ?_)
  obtain ⟨n18_1, u10_1, es9, hv1⟩ := hv1
  subst σ1
  have hP : va_P (dC, dI) vwCl (wM a cI (upC (upC σ 0 (upd (σ 0) 18 n18_1)) 10 u10_1)) H := hP
  have hD : va_D A (wM a cI (upC (upC σ 0 (upd (σ 0) 18 n18_1)) 10 u10_1)) := hD
  refine lv_iload_n hx hb dX9_count_4 rfl (lv_at hl 1 rfl) ?_
  refine lv_if_ne (tgt := 15) hx hb dX9_count_5 (by decide) (fun c5 => ?_) (fun c5 => ?_)
  · skip
    have ic5 := zneq (a := x1.toInt) (b := 0) rfl (by decide) c5
    refine lv_iload_n hx hb dX9_count_15 rfl (lv_at hl 1 rfl) ?_
    refine lv_iconst (v := 1) hx hb dX9_count_16 (by decide) ?_
    refine lv_icmp_ne (tgt := 27) hx hb dX9_count_17 (by decide) (fun c17 => ?_) (fun c17 => ?_)
    · skip
      have ic17 := zneq (a := x1.toInt) (b := 1) rfl (by decide) c17
      refine lv_iload_n hx hb dX9_count_27 rfl (lv_at hl 1 rfl) ?_
      refine lv_iconst (v := 2) hx hb dX9_count_28 (by decide) ?_
      refine lv_icmp_ne (tgt := 39) hx hb dX9_count_29 (by decide) (fun c29 => ?_) (fun c29 => ?_)
      · skip
        have ic29 := zneq (a := x1.toInt) (b := 2) rfl (by decide) c29
        refine lv_iload_n hx hb dX9_count_39 rfl (lv_at hl 1 rfl) ?_
        refine lv_iconst (v := 3) hx hb dX9_count_40 (by decide) ?_
        refine lv_icmp_ne (tgt := 51) hx hb dX9_count_41 (by decide) (fun c41 => ?_) (fun c41 => ?_)
        · skip
          have ic41 := zneq (a := x1.toInt) (b := 3) rfl (by decide) c41
          refine lv_iconst (v := (-1)) hx hb dX9_count_51 (by decide) ?_
          have heq9 : (upC (upC σ 0 (upd (σ 0) 18 n18_1)) 10 u10_1) = (upC (upC σ 0 (upd (σ 0) 18 n18_1)) 10 u10_1) := rfl
          have hpost : ∃ n18 : Int32, ∃ u10 : Nat → Int32, (upC (upC σ 0 (upd (σ 0) 18 n18_1)) 10 u10_1) = (upC (upC σ 0 (upd (σ 0) 18 n18)) 10 u10) ∧ True := by refine ⟨(n18_1), (u10_1), heq9, ?_⟩; trivial
          exact W.iret (v := (-1)) hx hb hr (fun t9 ht hW => ⟨⟨(-1), (upC (upC σ 0 (upd (σ 0) 18 n18_1)) 10 u10_1), rfl, hpost, by rw [ht]; exact hP, va_K.moved hW.alike hK, hD⟩, hS.F ht⟩) hS.2.2 dX9_count_52
        · skip
          have ic41 := zeq (a := x1.toInt) (b := 3) rfl (by decide) c41
          refine lv_aload_n hx hb dX9_count_44 rfl (lv_at hl 0 rfl) ?_
          refine va_get (D := (dC, dI)) (ci := 9) (v := .int n18_1) (C := RX9) (T := TX9) (N := 28) hx hb hts in9 hown hK hP 0 rfl rfl 18 (by decide) k182 (fun _ h9 => h9) rfl dX9_count_45 ?_
          refine lv_goto (tgt := 52) hx hb dX9_count_48 (by decide) ?_
          have heq9 : (upC (upC σ 0 (upd (σ 0) 18 n18_1)) 10 u10_1) = (upC (upC σ 0 (upd (σ 0) 18 n18_1)) 10 u10_1) := rfl
          have hpost : ∃ n18 : Int32, ∃ u10 : Nat → Int32, (upC (upC σ 0 (upd (σ 0) 18 n18_1)) 10 u10_1) = (upC (upC σ 0 (upd (σ 0) 18 n18)) 10 u10) ∧ True := by refine ⟨(n18_1), (u10_1), heq9, ?_⟩; trivial
          exact W.iret (v := n18_1) hx hb hr (fun t9 ht hW => ⟨⟨n18_1, (upC (upC σ 0 (upd (σ 0) 18 n18_1)) 10 u10_1), rfl, hpost, by rw [ht]; exact hP, va_K.moved hW.alike hK, hD⟩, hS.F ht⟩) hS.2.2 dX9_count_52
      · skip
        have ic29 := zeq (a := x1.toInt) (b := 2) rfl (by decide) c29
        refine lv_aload_n hx hb dX9_count_32 rfl (lv_at hl 0 rfl) ?_
        refine zcalli (va_runV (As := []) (rest := []) ⟨hx, hb, hml, hown, hts⟩ (c_X9_lawMany l dC dI cI a N hok (upC (upC σ 0 (upd (σ 0) 18 n18_1)) 10 u10_1) H.size  ) (cwV 0 hts gX9_count_X9_lawMany rfl rfl rfl (by decide +kernel) ⟨Nat.le_of_ble_eq_true rfl, Nat.le_of_ble_eq_true rfl⟩) (zpreV (wf := wM a cI) (q0 := 0) (ci := 9) hok hN hS hA hK hP hD rfl rfl) rfl rfl hl.1 rfl (lv_room (Nat.le_of_ble_eq_true rfl)) dX9_count_33 ⟨Nat.zero_le _, Nat.zero_le _⟩) hD hS hA (fun v33 σ1 H locs hv33 hP hD hS => ?_)
        obtain ⟨es9, hv33⟩ := hv33
        subst σ1
        refine lv_goto (tgt := 52) hx hb dX9_count_36 (by decide) ?_
        have heq9 : (upC (upC σ 0 (upd (σ 0) 18 n18_1)) 10 u10_1) = (upC (upC σ 0 (upd (σ 0) 18 n18_1)) 10 u10_1) := rfl
        have hpost : ∃ n18 : Int32, ∃ u10 : Nat → Int32, (upC (upC σ 0 (upd (σ 0) 18 n18_1)) 10 u10_1) = (upC (upC σ 0 (upd (σ 0) 18 n18)) 10 u10) ∧ True := by refine ⟨(n18_1), (u10_1), heq9, ?_⟩; trivial
        exact W.iret (v := v33) hx hb hr (fun t9 ht hW => ⟨⟨v33, (upC (upC σ 0 (upd (σ 0) 18 n18_1)) 10 u10_1), rfl, hpost, by rw [ht]; exact hP, va_K.moved hW.alike hK, hD⟩, hS.F ht⟩) hS.2.2 dX9_count_52
    · skip
      have ic17 := zeq (a := x1.toInt) (b := 1) rfl (by decide) c17
      refine lv_aload_n hx hb dX9_count_20 rfl (lv_at hl 0 rfl) ?_
      refine va_get (D := (dC, dI)) (ci := 9) (v := .int (σ 0 11)) (C := RX9) (T := TX9) (N := 28) hx hb hts in9 hown hK hP 0 rfl rfl 11 (by decide) k146 (fun _ h9 => h9) rfl dX9_count_21 ?_
      refine lv_goto (tgt := 52) hx hb dX9_count_24 (by decide) ?_
      have heq9 : (upC (upC σ 0 (upd (σ 0) 18 n18_1)) 10 u10_1) = (upC (upC σ 0 (upd (σ 0) 18 n18_1)) 10 u10_1) := rfl
      have hpost : ∃ n18 : Int32, ∃ u10 : Nat → Int32, (upC (upC σ 0 (upd (σ 0) 18 n18_1)) 10 u10_1) = (upC (upC σ 0 (upd (σ 0) 18 n18)) 10 u10) ∧ True := by refine ⟨(n18_1), (u10_1), heq9, ?_⟩; trivial
      exact W.iret (v := σ 0 11) hx hb hr (fun t9 ht hW => ⟨⟨σ 0 11, (upC (upC σ 0 (upd (σ 0) 18 n18_1)) 10 u10_1), rfl, hpost, by rw [ht]; exact hP, va_K.moved hW.alike hK, hD⟩, hS.F ht⟩) hS.2.2 dX9_count_52
  · skip
    have ic5 := zeq (a := x1.toInt) (b := 0) rfl (by decide) c5
    refine lv_aload_n hx hb dX9_count_8 rfl (lv_at hl 0 rfl) ?_
    refine va_get (D := (dC, dI)) (ci := 9) (v := .int (σ 0 10)) (C := RX9) (T := TX9) (N := 28) hx hb hts in9 hown hK hP 0 rfl rfl 10 (by decide) k143 (fun _ h9 => h9) rfl dX9_count_9 ?_
    refine lv_goto (tgt := 52) hx hb dX9_count_12 (by decide) ?_
    have heq9 : (upC (upC σ 0 (upd (σ 0) 18 n18_1)) 10 u10_1) = (upC (upC σ 0 (upd (σ 0) 18 n18_1)) 10 u10_1) := rfl
    have hpost : ∃ n18 : Int32, ∃ u10 : Nat → Int32, (upC (upC σ 0 (upd (σ 0) 18 n18_1)) 10 u10_1) = (upC (upC σ 0 (upd (σ 0) 18 n18)) 10 u10) ∧ True := by refine ⟨(n18_1), (u10_1), heq9, ?_⟩; trivial
    exact W.iret (v := σ 0 10) hx hb hr (fun t9 ht hW => ⟨⟨σ 0 10, (upC (upC σ 0 (upd (σ 0) 18 n18_1)) 10 u10_1), rfl, hpost, by rw [ht]; exact hP, va_K.moved hW.alike hK, hD⟩, hS.F ht⟩) hS.2.2 dX9_count_52

