abbrev RM_X6_rewind : Room := { frames := 0, cells := 0, slots := 0, locals := 0 }
set_option maxHeartbeats 4000000 in
set_option maxRecDepth 100000 in
theorem c_X6_rewind (l : Launch) (dC : Nat → ClassId) (dI : Nat → Nat → Nat) (cB cI cS cII : ClassId) (a : Nat → Nat) (N : (Nat → Prop) → State → Prop) (hok : zNok N) (hn : ∀ A U, N A U → zN U) (σ : Cn) (sz : Nat)   : Met l yX6_rewind wsX6_rewind RM_X6_rewind (zPc (dC, dI) (zT cB cI cS cII) N (wX a cB cI cS cII) σ sz [.ref (a 3)]) (zQv (dC, dI) (zT cB cI cS cII) (wX a cB cI cS cII) (va_A (wX a cB cI cS cII σ) sz) (fun (σ1 : Cn) => ∃ u3 : Nat → Int32, σ1 = (upC σ 3 u3) ∧ (u3 1).toInt = 0 ∧ u3 2 = σ 3 2 ∧ u3 3 = σ 3 3 ∧ u3 4 = σ 3 4)) 0 0 (va_A (wX a cB cI cS cII σ) sz) := by
  refine Met.ofW (cc := cX6_rewind) (maxL := 1) (ret := none) (by decide) rfl ?_
  intro p e s m args below meth c s₁ B hml hv
  obtain ⟨rfl, hsz, hP, hK, hD0, hN⟩ := hv
  have hx := B.exec
  have hb := B.bytes
  have hr := B.returns
  have hts := atoms_spec (ws := wsX6_rewind) B.pre
  have hown : s.vm.findClass RX6 = some m.cls := findClass_of_methodNamed B.named
  have hlocks := B.notSynchronized
  subst hsz
  have hD := hD0.self (sz := s.heap.size)
  generalize hAe : va_A (wX a cB cI cS cII σ) s.heap.size = A at hD hN ⊢
  have hA : ∀ q : Nat, s.heap.size ≤ q → A q := fun q h => by rw [← hAe]; exact Or.inr h
  clear hAe hD0
  have hS : va_S A s.heap s.heap [] := va_S.rf
  have in6 : ∀ w ∈ u_ws RX6 TX6 5, w ∈ wsX6_rewind := by decide +kernel
  have k15 := hts (.fieldLink RX6 15 "HouseSorted$TokenReader" "place" "I") (by decide +kernel)
  have hl := lv_entry ([.ref (a 3)]) (n := 1) (Nat.le_of_ble_eq_true rfl)
  rw [lg_entry_eq]
  generalize (lg_sl ([.ref (a 3)]) ++ List.replicate (1 - (lg_sl ([.ref (a 3)])).length) Slot.unset).toArray = ls at hl ⊢
  have hl : lv_has ls 1 [(0, .ref (a 3))] := hl
  suffices main : ∀ (H : Heap) (locs : List Loc), va_P (dC, dI) vwCl (wX a cB cI cS cII σ) H → va_D A (wX a cB cI cS cII σ) → va_S A s.heap H locs → W p l e (headSpec wsX6_rewind RM_X6_rewind).room s m ([.ref (a 3)] : List Value).toArray below meth c H locs 0 0 (MQ below (zQv (dC, dI) (zT cB cI cS cII) (wX a cB cI cS cII) A (fun (σ1 : Cn) => ∃ u3 : Nat → Int32, σ1 = (upC σ 3 u3) ∧ (u3 1).toInt = 0 ∧ u3 2 = σ 3 2 ∧ u3 3 = σ 3 3 ∧ u3 4 = σ 3 4)) ([.ref (a 3)] : List Value).toArray s 0 0 A) (F0 m 0 ls []) from main s.heap [] hP hD hS
  intro H locs hP hD hS
  refine lv_aload_n hx hb dX6_rewind_0 rfl (lv_at hl 0 rfl) ?_
  refine lv_iconst (v := 0) hx hb dX6_rewind_1 (by decide) ?_
  refine va_put (D := (dC, dI)) (ci := 6) (v := .int 0) (ty := .int) (C := RX6) (T := TX6) (N := 5) hx hb hts in6 tyX6 tyX6_ok nmX6 hown hK hP hD hS 3 rfl rfl 1 (by decide) k15 (fun _ h9 => h9) rfl (by decide +kernel) rfl rfl (Nat.le_of_ble_eq_true rfl) dX6_rewind_2 (fun H locs hP hD hS => ?_)
  have hP : va_P (dC, dI) vwCl (wX a cB cI cS cII (upC σ 3 (upd (σ 3) 1 0))) H := hP
  have hD : va_D A (wX a cB cI cS cII (upC σ 3 (upd (σ 3) 1 0))) := hD
  have hpost : ∃ u3 : Nat → Int32, (upC σ 3 (upd (σ 3) 1 0)) = (upC σ 3 u3) ∧ (u3 1).toInt = 0 ∧ u3 2 = σ 3 2 ∧ u3 3 = σ 3 3 ∧ u3 4 = σ 3 4 := by exact ⟨_, rfl, by show (0 : Int32).toInt = 0; decide, rfl, rfl, rfl⟩
  exact W.vret hx hb hr (fun t9 ht hW => ⟨⟨(upC σ 3 (upd (σ 3) 1 0)), rfl, hpost, by rw [ht]; exact hP, va_K.moved hW.alike hK, hD⟩, hS.F ht⟩) hS.2.2 dX6_rewind_5

abbrev RM_X6_placeBehind : Room := { frames := 1, cells := 0, slots := 0, locals := 23 }
set_option maxHeartbeats 4000000 in
set_option maxRecDepth 100000 in
theorem c_X6_placeBehind (l : Launch) (dC : Nat → ClassId) (dI : Nat → Nat → Nat) (cB cI cS cII : ClassId) (a : Nat → Nat) (N : (Nat → Prop) → State → Prop) (hok : zNok N) (hn : ∀ A U, N A U → zN U) (σ : Cn) (sz : Nat) (x1 : Int32) (x2 : Int32) (x3 : Int32) (h3 : 0 ≤ (σ 1 1).toInt ∧ (σ 1 1).toInt ≤ 160) (h1 : 0 ≤ x1.toInt ∧ x1.toInt ≤ 160) : Met l yX6_placeBehind wsX6_placeBehind RM_X6_placeBehind (zPc (dC, dI) (zT cB cI cS cII) N (wX a cB cI cS cII) σ sz [.ref (a 3), .int x1, .int x2, .int x3]) (zQi (dC, dI) (zT cB cI cS cII) (wX a cB cI cS cII) (va_A (wX a cB cI cS cII σ) sz) (fun (r : Int32) (σ1 : Cn) => σ1 = σ ∧ x1.toInt ≤ (r : Int32).toInt ∧ (r : Int32).toInt ≤ 160)) 0 0 (va_A (wX a cB cI cS cII σ) sz) := by
  refine Met.ofW (cc := cX6_placeBehind) (maxL := 5) (ret := (some .int)) (by decide) rfl ?_
  intro p e s m args below meth c s₁ B hml hv
  obtain ⟨rfl, hsz, hP, hK, hD0, hN⟩ := hv
  have hx := B.exec
  have hb := B.bytes
  have hr := B.returns
  have hts := atoms_spec (ws := wsX6_placeBehind) B.pre
  have hown : s.vm.findClass RX6 = some m.cls := findClass_of_methodNamed B.named
  have hlocks := B.notSynchronized
  subst hsz
  have hD := hD0.self (sz := s.heap.size)
  generalize hAe : va_A (wX a cB cI cS cII σ) s.heap.size = A at hD hN ⊢
  have hA : ∀ q : Nat, s.heap.size ≤ q → A q := fun q h => by rw [← hAe]; exact Or.inr h
  clear hAe hD0
  have hS : va_S A s.heap s.heap [] := va_S.rf
  have in5 : ∀ w ∈ u_ws RX5 TX5 2, w ∈ wsX6_placeBehind := by decide +kernel
  have in6 : ∀ w ∈ u_ws RX6 TX6 5, w ∈ wsX6_placeBehind := by decide +kernel
  have k26 := hts (.fieldLink RX6 26 "HouseSorted$Tape" "length" "I") (by decide +kernel)
  have k9 := hts (.fieldLink RX6 9 "HouseSorted$TokenReader" "tape" "LHouseSorted$Tape;") (by decide +kernel)
  have LP : ∀ n : Nat, (∀ (b : Int32) (H : Heap) (locs : List Loc) (ls : Array Slot), x1.toInt ≤ b.toInt ∧ b.toInt ≤ 160 → (160 - b.toInt).toNat < n → va_P (dC, dI) vwCl (wX a cB cI cS cII σ) H → va_D A (wX a cB cI cS cII σ) → va_S A s.heap H locs → lv_has ls 5 [(0, .ref (a 3)), (1, .int x1), (2, .int x2), (3, .int x3), (4, .int b)] → W p l e (headSpec wsX6_placeBehind RM_X6_placeBehind).room s m ([.ref (a 3), .int x1, .int x2, .int x3] : List Value).toArray below meth c H locs 0 0 (MQ below (zQi (dC, dI) (zT cB cI cS cII) (wX a cB cI cS cII) A (fun (r : Int32) (σ1 : Cn) => σ1 = σ ∧ x1.toInt ≤ (r : Int32).toInt ∧ (r : Int32).toInt ≤ 160)) ([.ref (a 3), .int x1, .int x2, .int x3] : List Value).toArray s 0 0 A) (F0 m 3 ls [])) := by
    intro n
    induction n with
    | zero => exact by intros; omega
    | succ n ih =>
      · intro b H locs ls g1 hmu hP hD hS hl
        refine lv_iload hx hb dX6_placeBehind_3 (lv_at hl 4 rfl) ?_
        refine lv_aload_n hx hb dX6_placeBehind_5 rfl (lv_at hl 0 rfl) ?_
        refine va_get (D := (dC, dI)) (ci := 6) (v := .ref (a 1)) (C := RX6) (T := TX6) (N := 5) hx hb hts in6 hown hK hP 3 rfl rfl 0 (by decide) k9 (fun _ h9 => h9) rfl dX6_placeBehind_6 ?_
        refine va_get (D := (dC, dI)) (ci := 5) (v := .int (σ 1 1)) (C := RX5) (T := TX5) (N := 2) hx hb hts in5 hown hK hP 1 rfl rfl 1 (by decide) k26 (fun _ h9 => h9) rfl dX6_placeBehind_9 ?_
        refine lv_icmp_ge (tgt := 35) hx hb dX6_placeBehind_12 (by decide) (fun c12 => ?_) (fun c12 => ?_)
        · skip
          have ic12 := zle (a := (σ 1 1).toInt) (b := b.toInt) rfl rfl c12
          refine lv_iload hx hb dX6_placeBehind_35 (lv_at hl 4 rfl) ?_
          have hpost : σ = σ ∧ x1.toInt ≤ (b : Int32).toInt ∧ (b : Int32).toInt ≤ 160 := by exact ⟨rfl, by omega⟩
          exact W.iret (v := b) hx hb hr (fun t9 ht hW => ⟨⟨b, σ, rfl, hpost, by rw [ht]; exact hP, va_K.moved hW.alike hK, hD⟩, hS.F ht⟩) hS.2.2 dX6_placeBehind_37
        · skip
          have ic12 := znle (a := (σ 1 1).toInt) (b := b.toInt) rfl rfl c12
          refine lv_aload_n hx hb dX6_placeBehind_15 rfl (lv_at hl 0 rfl) ?_
          refine va_get (D := (dC, dI)) (ci := 6) (v := .ref (a 1)) (C := RX6) (T := TX6) (N := 5) hx hb hts in6 hown hK hP 3 rfl rfl 0 (by decide) k9 (fun _ h9 => h9) rfl dX6_placeBehind_16 ?_
          refine lv_iload hx hb dX6_placeBehind_19 (lv_at hl 4 rfl) ?_
          refine lv_iload_n hx hb dX6_placeBehind_21 rfl (lv_at hl 2 rfl) ?_
          refine lv_iload_n hx hb dX6_placeBehind_22 rfl (lv_at hl 3 rfl) ?_
          refine zcalli (va_runV (As := [.int b, .int x2, .int x3]) (rest := []) ⟨hx, hb, hml, hown, hts⟩ (c_X5_hasBetween l dC dI cB cI cS cII a N hok hn σ H.size (b) (x2) (x3) h3 (by omega)) (cwV 3 hts gX6_placeBehind_X5_hasBetween rfl rfl rfl (by decide +kernel) ⟨Nat.le_of_ble_eq_true rfl, Nat.le_of_ble_eq_true rfl⟩) (zpreV (wf := wX a cB cI cS cII) (q0 := 1) (ci := 5) hok hN hS hA hK hP hD rfl rfl) rfl rfl hl.1 rfl (lv_room (Nat.le_of_ble_eq_true rfl)) dX6_placeBehind_23 ⟨Nat.zero_le _, Nat.zero_le _⟩) hD hS hA (fun v23 σ1 H locs hv23 hP hD hS => ?_)
          obtain ⟨es9, hv23⟩ := hv23
          subst σ1
          refine lv_if_eq (tgt := 35) hx hb dX6_placeBehind_26 (by decide) (fun c26 => ?_) (fun c26 => ?_)
          · skip
            have ic26 := zeq (a := v23.toInt) (b := 0) rfl (by decide) c26
            refine lv_iload hx hb dX6_placeBehind_35 (lv_at hl 4 rfl) ?_
            have hpost : σ = σ ∧ x1.toInt ≤ (b : Int32).toInt ∧ (b : Int32).toInt ≤ 160 := by exact ⟨rfl, by omega⟩
            exact W.iret (v := b) hx hb hr (fun t9 ht hW => ⟨⟨b, σ, rfl, hpost, by rw [ht]; exact hP, va_K.moved hW.alike hK, hD⟩, hS.F ht⟩) hS.2.2 dX6_placeBehind_37
          · skip
            have ic26 := zneq (a := v23.toInt) (b := 0) rfl (by decide) c26
            obtain ⟨v29, ev29⟩ : ∃ y : Int32, y = b + 1 := ⟨_, rfl⟩
            refine lv_iinc (v := v29) (lv' := [(4, .int v29), (0, .ref (a 3)), (1, .int x1), (2, .int x2), (3, .int x3)]) hx hb dX6_placeBehind_29 hl (k := 4) rfl (by rw [ev29]; rfl) (by decide) rfl (fun ls hl => ?_)
            have tv29 : v29.toInt = b.toInt + 1 := by rw [ev29, zadd, show (1 : Int32).toInt = 1 from by decide]; omega
            refine lv_goto (tgt := 3) hx hb dX6_placeBehind_32 (by decide) ?_
            exact ih (v29)  H locs ls (by omega) (by omega) hP hD hS (lv_sub hl [1, 2, 3, 4, 0] rfl)
  have hl := lv_entry ([.ref (a 3), .int x1, .int x2, .int x3]) (n := 5) (Nat.le_of_ble_eq_true rfl)
  rw [lg_entry_eq]
  generalize (lg_sl ([.ref (a 3), .int x1, .int x2, .int x3]) ++ List.replicate (5 - (lg_sl ([.ref (a 3), .int x1, .int x2, .int x3])).length) Slot.unset).toArray = ls at hl ⊢
  have hl : lv_has ls 5 [(0, .ref (a 3)), (1, .int x1), (2, .int x2), (3, .int x3)] := hl
  suffices main : ∀ (H : Heap) (locs : List Loc), va_P (dC, dI) vwCl (wX a cB cI cS cII σ) H → va_D A (wX a cB cI cS cII σ) → va_S A s.heap H locs → W p l e (headSpec wsX6_placeBehind RM_X6_placeBehind).room s m ([.ref (a 3), .int x1, .int x2, .int x3] : List Value).toArray below meth c H locs 0 0 (MQ below (zQi (dC, dI) (zT cB cI cS cII) (wX a cB cI cS cII) A (fun (r : Int32) (σ1 : Cn) => σ1 = σ ∧ x1.toInt ≤ (r : Int32).toInt ∧ (r : Int32).toInt ≤ 160)) ([.ref (a 3), .int x1, .int x2, .int x3] : List Value).toArray s 0 0 A) (F0 m 0 ls []) from main s.heap [] hP hD hS
  intro H locs hP hD hS
  refine lv_iload_n hx hb dX6_placeBehind_0 rfl (lv_at hl 1 rfl) ?_
  refine lv_istore (lv' := [(4, .int x1), (0, .ref (a 3)), (1, .int x1), (2, .int x2), (3, .int x3)]) hx hb dX6_placeBehind_1 hl (by decide) rfl (fun ls hl => ?_)
  exact (LP _) (x1)  H locs ls (by omega) (Nat.lt_succ_self _) hP hD hS (lv_sub hl [1, 2, 3, 4, 0] rfl)

abbrev RM_X6_readNumber : Room := { frames := 2, cells := 0, slots := 0, locals := 47 }
set_option maxHeartbeats 4000000 in
set_option maxRecDepth 100000 in
theorem c_X6_readNumber (l : Launch) (dC : Nat → ClassId) (dI : Nat → Nat → Nat) (cB cI cS cII : ClassId) (a : Nat → Nat) (N : (Nat → Prop) → State → Prop) (hok : zNok N) (hn : ∀ A U, N A U → zN U) (σ : Cn) (sz : Nat)  (h3 : 0 ≤ (σ 1 1).toInt ∧ (σ 1 1).toInt ≤ 160) (ht : 0 ≤ (σ 3 2).toInt ∧ (σ 3 2).toInt ≤ 160) : Met l yX6_readNumber wsX6_readNumber RM_X6_readNumber (zPc (dC, dI) (zT cB cI cS cII) N (wX a cB cI cS cII) σ sz [.ref (a 3)]) (zQv (dC, dI) (zT cB cI cS cII) (wX a cB cI cS cII) (va_A (wX a cB cI cS cII σ) sz) (fun (σ1 : Cn) => ∃ u3 : Nat → Int32, σ1 = (upC σ 3 u3) ∧ ((0 ≤ (u3 1).toInt ∧ (u3 1).toInt ≤ 160) ∧ u3 2 = σ 3 2 ∧ ¬ (u3 3).toInt = 1))) 0 0 (va_A (wX a cB cI cS cII σ) sz) := by
  refine Met.ofW (cc := cX6_readNumber) (maxL := 2) (ret := none) (by decide) rfl ?_
  intro p e s m args below meth c s₁ B hml hv
  obtain ⟨rfl, hsz, hP, hK, hD0, hN⟩ := hv
  have hx := B.exec
  have hb := B.bytes
  have hr := B.returns
  have hts := atoms_spec (ws := wsX6_readNumber) B.pre
  have hown : s.vm.findClass RX6 = some m.cls := findClass_of_methodNamed B.named
  have hlocks := B.notSynchronized
  subst hsz
  have hD := hD0.self (sz := s.heap.size)
  generalize hAe : va_A (wX a cB cI cS cII σ) s.heap.size = A at hD hN ⊢
  have hA : ∀ q : Nat, s.heap.size ≤ q → A q := fun q h => by rw [← hAe]; exact Or.inr h
  clear hAe hD0
  have hS : va_S A s.heap s.heap [] := va_S.rf
  have in5 : ∀ w ∈ u_ws RX5 TX5 2, w ∈ wsX6_readNumber := by decide +kernel
  have in6 : ∀ w ∈ u_ws RX6 TX6 5, w ∈ wsX6_readNumber := by decide +kernel
  have k15 := hts (.fieldLink RX6 15 "HouseSorted$TokenReader" "place" "I") (by decide +kernel)
  have k23 := hts (.fieldLink RX6 23 "HouseSorted$TokenReader" "start" "I") (by decide +kernel)
  have k31 := hts (.fieldLink RX6 31 "HouseSorted$TokenReader" "kind" "I") (by decide +kernel)
  have k48 := hts (.fieldLink RX6 48 "HouseSorted$TokenReader" "value" "I") (by decide +kernel)
  have k59 := hts (.fieldLink RX6 59 "HouseSorted$Tape" "bytes" "[B") (by decide +kernel)
  have k9 := hts (.fieldLink RX6 9 "HouseSorted$TokenReader" "tape" "LHouseSorted$Tape;") (by decide +kernel)
  have LP : ∀ n : Nat, (∀ (j : Int32) (w3 : Nat → Int32) (H : Heap) (locs : List Loc) (ls : Array Slot), 0 ≤ j.toInt ∧ j.toInt ≤ 160 → 0 ≤ (w3 1).toInt ∧ (w3 1).toInt ≤ 160 → w3 2 = σ 3 2 → ¬ (w3 3).toInt = 1 → (160 - j.toInt).toNat < n → va_P (dC, dI) vwCl (wX a cB cI cS cII (upC σ 3 w3)) H → va_D A (wX a cB cI cS cII (upC σ 3 w3)) → va_S A s.heap H locs → lv_has ls 2 [(0, .ref (a 3)), (1, .int j)] → W p l e (headSpec wsX6_readNumber RM_X6_readNumber).room s m ([.ref (a 3)] : List Value).toArray below meth c H locs 0 0 (MQ below (zQv (dC, dI) (zT cB cI cS cII) (wX a cB cI cS cII) A (fun (σ1 : Cn) => ∃ u3 : Nat → Int32, σ1 = (upC σ 3 u3) ∧ ((0 ≤ (u3 1).toInt ∧ (u3 1).toInt ≤ 160) ∧ u3 2 = σ 3 2 ∧ ¬ (u3 3).toInt = 1))) ([.ref (a 3)] : List Value).toArray s 0 0 A) (F0 m 48 ls [])) := by
    intro n
    induction n with
    | zero => exact by intros; omega
    | succ n ih =>
      · intro j w3 H locs ls g1 g2 g3 g4 hmu hP hD hS hl
        refine lv_iload_n hx hb dX6_readNumber_48 rfl (lv_at hl 1 rfl) ?_
        refine lv_aload_n hx hb dX6_readNumber_49 rfl (lv_at hl 0 rfl) ?_
        refine va_get (D := (dC, dI)) (ci := 6) (v := .int (w3 1)) (C := RX6) (T := TX6) (N := 5) hx hb hts in6 hown hK hP 3 rfl rfl 1 (by decide) k15 (fun _ h9 => h9) rfl dX6_readNumber_50 ?_
        refine lv_icmp_ge (tgt := 94) hx hb dX6_readNumber_53 (by decide) (fun c53 => ?_) (fun c53 => ?_)
        · skip
          have ic53 := zle (a := (w3 1).toInt) (b := j.toInt) rfl rfl c53
          have hpost : ∃ u3 : Nat → Int32, (upC σ 3 w3) = (upC σ 3 u3) ∧ ((0 ≤ (u3 1).toInt ∧ (u3 1).toInt ≤ 160) ∧ u3 2 = σ 3 2 ∧ ¬ (u3 3).toInt = 1) := by exact ⟨_, rfl, g2, g3, g4⟩
          exact W.vret hx hb hr (fun t9 ht hW => ⟨⟨(upC σ 3 w3), rfl, hpost, by rw [ht]; exact hP, va_K.moved hW.alike hK, hD⟩, hS.F ht⟩) hS.2.2 dX6_readNumber_94
        · skip
          have ic53 := znle (a := (w3 1).toInt) (b := j.toInt) rfl rfl c53
          refine lv_aload_n hx hb dX6_readNumber_56 rfl (lv_at hl 0 rfl) ?_
          refine va_get (D := (dC, dI)) (ci := 6) (v := .int (w3 3)) (C := RX6) (T := TX6) (N := 5) hx hb hts in6 hown hK hP 3 rfl rfl 3 (by decide) k31 (fun _ h9 => h9) rfl dX6_readNumber_57 ?_
          refine lv_iconst (v := 2) hx hb dX6_readNumber_60 (by decide) ?_
          refine lv_icmp_ne (tgt := 94) hx hb dX6_readNumber_61 (by decide) (fun c61 => ?_) (fun c61 => ?_)
          · skip
            have ic61 := zneq (a := (w3 3).toInt) (b := 2) rfl (by decide) c61
            have hpost : ∃ u3 : Nat → Int32, (upC σ 3 w3) = (upC σ 3 u3) ∧ ((0 ≤ (u3 1).toInt ∧ (u3 1).toInt ≤ 160) ∧ u3 2 = σ 3 2 ∧ ¬ (u3 3).toInt = 1) := by exact ⟨_, rfl, g2, g3, g4⟩
            exact W.vret hx hb hr (fun t9 ht hW => ⟨⟨(upC σ 3 w3), rfl, hpost, by rw [ht]; exact hP, va_K.moved hW.alike hK, hD⟩, hS.F ht⟩) hS.2.2 dX6_readNumber_94
          · skip
            have ic61 := zeq (a := (w3 3).toInt) (b := 2) rfl (by decide) c61
            refine lv_aload_n hx hb dX6_readNumber_64 rfl (lv_at hl 0 rfl) ?_
            refine lv_aload_n hx hb dX6_readNumber_65 rfl (lv_at hl 0 rfl) ?_
            refine va_get (D := (dC, dI)) (ci := 6) (v := .int (w3 4)) (C := RX6) (T := TX6) (N := 5) hx hb hts in6 hown hK hP 3 rfl rfl 4 (by decide) k48 (fun _ h9 => h9) rfl dX6_readNumber_66 ?_
            refine lv_bipush (v := 10) hx hb dX6_readNumber_69 (by decide) ?_
            refine lv_imul hx hb dX6_readNumber_71 ?_
            refine lv_topi (fun v71 ev71 => ?_)
            refine lv_aload_n hx hb dX6_readNumber_72 rfl (lv_at hl 0 rfl) ?_
            refine va_get (D := (dC, dI)) (ci := 6) (v := .ref (a 1)) (C := RX6) (T := TX6) (N := 5) hx hb hts in6 hown hK hP 3 rfl rfl 0 (by decide) k9 (fun _ h9 => h9) rfl dX6_readNumber_73 ?_
            refine va_get (D := (dC, dI)) (ci := 5) (v := .ref (a 12)) (C := RX5) (T := TX5) (N := 2) hx hb hts in5 hown hK hP 1 rfl rfl 0 (by decide) k59 (fun _ h9 => h9) rfl dX6_readNumber_76 ?_
            refine lv_iload_n hx hb dX6_readNumber_79 rfl (lv_at hl 1 rfl) ?_
            refine va_bald (D := (dC, dI)) (f := σ 12) hx hb hK hP 12 0 rfl rfl (i := j) (n := 160) (zin (by omega) (by omega)) dX6_readNumber_80 ?_
            refine lv_topi (fun v80 ev80 => ?_)
            have tv80 := congrArg Int32.toInt ev80
            refine lv_bipush (v := 48) hx hb dX6_readNumber_81 (by decide) ?_
            refine lv_isub hx hb dX6_readNumber_83 ?_
            refine lv_topi (fun v83 ev83 => ?_)
            refine lv_iadd hx hb dX6_readNumber_84 ?_
            refine lv_topi (fun v84 ev84 => ?_)
            refine va_put (D := (dC, dI)) (ci := 6) (v := .int v84) (ty := .int) (C := RX6) (T := TX6) (N := 5) hx hb hts in6 tyX6 tyX6_ok nmX6 hown hK hP hD hS 3 rfl rfl 4 (by decide) k48 (fun _ h9 => h9) rfl (by decide +kernel) rfl rfl (Nat.le_of_ble_eq_true rfl) dX6_readNumber_85 (fun H locs hP hD hS => ?_)
            have hP : va_P (dC, dI) vwCl (wX a cB cI cS cII (upC σ 3 (upd (w3) 4 v84))) H := hP
            have hD : va_D A (wX a cB cI cS cII (upC σ 3 (upd (w3) 4 v84))) := hD
            obtain ⟨v88, ev88⟩ : ∃ y : Int32, y = j + 1 := ⟨_, rfl⟩
            refine lv_iinc (v := v88) (lv' := [(1, .int v88), (0, .ref (a 3))]) hx hb dX6_readNumber_88 hl (k := 1) rfl (by rw [ev88]; rfl) (by decide) rfl (fun ls hl => ?_)
            have tv88 : v88.toInt = j.toInt + 1 := by rw [ev88, zadd, show (1 : Int32).toInt = 1 from by decide]; omega
            refine lv_goto (tgt := 48) hx hb dX6_readNumber_91 (by decide) ?_
            exact ih (v88) (upd (w3) 4 v84) H locs ls (by omega) (g2) (g3) (g4) (by omega) hP hD hS (lv_sub hl [1, 0] rfl)
  have hl := lv_entry ([.ref (a 3)]) (n := 2) (Nat.le_of_ble_eq_true rfl)
  rw [lg_entry_eq]
  generalize (lg_sl ([.ref (a 3)]) ++ List.replicate (2 - (lg_sl ([.ref (a 3)])).length) Slot.unset).toArray = ls at hl ⊢
  have hl : lv_has ls 2 [(0, .ref (a 3))] := hl
  suffices main : ∀ (H : Heap) (locs : List Loc), va_P (dC, dI) vwCl (wX a cB cI cS cII σ) H → va_D A (wX a cB cI cS cII σ) → va_S A s.heap H locs → W p l e (headSpec wsX6_readNumber RM_X6_readNumber).room s m ([.ref (a 3)] : List Value).toArray below meth c H locs 0 0 (MQ below (zQv (dC, dI) (zT cB cI cS cII) (wX a cB cI cS cII) A (fun (σ1 : Cn) => ∃ u3 : Nat → Int32, σ1 = (upC σ 3 u3) ∧ ((0 ≤ (u3 1).toInt ∧ (u3 1).toInt ≤ 160) ∧ u3 2 = σ 3 2 ∧ ¬ (u3 3).toInt = 1))) ([.ref (a 3)] : List Value).toArray s 0 0 A) (F0 m 0 ls []) from main s.heap [] hP hD hS
  intro H locs hP hD hS
  refine lv_aload_n hx hb dX6_readNumber_0 rfl (lv_at hl 0 rfl) ?_
  refine lv_aload_n hx hb dX6_readNumber_1 rfl (lv_at hl 0 rfl) ?_
  refine lv_aload_n hx hb dX6_readNumber_2 rfl (lv_at hl 0 rfl) ?_
  refine va_get (D := (dC, dI)) (ci := 6) (v := .int (σ 3 2)) (C := RX6) (T := TX6) (N := 5) hx hb hts in6 hown hK hP 3 rfl rfl 2 (by decide) k23 (fun _ h9 => h9) rfl dX6_readNumber_3 ?_
  refine lv_bipush (v := 48) hx hb dX6_readNumber_6 (by decide) ?_
  refine lv_bipush (v := 57) hx hb dX6_readNumber_8 (by decide) ?_
  refine zcalli (va_runV (As := [.int (σ 3 2), .int 48, .int 57]) (rest := [.ref (a 3)]) ⟨hx, hb, hml, hown, hts⟩ (c_X6_placeBehind l dC dI cB cI cS cII a N hok hn σ H.size (σ 3 2) (48) (57) h3 (by omega)) (cwV 3 hts gX6_readNumber_X6_placeBehind rfl rfl rfl (by decide +kernel) ⟨Nat.le_of_ble_eq_true rfl, Nat.le_of_ble_eq_true rfl⟩) (zpreV (wf := wX a cB cI cS cII) (q0 := 3) (ci := 6) hok hN hS hA hK hP hD rfl rfl) rfl rfl hl.1 rfl (lv_room (Nat.le_of_ble_eq_true rfl)) dX6_readNumber_10 ⟨Nat.zero_le _, Nat.zero_le _⟩) hD hS hA (fun v10 σ1 H locs hv10 hP hD hS => ?_)
  obtain ⟨es9, hv10⟩ := hv10
  subst σ1
  try simp only [show (48 : Int32).toInt = 48 from by decide, show (57 : Int32).toInt = 57 from by decide] at hv10
  refine va_put (D := (dC, dI)) (ci := 6) (v := .int v10) (ty := .int) (C := RX6) (T := TX6) (N := 5) hx hb hts in6 tyX6 tyX6_ok nmX6 hown hK hP hD hS 3 rfl rfl 1 (by decide) k15 (fun _ h9 => h9) rfl (by decide +kernel) rfl rfl (Nat.le_of_ble_eq_true rfl) dX6_readNumber_13 (fun H locs hP hD hS => ?_)
  have hP : va_P (dC, dI) vwCl (wX a cB cI cS cII (upC σ 3 (upd (σ 3) 1 v10))) H := hP
  have hD : va_D A (wX a cB cI cS cII (upC σ 3 (upd (σ 3) 1 v10))) := hD
  refine lv_aload_n hx hb dX6_readNumber_16 rfl (lv_at hl 0 rfl) ?_
  refine lv_aload_n hx hb dX6_readNumber_17 rfl (lv_at hl 0 rfl) ?_
  refine va_get (D := (dC, dI)) (ci := 6) (v := .int v10) (C := RX6) (T := TX6) (N := 5) hx hb hts in6 hown hK hP 3 rfl rfl 1 (by decide) k15 (fun _ h9 => h9) rfl dX6_readNumber_18 ?_
  refine lv_aload_n hx hb dX6_readNumber_21 rfl (lv_at hl 0 rfl) ?_
  refine va_get (D := (dC, dI)) (ci := 6) (v := .int (σ 3 2)) (C := RX6) (T := TX6) (N := 5) hx hb hts in6 hown hK hP 3 rfl rfl 2 (by decide) k23 (fun _ h9 => h9) rfl dX6_readNumber_22 ?_
  refine lv_isub hx hb dX6_readNumber_25 ?_
  refine lv_topi (fun v25 ev25 => ?_)
  have tv25 : v25.toInt = v10.toInt - (σ 3 2).toInt := by rw [ev25, zsub]; omega
  refine lv_iconst (v := 4) hx hb dX6_readNumber_26 (by decide) ?_
  refine lv_icmp_le (tgt := 34) hx hb dX6_readNumber_27 (by decide) (fun c27 => ?_) (fun c27 => ?_)
  · skip
    have ic27 := zle (a := v25.toInt) (b := 4) rfl (by decide) c27
    refine lv_iconst (v := 2) hx hb dX6_readNumber_34 (by decide) ?_
    refine va_put (D := (dC, dI)) (ci := 6) (v := .int 2) (ty := .int) (C := RX6) (T := TX6) (N := 5) hx hb hts in6 tyX6 tyX6_ok nmX6 hown hK hP hD hS 3 rfl rfl 3 (by decide) k31 (fun _ h9 => h9) rfl (by decide +kernel) rfl rfl (Nat.le_of_ble_eq_true rfl) dX6_readNumber_35 (fun H locs hP hD hS => ?_)
    have hP : va_P (dC, dI) vwCl (wX a cB cI cS cII (upC σ 3 (upd (upd (σ 3) 1 v10) 3 2))) H := hP
    have hD : va_D A (wX a cB cI cS cII (upC σ 3 (upd (upd (σ 3) 1 v10) 3 2))) := hD
    refine lv_aload_n hx hb dX6_readNumber_38 rfl (lv_at hl 0 rfl) ?_
    refine lv_iconst (v := 0) hx hb dX6_readNumber_39 (by decide) ?_
    refine va_put (D := (dC, dI)) (ci := 6) (v := .int 0) (ty := .int) (C := RX6) (T := TX6) (N := 5) hx hb hts in6 tyX6 tyX6_ok nmX6 hown hK hP hD hS 3 rfl rfl 4 (by decide) k48 (fun _ h9 => h9) rfl (by decide +kernel) rfl rfl (Nat.le_of_ble_eq_true rfl) dX6_readNumber_40 (fun H locs hP hD hS => ?_)
    have hP : va_P (dC, dI) vwCl (wX a cB cI cS cII (upC σ 3 (upd (upd (upd (σ 3) 1 v10) 3 2) 4 0))) H := hP
    have hD : va_D A (wX a cB cI cS cII (upC σ 3 (upd (upd (upd (σ 3) 1 v10) 3 2) 4 0))) := hD
    refine lv_aload_n hx hb dX6_readNumber_43 rfl (lv_at hl 0 rfl) ?_
    refine va_get (D := (dC, dI)) (ci := 6) (v := .int (σ 3 2)) (C := RX6) (T := TX6) (N := 5) hx hb hts in6 hown hK hP 3 rfl rfl 2 (by decide) k23 (fun _ h9 => h9) rfl dX6_readNumber_44 ?_
    refine lv_istore_n (lv' := [(1, .int (σ 3 2)), (0, .ref (a 3))]) hx hb dX6_readNumber_47 rfl hl (by decide) rfl (fun ls hl => ?_)
    exact (LP _) (σ 3 2) (upd (upd (upd (σ 3) 1 v10) 3 2) 4 0) H locs ls (by omega) (by show 0 ≤ v10.toInt ∧ v10.toInt ≤ 160; omega) (rfl) (by first | (show ¬ (4 : Int32).toInt = 1; decide) | (show ¬ (2 : Int32).toInt = 1; decide)) (Nat.lt_succ_self _) hP hD hS (lv_sub hl [1, 0] rfl)
  · skip
    have ic27 := znle (a := v25.toInt) (b := 4) rfl (by decide) c27
    refine lv_iconst (v := 4) hx hb dX6_readNumber_30 (by decide) ?_
    refine lv_goto (tgt := 35) hx hb dX6_readNumber_31 (by decide) ?_
    refine va_put (D := (dC, dI)) (ci := 6) (v := .int 4) (ty := .int) (C := RX6) (T := TX6) (N := 5) hx hb hts in6 tyX6 tyX6_ok nmX6 hown hK hP hD hS 3 rfl rfl 3 (by decide) k31 (fun _ h9 => h9) rfl (by decide +kernel) rfl rfl (Nat.le_of_ble_eq_true rfl) dX6_readNumber_35 (fun H locs hP hD hS => ?_)
    have hP : va_P (dC, dI) vwCl (wX a cB cI cS cII (upC σ 3 (upd (upd (σ 3) 1 v10) 3 4))) H := hP
    have hD : va_D A (wX a cB cI cS cII (upC σ 3 (upd (upd (σ 3) 1 v10) 3 4))) := hD
    refine lv_aload_n hx hb dX6_readNumber_38 rfl (lv_at hl 0 rfl) ?_
    refine lv_iconst (v := 0) hx hb dX6_readNumber_39 (by decide) ?_
    refine va_put (D := (dC, dI)) (ci := 6) (v := .int 0) (ty := .int) (C := RX6) (T := TX6) (N := 5) hx hb hts in6 tyX6 tyX6_ok nmX6 hown hK hP hD hS 3 rfl rfl 4 (by decide) k48 (fun _ h9 => h9) rfl (by decide +kernel) rfl rfl (Nat.le_of_ble_eq_true rfl) dX6_readNumber_40 (fun H locs hP hD hS => ?_)
    have hP : va_P (dC, dI) vwCl (wX a cB cI cS cII (upC σ 3 (upd (upd (upd (σ 3) 1 v10) 3 4) 4 0))) H := hP
    have hD : va_D A (wX a cB cI cS cII (upC σ 3 (upd (upd (upd (σ 3) 1 v10) 3 4) 4 0))) := hD
    refine lv_aload_n hx hb dX6_readNumber_43 rfl (lv_at hl 0 rfl) ?_
    refine va_get (D := (dC, dI)) (ci := 6) (v := .int (σ 3 2)) (C := RX6) (T := TX6) (N := 5) hx hb hts in6 hown hK hP 3 rfl rfl 2 (by decide) k23 (fun _ h9 => h9) rfl dX6_readNumber_44 ?_
    refine lv_istore_n (lv' := [(1, .int (σ 3 2)), (0, .ref (a 3))]) hx hb dX6_readNumber_47 rfl hl (by decide) rfl (fun ls hl => ?_)
    exact (LP _) (σ 3 2) (upd (upd (upd (σ 3) 1 v10) 3 4) 4 0) H locs ls (by omega) (by show 0 ≤ v10.toInt ∧ v10.toInt ≤ 160; omega) (rfl) (by first | (show ¬ (4 : Int32).toInt = 1; decide) | (show ¬ (2 : Int32).toInt = 1; decide)) (Nat.lt_succ_self _) hP hD hS (lv_sub hl [1, 0] rfl)

