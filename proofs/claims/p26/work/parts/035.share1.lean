abbrev RM_X3_gather : Room := { frames := 3, cells := 0, slots := 0, locals := 64 }
set_option maxHeartbeats 4000000 in
set_option maxRecDepth 100000 in
theorem c_X3_gather (l : Launch) (dC : Nat → ClassId) (dI : Nat → Nat → Nat) (cB cI cS cII : ClassId) (a : Nat → Nat) (N : (Nat → Prop) → State → Prop) (hok : zNok N) (hn : ∀ A U, N A U → zN U) (σ : Cn) (sz : Nat)  (h0 : 0 ≤ (σ 4 1).toInt ∧ (σ 4 1).toInt ≤ 4) (h2 : 0 ≤ (σ 4 2).toInt ∧ (σ 4 2).toInt ≤ 10) : Met l yX3_gather wsX3_gather RM_X3_gather (zPc (dC, dI) (zT cB cI cS cII) N (wX a cB cI cS cII) σ sz [.ref (a 5)]) (zQv (dC, dI) (zT cB cI cS cII) (wX a cB cI cS cII) (va_A (wX a cB cI cS cII σ) sz) (fun (σ1 : Cn) => ∃ u5 : Nat → Int32, ∃ u25 : Nat → Int32, σ1 = (upC (upC σ 5 u5) 25 u25) ∧ (0 ≤ (u5 2).toInt ∧ (u5 2).toInt ≤ (σ 4 2).toInt) ∧ ∀ j : Nat, (j : Int) < (u5 2).toInt → 0 ≤ (u25 j).toInt ∧ (u25 j).toInt < (σ 4 2).toInt)) 0 0 (va_A (wX a cB cI cS cII σ) sz) := by
  refine Met.ofW (cc := cX3_gather) (maxL := 2) (ret := none) (by decide) rfl ?_
  intro p e s m args below meth c s₁ B hml hv
  obtain ⟨rfl, hsz, hP, hK, hD0, hN⟩ := hv
  have hx := B.exec
  have hb := B.bytes
  have hr := B.returns
  have hts := atoms_spec (ws := wsX3_gather) B.pre
  have hown : s.vm.findClass RX3 = some m.cls := findClass_of_methodNamed B.named
  have hlocks := B.notSynchronized
  subst hsz
  have hD := hD0.self (sz := s.heap.size)
  generalize hAe : va_A (wX a cB cI cS cII σ) s.heap.size = A at hD hN ⊢
  have hA : ∀ q : Nat, s.heap.size ≤ q → A q := fun q h => by rw [← hAe]; exact Or.inr h
  clear hAe hD0
  have hS : va_S A s.heap s.heap [] := va_S.rf
  have in1 : ∀ w ∈ u_ws RX1 TX1 9, w ∈ wsX3_gather := by decide +kernel
  have in3 : ∀ w ∈ u_ws RX3 TX3 4, w ∈ wsX3_gather := by decide +kernel
  have k18 := hts (.fieldLink RX3 18 "HouseSorted$Sharing" "house" "LHouseSorted$House;") (by decide +kernel)
  have k22 := hts (.fieldLink RX3 22 "HouseSorted$Sharing" "size" "I") (by decide +kernel)
  have k26 := hts (.fieldLink RX3 26 "HouseSorted$House" "things" "I") (by decide +kernel)
  have k9 := hts (.fieldLink RX3 9 "HouseSorted$Sharing" "shared" "[I") (by decide +kernel)
  have LP : ∀ n : Nat, (∀ (j : Int32) (w5 : Nat → Int32) (w25 : Nat → Int32) (H : Heap) (locs : List Loc) (ls : Array Slot), 0 ≤ j.toInt ∧ j.toInt ≤ (σ 4 2).toInt → 0 ≤ (w5 2).toInt ∧ (w5 2).toInt ≤ j.toInt → (∀ i : Nat, (i : Int) < (w5 2).toInt → 0 ≤ (w25 i).toInt ∧ (w25 i).toInt < (σ 4 2).toInt) → (10 - j.toInt).toNat < n → va_P (dC, dI) vwCl (wX a cB cI cS cII (upC (upC σ 5 w5) 25 w25)) H → va_D A (wX a cB cI cS cII (upC (upC σ 5 w5) 25 w25)) → va_S A s.heap H locs → lv_has ls 2 [(0, .ref (a 5)), (1, .int j)] → W p l e (headSpec wsX3_gather RM_X3_gather).room s m ([.ref (a 5)] : List Value).toArray below meth c H locs 0 0 (MQ below (zQv (dC, dI) (zT cB cI cS cII) (wX a cB cI cS cII) A (fun (σ1 : Cn) => ∃ u5 : Nat → Int32, ∃ u25 : Nat → Int32, σ1 = (upC (upC σ 5 u5) 25 u25) ∧ (0 ≤ (u5 2).toInt ∧ (u5 2).toInt ≤ (σ 4 2).toInt) ∧ ∀ j : Nat, (j : Int) < (u5 2).toInt → 0 ≤ (u25 j).toInt ∧ (u25 j).toInt < (σ 4 2).toInt)) ([.ref (a 5)] : List Value).toArray s 0 0 A) (F0 m 7 ls [])) := by
    intro n
    induction n with
    | zero => exact by intros; omega
    | succ n ih =>
      · intro j w5 w25 H locs ls g1 g2 g3 hmu hP hD hS hl
        refine lv_iload_n hx hb dX3_gather_7 rfl (lv_at hl 1 rfl) ?_
        refine lv_aload_n hx hb dX3_gather_8 rfl (lv_at hl 0 rfl) ?_
        refine va_get (D := (dC, dI)) (ci := 3) (v := .ref (a 4)) (C := RX3) (T := TX3) (N := 4) hx hb hts in3 hown hK hP 5 rfl rfl 0 (by decide) k18 (fun _ h9 => h9) rfl dX3_gather_9 ?_
        refine va_get (D := (dC, dI)) (ci := 1) (v := .int (σ 4 2)) (C := RX1) (T := TX1) (N := 9) hx hb hts in1 hown hK hP 4 rfl rfl 2 (by decide) k26 (fun _ h9 => h9) rfl dX3_gather_12 ?_
        refine lv_icmp_ge (tgt := 55) hx hb dX3_gather_15 (by decide) (fun c15 => ?_) (fun c15 => ?_)
        · skip
          have ic15 := zle (a := (σ 4 2).toInt) (b := j.toInt) rfl rfl c15
          have hpost : ∃ u5 : Nat → Int32, ∃ u25 : Nat → Int32, (upC (upC σ 5 w5) 25 w25) = (upC (upC σ 5 u5) 25 u25) ∧ (0 ≤ (u5 2).toInt ∧ (u5 2).toInt ≤ (σ 4 2).toInt) ∧ ∀ j : Nat, (j : Int) < (u5 2).toInt → 0 ≤ (u25 j).toInt ∧ (u25 j).toInt < (σ 4 2).toInt := by exact ⟨_, _, rfl, by omega, g3⟩
          exact W.vret hx hb hr (fun t9 ht hW => ⟨⟨(upC (upC σ 5 w5) 25 w25), rfl, hpost, by rw [ht]; exact hP, va_K.moved hW.alike hK, hD⟩, hS.F ht⟩) hS.2.2 dX3_gather_55
        · skip
          have ic15 := znle (a := (σ 4 2).toInt) (b := j.toInt) rfl rfl c15
          refine lv_aload_n hx hb dX3_gather_18 rfl (lv_at hl 0 rfl) ?_
          refine va_get (D := (dC, dI)) (ci := 3) (v := .ref (a 4)) (C := RX3) (T := TX3) (N := 4) hx hb hts in3 hown hK hP 5 rfl rfl 0 (by decide) k18 (fun _ h9 => h9) rfl dX3_gather_19 ?_
          refine lv_iload_n hx hb dX3_gather_22 rfl (lv_at hl 1 rfl) ?_
          refine zcalli (va_runV (As := [.int j]) (rest := []) ⟨hx, hb, hml, hown, hts⟩ (c_X1_wayOf l dC dI cB cI cS cII a N hok hn (upC (upC σ 5 w5) 25 w25) H.size (j) h0 (by omega)) (cwV 1 hts gX3_gather_X1_wayOf rfl rfl rfl (by decide +kernel) ⟨Nat.le_of_ble_eq_true rfl, Nat.le_of_ble_eq_true rfl⟩) (zpreV (wf := wX a cB cI cS cII) (q0 := 4) (ci := 1) hok hN hS hA hK hP hD rfl rfl) rfl rfl hl.1 rfl (lv_room (Nat.le_of_ble_eq_true rfl)) dX3_gather_23 ⟨Nat.zero_le _, Nat.zero_le _⟩) hD hS hA (fun v23 σ1 H locs hv23 hP hD hS => ?_)
          obtain ⟨es9, hv23⟩ := hv23
          subst σ1
          refine lv_if_ne (tgt := 49) hx hb dX3_gather_26 (by decide) (fun c26 => ?_) (fun c26 => ?_)
          · skip
            have ic26 := zneq (a := v23.toInt) (b := 0) rfl (by decide) c26
            obtain ⟨v49, ev49⟩ : ∃ y : Int32, y = j + 1 := ⟨_, rfl⟩
            refine lv_iinc (v := v49) (lv' := [(1, .int v49), (0, .ref (a 5))]) hx hb dX3_gather_49 hl (k := 1) rfl (by rw [ev49]; rfl) (by decide) rfl (fun ls hl => ?_)
            have tv49 : v49.toInt = j.toInt + 1 := by rw [ev49, zadd, show (1 : Int32).toInt = 1 from by decide]; omega
            refine lv_goto (tgt := 7) hx hb dX3_gather_52 (by decide) ?_
            exact ih (v49) (w5) (w25) H locs ls (by omega) (by first | omega | (show 0 ≤ v45.toInt ∧ v45.toInt ≤ v49.toInt; omega)) (by first | exact g3 | (show ∀ i : Nat, (i : Int) < v45.toInt → 0 ≤ (upd w25 (w5 2).toNatClampNeg j i).toInt ∧ (upd w25 (w5 2).toNatClampNeg j i).toInt < (σ 4 2).toInt; have q8 := zcl (x := w5 2) (by omega); intro i hi; by_cases q : i = (w5 2).toNatClampNeg; rw [q, pk_us]; omega; rw [pk_un q]; exact g3 i (by omega))) (by omega) hP hD hS (lv_sub hl [1, 0] rfl)
          · skip
            have ic26 := zeq (a := v23.toInt) (b := 0) rfl (by decide) c26
            refine lv_aload_n hx hb dX3_gather_29 rfl (lv_at hl 0 rfl) ?_
            refine va_get (D := (dC, dI)) (ci := 3) (v := .ref (a 25)) (C := RX3) (T := TX3) (N := 4) hx hb hts in3 hown hK hP 5 rfl rfl 1 (by decide) k9 (fun _ h9 => h9) rfl dX3_gather_30 ?_
            refine lv_aload_n hx hb dX3_gather_33 rfl (lv_at hl 0 rfl) ?_
            refine va_get (D := (dC, dI)) (ci := 3) (v := .int (w5 2)) (C := RX3) (T := TX3) (N := 4) hx hb hts in3 hown hK hP 5 rfl rfl 2 (by decide) k22 (fun _ h9 => h9) rfl dX3_gather_34 ?_
            refine lv_iload_n hx hb dX3_gather_37 rfl (lv_at hl 1 rfl) ?_
            refine va_iast (D := (dC, dI)) (f := w25) hx hb hK hP hD hS 25 1 rfl rfl (i := w5 2) (n := 10) (zin (by omega) (by omega)) dX3_gather_38 (fun H locs hP hD hS => ?_)
            have hP : va_P (dC, dI) vwCl (wX a cB cI cS cII (upC (upC σ 5 w5) 25 (upd (w25) (w5 2 : Int32).toNatClampNeg j))) H := hP
            have hD : va_D A (wX a cB cI cS cII (upC (upC σ 5 w5) 25 (upd (w25) (w5 2 : Int32).toNatClampNeg j))) := hD
            refine lv_aload_n hx hb dX3_gather_39 rfl (lv_at hl 0 rfl) ?_
            refine lv_dup hx hb dX3_gather_40 rfl ?_
            refine va_get (D := (dC, dI)) (ci := 3) (v := .int (w5 2)) (C := RX3) (T := TX3) (N := 4) hx hb hts in3 hown hK hP 5 rfl rfl 2 (by decide) k22 (fun _ h9 => h9) rfl dX3_gather_41 ?_
            refine lv_iconst (v := 1) hx hb dX3_gather_44 (by decide) ?_
            refine lv_iadd hx hb dX3_gather_45 ?_
            refine lv_topi (fun v45 ev45 => ?_)
            have tv45 : v45.toInt = (w5 2).toInt + 1 := by rw [ev45, zadd, show (1 : Int32).toInt = 1 from by decide]; omega
            refine va_put (D := (dC, dI)) (ci := 3) (v := .int v45) (ty := .int) (C := RX3) (T := TX3) (N := 4) hx hb hts in3 tyX3 tyX3_ok nmX3 hown hK hP hD hS 5 rfl rfl 2 (by decide) k22 (fun _ h9 => h9) rfl (by decide +kernel) rfl rfl (Nat.le_of_ble_eq_true rfl) dX3_gather_46 (fun H locs hP hD hS => ?_)
            have hP : va_P (dC, dI) vwCl (wX a cB cI cS cII (upC (upC σ 5 (upd (w5) 2 v45)) 25 (upd (w25) (w5 2 : Int32).toNatClampNeg j))) H := hP
            have hD : va_D A (wX a cB cI cS cII (upC (upC σ 5 (upd (w5) 2 v45)) 25 (upd (w25) (w5 2 : Int32).toNatClampNeg j))) := hD
            obtain ⟨v49, ev49⟩ : ∃ y : Int32, y = j + 1 := ⟨_, rfl⟩
            refine lv_iinc (v := v49) (lv' := [(1, .int v49), (0, .ref (a 5))]) hx hb dX3_gather_49 hl (k := 1) rfl (by rw [ev49]; rfl) (by decide) rfl (fun ls hl => ?_)
            have tv49 : v49.toInt = j.toInt + 1 := by rw [ev49, zadd, show (1 : Int32).toInt = 1 from by decide]; omega
            refine lv_goto (tgt := 7) hx hb dX3_gather_52 (by decide) ?_
            exact ih (v49) (upd (w5) 2 v45) (upd (w25) (w5 2 : Int32).toNatClampNeg j) H locs ls (by omega) (by first | omega | (show 0 ≤ v45.toInt ∧ v45.toInt ≤ v49.toInt; omega)) (by first | exact g3 | (show ∀ i : Nat, (i : Int) < v45.toInt → 0 ≤ (upd w25 (w5 2).toNatClampNeg j i).toInt ∧ (upd w25 (w5 2).toNatClampNeg j i).toInt < (σ 4 2).toInt; have q8 := zcl (x := w5 2) (by omega); intro i hi; by_cases q : i = (w5 2).toNatClampNeg; rw [q, pk_us]; omega; rw [pk_un q]; exact g3 i (by omega))) (by omega) hP hD hS (lv_sub hl [1, 0] rfl)
  have hl := lv_entry ([.ref (a 5)]) (n := 2) (Nat.le_of_ble_eq_true rfl)
  rw [lg_entry_eq]
  generalize (lg_sl ([.ref (a 5)]) ++ List.replicate (2 - (lg_sl ([.ref (a 5)])).length) Slot.unset).toArray = ls at hl ⊢
  have hl : lv_has ls 2 [(0, .ref (a 5))] := hl
  suffices main : ∀ (H : Heap) (locs : List Loc), va_P (dC, dI) vwCl (wX a cB cI cS cII σ) H → va_D A (wX a cB cI cS cII σ) → va_S A s.heap H locs → W p l e (headSpec wsX3_gather RM_X3_gather).room s m ([.ref (a 5)] : List Value).toArray below meth c H locs 0 0 (MQ below (zQv (dC, dI) (zT cB cI cS cII) (wX a cB cI cS cII) A (fun (σ1 : Cn) => ∃ u5 : Nat → Int32, ∃ u25 : Nat → Int32, σ1 = (upC (upC σ 5 u5) 25 u25) ∧ (0 ≤ (u5 2).toInt ∧ (u5 2).toInt ≤ (σ 4 2).toInt) ∧ ∀ j : Nat, (j : Int) < (u5 2).toInt → 0 ≤ (u25 j).toInt ∧ (u25 j).toInt < (σ 4 2).toInt)) ([.ref (a 5)] : List Value).toArray s 0 0 A) (F0 m 0 ls []) from main s.heap [] hP hD hS
  intro H locs hP hD hS
  refine lv_aload_n hx hb dX3_gather_0 rfl (lv_at hl 0 rfl) ?_
  refine lv_iconst (v := 0) hx hb dX3_gather_1 (by decide) ?_
  refine va_put (D := (dC, dI)) (ci := 3) (v := .int 0) (ty := .int) (C := RX3) (T := TX3) (N := 4) hx hb hts in3 tyX3 tyX3_ok nmX3 hown hK hP hD hS 5 rfl rfl 2 (by decide) k22 (fun _ h9 => h9) rfl (by decide +kernel) rfl rfl (Nat.le_of_ble_eq_true rfl) dX3_gather_2 (fun H locs hP hD hS => ?_)
  have hP : va_P (dC, dI) vwCl (wX a cB cI cS cII (upC σ 5 (upd (σ 5) 2 0))) H := hP
  have hD : va_D A (wX a cB cI cS cII (upC σ 5 (upd (σ 5) 2 0))) := hD
  refine lv_iconst (v := 0) hx hb dX3_gather_5 (by decide) ?_
  refine lv_istore_n (lv' := [(1, .int 0), (0, .ref (a 5))]) hx hb dX3_gather_6 rfl hl (by decide) rfl (fun ls hl => ?_)
  exact (LP _) (0) (upd (σ 5) 2 0) (σ 25) H locs ls (by rw [show (0 : Int32).toInt = 0 from by decide]; omega) (by show 0 ≤ (0 : Int32).toInt ∧ (0 : Int32).toInt ≤ (0 : Int32).toInt; decide) (by show ∀ i : Nat, (i : Int) < (0 : Int32).toInt → _; intro i hi; rw [show (0 : Int32).toInt = 0 from by decide] at hi; omega) (Nat.lt_succ_self _) hP hD hS (lv_sub hl [1, 0] rfl)

abbrev RM_X3_number : Room := { frames := 0, cells := 0, slots := 0, locals := 0 }
set_option maxHeartbeats 4000000 in
set_option maxRecDepth 100000 in
theorem c_X3_number (l : Launch) (dC : Nat → ClassId) (dI : Nat → Nat → Nat) (cB cI cS cII : ClassId) (a : Nat → Nat) (N : (Nat → Prop) → State → Prop) (hok : zNok N) (hn : ∀ A U, N A U → zN U) (σ : Cn) (sz : Nat)  (hs : 0 ≤ (σ 5 2).toInt ∧ (σ 5 2).toInt ≤ 10) : Met l yX3_number wsX3_number RM_X3_number (zPc (dC, dI) (zT cB cI cS cII) N (wX a cB cI cS cII) σ sz [.ref (a 5)]) (zQi (dC, dI) (zT cB cI cS cII) (wX a cB cI cS cII) (va_A (wX a cB cI cS cII σ) sz) (fun (r : Int32) (σ1 : Cn) => σ1 = σ ∧ True)) 0 0 (va_A (wX a cB cI cS cII σ) sz) := by
  refine Met.ofW (cc := cX3_number) (maxL := 3) (ret := (some .int)) (by decide) rfl ?_
  intro p e s m args below meth c s₁ B hml hv
  obtain ⟨rfl, hsz, hP, hK, hD0, hN⟩ := hv
  have hx := B.exec
  have hb := B.bytes
  have hr := B.returns
  have hts := atoms_spec (ws := wsX3_number) B.pre
  have hown : s.vm.findClass RX3 = some m.cls := findClass_of_methodNamed B.named
  have hlocks := B.notSynchronized
  subst hsz
  have hD := hD0.self (sz := s.heap.size)
  generalize hAe : va_A (wX a cB cI cS cII σ) s.heap.size = A at hD hN ⊢
  have hA : ∀ q : Nat, s.heap.size ≤ q → A q := fun q h => by rw [← hAe]; exact Or.inr h
  clear hAe hD0
  have hS : va_S A s.heap s.heap [] := va_S.rf
  have in1 : ∀ w ∈ u_ws RX1 TX1 9, w ∈ wsX3_number := by decide +kernel
  have in3 : ∀ w ∈ u_ws RX3 TX3 4, w ∈ wsX3_number := by decide +kernel
  have k15 := hts (.fieldLink RX3 15 "HouseSorted$Sharing" "taker" "[I") (by decide +kernel)
  have k18 := hts (.fieldLink RX3 18 "HouseSorted$Sharing" "house" "LHouseSorted$House;") (by decide +kernel)
  have k22 := hts (.fieldLink RX3 22 "HouseSorted$Sharing" "size" "I") (by decide +kernel)
  have k35 := hts (.fieldLink RX3 35 "HouseSorted$House" "heirs" "I") (by decide +kernel)
  have LP : ∀ n : Nat, (∀ (f : Int32) (j : Int32) (H : Heap) (locs : List Loc) (ls : Array Slot), -1 ≤ j.toInt ∧ j.toInt < 10 → (j.toInt + 1).toNat < n → va_P (dC, dI) vwCl (wX a cB cI cS cII σ) H → va_D A (wX a cB cI cS cII σ) → va_S A s.heap H locs → lv_has ls 3 [(0, .ref (a 5)), (1, .int f), (2, .int j)] → W p l e (headSpec wsX3_number RM_X3_number).room s m ([.ref (a 5)] : List Value).toArray below meth c H locs 0 0 (MQ below (zQi (dC, dI) (zT cB cI cS cII) (wX a cB cI cS cII) A (fun (r : Int32) (σ1 : Cn) => σ1 = σ ∧ True)) ([.ref (a 5)] : List Value).toArray s 0 0 A) (F0 m 9 ls [])) := by
    intro n
    induction n with
    | zero => exact by intros; omega
    | succ n ih =>
      · intro f j H locs ls g1 hmu hP hD hS hl
        refine lv_iload_n hx hb dX3_number_9 rfl (lv_at hl 2 rfl) ?_
        refine lv_if_lt (tgt := 36) hx hb dX3_number_10 (by decide) (fun c10 => ?_) (fun c10 => ?_)
        · skip
          have ic10 := zlt (a := j.toInt) (b := 0) rfl (by decide) c10
          refine lv_iload_n hx hb dX3_number_36 rfl (lv_at hl 1 rfl) ?_
          have hpost : σ = σ ∧ True := by exact ⟨rfl, trivial⟩
          exact W.iret (v := f) hx hb hr (fun t9 ht hW => ⟨⟨f, σ, rfl, hpost, by rw [ht]; exact hP, va_K.moved hW.alike hK, hD⟩, hS.F ht⟩) hS.2.2 dX3_number_37
        · skip
          have ic10 := znlt (a := j.toInt) (b := 0) rfl (by decide) c10
          refine lv_iload_n hx hb dX3_number_13 rfl (lv_at hl 1 rfl) ?_
          refine lv_aload_n hx hb dX3_number_14 rfl (lv_at hl 0 rfl) ?_
          refine va_get (D := (dC, dI)) (ci := 3) (v := .ref (a 4)) (C := RX3) (T := TX3) (N := 4) hx hb hts in3 hown hK hP 5 rfl rfl 0 (by decide) k18 (fun _ h9 => h9) rfl dX3_number_15 ?_
          refine va_get (D := (dC, dI)) (ci := 1) (v := .int (σ 4 1)) (C := RX1) (T := TX1) (N := 9) hx hb hts in1 hown hK hP 4 rfl rfl 1 (by decide) k35 (fun _ h9 => h9) rfl dX3_number_18 ?_
          refine lv_imul hx hb dX3_number_21 ?_
          refine lv_topi (fun v21 ev21 => ?_)
          refine lv_aload_n hx hb dX3_number_22 rfl (lv_at hl 0 rfl) ?_
          refine va_get (D := (dC, dI)) (ci := 3) (v := .ref (a 26)) (C := RX3) (T := TX3) (N := 4) hx hb hts in3 hown hK hP 5 rfl rfl 3 (by decide) k15 (fun _ h9 => h9) rfl dX3_number_23 ?_
          refine lv_iload_n hx hb dX3_number_26 rfl (lv_at hl 2 rfl) ?_
          refine va_iald (D := (dC, dI)) (f := σ 26) hx hb hK hP 26 1 rfl rfl (i := j) (n := 10) (zin (by omega) (by omega)) dX3_number_27 ?_
          refine lv_topi (fun v27 ev27 => ?_)
          have tv27 := congrArg Int32.toInt ev27
          refine lv_iadd hx hb dX3_number_28 ?_
          refine lv_topi (fun v28 ev28 => ?_)
          refine lv_istore_n (lv' := [(1, .int v28), (0, .ref (a 5)), (2, .int j)]) hx hb dX3_number_29 rfl hl (by decide) rfl (fun ls hl => ?_)
          obtain ⟨v30, ev30⟩ : ∃ y : Int32, y = j + (-1) := ⟨_, rfl⟩
          refine lv_iinc (v := v30) (lv' := [(2, .int v30), (1, .int v28), (0, .ref (a 5))]) hx hb dX3_number_30 hl (k := 2) rfl (by rw [ev30]; rfl) (by decide) rfl (fun ls hl => ?_)
          have tv30 : v30.toInt = j.toInt + (-1) := by rw [ev30, zadd, show ((-1) : Int32).toInt = (-1) from by decide]; omega
          refine lv_goto (tgt := 9) hx hb dX3_number_33 (by decide) ?_
          exact ih (v28) (v30)  H locs ls (by omega) (by omega) hP hD hS (lv_sub hl [2, 1, 0] rfl)
  have hl := lv_entry ([.ref (a 5)]) (n := 3) (Nat.le_of_ble_eq_true rfl)
  rw [lg_entry_eq]
  generalize (lg_sl ([.ref (a 5)]) ++ List.replicate (3 - (lg_sl ([.ref (a 5)])).length) Slot.unset).toArray = ls at hl ⊢
  have hl : lv_has ls 3 [(0, .ref (a 5))] := hl
  suffices main : ∀ (H : Heap) (locs : List Loc), va_P (dC, dI) vwCl (wX a cB cI cS cII σ) H → va_D A (wX a cB cI cS cII σ) → va_S A s.heap H locs → W p l e (headSpec wsX3_number RM_X3_number).room s m ([.ref (a 5)] : List Value).toArray below meth c H locs 0 0 (MQ below (zQi (dC, dI) (zT cB cI cS cII) (wX a cB cI cS cII) A (fun (r : Int32) (σ1 : Cn) => σ1 = σ ∧ True)) ([.ref (a 5)] : List Value).toArray s 0 0 A) (F0 m 0 ls []) from main s.heap [] hP hD hS
  intro H locs hP hD hS
  refine lv_iconst (v := 0) hx hb dX3_number_0 (by decide) ?_
  refine lv_istore_n (lv' := [(1, .int 0), (0, .ref (a 5))]) hx hb dX3_number_1 rfl hl (by decide) rfl (fun ls hl => ?_)
  refine lv_aload_n hx hb dX3_number_2 rfl (lv_at hl 1 rfl) ?_
  refine va_get (D := (dC, dI)) (ci := 3) (v := .int (σ 5 2)) (C := RX3) (T := TX3) (N := 4) hx hb hts in3 hown hK hP 5 rfl rfl 2 (by decide) k22 (fun _ h9 => h9) rfl dX3_number_3 ?_
  refine lv_iconst (v := 1) hx hb dX3_number_6 (by decide) ?_
  refine lv_isub hx hb dX3_number_7 ?_
  refine lv_topi (fun v7 ev7 => ?_)
  have tv7 : v7.toInt = (σ 5 2).toInt - 1 := by rw [ev7, zsub, show (1 : Int32).toInt = 1 from by decide]; omega
  refine lv_istore_n (lv' := [(2, .int v7), (1, .int 0), (0, .ref (a 5))]) hx hb dX3_number_8 rfl hl (by decide) rfl (fun ls hl => ?_)
  exact (LP _) (0) (v7)  H locs ls (by omega) (Nat.lt_succ_self _) hP hD hS (lv_sub hl [2, 1, 0] rfl)

abbrev RM_X3_readNumber : Room := { frames := 4, cells := 0, slots := 0, locals := 85 }
set_option maxHeartbeats 4000000 in
set_option maxRecDepth 100000 in
theorem c_X3_readNumber (l : Launch) (dC : Nat → ClassId) (dI : Nat → Nat → Nat) (cB cI cS cII : ClassId) (a : Nat → Nat) (N : (Nat → Prop) → State → Prop) (hok : zNok N) (hn : ∀ A U, N A U → zN U) (σ : Cn) (sz : Nat) (x1 : Int32) (h0 : 0 ≤ (σ 4 1).toInt ∧ (σ 4 1).toInt ≤ 4) (h2 : 0 ≤ (σ 4 2).toInt ∧ (σ 4 2).toInt ≤ 10) : Met l yX3_readNumber wsX3_readNumber RM_X3_readNumber (zPc (dC, dI) (zT cB cI cS cII) N (wX a cB cI cS cII) σ sz [.ref (a 5), .int x1]) (zQi (dC, dI) (zT cB cI cS cII) (wX a cB cI cS cII) (va_A (wX a cB cI cS cII σ) sz) (fun (r : Int32) (σ1 : Cn) => ∃ u5 : Nat → Int32, ∃ u25 : Nat → Int32, ∃ u26 : Nat → Int32, σ1 = (upC (upC (upC σ 5 u5) 25 u25) 26 u26) ∧ ((r : Int32).toInt = 1 ∨ (r : Int32).toInt = 0) ∧ (0 ≤ (u5 2).toInt ∧ (u5 2).toInt ≤ 10) ∧ ∀ j : Nat, (j : Int) < (u5 2).toInt → 0 ≤ (u25 j).toInt ∧ (u25 j).toInt < 10)) 0 0 (va_A (wX a cB cI cS cII σ) sz) := by
  refine Met.ofW (cc := cX3_readNumber) (maxL := 4) (ret := (some .boolean)) (by decide) rfl ?_
  intro p e s m args below meth c s₁ B hml hv
  obtain ⟨rfl, hsz, hP, hK, hD0, hN⟩ := hv
  have hx := B.exec
  have hb := B.bytes
  have hr := B.returns
  have hts := atoms_spec (ws := wsX3_readNumber) B.pre
  have hown : s.vm.findClass RX3 = some m.cls := findClass_of_methodNamed B.named
  have hlocks := B.notSynchronized
  subst hsz
  have hD := hD0.self (sz := s.heap.size)
  generalize hAe : va_A (wX a cB cI cS cII σ) s.heap.size = A at hD hN ⊢
  have hA : ∀ q : Nat, s.heap.size ≤ q → A q := fun q h => by rw [← hAe]; exact Or.inr h
  clear hAe hD0
  have hS : va_S A s.heap s.heap [] := va_S.rf
  have in1 : ∀ w ∈ u_ws RX1 TX1 9, w ∈ wsX3_readNumber := by decide +kernel
  have in3 : ∀ w ∈ u_ws RX3 TX3 4, w ∈ wsX3_readNumber := by decide +kernel
  have k15 := hts (.fieldLink RX3 15 "HouseSorted$Sharing" "taker" "[I") (by decide +kernel)
  have k18 := hts (.fieldLink RX3 18 "HouseSorted$Sharing" "house" "LHouseSorted$House;") (by decide +kernel)
  have k22 := hts (.fieldLink RX3 22 "HouseSorted$Sharing" "size" "I") (by decide +kernel)
  have k35 := hts (.fieldLink RX3 35 "HouseSorted$House" "heirs" "I") (by decide +kernel)
  have LP : ∀ n : Nat, (∀ (f : Int32) (j : Int32) (w5 : Nat → Int32) (w25 : Nat → Int32) (w26 : Nat → Int32) (H : Heap) (locs : List Loc) (ls : Array Slot), 0 ≤ j.toInt ∧ j.toInt ≤ 10 → 0 ≤ (w5 2).toInt ∧ (w5 2).toInt ≤ 10 → (∀ i : Nat, (i : Int) < (w5 2).toInt → 0 ≤ (w25 i).toInt ∧ (w25 i).toInt < 10) → 0 ≤ f.toInt → (10 - j.toInt).toNat < n → va_P (dC, dI) vwCl (wX a cB cI cS cII (upC (upC (upC σ 5 w5) 25 w25) 26 w26)) H → va_D A (wX a cB cI cS cII (upC (upC (upC σ 5 w5) 25 w25) 26 w26)) → va_S A s.heap H locs → lv_has ls 4 [(0, .ref (a 5)), (1, .int x1), (2, .int f), (3, .int j)] → W p l e (headSpec wsX3_readNumber RM_X3_readNumber).room s m ([.ref (a 5), .int x1] : List Value).toArray below meth c H locs 0 0 (MQ below (zQi (dC, dI) (zT cB cI cS cII) (wX a cB cI cS cII) A (fun (r : Int32) (σ1 : Cn) => ∃ u5 : Nat → Int32, ∃ u25 : Nat → Int32, ∃ u26 : Nat → Int32, σ1 = (upC (upC (upC σ 5 u5) 25 u25) 26 u26) ∧ ((r : Int32).toInt = 1 ∨ (r : Int32).toInt = 0) ∧ (0 ≤ (u5 2).toInt ∧ (u5 2).toInt ≤ 10) ∧ ∀ j : Nat, (j : Int) < (u5 2).toInt → 0 ≤ (u25 j).toInt ∧ (u25 j).toInt < 10)) ([.ref (a 5), .int x1] : List Value).toArray s 0 0 A) (F0 m 14 ls [])) := by
    intro n
    induction n with
    | zero => exact by intros; omega
    | succ n ih =>
      · intro f j w5 w25 w26 H locs ls g1 g2 g3 g4 hmu hP hD hS hl
        refine lv_iload_n hx hb dX3_readNumber_14 rfl (lv_at hl 3 rfl) ?_
        refine lv_aload_n hx hb dX3_readNumber_15 rfl (lv_at hl 0 rfl) ?_
        refine va_get (D := (dC, dI)) (ci := 3) (v := .int (w5 2)) (C := RX3) (T := TX3) (N := 4) hx hb hts in3 hown hK hP 5 rfl rfl 2 (by decide) k22 (fun _ h9 => h9) rfl dX3_readNumber_16 ?_
        refine lv_icmp_ge (tgt := 65) hx hb dX3_readNumber_19 (by decide) (fun c19 => ?_) (fun c19 => ?_)
        · skip
          have ic19 := zle (a := (w5 2).toInt) (b := j.toInt) rfl rfl c19
          refine lv_iload_n hx hb dX3_readNumber_65 rfl (lv_at hl 2 rfl) ?_
          refine lv_if_ne (tgt := 73) hx hb dX3_readNumber_66 (by decide) (fun c66 => ?_) (fun c66 => ?_)
          · skip
            have ic66 := zneq (a := f.toInt) (b := 0) rfl (by decide) c66
            refine lv_iconst (v := 0) hx hb dX3_readNumber_73 (by decide) ?_
            have hpost : ∃ u5 : Nat → Int32, ∃ u25 : Nat → Int32, ∃ u26 : Nat → Int32, (upC (upC (upC σ 5 w5) 25 w25) 26 w26) = (upC (upC (upC σ 5 u5) 25 u25) 26 u26) ∧ ((0 : Int32).toInt = 1 ∨ (0 : Int32).toInt = 0) ∧ (0 ≤ (u5 2).toInt ∧ (u5 2).toInt ≤ 10) ∧ ∀ j : Nat, (j : Int) < (u5 2).toInt → 0 ≤ (u25 j).toInt ∧ (u25 j).toInt < 10 := by exact ⟨_, _, _, rfl, by decide, g2, g3⟩
            exact W.zret (v := 0) hx hb hr (by decide +kernel) (fun t9 ht hW => ⟨⟨0, (upC (upC (upC σ 5 w5) 25 w25) 26 w26), rfl, hpost, by rw [ht]; exact hP, va_K.moved hW.alike hK, hD⟩, hS.F ht⟩) hS.2.2 dX3_readNumber_74
          · skip
            have ic66 := zeq (a := f.toInt) (b := 0) rfl (by decide) c66
            refine lv_iconst (v := 1) hx hb dX3_readNumber_69 (by decide) ?_
            refine lv_goto (tgt := 74) hx hb dX3_readNumber_70 (by decide) ?_
            have hpost : ∃ u5 : Nat → Int32, ∃ u25 : Nat → Int32, ∃ u26 : Nat → Int32, (upC (upC (upC σ 5 w5) 25 w25) 26 w26) = (upC (upC (upC σ 5 u5) 25 u25) 26 u26) ∧ ((1 : Int32).toInt = 1 ∨ (1 : Int32).toInt = 0) ∧ (0 ≤ (u5 2).toInt ∧ (u5 2).toInt ≤ 10) ∧ ∀ j : Nat, (j : Int) < (u5 2).toInt → 0 ≤ (u25 j).toInt ∧ (u25 j).toInt < 10 := by exact ⟨_, _, _, rfl, by decide, g2, g3⟩
            exact W.zret (v := 1) hx hb hr (by decide +kernel) (fun t9 ht hW => ⟨⟨1, (upC (upC (upC σ 5 w5) 25 w25) 26 w26), rfl, hpost, by rw [ht]; exact hP, va_K.moved hW.alike hK, hD⟩, hS.F ht⟩) hS.2.2 dX3_readNumber_74
        · skip
          have ic19 := znle (a := (w5 2).toInt) (b := j.toInt) rfl rfl c19
          refine lv_aload_n hx hb dX3_readNumber_22 rfl (lv_at hl 0 rfl) ?_
          refine va_get (D := (dC, dI)) (ci := 3) (v := .ref (a 4)) (C := RX3) (T := TX3) (N := 4) hx hb hts in3 hown hK hP 5 rfl rfl 0 (by decide) k18 (fun _ h9 => h9) rfl dX3_readNumber_23 ?_
          refine va_get (D := (dC, dI)) (ci := 1) (v := .int (σ 4 1)) (C := RX1) (T := TX1) (N := 9) hx hb hts in1 hown hK hP 4 rfl rfl 1 (by decide) k35 (fun _ h9 => h9) rfl dX3_readNumber_26 ?_
          refine lv_if_gt (tgt := 34) hx hb dX3_readNumber_29 (by decide) (fun c29 => ?_) (fun c29 => ?_)
          · skip
            have ic29 := zlt (a := 0) (b := (σ 4 1).toInt) (by decide) rfl c29
            refine lv_aload_n hx hb dX3_readNumber_34 rfl (lv_at hl 0 rfl) ?_
            refine va_get (D := (dC, dI)) (ci := 3) (v := .ref (a 26)) (C := RX3) (T := TX3) (N := 4) hx hb hts in3 hown hK hP 5 rfl rfl 3 (by decide) k15 (fun _ h9 => h9) rfl dX3_readNumber_35 ?_
            refine lv_iload_n hx hb dX3_readNumber_38 rfl (lv_at hl 3 rfl) ?_
            refine lv_iload_n hx hb dX3_readNumber_39 rfl (lv_at hl 2 rfl) ?_
            refine lv_aload_n hx hb dX3_readNumber_40 rfl (lv_at hl 0 rfl) ?_
            refine va_get (D := (dC, dI)) (ci := 3) (v := .ref (a 4)) (C := RX3) (T := TX3) (N := 4) hx hb hts in3 hown hK hP 5 rfl rfl 0 (by decide) k18 (fun _ h9 => h9) rfl dX3_readNumber_41 ?_
            refine va_get (D := (dC, dI)) (ci := 1) (v := .int (σ 4 1)) (C := RX1) (T := TX1) (N := 9) hx hb hts in1 hown hK hP 4 rfl rfl 1 (by decide) k35 (fun _ h9 => h9) rfl dX3_readNumber_44 ?_
            refine lv_irem hx hb dX3_readNumber_47 (fun h0 => by have h1 := zeq (a := (σ 4 1).toInt) (b := 0) rfl (by decide) h0; omega) ?_
            refine lv_topi (fun v47 ev47 => ?_)
            have tv47 := zrem (x := f) (y := σ 4 1) (by omega) (by omega) ev47
            refine va_iast (D := (dC, dI)) (f := w26) hx hb hK hP hD hS 26 1 rfl rfl (i := j) (n := 10) (zin (by omega) (by omega)) dX3_readNumber_48 (fun H locs hP hD hS => ?_)
            have hP : va_P (dC, dI) vwCl (wX a cB cI cS cII (upC (upC (upC σ 5 w5) 25 w25) 26 (upd (w26) (j).toNatClampNeg v47))) H := hP
            have hD : va_D A (wX a cB cI cS cII (upC (upC (upC σ 5 w5) 25 w25) 26 (upd (w26) (j).toNatClampNeg v47))) := hD
            refine lv_iload_n hx hb dX3_readNumber_49 rfl (lv_at hl 2 rfl) ?_
            refine lv_aload_n hx hb dX3_readNumber_50 rfl (lv_at hl 0 rfl) ?_
            refine va_get (D := (dC, dI)) (ci := 3) (v := .ref (a 4)) (C := RX3) (T := TX3) (N := 4) hx hb hts in3 hown hK hP 5 rfl rfl 0 (by decide) k18 (fun _ h9 => h9) rfl dX3_readNumber_51 ?_
            refine va_get (D := (dC, dI)) (ci := 1) (v := .int (σ 4 1)) (C := RX1) (T := TX1) (N := 9) hx hb hts in1 hown hK hP 4 rfl rfl 1 (by decide) k35 (fun _ h9 => h9) rfl dX3_readNumber_54 ?_
            refine lv_idiv hx hb dX3_readNumber_57 (fun h0 => by have h1 := zeq (a := (σ 4 1).toInt) (b := 0) rfl (by decide) h0; omega) ?_
            refine lv_topi (fun v57 ev57 => ?_)
            have tv57 := zdiv (x := f) (y := σ 4 1) (by omega) (by omega) ev57
            refine lv_istore_n (lv' := [(2, .int v57), (0, .ref (a 5)), (1, .int x1), (3, .int j)]) hx hb dX3_readNumber_58 rfl hl (by decide) rfl (fun ls hl => ?_)
            obtain ⟨v59, ev59⟩ : ∃ y : Int32, y = j + 1 := ⟨_, rfl⟩
            refine lv_iinc (v := v59) (lv' := [(3, .int v59), (2, .int v57), (0, .ref (a 5)), (1, .int x1)]) hx hb dX3_readNumber_59 hl (k := 3) rfl (by rw [ev59]; rfl) (by decide) rfl (fun ls hl => ?_)
            have tv59 : v59.toInt = j.toInt + 1 := by rw [ev59, zadd, show (1 : Int32).toInt = 1 from by decide]; omega
            refine lv_goto (tgt := 14) hx hb dX3_readNumber_62 (by decide) ?_
            exact ih (v57) (v59) (w5) (w25) (upd (w26) (j).toNatClampNeg v47) H locs ls (by omega) (g2) (g3) (by omega) (by omega) hP hD hS (lv_sub hl [2, 3, 1, 0] rfl)
          · skip
            have ic29 := znlt (a := 0) (b := (σ 4 1).toInt) (by decide) rfl c29
            refine lv_iconst (v := 0) hx hb dX3_readNumber_32 (by decide) ?_
            have hpost : ∃ u5 : Nat → Int32, ∃ u25 : Nat → Int32, ∃ u26 : Nat → Int32, (upC (upC (upC σ 5 w5) 25 w25) 26 w26) = (upC (upC (upC σ 5 u5) 25 u25) 26 u26) ∧ ((0 : Int32).toInt = 1 ∨ (0 : Int32).toInt = 0) ∧ (0 ≤ (u5 2).toInt ∧ (u5 2).toInt ≤ 10) ∧ ∀ j : Nat, (j : Int) < (u5 2).toInt → 0 ≤ (u25 j).toInt ∧ (u25 j).toInt < 10 := by exact ⟨_, _, _, rfl, by decide, g2, g3⟩
            exact W.zret (v := 0) hx hb hr (by decide +kernel) (fun t9 ht hW => ⟨⟨0, (upC (upC (upC σ 5 w5) 25 w25) 26 w26), rfl, hpost, by rw [ht]; exact hP, va_K.moved hW.alike hK, hD⟩, hS.F ht⟩) hS.2.2 dX3_readNumber_33
  have hl := lv_entry ([.ref (a 5), .int x1]) (n := 4) (Nat.le_of_ble_eq_true rfl)
  rw [lg_entry_eq]
  generalize (lg_sl ([.ref (a 5), .int x1]) ++ List.replicate (4 - (lg_sl ([.ref (a 5), .int x1])).length) Slot.unset).toArray = ls at hl ⊢
  have hl : lv_has ls 4 [(0, .ref (a 5)), (1, .int x1)] := hl
  suffices main : ∀ (H : Heap) (locs : List Loc), va_P (dC, dI) vwCl (wX a cB cI cS cII σ) H → va_D A (wX a cB cI cS cII σ) → va_S A s.heap H locs → W p l e (headSpec wsX3_readNumber RM_X3_readNumber).room s m ([.ref (a 5), .int x1] : List Value).toArray below meth c H locs 0 0 (MQ below (zQi (dC, dI) (zT cB cI cS cII) (wX a cB cI cS cII) A (fun (r : Int32) (σ1 : Cn) => ∃ u5 : Nat → Int32, ∃ u25 : Nat → Int32, ∃ u26 : Nat → Int32, σ1 = (upC (upC (upC σ 5 u5) 25 u25) 26 u26) ∧ ((r : Int32).toInt = 1 ∨ (r : Int32).toInt = 0) ∧ (0 ≤ (u5 2).toInt ∧ (u5 2).toInt ≤ 10) ∧ ∀ j : Nat, (j : Int) < (u5 2).toInt → 0 ≤ (u25 j).toInt ∧ (u25 j).toInt < 10)) ([.ref (a 5), .int x1] : List Value).toArray s 0 0 A) (F0 m 0 ls []) from main s.heap [] hP hD hS
  intro H locs hP hD hS
  refine lv_aload_n hx hb dX3_readNumber_0 rfl (lv_at hl 0 rfl) ?_
  refine zcallv (va_runV (As := []) (rest := []) ⟨hx, hb, hml, hown, hts⟩ (c_X3_gather l dC dI cB cI cS cII a N hok hn σ H.size  h0 h2) (cwV 0 hts gX3_readNumber_X3_gather rfl rfl rfl (by decide +kernel) ⟨Nat.le_of_ble_eq_true rfl, Nat.le_of_ble_eq_true rfl⟩) (zpreV (wf := wX a cB cI cS cII) (q0 := 5) (ci := 3) hok hN hS hA hK hP hD rfl rfl) rfl rfl hl.1 rfl (lv_room (Nat.le_of_ble_eq_true rfl)) dX3_readNumber_1 ⟨Nat.zero_le _, Nat.zero_le _⟩) hD hS hA (fun σ1 H locs hv1 hP hD hS => ?_)
  obtain ⟨u5_1, u25_1, es9, hv1⟩ := hv1
  subst σ1
  have hP : va_P (dC, dI) vwCl (wX a cB cI cS cII (upC (upC σ 5 u5_1) 25 u25_1)) H := hP
  have hD : va_D A (wX a cB cI cS cII (upC (upC σ 5 u5_1) 25 u25_1)) := hD
  refine lv_iload_n hx hb dX3_readNumber_4 rfl (lv_at hl 1 rfl) ?_
  refine lv_if_ge (tgt := 10) hx hb dX3_readNumber_5 (by decide) (fun c5 => ?_) (fun c5 => ?_)
  · skip
    have ic5 := zle (a := 0) (b := x1.toInt) (by decide) rfl c5
    refine lv_iload_n hx hb dX3_readNumber_10 rfl (lv_at hl 1 rfl) ?_
    refine lv_istore_n (lv' := [(2, .int x1), (0, .ref (a 5)), (1, .int x1)]) hx hb dX3_readNumber_11 rfl hl (by decide) rfl (fun ls hl => ?_)
    refine lv_iconst (v := 0) hx hb dX3_readNumber_12 (by decide) ?_
    refine lv_istore_n (lv' := [(3, .int 0), (2, .int x1), (0, .ref (a 5)), (1, .int x1)]) hx hb dX3_readNumber_13 rfl hl (by decide) rfl (fun ls hl => ?_)
    exact (LP _) (x1) (0) (u5_1) (u25_1) (σ 26) H locs ls (by decide) (by omega) (fun i hi => by have q := hv1.2 i hi; omega) (by omega) (Nat.lt_succ_self _) hP hD hS (lv_sub hl [2, 3, 1, 0] rfl)
  · skip
    have ic5 := znle (a := 0) (b := x1.toInt) (by decide) rfl c5
    refine lv_iconst (v := 0) hx hb dX3_readNumber_8 (by decide) ?_
    have hpost : ∃ u5 : Nat → Int32, ∃ u25 : Nat → Int32, ∃ u26 : Nat → Int32, (upC (upC σ 5 u5_1) 25 u25_1) = (upC (upC (upC σ 5 u5) 25 u25) 26 u26) ∧ ((0 : Int32).toInt = 1 ∨ (0 : Int32).toInt = 0) ∧ (0 ≤ (u5 2).toInt ∧ (u5 2).toInt ≤ 10) ∧ ∀ j : Nat, (j : Int) < (u5 2).toInt → 0 ≤ (u25 j).toInt ∧ (u25 j).toInt < 10 := by exact ⟨u5_1, u25_1, σ 26, upC_id (upC (upC σ 5 u5_1) 25 u25_1) 26, by decide, by omega, fun i hi => by have q := hv1.2 i hi; omega⟩
    exact W.zret (v := 0) hx hb hr (by decide +kernel) (fun t9 ht hW => ⟨⟨0, (upC (upC σ 5 u5_1) 25 u25_1), rfl, hpost, by rw [ht]; exact hP, va_K.moved hW.alike hK, hD⟩, hS.F ht⟩) hS.2.2 dX3_readNumber_9

abbrev RM_X3_heirAtTurn : Room := { frames := 1, cells := 0, slots := 0, locals := 21 }
set_option maxHeartbeats 4000000 in
set_option maxRecDepth 100000 in
theorem c_X3_heirAtTurn (l : Launch) (dC : Nat → ClassId) (dI : Nat → Nat → Nat) (cB cI cS cII : ClassId) (a : Nat → Nat) (N : (Nat → Prop) → State → Prop) (hok : zNok N) (hn : ∀ A U, N A U → zN U) (σ : Cn) (sz : Nat) (x1 : Int32) (x2 : Int32) (h0 : 0 ≤ (σ 4 1).toInt ∧ (σ 4 1).toInt ≤ 4) (h1 : 0 ≤ x2.toInt) : Met l yX3_heirAtTurn wsX3_heirAtTurn RM_X3_heirAtTurn (zPc (dC, dI) (zT cB cI cS cII) N (wX a cB cI cS cII) σ sz [.ref (a 5), .int x1, .int x2]) (zQi (dC, dI) (zT cB cI cS cII) (wX a cB cI cS cII) (va_A (wX a cB cI cS cII σ) sz) (fun (r : Int32) (σ1 : Cn) => σ1 = σ ∧ 0 ≤ (r : Int32).toInt ∧ (r : Int32).toInt < 4)) 0 0 (va_A (wX a cB cI cS cII σ) sz) := by
  refine Met.ofW (cc := cX3_heirAtTurn) (maxL := 6) (ret := (some .int)) (by decide) rfl ?_
  intro p e s m args below meth c s₁ B hml hv
  obtain ⟨rfl, hsz, hP, hK, hD0, hN⟩ := hv
  have hx := B.exec
  have hb := B.bytes
  have hr := B.returns
  have hts := atoms_spec (ws := wsX3_heirAtTurn) B.pre
  have hown : s.vm.findClass RX3 = some m.cls := findClass_of_methodNamed B.named
  have hlocks := B.notSynchronized
  subst hsz
  have hD := hD0.self (sz := s.heap.size)
  generalize hAe : va_A (wX a cB cI cS cII σ) s.heap.size = A at hD hN ⊢
  have hA : ∀ q : Nat, s.heap.size ≤ q → A q := fun q h => by rw [← hAe]; exact Or.inr h
  clear hAe hD0
  have hS : va_S A s.heap s.heap [] := va_S.rf
  have in1 : ∀ w ∈ u_ws RX1 TX1 9, w ∈ wsX3_heirAtTurn := by decide +kernel
  have in3 : ∀ w ∈ u_ws RX3 TX3 4, w ∈ wsX3_heirAtTurn := by decide +kernel
  have k18 := hts (.fieldLink RX3 18 "HouseSorted$Sharing" "house" "LHouseSorted$House;") (by decide +kernel)
  have k35 := hts (.fieldLink RX3 35 "HouseSorted$House" "heirs" "I") (by decide +kernel)
  have kcmax := hts (.code Lib.Math.max.name Lib.Math.max.code 2 (some .int)) (by decide +kernel)
  have kiM := hts (.initialized "java/lang/Math") (by decide +kernel)
  have km53 := hts (.methodLink RX3 53 Lib.Math.max.name) (by decide +kernel)
  have ksmax := hts (.static Lib.Math.max.name) (by decide +kernel)
  have hl := lv_entry ([.ref (a 5), .int x1, .int x2]) (n := 6) (Nat.le_of_ble_eq_true rfl)
  rw [lg_entry_eq]
  generalize (lg_sl ([.ref (a 5), .int x1, .int x2]) ++ List.replicate (6 - (lg_sl ([.ref (a 5), .int x1, .int x2])).length) Slot.unset).toArray = ls at hl ⊢
  have hl : lv_has ls 6 [(0, .ref (a 5)), (1, .int x1), (2, .int x2)] := hl
  suffices main : ∀ (H : Heap) (locs : List Loc), va_P (dC, dI) vwCl (wX a cB cI cS cII σ) H → va_D A (wX a cB cI cS cII σ) → va_S A s.heap H locs → W p l e (headSpec wsX3_heirAtTurn RM_X3_heirAtTurn).room s m ([.ref (a 5), .int x1, .int x2] : List Value).toArray below meth c H locs 0 0 (MQ below (zQi (dC, dI) (zT cB cI cS cII) (wX a cB cI cS cII) A (fun (r : Int32) (σ1 : Cn) => σ1 = σ ∧ 0 ≤ (r : Int32).toInt ∧ (r : Int32).toInt < 4)) ([.ref (a 5), .int x1, .int x2] : List Value).toArray s 0 0 A) (F0 m 0 ls []) from main s.heap [] hP hD hS
  intro H locs hP hD hS
  refine lv_iconst (v := 1) hx hb dX3_heirAtTurn_0 (by decide) ?_
  refine lv_aload_n hx hb dX3_heirAtTurn_1 rfl (lv_at hl 0 rfl) ?_
  refine va_get (D := (dC, dI)) (ci := 3) (v := .ref (a 4)) (C := RX3) (T := TX3) (N := 4) hx hb hts in3 hown hK hP 5 rfl rfl 0 (by decide) k18 (fun _ h9 => h9) rfl dX3_heirAtTurn_2 ?_
  refine va_get (D := (dC, dI)) (ci := 1) (v := .int (σ 4 1)) (C := RX1) (T := TX1) (N := 9) hx hb hts in1 hown hK hP 4 rfl rfl 1 (by decide) k35 (fun _ h9 => h9) rfl dX3_heirAtTurn_5 ?_
  refine va_mmax hx hb (hml.trans hl.1.symm) hown km53 ksmax kiM kcmax (Nat.le_of_ble_eq_true rfl) (Nat.le_of_ble_eq_true rfl) (Nat.zero_le _) (Nat.zero_le _) dX3_heirAtTurn_8 ?_
  refine lv_topi (fun v8 ev8 => ?_)
  have tv8 := zmax (x := 1) (y := σ 4 1) (a := 1) (b := (σ 4 1).toInt) (by decide) rfl ev8
  refine lv_istore_n (lv' := [(3, .int v8), (0, .ref (a 5)), (1, .int x1), (2, .int x2)]) hx hb dX3_heirAtTurn_11 rfl hl (by decide) rfl (fun ls hl => ?_)
  refine lv_iload_n hx hb dX3_heirAtTurn_12 rfl (lv_at hl 3 rfl) ?_
  refine lv_iload_n hx hb dX3_heirAtTurn_13 rfl (lv_at hl 0 rfl) ?_
  refine lv_irem hx hb dX3_heirAtTurn_14 (fun h0 => by have h1 := zeq (a := v8.toInt) (b := 0) rfl (by decide) h0; omega) ?_
  refine lv_topi (fun v14 ev14 => ?_)
  have tv14 := zrem (x := x2) (y := v8) (by omega) (by omega) ev14
  refine lv_istore (lv' := [(4, .int v14), (3, .int v8), (0, .ref (a 5)), (1, .int x1), (2, .int x2)]) hx hb dX3_heirAtTurn_15 hl (by decide) rfl (fun ls hl => ?_)
  refine lv_iload_n hx hb dX3_heirAtTurn_17 rfl (lv_at hl 3 rfl) ?_
  refine lv_iconst (v := 1) hx hb dX3_heirAtTurn_18 (by decide) ?_
  refine lv_icmp_ne (tgt := 35) hx hb dX3_heirAtTurn_19 (by decide) (fun c19 => ?_) (fun c19 => ?_)
  · skip
    have ic19 := zneq (a := x1.toInt) (b := 1) rfl (by decide) c19
    refine lv_iconst (v := 0) hx hb dX3_heirAtTurn_35 (by decide) ?_
    refine lv_istore (lv' := [(5, .int 0), (4, .int v14), (3, .int v8), (0, .ref (a 5)), (1, .int x1), (2, .int x2)]) hx hb dX3_heirAtTurn_36 hl (by decide) rfl (fun ls hl => ?_)
    refine lv_iload hx hb dX3_heirAtTurn_38 (lv_at hl 0 rfl) ?_
    refine lv_if_eq (tgt := 52) hx hb dX3_heirAtTurn_40 (by decide) (fun c40 => ?_) (fun c40 => ?_)
    · skip
      have ic40 := zeq (a := 0) (b := 0) (by decide) (by decide) c40
      refine lv_iload hx hb dX3_heirAtTurn_52 (lv_at hl 1 rfl) ?_
      have hpost : σ = σ ∧ 0 ≤ (v14 : Int32).toInt ∧ (v14 : Int32).toInt < 4 := by exact ⟨rfl, by omega⟩
      exact W.iret (v := v14) hx hb hr (fun t9 ht hW => ⟨⟨v14, σ, rfl, hpost, by rw [ht]; exact hP, va_K.moved hW.alike hK, hD⟩, hS.F ht⟩) hS.2.2 dX3_heirAtTurn_54
    · skip
      have ic40 := zneq (a := 0) (b := 0) (by decide) (by decide) c40
      refine lv_iload_n hx hb dX3_heirAtTurn_43 rfl (lv_at hl 2 rfl) ?_
      refine lv_iconst (v := 1) hx hb dX3_heirAtTurn_44 (by decide) ?_
      refine lv_isub hx hb dX3_heirAtTurn_45 ?_
      refine lv_topi (fun v45 ev45 => ?_)
      have tv45 : v45.toInt = v8.toInt - 1 := by rw [ev45, zsub, show (1 : Int32).toInt = 1 from by decide]; omega
      refine lv_iload hx hb dX3_heirAtTurn_46 (lv_at hl 1 rfl) ?_
      refine lv_isub hx hb dX3_heirAtTurn_48 ?_
      refine lv_topi (fun v48 ev48 => ?_)
      have tv48 : v48.toInt = v45.toInt - v14.toInt := by rw [ev48, zsub]; omega
      refine lv_goto (tgt := 54) hx hb dX3_heirAtTurn_49 (by decide) ?_
      have hpost : σ = σ ∧ 0 ≤ (v48 : Int32).toInt ∧ (v48 : Int32).toInt < 4 := by exact ⟨rfl, by omega⟩
      exact W.iret (v := v48) hx hb hr (fun t9 ht hW => ⟨⟨v48, σ, rfl, hpost, by rw [ht]; exact hP, va_K.moved hW.alike hK, hD⟩, hS.F ht⟩) hS.2.2 dX3_heirAtTurn_54
  · skip
    have ic19 := zeq (a := x1.toInt) (b := 1) rfl (by decide) c19
    refine lv_iload_n hx hb dX3_heirAtTurn_22 rfl (lv_at hl 4 rfl) ?_
    refine lv_iload_n hx hb dX3_heirAtTurn_23 rfl (lv_at hl 1 rfl) ?_
    refine lv_idiv hx hb dX3_heirAtTurn_24 (fun h0 => by have h1 := zeq (a := v8.toInt) (b := 0) rfl (by decide) h0; omega) ?_
    refine lv_topi (fun v24 ev24 => ?_)
    have tv24 := zdiv (x := x2) (y := v8) (by omega) (by omega) ev24
    refine lv_iconst (v := 2) hx hb dX3_heirAtTurn_25 (by decide) ?_
    refine lv_irem hx hb dX3_heirAtTurn_26 (fun h0 => by have h1 := zeq (a := 2) (b := 0) (by decide) (by decide) h0; omega) ?_
    refine lv_topi (fun v26 ev26 => ?_)
    have tv26 := zrem (x := v24) (y := 2) (by omega) (by decide) ev26
    refine lv_iconst (v := 1) hx hb dX3_heirAtTurn_27 (by decide) ?_
    refine lv_icmp_ne (tgt := 35) hx hb dX3_heirAtTurn_28 (by decide) (fun c28 => ?_) (fun c28 => ?_)
    · skip
      have ic28 := zneq (a := v26.toInt) (b := 1) rfl (by decide) c28
      refine lv_iconst (v := 0) hx hb dX3_heirAtTurn_35 (by decide) ?_
      refine lv_istore (lv' := [(5, .int 0), (4, .int v14), (3, .int v8), (0, .ref (a 5)), (1, .int x1), (2, .int x2)]) hx hb dX3_heirAtTurn_36 hl (by decide) rfl (fun ls hl => ?_)
      refine lv_iload hx hb dX3_heirAtTurn_38 (lv_at hl 0 rfl) ?_
      refine lv_if_eq (tgt := 52) hx hb dX3_heirAtTurn_40 (by decide) (fun c40 => ?_) (fun c40 => ?_)
      · skip
        have ic40 := zeq (a := 0) (b := 0) (by decide) (by decide) c40
        refine lv_iload hx hb dX3_heirAtTurn_52 (lv_at hl 1 rfl) ?_
        have hpost : σ = σ ∧ 0 ≤ (v14 : Int32).toInt ∧ (v14 : Int32).toInt < 4 := by exact ⟨rfl, by omega⟩
        exact W.iret (v := v14) hx hb hr (fun t9 ht hW => ⟨⟨v14, σ, rfl, hpost, by rw [ht]; exact hP, va_K.moved hW.alike hK, hD⟩, hS.F ht⟩) hS.2.2 dX3_heirAtTurn_54
      · skip
        have ic40 := zneq (a := 0) (b := 0) (by decide) (by decide) c40
        refine lv_iload_n hx hb dX3_heirAtTurn_43 rfl (lv_at hl 2 rfl) ?_
        refine lv_iconst (v := 1) hx hb dX3_heirAtTurn_44 (by decide) ?_
        refine lv_isub hx hb dX3_heirAtTurn_45 ?_
        refine lv_topi (fun v45 ev45 => ?_)
        have tv45 : v45.toInt = v8.toInt - 1 := by rw [ev45, zsub, show (1 : Int32).toInt = 1 from by decide]; omega
        refine lv_iload hx hb dX3_heirAtTurn_46 (lv_at hl 1 rfl) ?_
        refine lv_isub hx hb dX3_heirAtTurn_48 ?_
        refine lv_topi (fun v48 ev48 => ?_)
        have tv48 : v48.toInt = v45.toInt - v14.toInt := by rw [ev48, zsub]; omega
        refine lv_goto (tgt := 54) hx hb dX3_heirAtTurn_49 (by decide) ?_
        have hpost : σ = σ ∧ 0 ≤ (v48 : Int32).toInt ∧ (v48 : Int32).toInt < 4 := by exact ⟨rfl, by omega⟩
        exact W.iret (v := v48) hx hb hr (fun t9 ht hW => ⟨⟨v48, σ, rfl, hpost, by rw [ht]; exact hP, va_K.moved hW.alike hK, hD⟩, hS.F ht⟩) hS.2.2 dX3_heirAtTurn_54
    · skip
      have ic28 := zeq (a := v26.toInt) (b := 1) rfl (by decide) c28
      refine lv_iconst (v := 1) hx hb dX3_heirAtTurn_31 (by decide) ?_
      refine lv_goto (tgt := 36) hx hb dX3_heirAtTurn_32 (by decide) ?_
      refine lv_istore (lv' := [(5, .int 1), (4, .int v14), (3, .int v8), (0, .ref (a 5)), (1, .int x1), (2, .int x2)]) hx hb dX3_heirAtTurn_36 hl (by decide) rfl (fun ls hl => ?_)
      refine lv_iload hx hb dX3_heirAtTurn_38 (lv_at hl 0 rfl) ?_
      refine lv_if_eq (tgt := 52) hx hb dX3_heirAtTurn_40 (by decide) (fun c40 => ?_) (fun c40 => ?_)
      · skip
        have ic40 := zeq (a := 1) (b := 0) (by decide) (by decide) c40
        refine lv_iload hx hb dX3_heirAtTurn_52 (lv_at hl 1 rfl) ?_
        have hpost : σ = σ ∧ 0 ≤ (v14 : Int32).toInt ∧ (v14 : Int32).toInt < 4 := by exact ⟨rfl, by omega⟩
        exact W.iret (v := v14) hx hb hr (fun t9 ht hW => ⟨⟨v14, σ, rfl, hpost, by rw [ht]; exact hP, va_K.moved hW.alike hK, hD⟩, hS.F ht⟩) hS.2.2 dX3_heirAtTurn_54
      · skip
        have ic40 := zneq (a := 1) (b := 0) (by decide) (by decide) c40
        refine lv_iload_n hx hb dX3_heirAtTurn_43 rfl (lv_at hl 2 rfl) ?_
        refine lv_iconst (v := 1) hx hb dX3_heirAtTurn_44 (by decide) ?_
        refine lv_isub hx hb dX3_heirAtTurn_45 ?_
        refine lv_topi (fun v45 ev45 => ?_)
        have tv45 : v45.toInt = v8.toInt - 1 := by rw [ev45, zsub, show (1 : Int32).toInt = 1 from by decide]; omega
        refine lv_iload hx hb dX3_heirAtTurn_46 (lv_at hl 1 rfl) ?_
        refine lv_isub hx hb dX3_heirAtTurn_48 ?_
        refine lv_topi (fun v48 ev48 => ?_)
        have tv48 : v48.toInt = v45.toInt - v14.toInt := by rw [ev48, zsub]; omega
        refine lv_goto (tgt := 54) hx hb dX3_heirAtTurn_49 (by decide) ?_
        have hpost : σ = σ ∧ 0 ≤ (v48 : Int32).toInt ∧ (v48 : Int32).toInt < 4 := by exact ⟨rfl, by omega⟩
        exact W.iret (v := v48) hx hb hr (fun t9 ht hW => ⟨⟨v48, σ, rfl, hpost, by rw [ht]; exact hP, va_K.moved hW.alike hK, hD⟩, hS.F ht⟩) hS.2.2 dX3_heirAtTurn_54

abbrev RM_X3_takeTurnsWithLie : Room := { frames := 2, cells := 0, slots := 0, locals := 46 }
set_option maxHeartbeats 4000000 in
set_option maxRecDepth 100000 in
theorem c_X3_takeTurnsWithLie (l : Launch) (dC : Nat → ClassId) (dI : Nat → Nat → Nat) (cB cI cS cII : ClassId) (a : Nat → Nat) (N : (Nat → Prop) → State → Prop) (hok : zNok N) (hn : ∀ A U, N A U → zN U) (σ : Cn) (sz : Nat) (x1 : Int32) (x2 : Int32) (x3 : Int32) (x4 : Int32) (h0 : 0 ≤ (σ 4 1).toInt ∧ (σ 4 1).toInt ≤ 4) (hs : 0 ≤ (σ 5 2).toInt ∧ (σ 5 2).toInt ≤ 10) (hq : ∀ j : Nat, (j : Int) < (σ 5 2).toInt → 0 ≤ (σ 25 j).toInt ∧ (σ 25 j).toInt < 10) : Met l yX3_takeTurnsWithLie wsX3_takeTurnsWithLie RM_X3_takeTurnsWithLie (zPc (dC, dI) (zT cB cI cS cII) N (wX a cB cI cS cII) σ sz [.ref (a 5), .int x1, .int x2, .int x3, .int x4]) (zQv (dC, dI) (zT cB cI cS cII) (wX a cB cI cS cII) (va_A (wX a cB cI cS cII σ) sz) (fun (σ1 : Cn) => ∃ u26 : Nat → Int32, σ1 = (upC σ 26 u26) ∧ True)) 0 0 (va_A (wX a cB cI cS cII σ) sz) := by
  refine Met.ofW (cc := cX3_takeTurnsWithLie) (maxL := 11) (ret := none) (by decide) rfl ?_
  intro p e s m args below meth c s₁ B hml hv
  obtain ⟨rfl, hsz, hP, hK, hD0, hN⟩ := hv
  have hx := B.exec
  have hb := B.bytes
  have hr := B.returns
  have hts := atoms_spec (ws := wsX3_takeTurnsWithLie) B.pre
  have hown : s.vm.findClass RX3 = some m.cls := findClass_of_methodNamed B.named
  have hlocks := B.notSynchronized
  subst hsz
  have hD := hD0.self (sz := s.heap.size)
  generalize hAe : va_A (wX a cB cI cS cII σ) s.heap.size = A at hD hN ⊢
  have hA : ∀ q : Nat, s.heap.size ≤ q → A q := fun q h => by rw [← hAe]; exact Or.inr h
  clear hAe hD0
  have hS : va_S A s.heap s.heap [] := va_S.rf
  have in1 : ∀ w ∈ u_ws RX1 TX1 9, w ∈ wsX3_takeTurnsWithLie := by decide +kernel
  have in3 : ∀ w ∈ u_ws RX3 TX3 4, w ∈ wsX3_takeTurnsWithLie := by decide +kernel
  have k15 := hts (.fieldLink RX3 15 "HouseSorted$Sharing" "taker" "[I") (by decide +kernel)
  have k18 := hts (.fieldLink RX3 18 "HouseSorted$Sharing" "house" "LHouseSorted$House;") (by decide +kernel)
  have k22 := hts (.fieldLink RX3 22 "HouseSorted$Sharing" "size" "I") (by decide +kernel)
  have k49 := hts (.fieldLink RX3 49 "HouseSorted$House" "worth" "[[I") (by decide +kernel)
  have k9 := hts (.fieldLink RX3 9 "HouseSorted$Sharing" "shared" "[I") (by decide +kernel)
  have LP : ∀ n : Nat, (∀ (j : Int32) (w26 : Nat → Int32) (H : Heap) (locs : List Loc) (ls : Array Slot), 0 ≤ j.toInt ∧ j.toInt ≤ 10 → (2000 + (10 - j.toInt).toNat) < n → va_P (dC, dI) vwCl (wX a cB cI cS cII (upC σ 26 w26)) H → va_D A (wX a cB cI cS cII (upC σ 26 w26)) → va_S A s.heap H locs → lv_has ls 11 [(0, .ref (a 5)), (1, .int x1), (2, .int x2), (3, .int x3), (4, .int x4), (5, .int j)] → W p l e (headSpec wsX3_takeTurnsWithLie RM_X3_takeTurnsWithLie).room s m ([.ref (a 5), .int x1, .int x2, .int x3, .int x4] : List Value).toArray below meth c H locs 0 0 (MQ below (zQv (dC, dI) (zT cB cI cS cII) (wX a cB cI cS cII) A (fun (σ1 : Cn) => ∃ u26 : Nat → Int32, σ1 = (upC σ 26 u26) ∧ True)) ([.ref (a 5), .int x1, .int x2, .int x3, .int x4] : List Value).toArray s 0 0 A) (F0 m 3 ls [])) ∧ (∀ (j : Int32) (w26 : Nat → Int32) (H : Heap) (locs : List Loc) (ls : Array Slot), 0 ≤ j.toInt ∧ j.toInt ≤ 10 → ((10 - j.toInt).toNat * 20) < n → va_P (dC, dI) vwCl (wX a cB cI cS cII (upC σ 26 w26)) H → va_D A (wX a cB cI cS cII (upC σ 26 w26)) → va_S A s.heap H locs → lv_has ls 11 [(0, .ref (a 5)), (1, .int x1), (2, .int x2), (3, .int x3), (4, .int x4), (5, .int j)] → W p l e (headSpec wsX3_takeTurnsWithLie RM_X3_takeTurnsWithLie).room s m ([.ref (a 5), .int x1, .int x2, .int x3, .int x4] : List Value).toArray below meth c H locs 0 0 (MQ below (zQv (dC, dI) (zT cB cI cS cII) (wX a cB cI cS cII) A (fun (σ1 : Cn) => ∃ u26 : Nat → Int32, σ1 = (upC σ 26 u26) ∧ True)) ([.ref (a 5), .int x1, .int x2, .int x3, .int x4] : List Value).toArray s 0 0 A) (F0 m 29 ls [])) ∧ (∀ (j : Int32) (hr : Int32) (wi : Int32) (mo : Int32) (k : Int32) (w26 : Nat → Int32) (H : Heap) (locs : List Loc) (ls : Array Slot), 0 ≤ j.toInt ∧ j.toInt < 10 → 0 ≤ hr.toInt ∧ hr.toInt < 4 → -1 ≤ wi.toInt ∧ wi.toInt < 10 → 0 ≤ k.toInt ∧ k.toInt ≤ 10 → ((9 - j.toInt).toNat * 20 + (10 - k.toInt).toNat + 1) < n → va_P (dC, dI) vwCl (wX a cB cI cS cII (upC σ 26 w26)) H → va_D A (wX a cB cI cS cII (upC σ 26 w26)) → va_S A s.heap H locs → lv_has ls 11 [(0, .ref (a 5)), (1, .int x1), (2, .int x2), (3, .int x3), (4, .int x4), (5, .int j), (6, .int hr), (7, .int wi), (8, .int mo), (9, .int k)] → W p l e (headSpec wsX3_takeTurnsWithLie RM_X3_takeTurnsWithLie).room s m ([.ref (a 5), .int x1, .int x2, .int x3, .int x4] : List Value).toArray below meth c H locs 0 0 (MQ below (zQv (dC, dI) (zT cB cI cS cII) (wX a cB cI cS cII) A (fun (σ1 : Cn) => ∃ u26 : Nat → Int32, σ1 = (upC σ 26 u26) ∧ True)) ([.ref (a 5), .int x1, .int x2, .int x3, .int x4] : List Value).toArray s 0 0 A) (F0 m 56 ls [])) := by
    intro n
    induction n with
    | zero => exact ⟨(by intros; omega), (by intros; omega), (by intros; omega)⟩
    | succ n ih =>
      refine ⟨?_, ?_, ?_⟩
      · intro j w26 H locs ls g1 hmu hP hD hS hl
        refine lv_iload hx hb dX3_takeTurnsWithLie_3 (lv_at hl 5 rfl) ?_
        refine lv_aload_n hx hb dX3_takeTurnsWithLie_5 rfl (lv_at hl 0 rfl) ?_
        refine va_get (D := (dC, dI)) (ci := 3) (v := .int (σ 5 2)) (C := RX3) (T := TX3) (N := 4) hx hb hts in3 hown hK hP 5 rfl rfl 2 (by decide) k22 (fun _ h9 => h9) rfl dX3_takeTurnsWithLie_6 ?_
        refine lv_icmp_ge (tgt := 26) hx hb dX3_takeTurnsWithLie_9 (by decide) (fun c9 => ?_) (fun c9 => ?_)
        · skip
          have ic9 := zle (a := (σ 5 2).toInt) (b := j.toInt) rfl rfl c9
          refine lv_iconst (v := 0) hx hb dX3_takeTurnsWithLie_26 (by decide) ?_
          refine lv_istore (lv' := [(5, .int 0), (0, .ref (a 5)), (1, .int x1), (2, .int x2), (3, .int x3), (4, .int x4)]) hx hb dX3_takeTurnsWithLie_27 hl (by decide) rfl (fun ls hl => ?_)
          exact ih.2.1 (0) (w26) H locs ls (by first | omega | decide) (by first | omega | (rw [show (0 : Int32).toInt = 0 from by decide]; omega)) hP hD hS (lv_sub hl [1, 2, 3, 4, 5, 0] rfl)
        · skip
          have ic9 := znle (a := (σ 5 2).toInt) (b := j.toInt) rfl rfl c9
          refine lv_aload_n hx hb dX3_takeTurnsWithLie_12 rfl (lv_at hl 0 rfl) ?_
          refine va_get (D := (dC, dI)) (ci := 3) (v := .ref (a 26)) (C := RX3) (T := TX3) (N := 4) hx hb hts in3 hown hK hP 5 rfl rfl 3 (by decide) k15 (fun _ h9 => h9) rfl dX3_takeTurnsWithLie_13 ?_
          refine lv_iload hx hb dX3_takeTurnsWithLie_16 (lv_at hl 5 rfl) ?_
          refine lv_iconst (v := (-1)) hx hb dX3_takeTurnsWithLie_18 (by decide) ?_
          refine va_iast (D := (dC, dI)) (f := w26) hx hb hK hP hD hS 26 1 rfl rfl (i := j) (n := 10) (zin (by omega) (by omega)) dX3_takeTurnsWithLie_19 (fun H locs hP hD hS => ?_)
          have hP : va_P (dC, dI) vwCl (wX a cB cI cS cII (upC σ 26 (upd (w26) (j).toNatClampNeg (-1)))) H := hP
          have hD : va_D A (wX a cB cI cS cII (upC σ 26 (upd (w26) (j).toNatClampNeg (-1)))) := hD
          obtain ⟨v20, ev20⟩ : ∃ y : Int32, y = j + 1 := ⟨_, rfl⟩
          refine lv_iinc (v := v20) (lv' := [(5, .int v20), (0, .ref (a 5)), (1, .int x1), (2, .int x2), (3, .int x3), (4, .int x4)]) hx hb dX3_takeTurnsWithLie_20 hl (k := 5) rfl (by rw [ev20]; rfl) (by decide) rfl (fun ls hl => ?_)
          have tv20 : v20.toInt = j.toInt + 1 := by rw [ev20, zadd, show (1 : Int32).toInt = 1 from by decide]; omega
          refine lv_goto (tgt := 3) hx hb dX3_takeTurnsWithLie_23 (by decide) ?_
          exact ih.1 (v20) (upd (w26) (j).toNatClampNeg (-1)) H locs ls (by omega) (by omega) hP hD hS (lv_sub hl [1, 2, 3, 4, 5, 0] rfl)
      · intro j w26 H locs ls g1 hmu hP hD hS hl
        refine lv_iload hx hb dX3_takeTurnsWithLie_29 (lv_at hl 5 rfl) ?_
        refine lv_aload_n hx hb dX3_takeTurnsWithLie_31 rfl (lv_at hl 0 rfl) ?_
        refine va_get (D := (dC, dI)) (ci := 3) (v := .int (σ 5 2)) (C := RX3) (T := TX3) (N := 4) hx hb hts in3 hown hK hP 5 rfl rfl 2 (by decide) k22 (fun _ h9 => h9) rfl dX3_takeTurnsWithLie_32 ?_
        refine lv_icmp_ge (tgt := 163) hx hb dX3_takeTurnsWithLie_35 (by decide) (fun c35 => ?_) (fun c35 => ?_)
        · skip
          have ic35 := zle (a := (σ 5 2).toInt) (b := j.toInt) rfl rfl c35
          have hpost : ∃ u26 : Nat → Int32, (upC σ 26 w26) = (upC σ 26 u26) ∧ True := by exact ⟨_, rfl, trivial⟩
          exact W.vret hx hb hr (fun t9 ht hW => ⟨⟨(upC σ 26 w26), rfl, hpost, by rw [ht]; exact hP, va_K.moved hW.alike hK, hD⟩, hS.F ht⟩) hS.2.2 dX3_takeTurnsWithLie_163
        · skip
          have ic35 := znle (a := (σ 5 2).toInt) (b := j.toInt) rfl rfl c35
          refine lv_aload_n hx hb dX3_takeTurnsWithLie_38 rfl (lv_at hl 0 rfl) ?_
          refine lv_iload_n hx hb dX3_takeTurnsWithLie_39 rfl (lv_at hl 1 rfl) ?_
          refine lv_iload hx hb dX3_takeTurnsWithLie_40 (lv_at hl 5 rfl) ?_
          refine zcalli (va_runV (As := [.int x1, .int j]) (rest := []) ⟨hx, hb, hml, hown, hts⟩ (c_X3_heirAtTurn l dC dI cB cI cS cII a N hok hn (upC σ 26 w26) H.size (x1) (j) h0 (by omega)) (cwV 2 hts gX3_takeTurnsWithLie_X3_heirAtTurn rfl rfl rfl (by decide +kernel) ⟨Nat.le_of_ble_eq_true rfl, Nat.le_of_ble_eq_true rfl⟩) (zpreV (wf := wX a cB cI cS cII) (q0 := 5) (ci := 3) hok hN hS hA hK hP hD rfl rfl) rfl rfl hl.1 rfl (lv_room (Nat.le_of_ble_eq_true rfl)) dX3_takeTurnsWithLie_42 ⟨Nat.zero_le _, Nat.zero_le _⟩) hD hS hA (fun v42 σ1 H locs hv42 hP hD hS => ?_)
          obtain ⟨es9, hv42⟩ := hv42
          subst σ1
          refine lv_istore (lv' := [(6, .int v42), (0, .ref (a 5)), (1, .int x1), (2, .int x2), (3, .int x3), (4, .int x4), (5, .int j)]) hx hb dX3_takeTurnsWithLie_45 hl (by decide) rfl (fun ls hl => ?_)
          refine lv_iconst (v := (-1)) hx hb dX3_takeTurnsWithLie_47 (by decide) ?_
          refine lv_istore (lv' := [(7, .int (-1)), (6, .int v42), (0, .ref (a 5)), (1, .int x1), (2, .int x2), (3, .int x3), (4, .int x4), (5, .int j)]) hx hb dX3_takeTurnsWithLie_48 hl (by decide) rfl (fun ls hl => ?_)
          refine lv_iconst (v := (-1)) hx hb dX3_takeTurnsWithLie_50 (by decide) ?_
          refine lv_istore (lv' := [(8, .int (-1)), (7, .int (-1)), (6, .int v42), (0, .ref (a 5)), (1, .int x1), (2, .int x2), (3, .int x3), (4, .int x4), (5, .int j)]) hx hb dX3_takeTurnsWithLie_51 hl (by decide) rfl (fun ls hl => ?_)
          refine lv_iconst (v := 0) hx hb dX3_takeTurnsWithLie_53 (by decide) ?_
          refine lv_istore (lv' := [(9, .int 0), (8, .int (-1)), (7, .int (-1)), (6, .int v42), (0, .ref (a 5)), (1, .int x1), (2, .int x2), (3, .int x3), (4, .int x4), (5, .int j)]) hx hb dX3_takeTurnsWithLie_54 hl (by decide) rfl (fun ls hl => ?_)
          exact ih.2.2 (j) (v42) ((-1)) ((-1)) (0) (w26) H locs ls (by omega) (by omega) (by first | omega | decide) (by first | omega | decide) (by first | omega | (rw [show (0 : Int32).toInt = 0 from by decide]; omega)) hP hD hS (lv_sub hl [4, 5, 6, 7, 8, 9, 3, 2, 1, 0] rfl)
      · intro j hr wi mo k w26 H locs ls g1 g2 g3 g4 hmu hP hD hS hl
        refine lv_iload hx hb dX3_takeTurnsWithLie_56 (lv_at hl 9 rfl) ?_
        refine lv_aload_n hx hb dX3_takeTurnsWithLie_58 rfl (lv_at hl 0 rfl) ?_
        refine va_get (D := (dC, dI)) (ci := 3) (v := .int (σ 5 2)) (C := RX3) (T := TX3) (N := 4) hx hb hts in3 hown hK hP 5 rfl rfl 2 (by decide) k22 (fun _ h9 => h9) rfl dX3_takeTurnsWithLie_59 ?_
        refine lv_icmp_ge (tgt := 142) hx hb dX3_takeTurnsWithLie_62 (by decide) (fun c62 => ?_) (fun c62 => ?_)
        · skip
          have ic62 := zle (a := (σ 5 2).toInt) (b := k.toInt) rfl rfl c62
          refine lv_iload hx hb dX3_takeTurnsWithLie_142 (lv_at hl 7 rfl) ?_
          refine lv_iconst (v := (-1)) hx hb dX3_takeTurnsWithLie_144 (by decide) ?_
          refine lv_icmp_eq (tgt := 157) hx hb dX3_takeTurnsWithLie_145 (by decide) (fun c145 => ?_) (fun c145 => ?_)
          · skip
            have ic145 := zeq (a := wi.toInt) (b := (-1)) rfl (by decide) c145
            obtain ⟨v157, ev157⟩ : ∃ y : Int32, y = j + 1 := ⟨_, rfl⟩
            refine lv_iinc (v := v157) (lv' := [(5, .int v157), (0, .ref (a 5)), (1, .int x1), (2, .int x2), (3, .int x3), (4, .int x4), (6, .int hr), (7, .int wi), (8, .int mo), (9, .int k)]) hx hb dX3_takeTurnsWithLie_157 hl (k := 5) rfl (by rw [ev157]; rfl) (by decide) rfl (fun ls hl => ?_)
            have tv157 : v157.toInt = j.toInt + 1 := by rw [ev157, zadd, show (1 : Int32).toInt = 1 from by decide]; omega
            refine lv_goto (tgt := 29) hx hb dX3_takeTurnsWithLie_160 (by decide) ?_
            exact ih.2.1 (v157) (w26) H locs ls (by first | omega | decide) (by first | omega | (rw [show (0 : Int32).toInt = 0 from by decide]; omega)) hP hD hS (lv_sub hl [1, 2, 3, 4, 5, 0] rfl)
          · skip
            have ic145 := zneq (a := wi.toInt) (b := (-1)) rfl (by decide) c145
            refine lv_aload_n hx hb dX3_takeTurnsWithLie_148 rfl (lv_at hl 0 rfl) ?_
            refine va_get (D := (dC, dI)) (ci := 3) (v := .ref (a 26)) (C := RX3) (T := TX3) (N := 4) hx hb hts in3 hown hK hP 5 rfl rfl 3 (by decide) k15 (fun _ h9 => h9) rfl dX3_takeTurnsWithLie_149 ?_
            refine lv_iload hx hb dX3_takeTurnsWithLie_152 (lv_at hl 7 rfl) ?_
            refine lv_iload hx hb dX3_takeTurnsWithLie_154 (lv_at hl 6 rfl) ?_
            refine va_iast (D := (dC, dI)) (f := w26) hx hb hK hP hD hS 26 1 rfl rfl (i := wi) (n := 10) (zin (by omega) (by omega)) dX3_takeTurnsWithLie_156 (fun H locs hP hD hS => ?_)
            have hP : va_P (dC, dI) vwCl (wX a cB cI cS cII (upC σ 26 (upd (w26) (wi).toNatClampNeg hr))) H := hP
            have hD : va_D A (wX a cB cI cS cII (upC σ 26 (upd (w26) (wi).toNatClampNeg hr))) := hD
            obtain ⟨v157, ev157⟩ : ∃ y : Int32, y = j + 1 := ⟨_, rfl⟩
            refine lv_iinc (v := v157) (lv' := [(5, .int v157), (0, .ref (a 5)), (1, .int x1), (2, .int x2), (3, .int x3), (4, .int x4), (6, .int hr), (7, .int wi), (8, .int mo), (9, .int k)]) hx hb dX3_takeTurnsWithLie_157 hl (k := 5) rfl (by rw [ev157]; rfl) (by decide) rfl (fun ls hl => ?_)
            have tv157 : v157.toInt = j.toInt + 1 := by rw [ev157, zadd, show (1 : Int32).toInt = 1 from by decide]; omega
            refine lv_goto (tgt := 29) hx hb dX3_takeTurnsWithLie_160 (by decide) ?_
            exact ih.2.1 (v157) (upd (w26) (wi).toNatClampNeg hr) H locs ls (by first | omega | decide) (by first | omega | (rw [show (0 : Int32).toInt = 0 from by decide]; omega)) hP hD hS (lv_sub hl [1, 2, 3, 4, 5, 0] rfl)
        · skip
          have ic62 := znle (a := (σ 5 2).toInt) (b := k.toInt) rfl rfl c62
          refine lv_aload_n hx hb dX3_takeTurnsWithLie_65 rfl (lv_at hl 0 rfl) ?_
          refine va_get (D := (dC, dI)) (ci := 3) (v := .ref (a 26)) (C := RX3) (T := TX3) (N := 4) hx hb hts in3 hown hK hP 5 rfl rfl 3 (by decide) k15 (fun _ h9 => h9) rfl dX3_takeTurnsWithLie_66 ?_
          refine lv_iload hx hb dX3_takeTurnsWithLie_69 (lv_at hl 9 rfl) ?_
          refine va_iald (D := (dC, dI)) (f := w26) hx hb hK hP 26 1 rfl rfl (i := k) (n := 10) (zin (by omega) (by omega)) dX3_takeTurnsWithLie_71 ?_
          refine lv_topi (fun v71 ev71 => ?_)
          have tv71 := congrArg Int32.toInt ev71
          refine lv_iconst (v := (-1)) hx hb dX3_takeTurnsWithLie_72 (by decide) ?_
          refine lv_icmp_eq (tgt := 79) hx hb dX3_takeTurnsWithLie_73 (by decide) (fun c73 => ?_) (fun c73 => ?_)
          · skip
            have ic73 := zeq (a := v71.toInt) (b := (-1)) rfl (by decide) c73
            refine lv_iload hx hb dX3_takeTurnsWithLie_79 (lv_at hl 6 rfl) ?_
            refine lv_iload_n hx hb dX3_takeTurnsWithLie_81 rfl (lv_at hl 2 rfl) ?_
            refine lv_icmp_ne (tgt := 101) hx hb dX3_takeTurnsWithLie_82 (by decide) (fun c82 => ?_) (fun c82 => ?_)
            · skip
              have ic82 := zneq (a := hr.toInt) (b := x2.toInt) rfl rfl c82
              refine lv_aload_n hx hb dX3_takeTurnsWithLie_101 rfl (lv_at hl 0 rfl) ?_
              refine va_get (D := (dC, dI)) (ci := 3) (v := .ref (a 4)) (C := RX3) (T := TX3) (N := 4) hx hb hts in3 hown hK hP 5 rfl rfl 0 (by decide) k18 (fun _ h9 => h9) rfl dX3_takeTurnsWithLie_102 ?_
              refine va_get (D := (dC, dI)) (ci := 1) (v := .ref (a 20)) (C := RX1) (T := TX1) (N := 9) hx hb hts in1 hown hK hP 4 rfl rfl 8 (by decide) k49 (fun _ h9 => h9) rfl dX3_takeTurnsWithLie_105 ?_
              refine lv_iload hx hb dX3_takeTurnsWithLie_108 (lv_at hl 6 rfl) ?_
              have hr110 : (hr).toNatClampNeg < 4 := by have h9 := zcl (x := hr) (by omega); omega
              refine zald hx hb hK hP 20 3 rfl rfl (i := hr) (n := 4) (zin (by omega) (by omega)) (zro_in hr110) dX3_takeTurnsWithLie_110 ?_
              refine lv_aload_n hx hb dX3_takeTurnsWithLie_111 rfl (lv_at hl 0 rfl) ?_
              refine va_get (D := (dC, dI)) (ci := 3) (v := .ref (a 25)) (C := RX3) (T := TX3) (N := 4) hx hb hts in3 hown hK hP 5 rfl rfl 1 (by decide) k9 (fun _ h9 => h9) rfl dX3_takeTurnsWithLie_112 ?_
              refine lv_iload hx hb dX3_takeTurnsWithLie_115 (lv_at hl 9 rfl) ?_
              refine va_iald (D := (dC, dI)) (f := σ 25) hx hb hK hP 25 1 rfl rfl (i := k) (n := 10) (zin (by omega) (by omega)) dX3_takeTurnsWithLie_117 ?_
              refine lv_topi (fun v117 ev117 => ?_)
              have tv117 := congrArg Int32.toInt ev117
              have hb9 := hq ((k).toNatClampNeg) (by have q := zcl (x := k) (by omega); omega)
              refine va_iald (D := (dC, dI)) (f := (upC σ 26 w26) (21 + (hr).toNatClampNeg)) hx hb hK hP (21 + (hr).toNatClampNeg) 1 (wX_row21 hr110) rfl (i := v117) (n := 10) (zin (by omega) (by omega)) dX3_takeTurnsWithLie_118 ?_
              refine lv_topi (fun v118 ev118 => ?_)
              have tv118 := congrArg Int32.toInt ev118
              refine lv_istore (lv' := [(10, .int v118), (0, .ref (a 5)), (1, .int x1), (2, .int x2), (3, .int x3), (4, .int x4), (5, .int j), (6, .int hr), (7, .int wi), (8, .int mo), (9, .int k)]) hx hb dX3_takeTurnsWithLie_119 hl (by decide) rfl (fun ls hl => ?_)
              refine lv_iload hx hb dX3_takeTurnsWithLie_121 (lv_at hl 0 rfl) ?_
              refine lv_iload hx hb dX3_takeTurnsWithLie_123 (lv_at hl 9 rfl) ?_
              refine lv_icmp_le (tgt := 136) hx hb dX3_takeTurnsWithLie_125 (by decide) (fun c125 => ?_) (fun c125 => ?_)
              · skip
                have ic125 := zle (a := v118.toInt) (b := mo.toInt) rfl rfl c125
                obtain ⟨v136, ev136⟩ : ∃ y : Int32, y = k + 1 := ⟨_, rfl⟩
                refine lv_iinc (v := v136) (lv' := [(9, .int v136), (10, .int v118), (0, .ref (a 5)), (1, .int x1), (2, .int x2), (3, .int x3), (4, .int x4), (5, .int j), (6, .int hr), (7, .int wi), (8, .int mo)]) hx hb dX3_takeTurnsWithLie_136 hl (k := 10) rfl (by rw [ev136]; rfl) (by decide) rfl (fun ls hl => ?_)
                have tv136 : v136.toInt = k.toInt + 1 := by rw [ev136, zadd, show (1 : Int32).toInt = 1 from by decide]; omega
                refine lv_goto (tgt := 56) hx hb dX3_takeTurnsWithLie_139 (by decide) ?_
                exact ih.2.2 (j) (hr) (wi) (mo) (v136) (w26) H locs ls (by omega) (by omega) (by first | omega | decide) (by first | omega | decide) (by first | omega | (rw [show (0 : Int32).toInt = 0 from by decide]; omega)) hP hD hS (lv_sub hl [2, 3, 4, 5, 6, 7, 8, 9, 10, 0] rfl)
              · skip
                have ic125 := znle (a := v118.toInt) (b := mo.toInt) rfl rfl c125
                refine lv_iload hx hb dX3_takeTurnsWithLie_128 (lv_at hl 0 rfl) ?_
                refine lv_istore (lv' := [(8, .int v118), (10, .int v118), (0, .ref (a 5)), (1, .int x1), (2, .int x2), (3, .int x3), (4, .int x4), (5, .int j), (6, .int hr), (7, .int wi), (9, .int k)]) hx hb dX3_takeTurnsWithLie_130 hl (by decide) rfl (fun ls hl => ?_)
                refine lv_iload hx hb dX3_takeTurnsWithLie_132 (lv_at hl 10 rfl) ?_
                refine lv_istore (lv' := [(7, .int k), (8, .int v118), (10, .int v118), (0, .ref (a 5)), (1, .int x1), (2, .int x2), (3, .int x3), (4, .int x4), (5, .int j), (6, .int hr), (9, .int k)]) hx hb dX3_takeTurnsWithLie_134 hl (by decide) rfl (fun ls hl => ?_)
                obtain ⟨v136, ev136⟩ : ∃ y : Int32, y = k + 1 := ⟨_, rfl⟩
                refine lv_iinc (v := v136) (lv' := [(9, .int v136), (7, .int k), (8, .int v118), (10, .int v118), (0, .ref (a 5)), (1, .int x1), (2, .int x2), (3, .int x3), (4, .int x4), (5, .int j), (6, .int hr)]) hx hb dX3_takeTurnsWithLie_136 hl (k := 10) rfl (by rw [ev136]; rfl) (by decide) rfl (fun ls hl => ?_)
                have tv136 : v136.toInt = k.toInt + 1 := by rw [ev136, zadd, show (1 : Int32).toInt = 1 from by decide]; omega
                refine lv_goto (tgt := 56) hx hb dX3_takeTurnsWithLie_139 (by decide) ?_
                exact ih.2.2 (j) (hr) (k) (v118) (v136) (w26) H locs ls (by omega) (by omega) (by first | omega | decide) (by first | omega | decide) (by first | omega | (rw [show (0 : Int32).toInt = 0 from by decide]; omega)) hP hD hS (lv_sub hl [4, 5, 6, 7, 8, 9, 10, 1, 2, 0] rfl)
            · skip
              have ic82 := zeq (a := hr.toInt) (b := x2.toInt) rfl rfl c82
              refine lv_aload_n hx hb dX3_takeTurnsWithLie_85 rfl (lv_at hl 0 rfl) ?_
              refine va_get (D := (dC, dI)) (ci := 3) (v := .ref (a 25)) (C := RX3) (T := TX3) (N := 4) hx hb hts in3 hown hK hP 5 rfl rfl 1 (by decide) k9 (fun _ h9 => h9) rfl dX3_takeTurnsWithLie_86 ?_
              refine lv_iload hx hb dX3_takeTurnsWithLie_89 (lv_at hl 9 rfl) ?_
              refine va_iald (D := (dC, dI)) (f := σ 25) hx hb hK hP 25 1 rfl rfl (i := k) (n := 10) (zin (by omega) (by omega)) dX3_takeTurnsWithLie_91 ?_
              refine lv_topi (fun v91 ev91 => ?_)
              have tv91 := congrArg Int32.toInt ev91
              refine lv_iload_n hx hb dX3_takeTurnsWithLie_92 rfl (lv_at hl 3 rfl) ?_
              refine lv_icmp_ne (tgt := 101) hx hb dX3_takeTurnsWithLie_93 (by decide) (fun c93 => ?_) (fun c93 => ?_)
              · skip
                have ic93 := zneq (a := v91.toInt) (b := x3.toInt) rfl rfl c93
                refine lv_aload_n hx hb dX3_takeTurnsWithLie_101 rfl (lv_at hl 0 rfl) ?_
                refine va_get (D := (dC, dI)) (ci := 3) (v := .ref (a 4)) (C := RX3) (T := TX3) (N := 4) hx hb hts in3 hown hK hP 5 rfl rfl 0 (by decide) k18 (fun _ h9 => h9) rfl dX3_takeTurnsWithLie_102 ?_
                refine va_get (D := (dC, dI)) (ci := 1) (v := .ref (a 20)) (C := RX1) (T := TX1) (N := 9) hx hb hts in1 hown hK hP 4 rfl rfl 8 (by decide) k49 (fun _ h9 => h9) rfl dX3_takeTurnsWithLie_105 ?_
                refine lv_iload hx hb dX3_takeTurnsWithLie_108 (lv_at hl 6 rfl) ?_
                have hr110 : (hr).toNatClampNeg < 4 := by have h9 := zcl (x := hr) (by omega); omega
                refine zald hx hb hK hP 20 3 rfl rfl (i := hr) (n := 4) (zin (by omega) (by omega)) (zro_in hr110) dX3_takeTurnsWithLie_110 ?_
                refine lv_aload_n hx hb dX3_takeTurnsWithLie_111 rfl (lv_at hl 0 rfl) ?_
                refine va_get (D := (dC, dI)) (ci := 3) (v := .ref (a 25)) (C := RX3) (T := TX3) (N := 4) hx hb hts in3 hown hK hP 5 rfl rfl 1 (by decide) k9 (fun _ h9 => h9) rfl dX3_takeTurnsWithLie_112 ?_
                refine lv_iload hx hb dX3_takeTurnsWithLie_115 (lv_at hl 9 rfl) ?_
                refine va_iald (D := (dC, dI)) (f := σ 25) hx hb hK hP 25 1 rfl rfl (i := k) (n := 10) (zin (by omega) (by omega)) dX3_takeTurnsWithLie_117 ?_
                refine lv_topi (fun v117 ev117 => ?_)
                have tv117 := congrArg Int32.toInt ev117
                have hb9 := hq ((k).toNatClampNeg) (by have q := zcl (x := k) (by omega); omega)
                refine va_iald (D := (dC, dI)) (f := (upC σ 26 w26) (21 + (hr).toNatClampNeg)) hx hb hK hP (21 + (hr).toNatClampNeg) 1 (wX_row21 hr110) rfl (i := v117) (n := 10) (zin (by omega) (by omega)) dX3_takeTurnsWithLie_118 ?_
                refine lv_topi (fun v118 ev118 => ?_)
                have tv118 := congrArg Int32.toInt ev118
                refine lv_istore (lv' := [(10, .int v118), (0, .ref (a 5)), (1, .int x1), (2, .int x2), (3, .int x3), (4, .int x4), (5, .int j), (6, .int hr), (7, .int wi), (8, .int mo), (9, .int k)]) hx hb dX3_takeTurnsWithLie_119 hl (by decide) rfl (fun ls hl => ?_)
                refine lv_iload hx hb dX3_takeTurnsWithLie_121 (lv_at hl 0 rfl) ?_
                refine lv_iload hx hb dX3_takeTurnsWithLie_123 (lv_at hl 9 rfl) ?_
                refine lv_icmp_le (tgt := 136) hx hb dX3_takeTurnsWithLie_125 (by decide) (fun c125 => ?_) (fun c125 => ?_)
                · skip
                  have ic125 := zle (a := v118.toInt) (b := mo.toInt) rfl rfl c125
                  obtain ⟨v136, ev136⟩ : ∃ y : Int32, y = k + 1 := ⟨_, rfl⟩
                  refine lv_iinc (v := v136) (lv' := [(9, .int v136), (10, .int v118), (0, .ref (a 5)), (1, .int x1), (2, .int x2), (3, .int x3), (4, .int x4), (5, .int j), (6, .int hr), (7, .int wi), (8, .int mo)]) hx hb dX3_takeTurnsWithLie_136 hl (k := 10) rfl (by rw [ev136]; rfl) (by decide) rfl (fun ls hl => ?_)
                  have tv136 : v136.toInt = k.toInt + 1 := by rw [ev136, zadd, show (1 : Int32).toInt = 1 from by decide]; omega
                  refine lv_goto (tgt := 56) hx hb dX3_takeTurnsWithLie_139 (by decide) ?_
                  exact ih.2.2 (j) (hr) (wi) (mo) (v136) (w26) H locs ls (by omega) (by omega) (by first | omega | decide) (by first | omega | decide) (by first | omega | (rw [show (0 : Int32).toInt = 0 from by decide]; omega)) hP hD hS (lv_sub hl [2, 3, 4, 5, 6, 7, 8, 9, 10, 0] rfl)
                · skip
                  have ic125 := znle (a := v118.toInt) (b := mo.toInt) rfl rfl c125
                  refine lv_iload hx hb dX3_takeTurnsWithLie_128 (lv_at hl 0 rfl) ?_
                  refine lv_istore (lv' := [(8, .int v118), (10, .int v118), (0, .ref (a 5)), (1, .int x1), (2, .int x2), (3, .int x3), (4, .int x4), (5, .int j), (6, .int hr), (7, .int wi), (9, .int k)]) hx hb dX3_takeTurnsWithLie_130 hl (by decide) rfl (fun ls hl => ?_)
                  refine lv_iload hx hb dX3_takeTurnsWithLie_132 (lv_at hl 10 rfl) ?_
                  refine lv_istore (lv' := [(7, .int k), (8, .int v118), (10, .int v118), (0, .ref (a 5)), (1, .int x1), (2, .int x2), (3, .int x3), (4, .int x4), (5, .int j), (6, .int hr), (9, .int k)]) hx hb dX3_takeTurnsWithLie_134 hl (by decide) rfl (fun ls hl => ?_)
                  obtain ⟨v136, ev136⟩ : ∃ y : Int32, y = k + 1 := ⟨_, rfl⟩
                  refine lv_iinc (v := v136) (lv' := [(9, .int v136), (7, .int k), (8, .int v118), (10, .int v118), (0, .ref (a 5)), (1, .int x1), (2, .int x2), (3, .int x3), (4, .int x4), (5, .int j), (6, .int hr)]) hx hb dX3_takeTurnsWithLie_136 hl (k := 10) rfl (by rw [ev136]; rfl) (by decide) rfl (fun ls hl => ?_)
                  have tv136 : v136.toInt = k.toInt + 1 := by rw [ev136, zadd, show (1 : Int32).toInt = 1 from by decide]; omega
                  refine lv_goto (tgt := 56) hx hb dX3_takeTurnsWithLie_139 (by decide) ?_
                  exact ih.2.2 (j) (hr) (k) (v118) (v136) (w26) H locs ls (by omega) (by omega) (by first | omega | decide) (by first | omega | decide) (by first | omega | (rw [show (0 : Int32).toInt = 0 from by decide]; omega)) hP hD hS (lv_sub hl [4, 5, 6, 7, 8, 9, 10, 1, 2, 0] rfl)
              · skip
                have ic93 := zeq (a := v91.toInt) (b := x3.toInt) rfl rfl c93
                refine lv_iload hx hb dX3_takeTurnsWithLie_96 (lv_at hl 4 rfl) ?_
                refine lv_goto (tgt := 119) hx hb dX3_takeTurnsWithLie_98 (by decide) ?_
                refine lv_istore (lv' := [(10, .int x4), (0, .ref (a 5)), (1, .int x1), (2, .int x2), (3, .int x3), (4, .int x4), (5, .int j), (6, .int hr), (7, .int wi), (8, .int mo), (9, .int k)]) hx hb dX3_takeTurnsWithLie_119 hl (by decide) rfl (fun ls hl => ?_)
                refine lv_iload hx hb dX3_takeTurnsWithLie_121 (lv_at hl 0 rfl) ?_
                refine lv_iload hx hb dX3_takeTurnsWithLie_123 (lv_at hl 9 rfl) ?_
                refine lv_icmp_le (tgt := 136) hx hb dX3_takeTurnsWithLie_125 (by decide) (fun c125 => ?_) (fun c125 => ?_)
                · skip
                  have ic125 := zle (a := x4.toInt) (b := mo.toInt) rfl rfl c125
                  obtain ⟨v136, ev136⟩ : ∃ y : Int32, y = k + 1 := ⟨_, rfl⟩
                  refine lv_iinc (v := v136) (lv' := [(9, .int v136), (10, .int x4), (0, .ref (a 5)), (1, .int x1), (2, .int x2), (3, .int x3), (4, .int x4), (5, .int j), (6, .int hr), (7, .int wi), (8, .int mo)]) hx hb dX3_takeTurnsWithLie_136 hl (k := 10) rfl (by rw [ev136]; rfl) (by decide) rfl (fun ls hl => ?_)
                  have tv136 : v136.toInt = k.toInt + 1 := by rw [ev136, zadd, show (1 : Int32).toInt = 1 from by decide]; omega
                  refine lv_goto (tgt := 56) hx hb dX3_takeTurnsWithLie_139 (by decide) ?_
                  exact ih.2.2 (j) (hr) (wi) (mo) (v136) (w26) H locs ls (by omega) (by omega) (by first | omega | decide) (by first | omega | decide) (by first | omega | (rw [show (0 : Int32).toInt = 0 from by decide]; omega)) hP hD hS (lv_sub hl [2, 3, 4, 5, 6, 7, 8, 9, 10, 0] rfl)
                · skip
                  have ic125 := znle (a := x4.toInt) (b := mo.toInt) rfl rfl c125
                  refine lv_iload hx hb dX3_takeTurnsWithLie_128 (lv_at hl 0 rfl) ?_
                  refine lv_istore (lv' := [(8, .int x4), (10, .int x4), (0, .ref (a 5)), (1, .int x1), (2, .int x2), (3, .int x3), (4, .int x4), (5, .int j), (6, .int hr), (7, .int wi), (9, .int k)]) hx hb dX3_takeTurnsWithLie_130 hl (by decide) rfl (fun ls hl => ?_)
                  refine lv_iload hx hb dX3_takeTurnsWithLie_132 (lv_at hl 10 rfl) ?_
                  refine lv_istore (lv' := [(7, .int k), (8, .int x4), (10, .int x4), (0, .ref (a 5)), (1, .int x1), (2, .int x2), (3, .int x3), (4, .int x4), (5, .int j), (6, .int hr), (9, .int k)]) hx hb dX3_takeTurnsWithLie_134 hl (by decide) rfl (fun ls hl => ?_)
                  obtain ⟨v136, ev136⟩ : ∃ y : Int32, y = k + 1 := ⟨_, rfl⟩
                  refine lv_iinc (v := v136) (lv' := [(9, .int v136), (7, .int k), (8, .int x4), (10, .int x4), (0, .ref (a 5)), (1, .int x1), (2, .int x2), (3, .int x3), (4, .int x4), (5, .int j), (6, .int hr)]) hx hb dX3_takeTurnsWithLie_136 hl (k := 10) rfl (by rw [ev136]; rfl) (by decide) rfl (fun ls hl => ?_)
                  have tv136 : v136.toInt = k.toInt + 1 := by rw [ev136, zadd, show (1 : Int32).toInt = 1 from by decide]; omega
                  refine lv_goto (tgt := 56) hx hb dX3_takeTurnsWithLie_139 (by decide) ?_
                  exact ih.2.2 (j) (hr) (k) (x4) (v136) (w26) H locs ls (by omega) (by omega) (by first | omega | decide) (by first | omega | decide) (by first | omega | (rw [show (0 : Int32).toInt = 0 from by decide]; omega)) hP hD hS (lv_sub hl [4, 5, 6, 7, 8, 9, 10, 1, 2, 0] rfl)
          · skip
            have ic73 := zneq (a := v71.toInt) (b := (-1)) rfl (by decide) c73
            refine lv_goto (tgt := 136) hx hb dX3_takeTurnsWithLie_76 (by decide) ?_
            obtain ⟨v136, ev136⟩ : ∃ y : Int32, y = k + 1 := ⟨_, rfl⟩
            refine lv_iinc (v := v136) (lv' := [(9, .int v136), (0, .ref (a 5)), (1, .int x1), (2, .int x2), (3, .int x3), (4, .int x4), (5, .int j), (6, .int hr), (7, .int wi), (8, .int mo)]) hx hb dX3_takeTurnsWithLie_136 hl (k := 9) rfl (by rw [ev136]; rfl) (by decide) rfl (fun ls hl => ?_)
            have tv136 : v136.toInt = k.toInt + 1 := by rw [ev136, zadd, show (1 : Int32).toInt = 1 from by decide]; omega
            refine lv_goto (tgt := 56) hx hb dX3_takeTurnsWithLie_139 (by decide) ?_
            exact ih.2.2 (j) (hr) (wi) (mo) (v136) (w26) H locs ls (by omega) (by omega) (by first | omega | decide) (by first | omega | decide) (by first | omega | (rw [show (0 : Int32).toInt = 0 from by decide]; omega)) hP hD hS (lv_sub hl [1, 2, 3, 4, 5, 6, 7, 8, 9, 0] rfl)
  have hl := lv_entry ([.ref (a 5), .int x1, .int x2, .int x3, .int x4]) (n := 11) (Nat.le_of_ble_eq_true rfl)
  rw [lg_entry_eq]
  generalize (lg_sl ([.ref (a 5), .int x1, .int x2, .int x3, .int x4]) ++ List.replicate (11 - (lg_sl ([.ref (a 5), .int x1, .int x2, .int x3, .int x4])).length) Slot.unset).toArray = ls at hl ⊢
  have hl : lv_has ls 11 [(0, .ref (a 5)), (1, .int x1), (2, .int x2), (3, .int x3), (4, .int x4)] := hl
  suffices main : ∀ (H : Heap) (locs : List Loc), va_P (dC, dI) vwCl (wX a cB cI cS cII σ) H → va_D A (wX a cB cI cS cII σ) → va_S A s.heap H locs → W p l e (headSpec wsX3_takeTurnsWithLie RM_X3_takeTurnsWithLie).room s m ([.ref (a 5), .int x1, .int x2, .int x3, .int x4] : List Value).toArray below meth c H locs 0 0 (MQ below (zQv (dC, dI) (zT cB cI cS cII) (wX a cB cI cS cII) A (fun (σ1 : Cn) => ∃ u26 : Nat → Int32, σ1 = (upC σ 26 u26) ∧ True)) ([.ref (a 5), .int x1, .int x2, .int x3, .int x4] : List Value).toArray s 0 0 A) (F0 m 0 ls []) from main s.heap [] hP hD hS
  intro H locs hP hD hS
  refine lv_iconst (v := 0) hx hb dX3_takeTurnsWithLie_0 (by decide) ?_
  refine lv_istore (lv' := [(5, .int 0), (0, .ref (a 5)), (1, .int x1), (2, .int x2), (3, .int x3), (4, .int x4)]) hx hb dX3_takeTurnsWithLie_1 hl (by decide) rfl (fun ls hl => ?_)
  exact (LP _).1 (0) (σ 26) H locs ls (by decide) (Nat.lt_succ_self _) hP hD hS (lv_sub hl [1, 2, 3, 4, 5, 0] rfl)

