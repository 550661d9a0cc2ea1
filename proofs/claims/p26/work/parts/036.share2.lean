abbrev RM_X3_takeTurns : Room := { frames := 3, cells := 0, slots := 0, locals := 76 }
set_option maxHeartbeats 4000000 in
set_option maxRecDepth 100000 in
theorem c_X3_takeTurns (l : Launch) (dC : Nat → ClassId) (dI : Nat → Nat → Nat) (cB cI cS cII : ClassId) (a : Nat → Nat) (N : (Nat → Prop) → State → Prop) (hok : zNok N) (hn : ∀ A U, N A U → zN U) (σ : Cn) (sz : Nat) (x1 : Int32) (h0 : 0 ≤ (σ 4 1).toInt ∧ (σ 4 1).toInt ≤ 4) (hs : 0 ≤ (σ 5 2).toInt ∧ (σ 5 2).toInt ≤ 10) (hq : ∀ j : Nat, (j : Int) < (σ 5 2).toInt → 0 ≤ (σ 25 j).toInt ∧ (σ 25 j).toInt < 10) : Met l yX3_takeTurns wsX3_takeTurns RM_X3_takeTurns (zPc (dC, dI) (zT cB cI cS cII) N (wX a cB cI cS cII) σ sz [.ref (a 5), .int x1]) (zQv (dC, dI) (zT cB cI cS cII) (wX a cB cI cS cII) (va_A (wX a cB cI cS cII σ) sz) (fun (σ1 : Cn) => ∃ u26 : Nat → Int32, σ1 = (upC σ 26 u26) ∧ True)) 0 0 (va_A (wX a cB cI cS cII σ) sz) := by
  refine Met.ofW (cc := cX3_takeTurns) (maxL := 2) (ret := none) (by decide) rfl ?_
  intro p e s m args below meth c s₁ B hml hv
  obtain ⟨rfl, hsz, hP, hK, hD0, hN⟩ := hv
  have hx := B.exec
  have hb := B.bytes
  have hr := B.returns
  have hts := atoms_spec (ws := wsX3_takeTurns) B.pre
  have hown : s.vm.findClass RX3 = some m.cls := findClass_of_methodNamed B.named
  have hlocks := B.notSynchronized
  subst hsz
  have hD := hD0.self (sz := s.heap.size)
  generalize hAe : va_A (wX a cB cI cS cII σ) s.heap.size = A at hD hN ⊢
  have hA : ∀ q : Nat, s.heap.size ≤ q → A q := fun q h => by rw [← hAe]; exact Or.inr h
  clear hAe hD0
  have hS : va_S A s.heap s.heap [] := va_S.rf
  have hl := lv_entry ([.ref (a 5), .int x1]) (n := 2) (Nat.le_of_ble_eq_true rfl)
  rw [lg_entry_eq]
  generalize (lg_sl ([.ref (a 5), .int x1]) ++ List.replicate (2 - (lg_sl ([.ref (a 5), .int x1])).length) Slot.unset).toArray = ls at hl ⊢
  have hl : lv_has ls 2 [(0, .ref (a 5)), (1, .int x1)] := hl
  suffices main : ∀ (H : Heap) (locs : List Loc), va_P (dC, dI) vwCl (wX a cB cI cS cII σ) H → va_D A (wX a cB cI cS cII σ) → va_S A s.heap H locs → W p l e (headSpec wsX3_takeTurns RM_X3_takeTurns).room s m ([.ref (a 5), .int x1] : List Value).toArray below meth c H locs 0 0 (MQ below (zQv (dC, dI) (zT cB cI cS cII) (wX a cB cI cS cII) A (fun (σ1 : Cn) => ∃ u26 : Nat → Int32, σ1 = (upC σ 26 u26) ∧ True)) ([.ref (a 5), .int x1] : List Value).toArray s 0 0 A) (F0 m 0 ls []) from main s.heap [] hP hD hS
  intro H locs hP hD hS
  refine lv_aload_n hx hb dX3_takeTurns_0 rfl (lv_at hl 0 rfl) ?_
  refine lv_iload_n hx hb dX3_takeTurns_1 rfl (lv_at hl 1 rfl) ?_
  refine lv_iconst (v := (-1)) hx hb dX3_takeTurns_2 (by decide) ?_
  refine lv_iconst (v := 0) hx hb dX3_takeTurns_3 (by decide) ?_
  refine lv_iconst (v := 0) hx hb dX3_takeTurns_4 (by decide) ?_
  refine zcallv (va_runV (As := [.int x1, .int (-1), .int 0, .int 0]) (rest := []) ⟨hx, hb, hml, hown, hts⟩ (c_X3_takeTurnsWithLie l dC dI cB cI cS cII a N hok hn σ H.size (x1) ((-1)) (0) (0) h0 hs hq) (cwV 4 hts gX3_takeTurns_X3_takeTurnsWithLie rfl rfl rfl (by decide +kernel) ⟨Nat.le_of_ble_eq_true rfl, Nat.le_of_ble_eq_true rfl⟩) (zpreV (wf := wX a cB cI cS cII) (q0 := 5) (ci := 3) hok hN hS hA hK hP hD rfl rfl) rfl rfl hl.1 rfl (lv_room (Nat.le_of_ble_eq_true rfl)) dX3_takeTurns_5 ⟨Nat.zero_le _, Nat.zero_le _⟩) hD hS hA (fun σ1 H locs hv5 hP hD hS => ?_)
  obtain ⟨u26_5, es9, hv5⟩ := hv5
  subst σ1
  try simp only [show ((-1) : Int32).toInt = (-1) from by decide, show (0 : Int32).toInt = 0 from by decide] at hv5
  have hP : va_P (dC, dI) vwCl (wX a cB cI cS cII (upC σ 26 u26_5)) H := hP
  have hD : va_D A (wX a cB cI cS cII (upC σ 26 u26_5)) := hD
  have hpost : ∃ u26 : Nat → Int32, (upC σ 26 u26_5) = (upC σ 26 u26) ∧ True := by exact ⟨_, rfl, trivial⟩
  exact W.vret hx hb hr (fun t9 ht hW => ⟨⟨(upC σ 26 u26_5), rfl, hpost, by rw [ht]; exact hP, va_K.moved hW.alike hK, hD⟩, hS.F ht⟩) hS.2.2 dX3_takeTurns_8

abbrev RM_X3_sumOf : Room := { frames := 0, cells := 0, slots := 0, locals := 0 }
set_option maxHeartbeats 4000000 in
set_option maxRecDepth 100000 in
theorem c_X3_sumOf (l : Launch) (dC : Nat → ClassId) (dI : Nat → Nat → Nat) (cB cI cS cII : ClassId) (a : Nat → Nat) (N : (Nat → Prop) → State → Prop) (hok : zNok N) (hn : ∀ A U, N A U → zN U) (σ : Cn) (sz : Nat) (x1 : Int32) (x2 : Int32) (h1 : 0 ≤ x1.toInt ∧ x1.toInt < 4) (hs : 0 ≤ (σ 5 2).toInt ∧ (σ 5 2).toInt ≤ 10) (hq : ∀ j : Nat, (j : Int) < (σ 5 2).toInt → 0 ≤ (σ 25 j).toInt ∧ (σ 25 j).toInt < 10) : Met l yX3_sumOf wsX3_sumOf RM_X3_sumOf (zPc (dC, dI) (zT cB cI cS cII) N (wX a cB cI cS cII) σ sz [.ref (a 5), .int x1, .int x2]) (zQi (dC, dI) (zT cB cI cS cII) (wX a cB cI cS cII) (va_A (wX a cB cI cS cII σ) sz) (fun (r : Int32) (σ1 : Cn) => σ1 = σ ∧ True)) 0 0 (va_A (wX a cB cI cS cII σ) sz) := by
  refine Met.ofW (cc := cX3_sumOf) (maxL := 5) (ret := (some .int)) (by decide) rfl ?_
  intro p e s m args below meth c s₁ B hml hv
  obtain ⟨rfl, hsz, hP, hK, hD0, hN⟩ := hv
  have hx := B.exec
  have hb := B.bytes
  have hr := B.returns
  have hts := atoms_spec (ws := wsX3_sumOf) B.pre
  have hown : s.vm.findClass RX3 = some m.cls := findClass_of_methodNamed B.named
  have hlocks := B.notSynchronized
  subst hsz
  have hD := hD0.self (sz := s.heap.size)
  generalize hAe : va_A (wX a cB cI cS cII σ) s.heap.size = A at hD hN ⊢
  have hA : ∀ q : Nat, s.heap.size ≤ q → A q := fun q h => by rw [← hAe]; exact Or.inr h
  clear hAe hD0
  have hS : va_S A s.heap s.heap [] := va_S.rf
  have in1 : ∀ w ∈ u_ws RX1 TX1 9, w ∈ wsX3_sumOf := by decide +kernel
  have in3 : ∀ w ∈ u_ws RX3 TX3 4, w ∈ wsX3_sumOf := by decide +kernel
  have k15 := hts (.fieldLink RX3 15 "HouseSorted$Sharing" "taker" "[I") (by decide +kernel)
  have k18 := hts (.fieldLink RX3 18 "HouseSorted$Sharing" "house" "LHouseSorted$House;") (by decide +kernel)
  have k22 := hts (.fieldLink RX3 22 "HouseSorted$Sharing" "size" "I") (by decide +kernel)
  have k49 := hts (.fieldLink RX3 49 "HouseSorted$House" "worth" "[[I") (by decide +kernel)
  have k9 := hts (.fieldLink RX3 9 "HouseSorted$Sharing" "shared" "[I") (by decide +kernel)
  have LP : ∀ n : Nat, (∀ (f : Int32) (j : Int32) (H : Heap) (locs : List Loc) (ls : Array Slot), 0 ≤ j.toInt ∧ j.toInt ≤ 10 → (10 - j.toInt).toNat < n → va_P (dC, dI) vwCl (wX a cB cI cS cII σ) H → va_D A (wX a cB cI cS cII σ) → va_S A s.heap H locs → lv_has ls 5 [(0, .ref (a 5)), (1, .int x1), (2, .int x2), (3, .int f), (4, .int j)] → W p l e (headSpec wsX3_sumOf RM_X3_sumOf).room s m ([.ref (a 5), .int x1, .int x2] : List Value).toArray below meth c H locs 0 0 (MQ below (zQi (dC, dI) (zT cB cI cS cII) (wX a cB cI cS cII) A (fun (r : Int32) (σ1 : Cn) => σ1 = σ ∧ True)) ([.ref (a 5), .int x1, .int x2] : List Value).toArray s 0 0 A) (F0 m 5 ls [])) := by
    intro n
    induction n with
    | zero => exact by intros; omega
    | succ n ih =>
      · intro f j H locs ls g1 hmu hP hD hS hl
        refine lv_iload hx hb dX3_sumOf_5 (lv_at hl 4 rfl) ?_
        refine lv_aload_n hx hb dX3_sumOf_7 rfl (lv_at hl 0 rfl) ?_
        refine va_get (D := (dC, dI)) (ci := 3) (v := .int (σ 5 2)) (C := RX3) (T := TX3) (N := 4) hx hb hts in3 hown hK hP 5 rfl rfl 2 (by decide) k22 (fun _ h9 => h9) rfl dX3_sumOf_8 ?_
        refine lv_icmp_ge (tgt := 51) hx hb dX3_sumOf_11 (by decide) (fun c11 => ?_) (fun c11 => ?_)
        · skip
          have ic11 := zle (a := (σ 5 2).toInt) (b := j.toInt) rfl rfl c11
          refine lv_iload_n hx hb dX3_sumOf_51 rfl (lv_at hl 3 rfl) ?_
          have hpost : σ = σ ∧ True := by exact ⟨rfl, trivial⟩
          exact W.iret (v := f) hx hb hr (fun t9 ht hW => ⟨⟨f, σ, rfl, hpost, by rw [ht]; exact hP, va_K.moved hW.alike hK, hD⟩, hS.F ht⟩) hS.2.2 dX3_sumOf_52
        · skip
          have ic11 := znle (a := (σ 5 2).toInt) (b := j.toInt) rfl rfl c11
          refine lv_aload_n hx hb dX3_sumOf_14 rfl (lv_at hl 0 rfl) ?_
          refine va_get (D := (dC, dI)) (ci := 3) (v := .ref (a 26)) (C := RX3) (T := TX3) (N := 4) hx hb hts in3 hown hK hP 5 rfl rfl 3 (by decide) k15 (fun _ h9 => h9) rfl dX3_sumOf_15 ?_
          refine lv_iload hx hb dX3_sumOf_18 (lv_at hl 4 rfl) ?_
          refine va_iald (D := (dC, dI)) (f := σ 26) hx hb hK hP 26 1 rfl rfl (i := j) (n := 10) (zin (by omega) (by omega)) dX3_sumOf_20 ?_
          refine lv_topi (fun v20 ev20 => ?_)
          have tv20 := congrArg Int32.toInt ev20
          refine lv_iload_n hx hb dX3_sumOf_21 rfl (lv_at hl 2 rfl) ?_
          refine lv_icmp_ne (tgt := 45) hx hb dX3_sumOf_22 (by decide) (fun c22 => ?_) (fun c22 => ?_)
          · skip
            have ic22 := zneq (a := v20.toInt) (b := x2.toInt) rfl rfl c22
            obtain ⟨v45, ev45⟩ : ∃ y : Int32, y = j + 1 := ⟨_, rfl⟩
            refine lv_iinc (v := v45) (lv' := [(4, .int v45), (0, .ref (a 5)), (1, .int x1), (2, .int x2), (3, .int f)]) hx hb dX3_sumOf_45 hl (k := 4) rfl (by rw [ev45]; rfl) (by decide) rfl (fun ls hl => ?_)
            have tv45 : v45.toInt = j.toInt + 1 := by rw [ev45, zadd, show (1 : Int32).toInt = 1 from by decide]; omega
            refine lv_goto (tgt := 5) hx hb dX3_sumOf_48 (by decide) ?_
            exact ih (f) (v45)  H locs ls (by omega) (by omega) hP hD hS (lv_sub hl [1, 2, 3, 4, 0] rfl)
          · skip
            have ic22 := zeq (a := v20.toInt) (b := x2.toInt) rfl rfl c22
            refine lv_iload_n hx hb dX3_sumOf_25 rfl (lv_at hl 3 rfl) ?_
            refine lv_aload_n hx hb dX3_sumOf_26 rfl (lv_at hl 0 rfl) ?_
            refine va_get (D := (dC, dI)) (ci := 3) (v := .ref (a 4)) (C := RX3) (T := TX3) (N := 4) hx hb hts in3 hown hK hP 5 rfl rfl 0 (by decide) k18 (fun _ h9 => h9) rfl dX3_sumOf_27 ?_
            refine va_get (D := (dC, dI)) (ci := 1) (v := .ref (a 20)) (C := RX1) (T := TX1) (N := 9) hx hb hts in1 hown hK hP 4 rfl rfl 8 (by decide) k49 (fun _ h9 => h9) rfl dX3_sumOf_30 ?_
            refine lv_iload_n hx hb dX3_sumOf_33 rfl (lv_at hl 1 rfl) ?_
            have hr34 : (x1).toNatClampNeg < 4 := by have h9 := zcl (x := x1) (by omega); omega
            refine zald hx hb hK hP 20 3 rfl rfl (i := x1) (n := 4) (zin (by omega) (by omega)) (zro_in hr34) dX3_sumOf_34 ?_
            refine lv_aload_n hx hb dX3_sumOf_35 rfl (lv_at hl 0 rfl) ?_
            refine va_get (D := (dC, dI)) (ci := 3) (v := .ref (a 25)) (C := RX3) (T := TX3) (N := 4) hx hb hts in3 hown hK hP 5 rfl rfl 1 (by decide) k9 (fun _ h9 => h9) rfl dX3_sumOf_36 ?_
            refine lv_iload hx hb dX3_sumOf_39 (lv_at hl 4 rfl) ?_
            refine va_iald (D := (dC, dI)) (f := σ 25) hx hb hK hP 25 1 rfl rfl (i := j) (n := 10) (zin (by omega) (by omega)) dX3_sumOf_41 ?_
            refine lv_topi (fun v41 ev41 => ?_)
            have tv41 := congrArg Int32.toInt ev41
            have hb9 := hq ((j).toNatClampNeg) (by have q := zcl (x := j) (by omega); omega)
            refine va_iald (D := (dC, dI)) (f := σ (21 + (x1).toNatClampNeg)) hx hb hK hP (21 + (x1).toNatClampNeg) 1 (wX_row21 hr34) rfl (i := v41) (n := 10) (zin (by omega) (by omega)) dX3_sumOf_42 ?_
            refine lv_topi (fun v42 ev42 => ?_)
            have tv42 := congrArg Int32.toInt ev42
            refine lv_iadd hx hb dX3_sumOf_43 ?_
            refine lv_topi (fun v43 ev43 => ?_)
            refine lv_istore_n (lv' := [(3, .int v43), (0, .ref (a 5)), (1, .int x1), (2, .int x2), (4, .int j)]) hx hb dX3_sumOf_44 rfl hl (by decide) rfl (fun ls hl => ?_)
            obtain ⟨v45, ev45⟩ : ∃ y : Int32, y = j + 1 := ⟨_, rfl⟩
            refine lv_iinc (v := v45) (lv' := [(4, .int v45), (3, .int v43), (0, .ref (a 5)), (1, .int x1), (2, .int x2)]) hx hb dX3_sumOf_45 hl (k := 4) rfl (by rw [ev45]; rfl) (by decide) rfl (fun ls hl => ?_)
            have tv45 : v45.toInt = j.toInt + 1 := by rw [ev45, zadd, show (1 : Int32).toInt = 1 from by decide]; omega
            refine lv_goto (tgt := 5) hx hb dX3_sumOf_48 (by decide) ?_
            exact ih (v43) (v45)  H locs ls (by omega) (by omega) hP hD hS (lv_sub hl [2, 3, 4, 1, 0] rfl)
  have hl := lv_entry ([.ref (a 5), .int x1, .int x2]) (n := 5) (Nat.le_of_ble_eq_true rfl)
  rw [lg_entry_eq]
  generalize (lg_sl ([.ref (a 5), .int x1, .int x2]) ++ List.replicate (5 - (lg_sl ([.ref (a 5), .int x1, .int x2])).length) Slot.unset).toArray = ls at hl ⊢
  have hl : lv_has ls 5 [(0, .ref (a 5)), (1, .int x1), (2, .int x2)] := hl
  suffices main : ∀ (H : Heap) (locs : List Loc), va_P (dC, dI) vwCl (wX a cB cI cS cII σ) H → va_D A (wX a cB cI cS cII σ) → va_S A s.heap H locs → W p l e (headSpec wsX3_sumOf RM_X3_sumOf).room s m ([.ref (a 5), .int x1, .int x2] : List Value).toArray below meth c H locs 0 0 (MQ below (zQi (dC, dI) (zT cB cI cS cII) (wX a cB cI cS cII) A (fun (r : Int32) (σ1 : Cn) => σ1 = σ ∧ True)) ([.ref (a 5), .int x1, .int x2] : List Value).toArray s 0 0 A) (F0 m 0 ls []) from main s.heap [] hP hD hS
  intro H locs hP hD hS
  refine lv_iconst (v := 0) hx hb dX3_sumOf_0 (by decide) ?_
  refine lv_istore_n (lv' := [(3, .int 0), (0, .ref (a 5)), (1, .int x1), (2, .int x2)]) hx hb dX3_sumOf_1 rfl hl (by decide) rfl (fun ls hl => ?_)
  refine lv_iconst (v := 0) hx hb dX3_sumOf_2 (by decide) ?_
  refine lv_istore (lv' := [(4, .int 0), (3, .int 0), (0, .ref (a 5)), (1, .int x1), (2, .int x2)]) hx hb dX3_sumOf_3 hl (by decide) rfl (fun ls hl => ?_)
  exact (LP _) (0) (0)  H locs ls (by decide) (Nat.lt_succ_self _) hP hD hS (lv_sub hl [2, 3, 4, 1, 0] rfl)

abbrev RM_X3_greatestOf : Room := { frames := 1, cells := 0, slots := 0, locals := 21 }
set_option maxHeartbeats 4000000 in
set_option maxRecDepth 100000 in
theorem c_X3_greatestOf (l : Launch) (dC : Nat → ClassId) (dI : Nat → Nat → Nat) (cB cI cS cII : ClassId) (a : Nat → Nat) (N : (Nat → Prop) → State → Prop) (hok : zNok N) (hn : ∀ A U, N A U → zN U) (σ : Cn) (sz : Nat) (x1 : Int32) (x2 : Int32) (h1 : 0 ≤ x1.toInt ∧ x1.toInt < 4) (hs : 0 ≤ (σ 5 2).toInt ∧ (σ 5 2).toInt ≤ 10) (hq : ∀ j : Nat, (j : Int) < (σ 5 2).toInt → 0 ≤ (σ 25 j).toInt ∧ (σ 25 j).toInt < 10) : Met l yX3_greatestOf wsX3_greatestOf RM_X3_greatestOf (zPc (dC, dI) (zT cB cI cS cII) N (wX a cB cI cS cII) σ sz [.ref (a 5), .int x1, .int x2]) (zQi (dC, dI) (zT cB cI cS cII) (wX a cB cI cS cII) (va_A (wX a cB cI cS cII σ) sz) (fun (r : Int32) (σ1 : Cn) => σ1 = σ ∧ True)) 0 0 (va_A (wX a cB cI cS cII σ) sz) := by
  refine Met.ofW (cc := cX3_greatestOf) (maxL := 5) (ret := (some .int)) (by decide) rfl ?_
  intro p e s m args below meth c s₁ B hml hv
  obtain ⟨rfl, hsz, hP, hK, hD0, hN⟩ := hv
  have hx := B.exec
  have hb := B.bytes
  have hr := B.returns
  have hts := atoms_spec (ws := wsX3_greatestOf) B.pre
  have hown : s.vm.findClass RX3 = some m.cls := findClass_of_methodNamed B.named
  have hlocks := B.notSynchronized
  subst hsz
  have hD := hD0.self (sz := s.heap.size)
  generalize hAe : va_A (wX a cB cI cS cII σ) s.heap.size = A at hD hN ⊢
  have hA : ∀ q : Nat, s.heap.size ≤ q → A q := fun q h => by rw [← hAe]; exact Or.inr h
  clear hAe hD0
  have hS : va_S A s.heap s.heap [] := va_S.rf
  have in1 : ∀ w ∈ u_ws RX1 TX1 9, w ∈ wsX3_greatestOf := by decide +kernel
  have in3 : ∀ w ∈ u_ws RX3 TX3 4, w ∈ wsX3_greatestOf := by decide +kernel
  have k15 := hts (.fieldLink RX3 15 "HouseSorted$Sharing" "taker" "[I") (by decide +kernel)
  have k18 := hts (.fieldLink RX3 18 "HouseSorted$Sharing" "house" "LHouseSorted$House;") (by decide +kernel)
  have k22 := hts (.fieldLink RX3 22 "HouseSorted$Sharing" "size" "I") (by decide +kernel)
  have k49 := hts (.fieldLink RX3 49 "HouseSorted$House" "worth" "[[I") (by decide +kernel)
  have k9 := hts (.fieldLink RX3 9 "HouseSorted$Sharing" "shared" "[I") (by decide +kernel)
  have kcmax := hts (.code Lib.Math.max.name Lib.Math.max.code 2 (some .int)) (by decide +kernel)
  have kiM := hts (.initialized "java/lang/Math") (by decide +kernel)
  have km53 := hts (.methodLink RX3 53 Lib.Math.max.name) (by decide +kernel)
  have ksmax := hts (.static Lib.Math.max.name) (by decide +kernel)
  have LP : ∀ n : Nat, (∀ (f : Int32) (j : Int32) (H : Heap) (locs : List Loc) (ls : Array Slot), 0 ≤ j.toInt ∧ j.toInt ≤ 10 → (10 - j.toInt).toNat < n → va_P (dC, dI) vwCl (wX a cB cI cS cII σ) H → va_D A (wX a cB cI cS cII σ) → va_S A s.heap H locs → lv_has ls 5 [(0, .ref (a 5)), (1, .int x1), (2, .int x2), (3, .int f), (4, .int j)] → W p l e (headSpec wsX3_greatestOf RM_X3_greatestOf).room s m ([.ref (a 5), .int x1, .int x2] : List Value).toArray below meth c H locs 0 0 (MQ below (zQi (dC, dI) (zT cB cI cS cII) (wX a cB cI cS cII) A (fun (r : Int32) (σ1 : Cn) => σ1 = σ ∧ True)) ([.ref (a 5), .int x1, .int x2] : List Value).toArray s 0 0 A) (F0 m 5 ls [])) := by
    intro n
    induction n with
    | zero => exact by intros; omega
    | succ n ih =>
      · intro f j H locs ls g1 hmu hP hD hS hl
        refine lv_iload hx hb dX3_greatestOf_5 (lv_at hl 4 rfl) ?_
        refine lv_aload_n hx hb dX3_greatestOf_7 rfl (lv_at hl 0 rfl) ?_
        refine va_get (D := (dC, dI)) (ci := 3) (v := .int (σ 5 2)) (C := RX3) (T := TX3) (N := 4) hx hb hts in3 hown hK hP 5 rfl rfl 2 (by decide) k22 (fun _ h9 => h9) rfl dX3_greatestOf_8 ?_
        refine lv_icmp_ge (tgt := 53) hx hb dX3_greatestOf_11 (by decide) (fun c11 => ?_) (fun c11 => ?_)
        · skip
          have ic11 := zle (a := (σ 5 2).toInt) (b := j.toInt) rfl rfl c11
          refine lv_iload_n hx hb dX3_greatestOf_53 rfl (lv_at hl 3 rfl) ?_
          have hpost : σ = σ ∧ True := by exact ⟨rfl, trivial⟩
          exact W.iret (v := f) hx hb hr (fun t9 ht hW => ⟨⟨f, σ, rfl, hpost, by rw [ht]; exact hP, va_K.moved hW.alike hK, hD⟩, hS.F ht⟩) hS.2.2 dX3_greatestOf_54
        · skip
          have ic11 := znle (a := (σ 5 2).toInt) (b := j.toInt) rfl rfl c11
          refine lv_aload_n hx hb dX3_greatestOf_14 rfl (lv_at hl 0 rfl) ?_
          refine va_get (D := (dC, dI)) (ci := 3) (v := .ref (a 26)) (C := RX3) (T := TX3) (N := 4) hx hb hts in3 hown hK hP 5 rfl rfl 3 (by decide) k15 (fun _ h9 => h9) rfl dX3_greatestOf_15 ?_
          refine lv_iload hx hb dX3_greatestOf_18 (lv_at hl 4 rfl) ?_
          refine va_iald (D := (dC, dI)) (f := σ 26) hx hb hK hP 26 1 rfl rfl (i := j) (n := 10) (zin (by omega) (by omega)) dX3_greatestOf_20 ?_
          refine lv_topi (fun v20 ev20 => ?_)
          have tv20 := congrArg Int32.toInt ev20
          refine lv_iload_n hx hb dX3_greatestOf_21 rfl (lv_at hl 2 rfl) ?_
          refine lv_icmp_ne (tgt := 47) hx hb dX3_greatestOf_22 (by decide) (fun c22 => ?_) (fun c22 => ?_)
          · skip
            have ic22 := zneq (a := v20.toInt) (b := x2.toInt) rfl rfl c22
            obtain ⟨v47, ev47⟩ : ∃ y : Int32, y = j + 1 := ⟨_, rfl⟩
            refine lv_iinc (v := v47) (lv' := [(4, .int v47), (0, .ref (a 5)), (1, .int x1), (2, .int x2), (3, .int f)]) hx hb dX3_greatestOf_47 hl (k := 4) rfl (by rw [ev47]; rfl) (by decide) rfl (fun ls hl => ?_)
            have tv47 : v47.toInt = j.toInt + 1 := by rw [ev47, zadd, show (1 : Int32).toInt = 1 from by decide]; omega
            refine lv_goto (tgt := 5) hx hb dX3_greatestOf_50 (by decide) ?_
            exact ih (f) (v47)  H locs ls (by omega) (by omega) hP hD hS (lv_sub hl [1, 2, 3, 4, 0] rfl)
          · skip
            have ic22 := zeq (a := v20.toInt) (b := x2.toInt) rfl rfl c22
            refine lv_iload_n hx hb dX3_greatestOf_25 rfl (lv_at hl 3 rfl) ?_
            refine lv_aload_n hx hb dX3_greatestOf_26 rfl (lv_at hl 0 rfl) ?_
            refine va_get (D := (dC, dI)) (ci := 3) (v := .ref (a 4)) (C := RX3) (T := TX3) (N := 4) hx hb hts in3 hown hK hP 5 rfl rfl 0 (by decide) k18 (fun _ h9 => h9) rfl dX3_greatestOf_27 ?_
            refine va_get (D := (dC, dI)) (ci := 1) (v := .ref (a 20)) (C := RX1) (T := TX1) (N := 9) hx hb hts in1 hown hK hP 4 rfl rfl 8 (by decide) k49 (fun _ h9 => h9) rfl dX3_greatestOf_30 ?_
            refine lv_iload_n hx hb dX3_greatestOf_33 rfl (lv_at hl 1 rfl) ?_
            have hr34 : (x1).toNatClampNeg < 4 := by have h9 := zcl (x := x1) (by omega); omega
            refine zald hx hb hK hP 20 3 rfl rfl (i := x1) (n := 4) (zin (by omega) (by omega)) (zro_in hr34) dX3_greatestOf_34 ?_
            refine lv_aload_n hx hb dX3_greatestOf_35 rfl (lv_at hl 0 rfl) ?_
            refine va_get (D := (dC, dI)) (ci := 3) (v := .ref (a 25)) (C := RX3) (T := TX3) (N := 4) hx hb hts in3 hown hK hP 5 rfl rfl 1 (by decide) k9 (fun _ h9 => h9) rfl dX3_greatestOf_36 ?_
            refine lv_iload hx hb dX3_greatestOf_39 (lv_at hl 4 rfl) ?_
            refine va_iald (D := (dC, dI)) (f := σ 25) hx hb hK hP 25 1 rfl rfl (i := j) (n := 10) (zin (by omega) (by omega)) dX3_greatestOf_41 ?_
            refine lv_topi (fun v41 ev41 => ?_)
            have tv41 := congrArg Int32.toInt ev41
            have hb9 := hq ((j).toNatClampNeg) (by have q := zcl (x := j) (by omega); omega)
            refine va_iald (D := (dC, dI)) (f := σ (21 + (x1).toNatClampNeg)) hx hb hK hP (21 + (x1).toNatClampNeg) 1 (wX_row21 hr34) rfl (i := v41) (n := 10) (zin (by omega) (by omega)) dX3_greatestOf_42 ?_
            refine lv_topi (fun v42 ev42 => ?_)
            have tv42 := congrArg Int32.toInt ev42
            refine va_mmax hx hb (hml.trans hl.1.symm) hown km53 ksmax kiM kcmax (Nat.le_of_ble_eq_true rfl) (Nat.le_of_ble_eq_true rfl) (Nat.zero_le _) (Nat.zero_le _) dX3_greatestOf_43 ?_
            refine lv_topi (fun v43 ev43 => ?_)
            have tv43 := zmax (x := f) (y := v42) (a := f.toInt) (b := v42.toInt) rfl rfl ev43
            refine lv_istore_n (lv' := [(3, .int v43), (0, .ref (a 5)), (1, .int x1), (2, .int x2), (4, .int j)]) hx hb dX3_greatestOf_46 rfl hl (by decide) rfl (fun ls hl => ?_)
            obtain ⟨v47, ev47⟩ : ∃ y : Int32, y = j + 1 := ⟨_, rfl⟩
            refine lv_iinc (v := v47) (lv' := [(4, .int v47), (3, .int v43), (0, .ref (a 5)), (1, .int x1), (2, .int x2)]) hx hb dX3_greatestOf_47 hl (k := 4) rfl (by rw [ev47]; rfl) (by decide) rfl (fun ls hl => ?_)
            have tv47 : v47.toInt = j.toInt + 1 := by rw [ev47, zadd, show (1 : Int32).toInt = 1 from by decide]; omega
            refine lv_goto (tgt := 5) hx hb dX3_greatestOf_50 (by decide) ?_
            exact ih (v43) (v47)  H locs ls (by omega) (by omega) hP hD hS (lv_sub hl [2, 3, 4, 1, 0] rfl)
  have hl := lv_entry ([.ref (a 5), .int x1, .int x2]) (n := 5) (Nat.le_of_ble_eq_true rfl)
  rw [lg_entry_eq]
  generalize (lg_sl ([.ref (a 5), .int x1, .int x2]) ++ List.replicate (5 - (lg_sl ([.ref (a 5), .int x1, .int x2])).length) Slot.unset).toArray = ls at hl ⊢
  have hl : lv_has ls 5 [(0, .ref (a 5)), (1, .int x1), (2, .int x2)] := hl
  suffices main : ∀ (H : Heap) (locs : List Loc), va_P (dC, dI) vwCl (wX a cB cI cS cII σ) H → va_D A (wX a cB cI cS cII σ) → va_S A s.heap H locs → W p l e (headSpec wsX3_greatestOf RM_X3_greatestOf).room s m ([.ref (a 5), .int x1, .int x2] : List Value).toArray below meth c H locs 0 0 (MQ below (zQi (dC, dI) (zT cB cI cS cII) (wX a cB cI cS cII) A (fun (r : Int32) (σ1 : Cn) => σ1 = σ ∧ True)) ([.ref (a 5), .int x1, .int x2] : List Value).toArray s 0 0 A) (F0 m 0 ls []) from main s.heap [] hP hD hS
  intro H locs hP hD hS
  refine lv_iconst (v := 0) hx hb dX3_greatestOf_0 (by decide) ?_
  refine lv_istore_n (lv' := [(3, .int 0), (0, .ref (a 5)), (1, .int x1), (2, .int x2)]) hx hb dX3_greatestOf_1 rfl hl (by decide) rfl (fun ls hl => ?_)
  refine lv_iconst (v := 0) hx hb dX3_greatestOf_2 (by decide) ?_
  refine lv_istore (lv' := [(4, .int 0), (3, .int 0), (0, .ref (a 5)), (1, .int x1), (2, .int x2)]) hx hb dX3_greatestOf_3 hl (by decide) rfl (fun ls hl => ?_)
  exact (LP _) (0) (0)  H locs ls (by decide) (Nat.lt_succ_self _) hP hD hS (lv_sub hl [2, 3, 4, 1, 0] rfl)

abbrev RM_X3_changesOrder : Room := { frames := 0, cells := 0, slots := 0, locals := 0 }
set_option maxHeartbeats 4000000 in
set_option maxRecDepth 100000 in
theorem c_X3_changesOrder (l : Launch) (dC : Nat → ClassId) (dI : Nat → Nat → Nat) (cB cI cS cII : ClassId) (a : Nat → Nat) (N : (Nat → Prop) → State → Prop) (hok : zNok N) (hn : ∀ A U, N A U → zN U) (σ : Cn) (sz : Nat) (x1 : Int32) (x2 : Int32) (x3 : Int32) (h1 : 0 ≤ x1.toInt ∧ x1.toInt < 4) (hs : 0 ≤ (σ 5 2).toInt ∧ (σ 5 2).toInt ≤ 10) (hq : ∀ j : Nat, (j : Int) < (σ 5 2).toInt → 0 ≤ (σ 25 j).toInt ∧ (σ 25 j).toInt < 10) : Met l yX3_changesOrder wsX3_changesOrder RM_X3_changesOrder (zPc (dC, dI) (zT cB cI cS cII) N (wX a cB cI cS cII) σ sz [.ref (a 5), .int x1, .int x2, .int x3]) (zQi (dC, dI) (zT cB cI cS cII) (wX a cB cI cS cII) (va_A (wX a cB cI cS cII σ) sz) (fun (r : Int32) (σ1 : Cn) => σ1 = σ ∧ ((r : Int32).toInt = 1 ∨ (r : Int32).toInt = 0))) 0 0 (va_A (wX a cB cI cS cII σ) sz) := by
  refine Met.ofW (cc := cX3_changesOrder) (maxL := 6) (ret := (some .boolean)) (by decide) rfl ?_
  intro p e s m args below meth c s₁ B hml hv
  obtain ⟨rfl, hsz, hP, hK, hD0, hN⟩ := hv
  have hx := B.exec
  have hb := B.bytes
  have hr := B.returns
  have hts := atoms_spec (ws := wsX3_changesOrder) B.pre
  have hown : s.vm.findClass RX3 = some m.cls := findClass_of_methodNamed B.named
  have hlocks := B.notSynchronized
  subst hsz
  have hD := hD0.self (sz := s.heap.size)
  generalize hAe : va_A (wX a cB cI cS cII σ) s.heap.size = A at hD hN ⊢
  have hA : ∀ q : Nat, s.heap.size ≤ q → A q := fun q h => by rw [← hAe]; exact Or.inr h
  clear hAe hD0
  have hS : va_S A s.heap s.heap [] := va_S.rf
  have in1 : ∀ w ∈ u_ws RX1 TX1 9, w ∈ wsX3_changesOrder := by decide +kernel
  have in3 : ∀ w ∈ u_ws RX3 TX3 4, w ∈ wsX3_changesOrder := by decide +kernel
  have k18 := hts (.fieldLink RX3 18 "HouseSorted$Sharing" "house" "LHouseSorted$House;") (by decide +kernel)
  have k22 := hts (.fieldLink RX3 22 "HouseSorted$Sharing" "size" "I") (by decide +kernel)
  have k49 := hts (.fieldLink RX3 49 "HouseSorted$House" "worth" "[[I") (by decide +kernel)
  have k9 := hts (.fieldLink RX3 9 "HouseSorted$Sharing" "shared" "[I") (by decide +kernel)
  have LP : ∀ n : Nat, (∀ (j : Int32) (H : Heap) (locs : List Loc) (ls : Array Slot), 0 ≤ j.toInt ∧ j.toInt ≤ 10 → (10 - j.toInt).toNat < n → va_P (dC, dI) vwCl (wX a cB cI cS cII σ) H → va_D A (wX a cB cI cS cII σ) → va_S A s.heap H locs → lv_has ls 6 [(0, .ref (a 5)), (1, .int x1), (2, .int x2), (3, .int x3), (4, .int j)] → W p l e (headSpec wsX3_changesOrder RM_X3_changesOrder).room s m ([.ref (a 5), .int x1, .int x2, .int x3] : List Value).toArray below meth c H locs 0 0 (MQ below (zQi (dC, dI) (zT cB cI cS cII) (wX a cB cI cS cII) A (fun (r : Int32) (σ1 : Cn) => σ1 = σ ∧ ((r : Int32).toInt = 1 ∨ (r : Int32).toInt = 0))) ([.ref (a 5), .int x1, .int x2, .int x3] : List Value).toArray s 0 0 A) (F0 m 9 ls [])) := by
    intro n
    induction n with
    | zero => exact by intros; omega
    | succ n ih =>
      · intro j H locs ls g1 hmu hP hD hS hl
        refine lv_iload hx hb dX3_changesOrder_9 (lv_at hl 4 rfl) ?_
        refine lv_aload_n hx hb dX3_changesOrder_11 rfl (lv_at hl 0 rfl) ?_
        refine va_get (D := (dC, dI)) (ci := 3) (v := .int (σ 5 2)) (C := RX3) (T := TX3) (N := 4) hx hb hts in3 hown hK hP 5 rfl rfl 2 (by decide) k22 (fun _ h9 => h9) rfl dX3_changesOrder_12 ?_
        refine lv_icmp_ge (tgt := 65) hx hb dX3_changesOrder_15 (by decide) (fun c15 => ?_) (fun c15 => ?_)
        · skip
          have ic15 := zle (a := (σ 5 2).toInt) (b := j.toInt) rfl rfl c15
          refine lv_iconst (v := 0) hx hb dX3_changesOrder_65 (by decide) ?_
          have hpost : σ = σ ∧ ((0 : Int32).toInt = 1 ∨ (0 : Int32).toInt = 0) := by exact ⟨rfl, by decide⟩
          exact W.zret (v := 0) hx hb hr (by decide +kernel) (fun t9 ht hW => ⟨⟨0, σ, rfl, hpost, by rw [ht]; exact hP, va_K.moved hW.alike hK, hD⟩, hS.F ht⟩) hS.2.2 dX3_changesOrder_66
        · skip
          have ic15 := znle (a := (σ 5 2).toInt) (b := j.toInt) rfl rfl c15
          refine lv_aload_n hx hb dX3_changesOrder_18 rfl (lv_at hl 0 rfl) ?_
          refine va_get (D := (dC, dI)) (ci := 3) (v := .ref (a 4)) (C := RX3) (T := TX3) (N := 4) hx hb hts in3 hown hK hP 5 rfl rfl 0 (by decide) k18 (fun _ h9 => h9) rfl dX3_changesOrder_19 ?_
          refine va_get (D := (dC, dI)) (ci := 1) (v := .ref (a 20)) (C := RX1) (T := TX1) (N := 9) hx hb hts in1 hown hK hP 4 rfl rfl 8 (by decide) k49 (fun _ h9 => h9) rfl dX3_changesOrder_22 ?_
          refine lv_iload_n hx hb dX3_changesOrder_25 rfl (lv_at hl 1 rfl) ?_
          have hr26 : (x1).toNatClampNeg < 4 := by have h9 := zcl (x := x1) (by omega); omega
          refine zald hx hb hK hP 20 3 rfl rfl (i := x1) (n := 4) (zin (by omega) (by omega)) (zro_in hr26) dX3_changesOrder_26 ?_
          refine lv_aload_n hx hb dX3_changesOrder_27 rfl (lv_at hl 0 rfl) ?_
          refine va_get (D := (dC, dI)) (ci := 3) (v := .ref (a 25)) (C := RX3) (T := TX3) (N := 4) hx hb hts in3 hown hK hP 5 rfl rfl 1 (by decide) k9 (fun _ h9 => h9) rfl dX3_changesOrder_28 ?_
          refine lv_iload hx hb dX3_changesOrder_31 (lv_at hl 4 rfl) ?_
          refine va_iald (D := (dC, dI)) (f := σ 25) hx hb hK hP 25 1 rfl rfl (i := j) (n := 10) (zin (by omega) (by omega)) dX3_changesOrder_33 ?_
          refine lv_topi (fun v33 ev33 => ?_)
          have tv33 := congrArg Int32.toInt ev33
          have hb9 := hq ((j).toNatClampNeg) (by have q := zcl (x := j) (by omega); omega)
          refine va_iald (D := (dC, dI)) (f := σ (21 + (x1).toNatClampNeg)) hx hb hK hP (21 + (x1).toNatClampNeg) 1 (wX_row21 hr26) rfl (i := v33) (n := 10) (zin (by omega) (by omega)) dX3_changesOrder_34 ?_
          refine lv_topi (fun v34 ev34 => ?_)
          have tv34 := congrArg Int32.toInt ev34
          refine lv_istore (lv' := [(5, .int v34), (0, .ref (a 5)), (1, .int x1), (2, .int x2), (3, .int x3), (4, .int j)]) hx hb dX3_changesOrder_35 hl (by decide) rfl (fun ls hl => ?_)
          refine lv_iload hx hb dX3_changesOrder_37 (lv_at hl 5 rfl) ?_
          refine lv_iload_n hx hb dX3_changesOrder_39 rfl (lv_at hl 3 rfl) ?_
          refine lv_icmp_eq (tgt := 59) hx hb dX3_changesOrder_40 (by decide) (fun c40 => ?_) (fun c40 => ?_)
          · skip
            have ic40 := zeq (a := j.toInt) (b := x2.toInt) rfl rfl c40
            obtain ⟨v59, ev59⟩ : ∃ y : Int32, y = j + 1 := ⟨_, rfl⟩
            refine lv_iinc (v := v59) (lv' := [(4, .int v59), (5, .int v34), (0, .ref (a 5)), (1, .int x1), (2, .int x2), (3, .int x3)]) hx hb dX3_changesOrder_59 hl (k := 5) rfl (by rw [ev59]; rfl) (by decide) rfl (fun ls hl => ?_)
            have tv59 : v59.toInt = j.toInt + 1 := by rw [ev59, zadd, show (1 : Int32).toInt = 1 from by decide]; omega
            refine lv_goto (tgt := 9) hx hb dX3_changesOrder_62 (by decide) ?_
            exact ih (v59)  H locs ls (by omega) (by omega) hP hD hS (lv_sub hl [2, 3, 4, 5, 0] rfl)
          · skip
            have ic40 := zneq (a := j.toInt) (b := x2.toInt) rfl rfl c40
            refine lv_iload hx hb dX3_changesOrder_43 (lv_at hl 0 rfl) ?_
            refine lv_iload_n hx hb dX3_changesOrder_45 rfl (lv_at hl 4 rfl) ?_
            refine lv_icmp_eq (tgt := 57) hx hb dX3_changesOrder_46 (by decide) (fun c46 => ?_) (fun c46 => ?_)
            · skip
              have ic46 := zeq (a := v34.toInt) (b := x3.toInt) rfl rfl c46
              refine lv_iconst (v := 1) hx hb dX3_changesOrder_57 (by decide) ?_
              have hpost : σ = σ ∧ ((1 : Int32).toInt = 1 ∨ (1 : Int32).toInt = 0) := by exact ⟨rfl, by decide⟩
              exact W.zret (v := 1) hx hb hr (by decide +kernel) (fun t9 ht hW => ⟨⟨1, σ, rfl, hpost, by rw [ht]; exact hP, va_K.moved hW.alike hK, hD⟩, hS.F ht⟩) hS.2.2 dX3_changesOrder_58
            · skip
              have ic46 := zneq (a := v34.toInt) (b := x3.toInt) rfl rfl c46
              refine lv_iload hx hb dX3_changesOrder_49 (lv_at hl 0 rfl) ?_
              refine lv_iload_n hx hb dX3_changesOrder_51 rfl (lv_at hl 4 rfl) ?_
              refine lv_iconst (v := 1) hx hb dX3_changesOrder_52 (by decide) ?_
              refine lv_isub hx hb dX3_changesOrder_53 ?_
              refine lv_topi (fun v53 ev53 => ?_)
              refine lv_icmp_ne (tgt := 59) hx hb dX3_changesOrder_54 (by decide) (fun c54 => ?_) (fun c54 => ?_)
              · skip
                have ic54 := zneq (a := v34.toInt) (b := v53.toInt) rfl rfl c54
                obtain ⟨v59, ev59⟩ : ∃ y : Int32, y = j + 1 := ⟨_, rfl⟩
                refine lv_iinc (v := v59) (lv' := [(4, .int v59), (5, .int v34), (0, .ref (a 5)), (1, .int x1), (2, .int x2), (3, .int x3)]) hx hb dX3_changesOrder_59 hl (k := 5) rfl (by rw [ev59]; rfl) (by decide) rfl (fun ls hl => ?_)
                have tv59 : v59.toInt = j.toInt + 1 := by rw [ev59, zadd, show (1 : Int32).toInt = 1 from by decide]; omega
                refine lv_goto (tgt := 9) hx hb dX3_changesOrder_62 (by decide) ?_
                exact ih (v59)  H locs ls (by omega) (by omega) hP hD hS (lv_sub hl [2, 3, 4, 5, 0] rfl)
              · skip
                have ic54 := zeq (a := v34.toInt) (b := v53.toInt) rfl rfl c54
                refine lv_iconst (v := 1) hx hb dX3_changesOrder_57 (by decide) ?_
                have hpost : σ = σ ∧ ((1 : Int32).toInt = 1 ∨ (1 : Int32).toInt = 0) := by exact ⟨rfl, by decide⟩
                exact W.zret (v := 1) hx hb hr (by decide +kernel) (fun t9 ht hW => ⟨⟨1, σ, rfl, hpost, by rw [ht]; exact hP, va_K.moved hW.alike hK, hD⟩, hS.F ht⟩) hS.2.2 dX3_changesOrder_58
  have hl := lv_entry ([.ref (a 5), .int x1, .int x2, .int x3]) (n := 6) (Nat.le_of_ble_eq_true rfl)
  rw [lg_entry_eq]
  generalize (lg_sl ([.ref (a 5), .int x1, .int x2, .int x3]) ++ List.replicate (6 - (lg_sl ([.ref (a 5), .int x1, .int x2, .int x3])).length) Slot.unset).toArray = ls at hl ⊢
  have hl : lv_has ls 6 [(0, .ref (a 5)), (1, .int x1), (2, .int x2), (3, .int x3)] := hl
  suffices main : ∀ (H : Heap) (locs : List Loc), va_P (dC, dI) vwCl (wX a cB cI cS cII σ) H → va_D A (wX a cB cI cS cII σ) → va_S A s.heap H locs → W p l e (headSpec wsX3_changesOrder RM_X3_changesOrder).room s m ([.ref (a 5), .int x1, .int x2, .int x3] : List Value).toArray below meth c H locs 0 0 (MQ below (zQi (dC, dI) (zT cB cI cS cII) (wX a cB cI cS cII) A (fun (r : Int32) (σ1 : Cn) => σ1 = σ ∧ ((r : Int32).toInt = 1 ∨ (r : Int32).toInt = 0))) ([.ref (a 5), .int x1, .int x2, .int x3] : List Value).toArray s 0 0 A) (F0 m 0 ls []) from main s.heap [] hP hD hS
  intro H locs hP hD hS
  refine lv_iload_n hx hb dX3_changesOrder_0 rfl (lv_at hl 3 rfl) ?_
  refine lv_if_ne (tgt := 6) hx hb dX3_changesOrder_1 (by decide) (fun c1 => ?_) (fun c1 => ?_)
  · skip
    have ic1 := zneq (a := x3.toInt) (b := 0) rfl (by decide) c1
    refine lv_iconst (v := 0) hx hb dX3_changesOrder_6 (by decide) ?_
    refine lv_istore (lv' := [(4, .int 0), (0, .ref (a 5)), (1, .int x1), (2, .int x2), (3, .int x3)]) hx hb dX3_changesOrder_7 hl (by decide) rfl (fun ls hl => ?_)
    exact (LP _) (0)  H locs ls (by decide) (Nat.lt_succ_self _) hP hD hS (lv_sub hl [1, 2, 3, 4, 0] rfl)
  · skip
    have ic1 := zeq (a := x3.toInt) (b := 0) rfl (by decide) c1
    refine lv_iconst (v := 1) hx hb dX3_changesOrder_4 (by decide) ?_
    have hpost : σ = σ ∧ ((1 : Int32).toInt = 1 ∨ (1 : Int32).toInt = 0) := by exact ⟨rfl, by decide⟩
    exact W.zret (v := 1) hx hb hr (by decide +kernel) (fun t9 ht hW => ⟨⟨1, σ, rfl, hpost, by rw [ht]; exact hP, va_K.moved hW.alike hK, hD⟩, hS.F ht⟩) hS.2.2 dX3_changesOrder_5

abbrev RM_X3_mostByLying : Room := { frames := 4, cells := 0, slots := 0, locals := 97 }
set_option maxHeartbeats 4000000 in
set_option maxRecDepth 100000 in
theorem c_X3_mostByLying (l : Launch) (dC : Nat → ClassId) (dI : Nat → Nat → Nat) (cB cI cS cII : ClassId) (a : Nat → Nat) (N : (Nat → Prop) → State → Prop) (hok : zNok N) (hn : ∀ A U, N A U → zN U) (σ : Cn) (sz : Nat) (x1 : Int32) (x2 : Int32) (h0 : 0 ≤ (σ 4 1).toInt ∧ (σ 4 1).toInt ≤ 4) (h1 : 0 ≤ x2.toInt ∧ x2.toInt < 4) (hs : 0 ≤ (σ 5 2).toInt ∧ (σ 5 2).toInt ≤ 10) (hq : ∀ j : Nat, (j : Int) < (σ 5 2).toInt → 0 ≤ (σ 25 j).toInt ∧ (σ 25 j).toInt < 10) : Met l yX3_mostByLying wsX3_mostByLying RM_X3_mostByLying (zPc (dC, dI) (zT cB cI cS cII) N (wX a cB cI cS cII) σ sz [.ref (a 5), .int x1, .int x2]) (zQi (dC, dI) (zT cB cI cS cII) (wX a cB cI cS cII) (va_A (wX a cB cI cS cII σ) sz) (fun (r : Int32) (σ1 : Cn) => ∃ u26 : Nat → Int32, σ1 = (upC σ 26 u26) ∧ True)) 0 0 (va_A (wX a cB cI cS cII σ) sz) := by
  refine Met.ofW (cc := cX3_mostByLying) (maxL := 7) (ret := (some .int)) (by decide) rfl ?_
  intro p e s m args below meth c s₁ B hml hv
  obtain ⟨rfl, hsz, hP, hK, hD0, hN⟩ := hv
  have hx := B.exec
  have hb := B.bytes
  have hr := B.returns
  have hts := atoms_spec (ws := wsX3_mostByLying) B.pre
  have hown : s.vm.findClass RX3 = some m.cls := findClass_of_methodNamed B.named
  have hlocks := B.notSynchronized
  subst hsz
  have hD := hD0.self (sz := s.heap.size)
  generalize hAe : va_A (wX a cB cI cS cII σ) s.heap.size = A at hD hN ⊢
  have hA : ∀ q : Nat, s.heap.size ≤ q → A q := fun q h => by rw [← hAe]; exact Or.inr h
  clear hAe hD0
  have hS : va_S A s.heap s.heap [] := va_S.rf
  have in3 : ∀ w ∈ u_ws RX3 TX3 4, w ∈ wsX3_mostByLying := by decide +kernel
  have k22 := hts (.fieldLink RX3 22 "HouseSorted$Sharing" "size" "I") (by decide +kernel)
  have k9 := hts (.fieldLink RX3 9 "HouseSorted$Sharing" "shared" "[I") (by decide +kernel)
  have kcmax := hts (.code Lib.Math.max.name Lib.Math.max.code 2 (some .int)) (by decide +kernel)
  have kiM := hts (.initialized "java/lang/Math") (by decide +kernel)
  have km53 := hts (.methodLink RX3 53 Lib.Math.max.name) (by decide +kernel)
  have ksmax := hts (.static Lib.Math.max.name) (by decide +kernel)
  have LP : ∀ n : Nat, (∀ (ho : Int32) (be : Int32) (j : Int32) (w26 : Nat → Int32) (H : Heap) (locs : List Loc) (ls : Array Slot), 0 ≤ j.toInt ∧ j.toInt ≤ 10 → ((10 - j.toInt).toNat * 200) < n → va_P (dC, dI) vwCl (wX a cB cI cS cII (upC σ 26 w26)) H → va_D A (wX a cB cI cS cII (upC σ 26 w26)) → va_S A s.heap H locs → lv_has ls 7 [(0, .ref (a 5)), (1, .int x1), (2, .int x2), (3, .int ho), (4, .int be), (5, .int j)] → W p l e (headSpec wsX3_mostByLying RM_X3_mostByLying).room s m ([.ref (a 5), .int x1, .int x2] : List Value).toArray below meth c H locs 0 0 (MQ below (zQi (dC, dI) (zT cB cI cS cII) (wX a cB cI cS cII) A (fun (r : Int32) (σ1 : Cn) => ∃ u26 : Nat → Int32, σ1 = (upC σ 26 u26) ∧ True)) ([.ref (a 5), .int x1, .int x2] : List Value).toArray s 0 0 A) (F0 m 18 ls [])) ∧ (∀ (ho : Int32) (be : Int32) (j : Int32) (k : Int32) (w26 : Nat → Int32) (H : Heap) (locs : List Loc) (ls : Array Slot), 0 ≤ j.toInt ∧ j.toInt < (σ 5 2).toInt → 0 ≤ k.toInt ∧ k.toInt ≤ 101 → ((9 - j.toInt).toNat * 200 + (101 - k.toInt).toNat + 1) < n → va_P (dC, dI) vwCl (wX a cB cI cS cII (upC σ 26 w26)) H → va_D A (wX a cB cI cS cII (upC σ 26 w26)) → va_S A s.heap H locs → lv_has ls 7 [(0, .ref (a 5)), (1, .int x1), (2, .int x2), (3, .int ho), (4, .int be), (5, .int j), (6, .int k)] → W p l e (headSpec wsX3_mostByLying RM_X3_mostByLying).room s m ([.ref (a 5), .int x1, .int x2] : List Value).toArray below meth c H locs 0 0 (MQ below (zQi (dC, dI) (zT cB cI cS cII) (wX a cB cI cS cII) A (fun (r : Int32) (σ1 : Cn) => ∃ u26 : Nat → Int32, σ1 = (upC σ 26 u26) ∧ True)) ([.ref (a 5), .int x1, .int x2] : List Value).toArray s 0 0 A) (F0 m 30 ls [])) := by
    intro n
    induction n with
    | zero => exact ⟨(by intros; omega), (by intros; omega)⟩
    | succ n ih =>
      refine ⟨?_, ?_⟩
      · intro ho be j w26 H locs ls g1 hmu hP hD hS hl
        refine lv_iload hx hb dX3_mostByLying_18 (lv_at hl 5 rfl) ?_
        refine lv_aload_n hx hb dX3_mostByLying_20 rfl (lv_at hl 0 rfl) ?_
        refine va_get (D := (dC, dI)) (ci := 3) (v := .int (σ 5 2)) (C := RX3) (T := TX3) (N := 4) hx hb hts in3 hown hK hP 5 rfl rfl 2 (by decide) k22 (fun _ h9 => h9) rfl dX3_mostByLying_21 ?_
        refine lv_icmp_ge (tgt := 89) hx hb dX3_mostByLying_24 (by decide) (fun c24 => ?_) (fun c24 => ?_)
        · skip
          have ic24 := zle (a := (σ 5 2).toInt) (b := j.toInt) rfl rfl c24
          refine lv_iload hx hb dX3_mostByLying_89 (lv_at hl 4 rfl) ?_
          refine lv_iload_n hx hb dX3_mostByLying_91 rfl (lv_at hl 3 rfl) ?_
          refine lv_isub hx hb dX3_mostByLying_92 ?_
          refine lv_topi (fun v92 ev92 => ?_)
          have hpost : ∃ u26 : Nat → Int32, (upC σ 26 w26) = (upC σ 26 u26) ∧ True := by exact ⟨_, rfl, trivial⟩
          exact W.iret (v := v92) hx hb hr (fun t9 ht hW => ⟨⟨v92, (upC σ 26 w26), rfl, hpost, by rw [ht]; exact hP, va_K.moved hW.alike hK, hD⟩, hS.F ht⟩) hS.2.2 dX3_mostByLying_93
        · skip
          have ic24 := znle (a := (σ 5 2).toInt) (b := j.toInt) rfl rfl c24
          refine lv_iconst (v := 0) hx hb dX3_mostByLying_27 (by decide) ?_
          refine lv_istore (lv' := [(6, .int 0), (0, .ref (a 5)), (1, .int x1), (2, .int x2), (3, .int ho), (4, .int be), (5, .int j)]) hx hb dX3_mostByLying_28 hl (by decide) rfl (fun ls hl => ?_)
          exact ih.2 (ho) (be) (j) (0) (w26) H locs ls (by omega) (by first | omega | decide) (by first | omega | (rw [show (0 : Int32).toInt = 0 from by decide]; omega)) hP hD hS (lv_sub hl [1, 2, 3, 4, 5, 6, 0] rfl)
      · intro ho be j k w26 H locs ls g1 g2 hmu hP hD hS hl
        refine lv_iload hx hb dX3_mostByLying_30 (lv_at hl 6 rfl) ?_
        refine lv_bipush (v := 100) hx hb dX3_mostByLying_32 (by decide) ?_
        refine lv_icmp_gt (tgt := 83) hx hb dX3_mostByLying_34 (by decide) (fun c34 => ?_) (fun c34 => ?_)
        · skip
          have ic34 := zlt (a := 100) (b := k.toInt) (by decide) rfl c34
          obtain ⟨v83, ev83⟩ : ∃ y : Int32, y = j + 1 := ⟨_, rfl⟩
          refine lv_iinc (v := v83) (lv' := [(5, .int v83), (0, .ref (a 5)), (1, .int x1), (2, .int x2), (3, .int ho), (4, .int be), (6, .int k)]) hx hb dX3_mostByLying_83 hl (k := 5) rfl (by rw [ev83]; rfl) (by decide) rfl (fun ls hl => ?_)
          have tv83 : v83.toInt = j.toInt + 1 := by rw [ev83, zadd, show (1 : Int32).toInt = 1 from by decide]; omega
          refine lv_goto (tgt := 18) hx hb dX3_mostByLying_86 (by decide) ?_
          exact ih.1 (ho) (be) (v83) (w26) H locs ls (by first | omega | decide) (by omega) hP hD hS (lv_sub hl [1, 2, 3, 4, 5, 0] rfl)
        · skip
          have ic34 := znlt (a := 100) (b := k.toInt) (by decide) rfl c34
          refine lv_aload_n hx hb dX3_mostByLying_37 rfl (lv_at hl 0 rfl) ?_
          refine lv_iload_n hx hb dX3_mostByLying_38 rfl (lv_at hl 2 rfl) ?_
          refine lv_iload hx hb dX3_mostByLying_39 (lv_at hl 5 rfl) ?_
          refine lv_iload hx hb dX3_mostByLying_41 (lv_at hl 6 rfl) ?_
          refine zcalli (va_runV (As := [.int x2, .int j, .int k]) (rest := []) ⟨hx, hb, hml, hown, hts⟩ (c_X3_changesOrder l dC dI cB cI cS cII a N hok hn (upC σ 26 w26) H.size (x2) (j) (k) (by omega) hs hq) (cwV 3 hts gX3_mostByLying_X3_changesOrder rfl rfl rfl (by decide +kernel) ⟨Nat.le_of_ble_eq_true rfl, Nat.le_of_ble_eq_true rfl⟩) (zpreV (wf := wX a cB cI cS cII) (q0 := 5) (ci := 3) hok hN hS hA hK hP hD rfl rfl) rfl rfl hl.1 rfl (lv_room (Nat.le_of_ble_eq_true rfl)) dX3_mostByLying_43 ⟨Nat.zero_le _, Nat.zero_le _⟩) hD hS hA (fun v43 σ1 H locs hv43 hP hD hS => ?_)
          obtain ⟨es9, hv43⟩ := hv43
          subst σ1
          refine lv_if_eq (tgt := 77) hx hb dX3_mostByLying_46 (by decide) (fun c46 => ?_) (fun c46 => ?_)
          · skip
            have ic46 := zeq (a := v43.toInt) (b := 0) rfl (by decide) c46
            obtain ⟨v77, ev77⟩ : ∃ y : Int32, y = k + 1 := ⟨_, rfl⟩
            refine lv_iinc (v := v77) (lv' := [(6, .int v77), (0, .ref (a 5)), (1, .int x1), (2, .int x2), (3, .int ho), (4, .int be), (5, .int j)]) hx hb dX3_mostByLying_77 hl (k := 6) rfl (by rw [ev77]; rfl) (by decide) rfl (fun ls hl => ?_)
            have tv77 : v77.toInt = k.toInt + 1 := by rw [ev77, zadd, show (1 : Int32).toInt = 1 from by decide]; omega
            refine lv_goto (tgt := 30) hx hb dX3_mostByLying_80 (by decide) ?_
            exact ih.2 (ho) (be) (j) (v77) (w26) H locs ls (by omega) (by first | omega | decide) (by first | omega | (rw [show (0 : Int32).toInt = 0 from by decide]; omega)) hP hD hS (lv_sub hl [1, 2, 3, 4, 5, 6, 0] rfl)
          · skip
            have ic46 := zneq (a := v43.toInt) (b := 0) rfl (by decide) c46
            refine lv_aload_n hx hb dX3_mostByLying_49 rfl (lv_at hl 0 rfl) ?_
            refine lv_iload_n hx hb dX3_mostByLying_50 rfl (lv_at hl 1 rfl) ?_
            refine lv_iload_n hx hb dX3_mostByLying_51 rfl (lv_at hl 2 rfl) ?_
            refine lv_aload_n hx hb dX3_mostByLying_52 rfl (lv_at hl 0 rfl) ?_
            refine va_get (D := (dC, dI)) (ci := 3) (v := .ref (a 25)) (C := RX3) (T := TX3) (N := 4) hx hb hts in3 hown hK hP 5 rfl rfl 1 (by decide) k9 (fun _ h9 => h9) rfl dX3_mostByLying_53 ?_
            refine lv_iload hx hb dX3_mostByLying_56 (lv_at hl 5 rfl) ?_
            refine va_iald (D := (dC, dI)) (f := σ 25) hx hb hK hP 25 1 rfl rfl (i := j) (n := 10) (zin (by omega) (by omega)) dX3_mostByLying_58 ?_
            refine lv_topi (fun v58 ev58 => ?_)
            have tv58 := congrArg Int32.toInt ev58
            refine lv_iload hx hb dX3_mostByLying_59 (lv_at hl 6 rfl) ?_
            refine zcallv (va_runV (As := [.int x1, .int x2, .int v58, .int k]) (rest := []) ⟨hx, hb, hml, hown, hts⟩ (c_X3_takeTurnsWithLie l dC dI cB cI cS cII a N hok hn (upC σ 26 w26) H.size (x1) (x2) (v58) (k) h0 hs hq) (cwV 4 hts gX3_mostByLying_X3_takeTurnsWithLie rfl rfl rfl (by decide +kernel) ⟨Nat.le_of_ble_eq_true rfl, Nat.le_of_ble_eq_true rfl⟩) (zpreV (wf := wX a cB cI cS cII) (q0 := 5) (ci := 3) hok hN hS hA hK hP hD rfl rfl) rfl rfl hl.1 rfl (lv_room (Nat.le_of_ble_eq_true rfl)) dX3_mostByLying_61 ⟨Nat.zero_le _, Nat.zero_le _⟩) hD hS hA (fun σ1 H locs hv61 hP hD hS => ?_)
            obtain ⟨u26_61, es9, hv61⟩ := hv61
            subst σ1
            have hP : va_P (dC, dI) vwCl (wX a cB cI cS cII (upC σ 26 u26_61)) H := hP
            have hD : va_D A (wX a cB cI cS cII (upC σ 26 u26_61)) := hD
            refine lv_iload hx hb dX3_mostByLying_64 (lv_at hl 4 rfl) ?_
            refine lv_aload_n hx hb dX3_mostByLying_66 rfl (lv_at hl 0 rfl) ?_
            refine lv_iload_n hx hb dX3_mostByLying_67 rfl (lv_at hl 2 rfl) ?_
            refine lv_iload_n hx hb dX3_mostByLying_68 rfl (lv_at hl 2 rfl) ?_
            refine zcalli (va_runV (As := [.int x2, .int x2]) (rest := [.int be]) ⟨hx, hb, hml, hown, hts⟩ (c_X3_sumOf l dC dI cB cI cS cII a N hok hn (upC σ 26 u26_61) H.size (x2) (x2) (by omega) hs hq) (cwV 2 hts gX3_mostByLying_X3_sumOf rfl rfl rfl (by decide +kernel) ⟨Nat.le_of_ble_eq_true rfl, Nat.le_of_ble_eq_true rfl⟩) (zpreV (wf := wX a cB cI cS cII) (q0 := 5) (ci := 3) hok hN hS hA hK hP hD rfl rfl) rfl rfl hl.1 rfl (lv_room (Nat.le_of_ble_eq_true rfl)) dX3_mostByLying_69 ⟨Nat.zero_le _, Nat.zero_le _⟩) hD hS hA (fun v69 σ1 H locs hv69 hP hD hS => ?_)
            obtain ⟨es9, hv69⟩ := hv69
            subst σ1
            refine va_mmax hx hb (hml.trans hl.1.symm) hown km53 ksmax kiM kcmax (Nat.le_of_ble_eq_true rfl) (Nat.le_of_ble_eq_true rfl) (Nat.zero_le _) (Nat.zero_le _) dX3_mostByLying_72 ?_
            refine lv_topi (fun v72 ev72 => ?_)
            have tv72 := zmax (x := be) (y := v69) (a := be.toInt) (b := v69.toInt) rfl rfl ev72
            refine lv_istore (lv' := [(4, .int v72), (0, .ref (a 5)), (1, .int x1), (2, .int x2), (3, .int ho), (5, .int j), (6, .int k)]) hx hb dX3_mostByLying_75 hl (by decide) rfl (fun ls hl => ?_)
            obtain ⟨v77, ev77⟩ : ∃ y : Int32, y = k + 1 := ⟨_, rfl⟩
            refine lv_iinc (v := v77) (lv' := [(6, .int v77), (4, .int v72), (0, .ref (a 5)), (1, .int x1), (2, .int x2), (3, .int ho), (5, .int j)]) hx hb dX3_mostByLying_77 hl (k := 6) rfl (by rw [ev77]; rfl) (by decide) rfl (fun ls hl => ?_)
            have tv77 : v77.toInt = k.toInt + 1 := by rw [ev77, zadd, show (1 : Int32).toInt = 1 from by decide]; omega
            refine lv_goto (tgt := 30) hx hb dX3_mostByLying_80 (by decide) ?_
            exact ih.2 (ho) (v72) (j) (v77) (u26_61) H locs ls (by omega) (by first | omega | decide) (by first | omega | (rw [show (0 : Int32).toInt = 0 from by decide]; omega)) hP hD hS (lv_sub hl [2, 3, 4, 5, 1, 6, 0] rfl)
  have hl := lv_entry ([.ref (a 5), .int x1, .int x2]) (n := 7) (Nat.le_of_ble_eq_true rfl)
  rw [lg_entry_eq]
  generalize (lg_sl ([.ref (a 5), .int x1, .int x2]) ++ List.replicate (7 - (lg_sl ([.ref (a 5), .int x1, .int x2])).length) Slot.unset).toArray = ls at hl ⊢
  have hl : lv_has ls 7 [(0, .ref (a 5)), (1, .int x1), (2, .int x2)] := hl
  suffices main : ∀ (H : Heap) (locs : List Loc), va_P (dC, dI) vwCl (wX a cB cI cS cII σ) H → va_D A (wX a cB cI cS cII σ) → va_S A s.heap H locs → W p l e (headSpec wsX3_mostByLying RM_X3_mostByLying).room s m ([.ref (a 5), .int x1, .int x2] : List Value).toArray below meth c H locs 0 0 (MQ below (zQi (dC, dI) (zT cB cI cS cII) (wX a cB cI cS cII) A (fun (r : Int32) (σ1 : Cn) => ∃ u26 : Nat → Int32, σ1 = (upC σ 26 u26) ∧ True)) ([.ref (a 5), .int x1, .int x2] : List Value).toArray s 0 0 A) (F0 m 0 ls []) from main s.heap [] hP hD hS
  intro H locs hP hD hS
  refine lv_aload_n hx hb dX3_mostByLying_0 rfl (lv_at hl 0 rfl) ?_
  refine lv_iload_n hx hb dX3_mostByLying_1 rfl (lv_at hl 1 rfl) ?_
  refine zcallv (va_runV (As := [.int x1]) (rest := []) ⟨hx, hb, hml, hown, hts⟩ (c_X3_takeTurns l dC dI cB cI cS cII a N hok hn σ H.size (x1) h0 hs hq) (cwV 1 hts gX3_mostByLying_X3_takeTurns rfl rfl rfl (by decide +kernel) ⟨Nat.le_of_ble_eq_true rfl, Nat.le_of_ble_eq_true rfl⟩) (zpreV (wf := wX a cB cI cS cII) (q0 := 5) (ci := 3) hok hN hS hA hK hP hD rfl rfl) rfl rfl hl.1 rfl (lv_room (Nat.le_of_ble_eq_true rfl)) dX3_mostByLying_2 ⟨Nat.zero_le _, Nat.zero_le _⟩) hD hS hA (fun σ1 H locs hv2 hP hD hS => ?_)
  obtain ⟨u26_2, es9, hv2⟩ := hv2
  subst σ1
  have hP : va_P (dC, dI) vwCl (wX a cB cI cS cII (upC σ 26 u26_2)) H := hP
  have hD : va_D A (wX a cB cI cS cII (upC σ 26 u26_2)) := hD
  refine lv_aload_n hx hb dX3_mostByLying_5 rfl (lv_at hl 0 rfl) ?_
  refine lv_iload_n hx hb dX3_mostByLying_6 rfl (lv_at hl 2 rfl) ?_
  refine lv_iload_n hx hb dX3_mostByLying_7 rfl (lv_at hl 2 rfl) ?_
  refine zcalli (va_runV (As := [.int x2, .int x2]) (rest := []) ⟨hx, hb, hml, hown, hts⟩ (c_X3_sumOf l dC dI cB cI cS cII a N hok hn (upC σ 26 u26_2) H.size (x2) (x2) (by omega) hs hq) (cwV 2 hts gX3_mostByLying_X3_sumOf rfl rfl rfl (by decide +kernel) ⟨Nat.le_of_ble_eq_true rfl, Nat.le_of_ble_eq_true rfl⟩) (zpreV (wf := wX a cB cI cS cII) (q0 := 5) (ci := 3) hok hN hS hA hK hP hD rfl rfl) rfl rfl hl.1 rfl (lv_room (Nat.le_of_ble_eq_true rfl)) dX3_mostByLying_8 ⟨Nat.zero_le _, Nat.zero_le _⟩) hD hS hA (fun v8 σ1 H locs hv8 hP hD hS => ?_)
  obtain ⟨es9, hv8⟩ := hv8
  subst σ1
  refine lv_istore_n (lv' := [(3, .int v8), (0, .ref (a 5)), (1, .int x1), (2, .int x2)]) hx hb dX3_mostByLying_11 rfl hl (by decide) rfl (fun ls hl => ?_)
  refine lv_iload_n hx hb dX3_mostByLying_12 rfl (lv_at hl 0 rfl) ?_
  refine lv_istore (lv' := [(4, .int v8), (3, .int v8), (0, .ref (a 5)), (1, .int x1), (2, .int x2)]) hx hb dX3_mostByLying_13 hl (by decide) rfl (fun ls hl => ?_)
  refine lv_iconst (v := 0) hx hb dX3_mostByLying_15 (by decide) ?_
  refine lv_istore (lv' := [(5, .int 0), (4, .int v8), (3, .int v8), (0, .ref (a 5)), (1, .int x1), (2, .int x2)]) hx hb dX3_mostByLying_16 hl (by decide) rfl (fun ls hl => ?_)
  exact (LP _).1 (v8) (v8) (0) (u26_2) H locs ls (by decide) (Nat.lt_succ_self _) hP hD hS (lv_sub hl [3, 4, 5, 2, 1, 0] rfl)

abbrev RM_X3_envyOf : Room := { frames := 2, cells := 0, slots := 0, locals := 45 }
set_option maxHeartbeats 4000000 in
set_option maxRecDepth 100000 in
theorem c_X3_envyOf (l : Launch) (dC : Nat → ClassId) (dI : Nat → Nat → Nat) (cB cI cS cII : ClassId) (a : Nat → Nat) (N : (Nat → Prop) → State → Prop) (hok : zNok N) (hn : ∀ A U, N A U → zN U) (σ : Cn) (sz : Nat) (x1 : Int32) (x2 : Int32) (h1 : 0 ≤ x1.toInt ∧ x1.toInt < 4) (hs : 0 ≤ (σ 5 2).toInt ∧ (σ 5 2).toInt ≤ 10) (hq : ∀ j : Nat, (j : Int) < (σ 5 2).toInt → 0 ≤ (σ 25 j).toInt ∧ (σ 25 j).toInt < 10) : Met l yX3_envyOf wsX3_envyOf RM_X3_envyOf (zPc (dC, dI) (zT cB cI cS cII) N (wX a cB cI cS cII) σ sz [.ref (a 5), .int x1, .int x2]) (zQi (dC, dI) (zT cB cI cS cII) (wX a cB cI cS cII) (va_A (wX a cB cI cS cII σ) sz) (fun (r : Int32) (σ1 : Cn) => σ1 = σ ∧ True)) 0 0 (va_A (wX a cB cI cS cII σ) sz) := by
  refine Met.ofW (cc := cX3_envyOf) (maxL := 4) (ret := (some .int)) (by decide) rfl ?_
  intro p e s m args below meth c s₁ B hml hv
  obtain ⟨rfl, hsz, hP, hK, hD0, hN⟩ := hv
  have hx := B.exec
  have hb := B.bytes
  have hr := B.returns
  have hts := atoms_spec (ws := wsX3_envyOf) B.pre
  have hown : s.vm.findClass RX3 = some m.cls := findClass_of_methodNamed B.named
  have hlocks := B.notSynchronized
  subst hsz
  have hD := hD0.self (sz := s.heap.size)
  generalize hAe : va_A (wX a cB cI cS cII σ) s.heap.size = A at hD hN ⊢
  have hA : ∀ q : Nat, s.heap.size ≤ q → A q := fun q h => by rw [← hAe]; exact Or.inr h
  clear hAe hD0
  have hS : va_S A s.heap s.heap [] := va_S.rf
  have hl := lv_entry ([.ref (a 5), .int x1, .int x2]) (n := 4) (Nat.le_of_ble_eq_true rfl)
  rw [lg_entry_eq]
  generalize (lg_sl ([.ref (a 5), .int x1, .int x2]) ++ List.replicate (4 - (lg_sl ([.ref (a 5), .int x1, .int x2])).length) Slot.unset).toArray = ls at hl ⊢
  have hl : lv_has ls 4 [(0, .ref (a 5)), (1, .int x1), (2, .int x2)] := hl
  suffices main : ∀ (H : Heap) (locs : List Loc), va_P (dC, dI) vwCl (wX a cB cI cS cII σ) H → va_D A (wX a cB cI cS cII σ) → va_S A s.heap H locs → W p l e (headSpec wsX3_envyOf RM_X3_envyOf).room s m ([.ref (a 5), .int x1, .int x2] : List Value).toArray below meth c H locs 0 0 (MQ below (zQi (dC, dI) (zT cB cI cS cII) (wX a cB cI cS cII) A (fun (r : Int32) (σ1 : Cn) => σ1 = σ ∧ True)) ([.ref (a 5), .int x1, .int x2] : List Value).toArray s 0 0 A) (F0 m 0 ls []) from main s.heap [] hP hD hS
  intro H locs hP hD hS
  refine lv_aload_n hx hb dX3_envyOf_0 rfl (lv_at hl 0 rfl) ?_
  refine lv_iload_n hx hb dX3_envyOf_1 rfl (lv_at hl 1 rfl) ?_
  refine lv_iload_n hx hb dX3_envyOf_2 rfl (lv_at hl 2 rfl) ?_
  refine zcalli (va_runV (As := [.int x1, .int x2]) (rest := []) ⟨hx, hb, hml, hown, hts⟩ (c_X3_sumOf l dC dI cB cI cS cII a N hok hn σ H.size (x1) (x2) (by omega) hs hq) (cwV 2 hts gX3_envyOf_X3_sumOf rfl rfl rfl (by decide +kernel) ⟨Nat.le_of_ble_eq_true rfl, Nat.le_of_ble_eq_true rfl⟩) (zpreV (wf := wX a cB cI cS cII) (q0 := 5) (ci := 3) hok hN hS hA hK hP hD rfl rfl) rfl rfl hl.1 rfl (lv_room (Nat.le_of_ble_eq_true rfl)) dX3_envyOf_3 ⟨Nat.zero_le _, Nat.zero_le _⟩) hD hS hA (fun v3 σ1 H locs hv3 hP hD hS => ?_)
  obtain ⟨es9, hv3⟩ := hv3
  subst σ1
  refine lv_aload_n hx hb dX3_envyOf_6 rfl (lv_at hl 0 rfl) ?_
  refine lv_iload_n hx hb dX3_envyOf_7 rfl (lv_at hl 1 rfl) ?_
  refine lv_iload_n hx hb dX3_envyOf_8 rfl (lv_at hl 1 rfl) ?_
  refine zcalli (va_runV (As := [.int x1, .int x1]) (rest := [.int v3]) ⟨hx, hb, hml, hown, hts⟩ (c_X3_sumOf l dC dI cB cI cS cII a N hok hn σ H.size (x1) (x1) (by omega) hs hq) (cwV 2 hts gX3_envyOf_X3_sumOf rfl rfl rfl (by decide +kernel) ⟨Nat.le_of_ble_eq_true rfl, Nat.le_of_ble_eq_true rfl⟩) (zpreV (wf := wX a cB cI cS cII) (q0 := 5) (ci := 3) hok hN hS hA hK hP hD rfl rfl) rfl rfl hl.1 rfl (lv_room (Nat.le_of_ble_eq_true rfl)) dX3_envyOf_9 ⟨Nat.zero_le _, Nat.zero_le _⟩) hD hS hA (fun v9 σ1 H locs hv9 hP hD hS => ?_)
  obtain ⟨es9, hv9⟩ := hv9
  subst σ1
  refine lv_isub hx hb dX3_envyOf_12 ?_
  refine lv_topi (fun v12 ev12 => ?_)
  refine lv_istore_n (lv' := [(3, .int v12), (0, .ref (a 5)), (1, .int x1), (2, .int x2)]) hx hb dX3_envyOf_13 rfl hl (by decide) rfl (fun ls hl => ?_)
  refine lv_iload_n hx hb dX3_envyOf_14 rfl (lv_at hl 0 rfl) ?_
  refine lv_if_gt (tgt := 20) hx hb dX3_envyOf_15 (by decide) (fun c15 => ?_) (fun c15 => ?_)
  · skip
    have ic15 := zlt (a := 0) (b := v12.toInt) (by decide) rfl c15
    refine lv_iload_n hx hb dX3_envyOf_20 rfl (lv_at hl 0 rfl) ?_
    refine lv_aload_n hx hb dX3_envyOf_21 rfl (lv_at hl 1 rfl) ?_
    refine lv_iload_n hx hb dX3_envyOf_22 rfl (lv_at hl 2 rfl) ?_
    refine lv_iload_n hx hb dX3_envyOf_23 rfl (lv_at hl 3 rfl) ?_
    refine zcalli (va_runV (As := [.int x1, .int x2]) (rest := [.int v12]) ⟨hx, hb, hml, hown, hts⟩ (c_X3_greatestOf l dC dI cB cI cS cII a N hok hn σ H.size (x1) (x2) (by omega) hs hq) (cwV 2 hts gX3_envyOf_X3_greatestOf rfl rfl rfl (by decide +kernel) ⟨Nat.le_of_ble_eq_true rfl, Nat.le_of_ble_eq_true rfl⟩) (zpreV (wf := wX a cB cI cS cII) (q0 := 5) (ci := 3) hok hN hS hA hK hP hD rfl rfl) rfl rfl hl.1 rfl (lv_room (Nat.le_of_ble_eq_true rfl)) dX3_envyOf_24 ⟨Nat.zero_le _, Nat.zero_le _⟩) hD hS hA (fun v24 σ1 H locs hv24 hP hD hS => ?_)
    obtain ⟨es9, hv24⟩ := hv24
    subst σ1
    refine lv_icmp_gt (tgt := 34) hx hb dX3_envyOf_27 (by decide) (fun c27 => ?_) (fun c27 => ?_)
    · skip
      have ic27 := zlt (a := v24.toInt) (b := v12.toInt) rfl rfl c27
      refine lv_iconst (v := 2) hx hb dX3_envyOf_34 (by decide) ?_
      have hpost : σ = σ ∧ True := by exact ⟨rfl, trivial⟩
      exact W.iret (v := 2) hx hb hr (fun t9 ht hW => ⟨⟨2, σ, rfl, hpost, by rw [ht]; exact hP, va_K.moved hW.alike hK, hD⟩, hS.F ht⟩) hS.2.2 dX3_envyOf_35
    · skip
      have ic27 := znlt (a := v24.toInt) (b := v12.toInt) rfl rfl c27
      refine lv_iconst (v := 1) hx hb dX3_envyOf_30 (by decide) ?_
      refine lv_goto (tgt := 35) hx hb dX3_envyOf_31 (by decide) ?_
      have hpost : σ = σ ∧ True := by exact ⟨rfl, trivial⟩
      exact W.iret (v := 1) hx hb hr (fun t9 ht hW => ⟨⟨1, σ, rfl, hpost, by rw [ht]; exact hP, va_K.moved hW.alike hK, hD⟩, hS.F ht⟩) hS.2.2 dX3_envyOf_35
  · skip
    have ic15 := znlt (a := 0) (b := v12.toInt) (by decide) rfl c15
    refine lv_iconst (v := 0) hx hb dX3_envyOf_18 (by decide) ?_
    have hpost : σ = σ ∧ True := by exact ⟨rfl, trivial⟩
    exact W.iret (v := 0) hx hb hr (fun t9 ht hW => ⟨⟨0, σ, rfl, hpost, by rw [ht]; exact hP, va_K.moved hW.alike hK, hD⟩, hS.F ht⟩) hS.2.2 dX3_envyOf_19

abbrev RM_X3_envyPairs : Room := { frames := 3, cells := 0, slots := 0, locals := 68 }
set_option maxHeartbeats 4000000 in
set_option maxRecDepth 100000 in
theorem c_X3_envyPairs (l : Launch) (dC : Nat → ClassId) (dI : Nat → Nat → Nat) (cB cI cS cII : ClassId) (a : Nat → Nat) (N : (Nat → Prop) → State → Prop) (hok : zNok N) (hn : ∀ A U, N A U → zN U) (σ : Cn) (sz : Nat)  (h0 : 0 ≤ (σ 4 1).toInt ∧ (σ 4 1).toInt ≤ 4) (hs : 0 ≤ (σ 5 2).toInt ∧ (σ 5 2).toInt ≤ 10) (hq : ∀ j : Nat, (j : Int) < (σ 5 2).toInt → 0 ≤ (σ 25 j).toInt ∧ (σ 25 j).toInt < 10) : Met l yX3_envyPairs wsX3_envyPairs RM_X3_envyPairs (zPc (dC, dI) (zT cB cI cS cII) N (wX a cB cI cS cII) σ sz [.ref (a 5)]) (zQi (dC, dI) (zT cB cI cS cII) (wX a cB cI cS cII) (va_A (wX a cB cI cS cII σ) sz) (fun (r : Int32) (σ1 : Cn) => σ1 = σ ∧ True)) 0 0 (va_A (wX a cB cI cS cII σ) sz) := by
  refine Met.ofW (cc := cX3_envyPairs) (maxL := 4) (ret := (some .int)) (by decide) rfl ?_
  intro p e s m args below meth c s₁ B hml hv
  obtain ⟨rfl, hsz, hP, hK, hD0, hN⟩ := hv
  have hx := B.exec
  have hb := B.bytes
  have hr := B.returns
  have hts := atoms_spec (ws := wsX3_envyPairs) B.pre
  have hown : s.vm.findClass RX3 = some m.cls := findClass_of_methodNamed B.named
  have hlocks := B.notSynchronized
  subst hsz
  have hD := hD0.self (sz := s.heap.size)
  generalize hAe : va_A (wX a cB cI cS cII σ) s.heap.size = A at hD hN ⊢
  have hA : ∀ q : Nat, s.heap.size ≤ q → A q := fun q h => by rw [← hAe]; exact Or.inr h
  clear hAe hD0
  have hS : va_S A s.heap s.heap [] := va_S.rf
  have in1 : ∀ w ∈ u_ws RX1 TX1 9, w ∈ wsX3_envyPairs := by decide +kernel
  have in3 : ∀ w ∈ u_ws RX3 TX3 4, w ∈ wsX3_envyPairs := by decide +kernel
  have k18 := hts (.fieldLink RX3 18 "HouseSorted$Sharing" "house" "LHouseSorted$House;") (by decide +kernel)
  have k35 := hts (.fieldLink RX3 35 "HouseSorted$House" "heirs" "I") (by decide +kernel)
  have LP : ∀ n : Nat, (∀ (f : Int32) (j : Int32) (H : Heap) (locs : List Loc) (ls : Array Slot), 0 ≤ j.toInt ∧ j.toInt ≤ 4 → ((4 - j.toInt).toNat * 10) < n → va_P (dC, dI) vwCl (wX a cB cI cS cII σ) H → va_D A (wX a cB cI cS cII σ) → va_S A s.heap H locs → lv_has ls 4 [(0, .ref (a 5)), (1, .int f), (2, .int j)] → W p l e (headSpec wsX3_envyPairs RM_X3_envyPairs).room s m ([.ref (a 5)] : List Value).toArray below meth c H locs 0 0 (MQ below (zQi (dC, dI) (zT cB cI cS cII) (wX a cB cI cS cII) A (fun (r : Int32) (σ1 : Cn) => σ1 = σ ∧ True)) ([.ref (a 5)] : List Value).toArray s 0 0 A) (F0 m 4 ls [])) ∧ (∀ (f : Int32) (j : Int32) (k : Int32) (H : Heap) (locs : List Loc) (ls : Array Slot), 0 ≤ j.toInt ∧ j.toInt < 4 → 0 ≤ k.toInt ∧ k.toInt ≤ 4 → ((3 - j.toInt).toNat * 10 + (4 - k.toInt).toNat + 1) < n → va_P (dC, dI) vwCl (wX a cB cI cS cII σ) H → va_D A (wX a cB cI cS cII σ) → va_S A s.heap H locs → lv_has ls 4 [(0, .ref (a 5)), (1, .int f), (2, .int j), (3, .int k)] → W p l e (headSpec wsX3_envyPairs RM_X3_envyPairs).room s m ([.ref (a 5)] : List Value).toArray below meth c H locs 0 0 (MQ below (zQi (dC, dI) (zT cB cI cS cII) (wX a cB cI cS cII) A (fun (r : Int32) (σ1 : Cn) => σ1 = σ ∧ True)) ([.ref (a 5)] : List Value).toArray s 0 0 A) (F0 m 17 ls [])) := by
    intro n
    induction n with
    | zero => exact ⟨(by intros; omega), (by intros; omega)⟩
    | succ n ih =>
      refine ⟨?_, ?_⟩
      · intro f j H locs ls g1 hmu hP hD hS hl
        refine lv_iload_n hx hb dX3_envyPairs_4 rfl (lv_at hl 2 rfl) ?_
        refine lv_aload_n hx hb dX3_envyPairs_5 rfl (lv_at hl 0 rfl) ?_
        refine va_get (D := (dC, dI)) (ci := 3) (v := .ref (a 4)) (C := RX3) (T := TX3) (N := 4) hx hb hts in3 hown hK hP 5 rfl rfl 0 (by decide) k18 (fun _ h9 => h9) rfl dX3_envyPairs_6 ?_
        refine va_get (D := (dC, dI)) (ci := 1) (v := .int (σ 4 1)) (C := RX1) (T := TX1) (N := 9) hx hb hts in1 hown hK hP 4 rfl rfl 1 (by decide) k35 (fun _ h9 => h9) rfl dX3_envyPairs_9 ?_
        refine lv_icmp_ge (tgt := 57) hx hb dX3_envyPairs_12 (by decide) (fun c12 => ?_) (fun c12 => ?_)
        · skip
          have ic12 := zle (a := (σ 4 1).toInt) (b := j.toInt) rfl rfl c12
          refine lv_iload_n hx hb dX3_envyPairs_57 rfl (lv_at hl 1 rfl) ?_
          have hpost : σ = σ ∧ True := by exact ⟨rfl, trivial⟩
          exact W.iret (v := f) hx hb hr (fun t9 ht hW => ⟨⟨f, σ, rfl, hpost, by rw [ht]; exact hP, va_K.moved hW.alike hK, hD⟩, hS.F ht⟩) hS.2.2 dX3_envyPairs_58
        · skip
          have ic12 := znle (a := (σ 4 1).toInt) (b := j.toInt) rfl rfl c12
          refine lv_iconst (v := 0) hx hb dX3_envyPairs_15 (by decide) ?_
          refine lv_istore_n (lv' := [(3, .int 0), (0, .ref (a 5)), (1, .int f), (2, .int j)]) hx hb dX3_envyPairs_16 rfl hl (by decide) rfl (fun ls hl => ?_)
          exact ih.2 (f) (j) (0)  H locs ls (by omega) (by first | omega | decide) (by first | omega | (rw [show (0 : Int32).toInt = 0 from by decide]; omega)) hP hD hS (lv_sub hl [1, 2, 3, 0] rfl)
      · intro f j k H locs ls g1 g2 hmu hP hD hS hl
        refine lv_iload_n hx hb dX3_envyPairs_17 rfl (lv_at hl 3 rfl) ?_
        refine lv_aload_n hx hb dX3_envyPairs_18 rfl (lv_at hl 0 rfl) ?_
        refine va_get (D := (dC, dI)) (ci := 3) (v := .ref (a 4)) (C := RX3) (T := TX3) (N := 4) hx hb hts in3 hown hK hP 5 rfl rfl 0 (by decide) k18 (fun _ h9 => h9) rfl dX3_envyPairs_19 ?_
        refine va_get (D := (dC, dI)) (ci := 1) (v := .int (σ 4 1)) (C := RX1) (T := TX1) (N := 9) hx hb hts in1 hown hK hP 4 rfl rfl 1 (by decide) k35 (fun _ h9 => h9) rfl dX3_envyPairs_22 ?_
        refine lv_icmp_ge (tgt := 51) hx hb dX3_envyPairs_25 (by decide) (fun c25 => ?_) (fun c25 => ?_)
        · skip
          have ic25 := zle (a := (σ 4 1).toInt) (b := k.toInt) rfl rfl c25
          obtain ⟨v51, ev51⟩ : ∃ y : Int32, y = j + 1 := ⟨_, rfl⟩
          refine lv_iinc (v := v51) (lv' := [(2, .int v51), (0, .ref (a 5)), (1, .int f), (3, .int k)]) hx hb dX3_envyPairs_51 hl (k := 2) rfl (by rw [ev51]; rfl) (by decide) rfl (fun ls hl => ?_)
          have tv51 : v51.toInt = j.toInt + 1 := by rw [ev51, zadd, show (1 : Int32).toInt = 1 from by decide]; omega
          refine lv_goto (tgt := 4) hx hb dX3_envyPairs_54 (by decide) ?_
          exact ih.1 (f) (v51)  H locs ls (by first | omega | decide) (by omega) hP hD hS (lv_sub hl [1, 2, 0] rfl)
        · skip
          have ic25 := znle (a := (σ 4 1).toInt) (b := k.toInt) rfl rfl c25
          refine lv_iload_n hx hb dX3_envyPairs_28 rfl (lv_at hl 2 rfl) ?_
          refine lv_iload_n hx hb dX3_envyPairs_29 rfl (lv_at hl 3 rfl) ?_
          refine lv_icmp_eq (tgt := 45) hx hb dX3_envyPairs_30 (by decide) (fun c30 => ?_) (fun c30 => ?_)
          · skip
            have ic30 := zeq (a := j.toInt) (b := k.toInt) rfl rfl c30
            obtain ⟨v45, ev45⟩ : ∃ y : Int32, y = k + 1 := ⟨_, rfl⟩
            refine lv_iinc (v := v45) (lv' := [(3, .int v45), (0, .ref (a 5)), (1, .int f), (2, .int j)]) hx hb dX3_envyPairs_45 hl (k := 3) rfl (by rw [ev45]; rfl) (by decide) rfl (fun ls hl => ?_)
            have tv45 : v45.toInt = k.toInt + 1 := by rw [ev45, zadd, show (1 : Int32).toInt = 1 from by decide]; omega
            refine lv_goto (tgt := 17) hx hb dX3_envyPairs_48 (by decide) ?_
            exact ih.2 (f) (j) (v45)  H locs ls (by omega) (by first | omega | decide) (by first | omega | (rw [show (0 : Int32).toInt = 0 from by decide]; omega)) hP hD hS (lv_sub hl [1, 2, 3, 0] rfl)
          · skip
            have ic30 := zneq (a := j.toInt) (b := k.toInt) rfl rfl c30
            refine lv_aload_n hx hb dX3_envyPairs_33 rfl (lv_at hl 0 rfl) ?_
            refine lv_iload_n hx hb dX3_envyPairs_34 rfl (lv_at hl 2 rfl) ?_
            refine lv_iload_n hx hb dX3_envyPairs_35 rfl (lv_at hl 3 rfl) ?_
            refine zcalli (va_runV (As := [.int j, .int k]) (rest := []) ⟨hx, hb, hml, hown, hts⟩ (c_X3_envyOf l dC dI cB cI cS cII a N hok hn σ H.size (j) (k) (by omega) hs hq) (cwV 2 hts gX3_envyPairs_X3_envyOf rfl rfl rfl (by decide +kernel) ⟨Nat.le_of_ble_eq_true rfl, Nat.le_of_ble_eq_true rfl⟩) (zpreV (wf := wX a cB cI cS cII) (q0 := 5) (ci := 3) hok hN hS hA hK hP hD rfl rfl) rfl rfl hl.1 rfl (lv_room (Nat.le_of_ble_eq_true rfl)) dX3_envyPairs_36 ⟨Nat.zero_le _, Nat.zero_le _⟩) hD hS hA (fun v36 σ1 H locs hv36 hP hD hS => ?_)
            obtain ⟨es9, hv36⟩ := hv36
            subst σ1
            refine lv_if_le (tgt := 45) hx hb dX3_envyPairs_39 (by decide) (fun c39 => ?_) (fun c39 => ?_)
            · skip
              have ic39 := zle (a := v36.toInt) (b := 0) rfl (by decide) c39
              obtain ⟨v45, ev45⟩ : ∃ y : Int32, y = k + 1 := ⟨_, rfl⟩
              refine lv_iinc (v := v45) (lv' := [(3, .int v45), (0, .ref (a 5)), (1, .int f), (2, .int j)]) hx hb dX3_envyPairs_45 hl (k := 3) rfl (by rw [ev45]; rfl) (by decide) rfl (fun ls hl => ?_)
              have tv45 : v45.toInt = k.toInt + 1 := by rw [ev45, zadd, show (1 : Int32).toInt = 1 from by decide]; omega
              refine lv_goto (tgt := 17) hx hb dX3_envyPairs_48 (by decide) ?_
              exact ih.2 (f) (j) (v45)  H locs ls (by omega) (by first | omega | decide) (by first | omega | (rw [show (0 : Int32).toInt = 0 from by decide]; omega)) hP hD hS (lv_sub hl [1, 2, 3, 0] rfl)
            · skip
              have ic39 := znle (a := v36.toInt) (b := 0) rfl (by decide) c39
              obtain ⟨v42, ev42⟩ : ∃ y : Int32, y = f + 1 := ⟨_, rfl⟩
              refine lv_iinc (v := v42) (lv' := [(1, .int v42), (0, .ref (a 5)), (2, .int j), (3, .int k)]) hx hb dX3_envyPairs_42 hl (k := 1) rfl (by rw [ev42]; rfl) (by decide) rfl (fun ls hl => ?_)
              obtain ⟨v45, ev45⟩ : ∃ y : Int32, y = k + 1 := ⟨_, rfl⟩
              refine lv_iinc (v := v45) (lv' := [(3, .int v45), (1, .int v42), (0, .ref (a 5)), (2, .int j)]) hx hb dX3_envyPairs_45 hl (k := 3) rfl (by rw [ev45]; rfl) (by decide) rfl (fun ls hl => ?_)
              have tv45 : v45.toInt = k.toInt + 1 := by rw [ev45, zadd, show (1 : Int32).toInt = 1 from by decide]; omega
              refine lv_goto (tgt := 17) hx hb dX3_envyPairs_48 (by decide) ?_
              exact ih.2 (v42) (j) (v45)  H locs ls (by omega) (by first | omega | decide) (by first | omega | (rw [show (0 : Int32).toInt = 0 from by decide]; omega)) hP hD hS (lv_sub hl [2, 1, 3, 0] rfl)
  have hl := lv_entry ([.ref (a 5)]) (n := 4) (Nat.le_of_ble_eq_true rfl)
  rw [lg_entry_eq]
  generalize (lg_sl ([.ref (a 5)]) ++ List.replicate (4 - (lg_sl ([.ref (a 5)])).length) Slot.unset).toArray = ls at hl ⊢
  have hl : lv_has ls 4 [(0, .ref (a 5))] := hl
  suffices main : ∀ (H : Heap) (locs : List Loc), va_P (dC, dI) vwCl (wX a cB cI cS cII σ) H → va_D A (wX a cB cI cS cII σ) → va_S A s.heap H locs → W p l e (headSpec wsX3_envyPairs RM_X3_envyPairs).room s m ([.ref (a 5)] : List Value).toArray below meth c H locs 0 0 (MQ below (zQi (dC, dI) (zT cB cI cS cII) (wX a cB cI cS cII) A (fun (r : Int32) (σ1 : Cn) => σ1 = σ ∧ True)) ([.ref (a 5)] : List Value).toArray s 0 0 A) (F0 m 0 ls []) from main s.heap [] hP hD hS
  intro H locs hP hD hS
  refine lv_iconst (v := 0) hx hb dX3_envyPairs_0 (by decide) ?_
  refine lv_istore_n (lv' := [(1, .int 0), (0, .ref (a 5))]) hx hb dX3_envyPairs_1 rfl hl (by decide) rfl (fun ls hl => ?_)
  refine lv_iconst (v := 0) hx hb dX3_envyPairs_2 (by decide) ?_
  refine lv_istore_n (lv' := [(2, .int 0), (1, .int 0), (0, .ref (a 5))]) hx hb dX3_envyPairs_3 rfl hl (by decide) rfl (fun ls hl => ?_)
  exact (LP _).1 (0) (0)  H locs ls (by decide) (Nat.lt_succ_self _) hP hD hS (lv_sub hl [2, 1, 0] rfl)

abbrev RM_X3_giveToKeenest : Room := { frames := 1, cells := 0, slots := 0, locals := 23 }
set_option maxHeartbeats 4000000 in
set_option maxRecDepth 100000 in
theorem c_X3_giveToKeenest (l : Launch) (dC : Nat → ClassId) (dI : Nat → Nat → Nat) (cB cI cS cII : ClassId) (a : Nat → Nat) (N : (Nat → Prop) → State → Prop) (hok : zNok N) (hn : ∀ A U, N A U → zN U) (σ : Cn) (sz : Nat)  (h0 : 0 ≤ (σ 4 1).toInt ∧ (σ 4 1).toInt ≤ 4) (hs : 0 ≤ (σ 5 2).toInt ∧ (σ 5 2).toInt ≤ 10) (hq : ∀ j : Nat, (j : Int) < (σ 5 2).toInt → 0 ≤ (σ 25 j).toInt ∧ (σ 25 j).toInt < 10) : Met l yX3_giveToKeenest wsX3_giveToKeenest RM_X3_giveToKeenest (zPc (dC, dI) (zT cB cI cS cII) N (wX a cB cI cS cII) σ sz [.ref (a 5)]) (zQv (dC, dI) (zT cB cI cS cII) (wX a cB cI cS cII) (va_A (wX a cB cI cS cII σ) sz) (fun (σ1 : Cn) => ∃ u26 : Nat → Int32, σ1 = (upC σ 26 u26) ∧ True)) 0 0 (va_A (wX a cB cI cS cII σ) sz) := by
  refine Met.ofW (cc := cX3_giveToKeenest) (maxL := 2) (ret := none) (by decide) rfl ?_
  intro p e s m args below meth c s₁ B hml hv
  obtain ⟨rfl, hsz, hP, hK, hD0, hN⟩ := hv
  have hx := B.exec
  have hb := B.bytes
  have hr := B.returns
  have hts := atoms_spec (ws := wsX3_giveToKeenest) B.pre
  have hown : s.vm.findClass RX3 = some m.cls := findClass_of_methodNamed B.named
  have hlocks := B.notSynchronized
  subst hsz
  have hD := hD0.self (sz := s.heap.size)
  generalize hAe : va_A (wX a cB cI cS cII σ) s.heap.size = A at hD hN ⊢
  have hA : ∀ q : Nat, s.heap.size ≤ q → A q := fun q h => by rw [← hAe]; exact Or.inr h
  clear hAe hD0
  have hS : va_S A s.heap s.heap [] := va_S.rf
  have in3 : ∀ w ∈ u_ws RX3 TX3 4, w ∈ wsX3_giveToKeenest := by decide +kernel
  have k15 := hts (.fieldLink RX3 15 "HouseSorted$Sharing" "taker" "[I") (by decide +kernel)
  have k18 := hts (.fieldLink RX3 18 "HouseSorted$Sharing" "house" "LHouseSorted$House;") (by decide +kernel)
  have k22 := hts (.fieldLink RX3 22 "HouseSorted$Sharing" "size" "I") (by decide +kernel)
  have k9 := hts (.fieldLink RX3 9 "HouseSorted$Sharing" "shared" "[I") (by decide +kernel)
  have LP : ∀ n : Nat, (∀ (j : Int32) (w26 : Nat → Int32) (H : Heap) (locs : List Loc) (ls : Array Slot), 0 ≤ j.toInt ∧ j.toInt ≤ 10 → (10 - j.toInt).toNat < n → va_P (dC, dI) vwCl (wX a cB cI cS cII (upC σ 26 w26)) H → va_D A (wX a cB cI cS cII (upC σ 26 w26)) → va_S A s.heap H locs → lv_has ls 2 [(0, .ref (a 5)), (1, .int j)] → W p l e (headSpec wsX3_giveToKeenest RM_X3_giveToKeenest).room s m ([.ref (a 5)] : List Value).toArray below meth c H locs 0 0 (MQ below (zQv (dC, dI) (zT cB cI cS cII) (wX a cB cI cS cII) A (fun (σ1 : Cn) => ∃ u26 : Nat → Int32, σ1 = (upC σ 26 u26) ∧ True)) ([.ref (a 5)] : List Value).toArray s 0 0 A) (F0 m 2 ls [])) := by
    intro n
    induction n with
    | zero => exact by intros; omega
    | succ n ih =>
      · intro j w26 H locs ls g1 hmu hP hD hS hl
        refine lv_iload_n hx hb dX3_giveToKeenest_2 rfl (lv_at hl 1 rfl) ?_
        refine lv_aload_n hx hb dX3_giveToKeenest_3 rfl (lv_at hl 0 rfl) ?_
        refine va_get (D := (dC, dI)) (ci := 3) (v := .int (σ 5 2)) (C := RX3) (T := TX3) (N := 4) hx hb hts in3 hown hK hP 5 rfl rfl 2 (by decide) k22 (fun _ h9 => h9) rfl dX3_giveToKeenest_4 ?_
        refine lv_icmp_ge (tgt := 35) hx hb dX3_giveToKeenest_7 (by decide) (fun c7 => ?_) (fun c7 => ?_)
        · skip
          have ic7 := zle (a := (σ 5 2).toInt) (b := j.toInt) rfl rfl c7
          have hpost : ∃ u26 : Nat → Int32, (upC σ 26 w26) = (upC σ 26 u26) ∧ True := by exact ⟨_, rfl, trivial⟩
          exact W.vret hx hb hr (fun t9 ht hW => ⟨⟨(upC σ 26 w26), rfl, hpost, by rw [ht]; exact hP, va_K.moved hW.alike hK, hD⟩, hS.F ht⟩) hS.2.2 dX3_giveToKeenest_35
        · skip
          have ic7 := znle (a := (σ 5 2).toInt) (b := j.toInt) rfl rfl c7
          refine lv_aload_n hx hb dX3_giveToKeenest_10 rfl (lv_at hl 0 rfl) ?_
          refine va_get (D := (dC, dI)) (ci := 3) (v := .ref (a 26)) (C := RX3) (T := TX3) (N := 4) hx hb hts in3 hown hK hP 5 rfl rfl 3 (by decide) k15 (fun _ h9 => h9) rfl dX3_giveToKeenest_11 ?_
          refine lv_iload_n hx hb dX3_giveToKeenest_14 rfl (lv_at hl 1 rfl) ?_
          refine lv_aload_n hx hb dX3_giveToKeenest_15 rfl (lv_at hl 0 rfl) ?_
          refine va_get (D := (dC, dI)) (ci := 3) (v := .ref (a 4)) (C := RX3) (T := TX3) (N := 4) hx hb hts in3 hown hK hP 5 rfl rfl 0 (by decide) k18 (fun _ h9 => h9) rfl dX3_giveToKeenest_16 ?_
          refine lv_aload_n hx hb dX3_giveToKeenest_19 rfl (lv_at hl 0 rfl) ?_
          refine va_get (D := (dC, dI)) (ci := 3) (v := .ref (a 25)) (C := RX3) (T := TX3) (N := 4) hx hb hts in3 hown hK hP 5 rfl rfl 1 (by decide) k9 (fun _ h9 => h9) rfl dX3_giveToKeenest_20 ?_
          refine lv_iload_n hx hb dX3_giveToKeenest_23 rfl (lv_at hl 1 rfl) ?_
          refine va_iald (D := (dC, dI)) (f := σ 25) hx hb hK hP 25 1 rfl rfl (i := j) (n := 10) (zin (by omega) (by omega)) dX3_giveToKeenest_24 ?_
          refine lv_topi (fun v24 ev24 => ?_)
          have tv24 := congrArg Int32.toInt ev24
          have hb9 := hq ((j).toNatClampNeg) (by have q := zcl (x := j) (by omega); omega)
          refine zcalli (va_runV (As := [.int v24]) (rest := [.int j, .ref (a 26)]) ⟨hx, hb, hml, hown, hts⟩ (c_X1_keenest l dC dI cB cI cS cII a N hok hn (upC σ 26 w26) H.size (v24) h0 (by omega)) (cwV 1 hts gX3_giveToKeenest_X1_keenest rfl rfl rfl (by decide +kernel) ⟨Nat.le_of_ble_eq_true rfl, Nat.le_of_ble_eq_true rfl⟩) (zpreV (wf := wX a cB cI cS cII) (q0 := 4) (ci := 1) hok hN hS hA hK hP hD rfl rfl) rfl rfl hl.1 rfl (lv_room (Nat.le_of_ble_eq_true rfl)) dX3_giveToKeenest_25 ⟨Nat.zero_le _, Nat.zero_le _⟩) hD hS hA (fun v25 σ1 H locs hv25 hP hD hS => ?_)
          obtain ⟨es9, hv25⟩ := hv25
          subst σ1
          refine va_iast (D := (dC, dI)) (f := w26) hx hb hK hP hD hS 26 1 rfl rfl (i := j) (n := 10) (zin (by omega) (by omega)) dX3_giveToKeenest_28 (fun H locs hP hD hS => ?_)
          have hP : va_P (dC, dI) vwCl (wX a cB cI cS cII (upC σ 26 (upd (w26) (j).toNatClampNeg v25))) H := hP
          have hD : va_D A (wX a cB cI cS cII (upC σ 26 (upd (w26) (j).toNatClampNeg v25))) := hD
          obtain ⟨v29, ev29⟩ : ∃ y : Int32, y = j + 1 := ⟨_, rfl⟩
          refine lv_iinc (v := v29) (lv' := [(1, .int v29), (0, .ref (a 5))]) hx hb dX3_giveToKeenest_29 hl (k := 1) rfl (by rw [ev29]; rfl) (by decide) rfl (fun ls hl => ?_)
          have tv29 : v29.toInt = j.toInt + 1 := by rw [ev29, zadd, show (1 : Int32).toInt = 1 from by decide]; omega
          refine lv_goto (tgt := 2) hx hb dX3_giveToKeenest_32 (by decide) ?_
          exact ih (v29) (upd (w26) (j).toNatClampNeg v25) H locs ls (by omega) (by omega) hP hD hS (lv_sub hl [1, 0] rfl)
  have hl := lv_entry ([.ref (a 5)]) (n := 2) (Nat.le_of_ble_eq_true rfl)
  rw [lg_entry_eq]
  generalize (lg_sl ([.ref (a 5)]) ++ List.replicate (2 - (lg_sl ([.ref (a 5)])).length) Slot.unset).toArray = ls at hl ⊢
  have hl : lv_has ls 2 [(0, .ref (a 5))] := hl
  suffices main : ∀ (H : Heap) (locs : List Loc), va_P (dC, dI) vwCl (wX a cB cI cS cII σ) H → va_D A (wX a cB cI cS cII σ) → va_S A s.heap H locs → W p l e (headSpec wsX3_giveToKeenest RM_X3_giveToKeenest).room s m ([.ref (a 5)] : List Value).toArray below meth c H locs 0 0 (MQ below (zQv (dC, dI) (zT cB cI cS cII) (wX a cB cI cS cII) A (fun (σ1 : Cn) => ∃ u26 : Nat → Int32, σ1 = (upC σ 26 u26) ∧ True)) ([.ref (a 5)] : List Value).toArray s 0 0 A) (F0 m 0 ls []) from main s.heap [] hP hD hS
  intro H locs hP hD hS
  refine lv_iconst (v := 0) hx hb dX3_giveToKeenest_0 (by decide) ?_
  refine lv_istore_n (lv' := [(1, .int 0), (0, .ref (a 5))]) hx hb dX3_giveToKeenest_1 rfl hl (by decide) rfl (fun ls hl => ?_)
  exact (LP _) (0) (σ 26) H locs ls (by decide) (Nat.lt_succ_self _) hP hD hS (lv_sub hl [1, 0] rfl)

abbrev RM_X3_claimOf : Room := { frames := 1, cells := 0, slots := 0, locals := 21 }
set_option maxHeartbeats 4000000 in
set_option maxRecDepth 100000 in
theorem c_X3_claimOf (l : Launch) (dC : Nat → ClassId) (dI : Nat → Nat → Nat) (cB cI cS cII : ClassId) (a : Nat → Nat) (N : (Nat → Prop) → State → Prop) (hok : zNok N) (hn : ∀ A U, N A U → zN U) (σ : Cn) (sz : Nat) (x1 : Int32) (h0 : 0 ≤ (σ 4 1).toInt ∧ (σ 4 1).toInt ≤ 4) (h1 : 0 ≤ x1.toInt ∧ x1.toInt < 4) (hs : 0 ≤ (σ 5 2).toInt ∧ (σ 5 2).toInt ≤ 10) (hq : ∀ j : Nat, (j : Int) < (σ 5 2).toInt → 0 ≤ (σ 25 j).toInt ∧ (σ 25 j).toInt < 10) : Met l yX3_claimOf wsX3_claimOf RM_X3_claimOf (zPc (dC, dI) (zT cB cI cS cII) N (wX a cB cI cS cII) σ sz [.ref (a 5), .int x1]) (zQi (dC, dI) (zT cB cI cS cII) (wX a cB cI cS cII) (va_A (wX a cB cI cS cII σ) sz) (fun (r : Int32) (σ1 : Cn) => σ1 = σ ∧ True)) 0 0 (va_A (wX a cB cI cS cII σ) sz) := by
  refine Met.ofW (cc := cX3_claimOf) (maxL := 4) (ret := (some .int)) (by decide) rfl ?_
  intro p e s m args below meth c s₁ B hml hv
  obtain ⟨rfl, hsz, hP, hK, hD0, hN⟩ := hv
  have hx := B.exec
  have hb := B.bytes
  have hr := B.returns
  have hts := atoms_spec (ws := wsX3_claimOf) B.pre
  have hown : s.vm.findClass RX3 = some m.cls := findClass_of_methodNamed B.named
  have hlocks := B.notSynchronized
  subst hsz
  have hD := hD0.self (sz := s.heap.size)
  generalize hAe : va_A (wX a cB cI cS cII σ) s.heap.size = A at hD hN ⊢
  have hA : ∀ q : Nat, s.heap.size ≤ q → A q := fun q h => by rw [← hAe]; exact Or.inr h
  clear hAe hD0
  have hS : va_S A s.heap s.heap [] := va_S.rf
  have in1 : ∀ w ∈ u_ws RX1 TX1 9, w ∈ wsX3_claimOf := by decide +kernel
  have in3 : ∀ w ∈ u_ws RX3 TX3 4, w ∈ wsX3_claimOf := by decide +kernel
  have k18 := hts (.fieldLink RX3 18 "HouseSorted$Sharing" "house" "LHouseSorted$House;") (by decide +kernel)
  have k22 := hts (.fieldLink RX3 22 "HouseSorted$Sharing" "size" "I") (by decide +kernel)
  have k35 := hts (.fieldLink RX3 35 "HouseSorted$House" "heirs" "I") (by decide +kernel)
  have k49 := hts (.fieldLink RX3 49 "HouseSorted$House" "worth" "[[I") (by decide +kernel)
  have k9 := hts (.fieldLink RX3 9 "HouseSorted$Sharing" "shared" "[I") (by decide +kernel)
  have kcmax := hts (.code Lib.Math.max.name Lib.Math.max.code 2 (some .int)) (by decide +kernel)
  have kiM := hts (.initialized "java/lang/Math") (by decide +kernel)
  have km53 := hts (.methodLink RX3 53 Lib.Math.max.name) (by decide +kernel)
  have ksmax := hts (.static Lib.Math.max.name) (by decide +kernel)
  have LP : ∀ n : Nat, (∀ (f : Int32) (j : Int32) (H : Heap) (locs : List Loc) (ls : Array Slot), 0 ≤ j.toInt ∧ j.toInt ≤ 10 → (10 - j.toInt).toNat < n → va_P (dC, dI) vwCl (wX a cB cI cS cII σ) H → va_D A (wX a cB cI cS cII σ) → va_S A s.heap H locs → lv_has ls 4 [(0, .ref (a 5)), (1, .int x1), (2, .int f), (3, .int j)] → W p l e (headSpec wsX3_claimOf RM_X3_claimOf).room s m ([.ref (a 5), .int x1] : List Value).toArray below meth c H locs 0 0 (MQ below (zQi (dC, dI) (zT cB cI cS cII) (wX a cB cI cS cII) A (fun (r : Int32) (σ1 : Cn) => σ1 = σ ∧ True)) ([.ref (a 5), .int x1] : List Value).toArray s 0 0 A) (F0 m 4 ls [])) := by
    intro n
    induction n with
    | zero => exact by intros; omega
    | succ n ih =>
      · intro f j H locs ls g1 hmu hP hD hS hl
        refine lv_iload_n hx hb dX3_claimOf_4 rfl (lv_at hl 3 rfl) ?_
        refine lv_aload_n hx hb dX3_claimOf_5 rfl (lv_at hl 0 rfl) ?_
        refine va_get (D := (dC, dI)) (ci := 3) (v := .int (σ 5 2)) (C := RX3) (T := TX3) (N := 4) hx hb hts in3 hown hK hP 5 rfl rfl 2 (by decide) k22 (fun _ h9 => h9) rfl dX3_claimOf_6 ?_
        refine lv_icmp_ge (tgt := 37) hx hb dX3_claimOf_9 (by decide) (fun c9 => ?_) (fun c9 => ?_)
        · skip
          have ic9 := zle (a := (σ 5 2).toInt) (b := j.toInt) rfl rfl c9
          refine lv_iload_n hx hb dX3_claimOf_37 rfl (lv_at hl 2 rfl) ?_
          refine lv_iconst (v := 1) hx hb dX3_claimOf_38 (by decide) ?_
          refine lv_aload_n hx hb dX3_claimOf_39 rfl (lv_at hl 0 rfl) ?_
          refine va_get (D := (dC, dI)) (ci := 3) (v := .ref (a 4)) (C := RX3) (T := TX3) (N := 4) hx hb hts in3 hown hK hP 5 rfl rfl 0 (by decide) k18 (fun _ h9 => h9) rfl dX3_claimOf_40 ?_
          refine va_get (D := (dC, dI)) (ci := 1) (v := .int (σ 4 1)) (C := RX1) (T := TX1) (N := 9) hx hb hts in1 hown hK hP 4 rfl rfl 1 (by decide) k35 (fun _ h9 => h9) rfl dX3_claimOf_43 ?_
          refine va_mmax hx hb (hml.trans hl.1.symm) hown km53 ksmax kiM kcmax (Nat.le_of_ble_eq_true rfl) (Nat.le_of_ble_eq_true rfl) (Nat.zero_le _) (Nat.zero_le _) dX3_claimOf_46 ?_
          refine lv_topi (fun v46 ev46 => ?_)
          have tv46 := zmax (x := 1) (y := σ 4 1) (a := 1) (b := (σ 4 1).toInt) (by decide) rfl ev46
          refine lv_idiv hx hb dX3_claimOf_49 (fun h0 => by have h1 := zeq (a := v46.toInt) (b := 0) rfl (by decide) h0; omega) ?_
          refine lv_topi (fun v49 ev49 => ?_)
          have hpost : σ = σ ∧ True := by exact ⟨rfl, trivial⟩
          exact W.iret (v := v49) hx hb hr (fun t9 ht hW => ⟨⟨v49, σ, rfl, hpost, by rw [ht]; exact hP, va_K.moved hW.alike hK, hD⟩, hS.F ht⟩) hS.2.2 dX3_claimOf_50
        · skip
          have ic9 := znle (a := (σ 5 2).toInt) (b := j.toInt) rfl rfl c9
          refine lv_iload_n hx hb dX3_claimOf_12 rfl (lv_at hl 2 rfl) ?_
          refine lv_aload_n hx hb dX3_claimOf_13 rfl (lv_at hl 0 rfl) ?_
          refine va_get (D := (dC, dI)) (ci := 3) (v := .ref (a 4)) (C := RX3) (T := TX3) (N := 4) hx hb hts in3 hown hK hP 5 rfl rfl 0 (by decide) k18 (fun _ h9 => h9) rfl dX3_claimOf_14 ?_
          refine va_get (D := (dC, dI)) (ci := 1) (v := .ref (a 20)) (C := RX1) (T := TX1) (N := 9) hx hb hts in1 hown hK hP 4 rfl rfl 8 (by decide) k49 (fun _ h9 => h9) rfl dX3_claimOf_17 ?_
          refine lv_iload_n hx hb dX3_claimOf_20 rfl (lv_at hl 1 rfl) ?_
          have hr21 : (x1).toNatClampNeg < 4 := by have h9 := zcl (x := x1) (by omega); omega
          refine zald hx hb hK hP 20 3 rfl rfl (i := x1) (n := 4) (zin (by omega) (by omega)) (zro_in hr21) dX3_claimOf_21 ?_
          refine lv_aload_n hx hb dX3_claimOf_22 rfl (lv_at hl 0 rfl) ?_
          refine va_get (D := (dC, dI)) (ci := 3) (v := .ref (a 25)) (C := RX3) (T := TX3) (N := 4) hx hb hts in3 hown hK hP 5 rfl rfl 1 (by decide) k9 (fun _ h9 => h9) rfl dX3_claimOf_23 ?_
          refine lv_iload_n hx hb dX3_claimOf_26 rfl (lv_at hl 3 rfl) ?_
          refine va_iald (D := (dC, dI)) (f := σ 25) hx hb hK hP 25 1 rfl rfl (i := j) (n := 10) (zin (by omega) (by omega)) dX3_claimOf_27 ?_
          refine lv_topi (fun v27 ev27 => ?_)
          have tv27 := congrArg Int32.toInt ev27
          have hb9 := hq ((j).toNatClampNeg) (by have q := zcl (x := j) (by omega); omega)
          refine va_iald (D := (dC, dI)) (f := σ (21 + (x1).toNatClampNeg)) hx hb hK hP (21 + (x1).toNatClampNeg) 1 (wX_row21 hr21) rfl (i := v27) (n := 10) (zin (by omega) (by omega)) dX3_claimOf_28 ?_
          refine lv_topi (fun v28 ev28 => ?_)
          have tv28 := congrArg Int32.toInt ev28
          refine lv_iadd hx hb dX3_claimOf_29 ?_
          refine lv_topi (fun v29 ev29 => ?_)
          refine lv_istore_n (lv' := [(2, .int v29), (0, .ref (a 5)), (1, .int x1), (3, .int j)]) hx hb dX3_claimOf_30 rfl hl (by decide) rfl (fun ls hl => ?_)
          obtain ⟨v31, ev31⟩ : ∃ y : Int32, y = j + 1 := ⟨_, rfl⟩
          refine lv_iinc (v := v31) (lv' := [(3, .int v31), (2, .int v29), (0, .ref (a 5)), (1, .int x1)]) hx hb dX3_claimOf_31 hl (k := 3) rfl (by rw [ev31]; rfl) (by decide) rfl (fun ls hl => ?_)
          have tv31 : v31.toInt = j.toInt + 1 := by rw [ev31, zadd, show (1 : Int32).toInt = 1 from by decide]; omega
          refine lv_goto (tgt := 4) hx hb dX3_claimOf_34 (by decide) ?_
          exact ih (v29) (v31)  H locs ls (by omega) (by omega) hP hD hS (lv_sub hl [2, 3, 1, 0] rfl)
  have hl := lv_entry ([.ref (a 5), .int x1]) (n := 4) (Nat.le_of_ble_eq_true rfl)
  rw [lg_entry_eq]
  generalize (lg_sl ([.ref (a 5), .int x1]) ++ List.replicate (4 - (lg_sl ([.ref (a 5), .int x1])).length) Slot.unset).toArray = ls at hl ⊢
  have hl : lv_has ls 4 [(0, .ref (a 5)), (1, .int x1)] := hl
  suffices main : ∀ (H : Heap) (locs : List Loc), va_P (dC, dI) vwCl (wX a cB cI cS cII σ) H → va_D A (wX a cB cI cS cII σ) → va_S A s.heap H locs → W p l e (headSpec wsX3_claimOf RM_X3_claimOf).room s m ([.ref (a 5), .int x1] : List Value).toArray below meth c H locs 0 0 (MQ below (zQi (dC, dI) (zT cB cI cS cII) (wX a cB cI cS cII) A (fun (r : Int32) (σ1 : Cn) => σ1 = σ ∧ True)) ([.ref (a 5), .int x1] : List Value).toArray s 0 0 A) (F0 m 0 ls []) from main s.heap [] hP hD hS
  intro H locs hP hD hS
  refine lv_iconst (v := 0) hx hb dX3_claimOf_0 (by decide) ?_
  refine lv_istore_n (lv' := [(2, .int 0), (0, .ref (a 5)), (1, .int x1)]) hx hb dX3_claimOf_1 rfl hl (by decide) rfl (fun ls hl => ?_)
  refine lv_iconst (v := 0) hx hb dX3_claimOf_2 (by decide) ?_
  refine lv_istore_n (lv' := [(3, .int 0), (2, .int 0), (0, .ref (a 5)), (1, .int x1)]) hx hb dX3_claimOf_3 rfl hl (by decide) rfl (fun ls hl => ?_)
  exact (LP _) (0) (0)  H locs ls (by decide) (Nat.lt_succ_self _) hP hD hS (lv_sub hl [2, 3, 1, 0] rfl)

abbrev RM_X3_paymentOf : Room := { frames := 2, cells := 0, slots := 0, locals := 44 }
set_option maxHeartbeats 4000000 in
set_option maxRecDepth 100000 in
theorem c_X3_paymentOf (l : Launch) (dC : Nat → ClassId) (dI : Nat → Nat → Nat) (cB cI cS cII : ClassId) (a : Nat → Nat) (N : (Nat → Prop) → State → Prop) (hok : zNok N) (hn : ∀ A U, N A U → zN U) (σ : Cn) (sz : Nat) (x1 : Int32) (h0 : 0 ≤ (σ 4 1).toInt ∧ (σ 4 1).toInt ≤ 4) (h1 : 0 ≤ x1.toInt ∧ x1.toInt < 4) (hs : 0 ≤ (σ 5 2).toInt ∧ (σ 5 2).toInt ≤ 10) (hq : ∀ j : Nat, (j : Int) < (σ 5 2).toInt → 0 ≤ (σ 25 j).toInt ∧ (σ 25 j).toInt < 10) : Met l yX3_paymentOf wsX3_paymentOf RM_X3_paymentOf (zPc (dC, dI) (zT cB cI cS cII) N (wX a cB cI cS cII) σ sz [.ref (a 5), .int x1]) (zQi (dC, dI) (zT cB cI cS cII) (wX a cB cI cS cII) (va_A (wX a cB cI cS cII σ) sz) (fun (r : Int32) (σ1 : Cn) => σ1 = σ ∧ True)) 0 0 (va_A (wX a cB cI cS cII σ) sz) := by
  refine Met.ofW (cc := cX3_paymentOf) (maxL := 2) (ret := (some .int)) (by decide) rfl ?_
  intro p e s m args below meth c s₁ B hml hv
  obtain ⟨rfl, hsz, hP, hK, hD0, hN⟩ := hv
  have hx := B.exec
  have hb := B.bytes
  have hr := B.returns
  have hts := atoms_spec (ws := wsX3_paymentOf) B.pre
  have hown : s.vm.findClass RX3 = some m.cls := findClass_of_methodNamed B.named
  have hlocks := B.notSynchronized
  subst hsz
  have hD := hD0.self (sz := s.heap.size)
  generalize hAe : va_A (wX a cB cI cS cII σ) s.heap.size = A at hD hN ⊢
  have hA : ∀ q : Nat, s.heap.size ≤ q → A q := fun q h => by rw [← hAe]; exact Or.inr h
  clear hAe hD0
  have hS : va_S A s.heap s.heap [] := va_S.rf
  have hl := lv_entry ([.ref (a 5), .int x1]) (n := 2) (Nat.le_of_ble_eq_true rfl)
  rw [lg_entry_eq]
  generalize (lg_sl ([.ref (a 5), .int x1]) ++ List.replicate (2 - (lg_sl ([.ref (a 5), .int x1])).length) Slot.unset).toArray = ls at hl ⊢
  have hl : lv_has ls 2 [(0, .ref (a 5)), (1, .int x1)] := hl
  suffices main : ∀ (H : Heap) (locs : List Loc), va_P (dC, dI) vwCl (wX a cB cI cS cII σ) H → va_D A (wX a cB cI cS cII σ) → va_S A s.heap H locs → W p l e (headSpec wsX3_paymentOf RM_X3_paymentOf).room s m ([.ref (a 5), .int x1] : List Value).toArray below meth c H locs 0 0 (MQ below (zQi (dC, dI) (zT cB cI cS cII) (wX a cB cI cS cII) A (fun (r : Int32) (σ1 : Cn) => σ1 = σ ∧ True)) ([.ref (a 5), .int x1] : List Value).toArray s 0 0 A) (F0 m 0 ls []) from main s.heap [] hP hD hS
  intro H locs hP hD hS
  refine lv_aload_n hx hb dX3_paymentOf_0 rfl (lv_at hl 0 rfl) ?_
  refine lv_iload_n hx hb dX3_paymentOf_1 rfl (lv_at hl 1 rfl) ?_
  refine lv_iload_n hx hb dX3_paymentOf_2 rfl (lv_at hl 1 rfl) ?_
  refine zcalli (va_runV (As := [.int x1, .int x1]) (rest := []) ⟨hx, hb, hml, hown, hts⟩ (c_X3_sumOf l dC dI cB cI cS cII a N hok hn σ H.size (x1) (x1) (by omega) hs hq) (cwV 2 hts gX3_paymentOf_X3_sumOf rfl rfl rfl (by decide +kernel) ⟨Nat.le_of_ble_eq_true rfl, Nat.le_of_ble_eq_true rfl⟩) (zpreV (wf := wX a cB cI cS cII) (q0 := 5) (ci := 3) hok hN hS hA hK hP hD rfl rfl) rfl rfl hl.1 rfl (lv_room (Nat.le_of_ble_eq_true rfl)) dX3_paymentOf_3 ⟨Nat.zero_le _, Nat.zero_le _⟩) hD hS hA (fun v3 σ1 H locs hv3 hP hD hS => ?_)
  obtain ⟨es9, hv3⟩ := hv3
  subst σ1
  refine lv_aload_n hx hb dX3_paymentOf_6 rfl (lv_at hl 0 rfl) ?_
  refine lv_iload_n hx hb dX3_paymentOf_7 rfl (lv_at hl 1 rfl) ?_
  refine zcalli (va_runV (As := [.int x1]) (rest := [.int v3]) ⟨hx, hb, hml, hown, hts⟩ (c_X3_claimOf l dC dI cB cI cS cII a N hok hn σ H.size (x1) h0 (by omega) hs hq) (cwV 1 hts gX3_paymentOf_X3_claimOf rfl rfl rfl (by decide +kernel) ⟨Nat.le_of_ble_eq_true rfl, Nat.le_of_ble_eq_true rfl⟩) (zpreV (wf := wX a cB cI cS cII) (q0 := 5) (ci := 3) hok hN hS hA hK hP hD rfl rfl) rfl rfl hl.1 rfl (lv_room (Nat.le_of_ble_eq_true rfl)) dX3_paymentOf_8 ⟨Nat.zero_le _, Nat.zero_le _⟩) hD hS hA (fun v8 σ1 H locs hv8 hP hD hS => ?_)
  obtain ⟨es9, hv8⟩ := hv8
  subst σ1
  refine lv_isub hx hb dX3_paymentOf_11 ?_
  refine lv_topi (fun v11 ev11 => ?_)
  have hpost : σ = σ ∧ True := by exact ⟨rfl, trivial⟩
  exact W.iret (v := v11) hx hb hr (fun t9 ht hW => ⟨⟨v11, σ, rfl, hpost, by rw [ht]; exact hP, va_K.moved hW.alike hK, hD⟩, hS.F ht⟩) hS.2.2 dX3_paymentOf_12

abbrev RM_X3_partOfRest : Room := { frames := 3, cells := 0, slots := 0, locals := 65 }
set_option maxHeartbeats 4000000 in
set_option maxRecDepth 100000 in
theorem c_X3_partOfRest (l : Launch) (dC : Nat → ClassId) (dI : Nat → Nat → Nat) (cB cI cS cII : ClassId) (a : Nat → Nat) (N : (Nat → Prop) → State → Prop) (hok : zNok N) (hn : ∀ A U, N A U → zN U) (σ : Cn) (sz : Nat)  (h0 : 0 ≤ (σ 4 1).toInt ∧ (σ 4 1).toInt ≤ 4) (hs : 0 ≤ (σ 5 2).toInt ∧ (σ 5 2).toInt ≤ 10) (hq : ∀ j : Nat, (j : Int) < (σ 5 2).toInt → 0 ≤ (σ 25 j).toInt ∧ (σ 25 j).toInt < 10) : Met l yX3_partOfRest wsX3_partOfRest RM_X3_partOfRest (zPc (dC, dI) (zT cB cI cS cII) N (wX a cB cI cS cII) σ sz [.ref (a 5)]) (zQi (dC, dI) (zT cB cI cS cII) (wX a cB cI cS cII) (va_A (wX a cB cI cS cII σ) sz) (fun (r : Int32) (σ1 : Cn) => σ1 = σ ∧ True)) 0 0 (va_A (wX a cB cI cS cII σ) sz) := by
  refine Met.ofW (cc := cX3_partOfRest) (maxL := 3) (ret := (some .int)) (by decide) rfl ?_
  intro p e s m args below meth c s₁ B hml hv
  obtain ⟨rfl, hsz, hP, hK, hD0, hN⟩ := hv
  have hx := B.exec
  have hb := B.bytes
  have hr := B.returns
  have hts := atoms_spec (ws := wsX3_partOfRest) B.pre
  have hown : s.vm.findClass RX3 = some m.cls := findClass_of_methodNamed B.named
  have hlocks := B.notSynchronized
  subst hsz
  have hD := hD0.self (sz := s.heap.size)
  generalize hAe : va_A (wX a cB cI cS cII σ) s.heap.size = A at hD hN ⊢
  have hA : ∀ q : Nat, s.heap.size ≤ q → A q := fun q h => by rw [← hAe]; exact Or.inr h
  clear hAe hD0
  have hS : va_S A s.heap s.heap [] := va_S.rf
  have in1 : ∀ w ∈ u_ws RX1 TX1 9, w ∈ wsX3_partOfRest := by decide +kernel
  have in3 : ∀ w ∈ u_ws RX3 TX3 4, w ∈ wsX3_partOfRest := by decide +kernel
  have k18 := hts (.fieldLink RX3 18 "HouseSorted$Sharing" "house" "LHouseSorted$House;") (by decide +kernel)
  have k35 := hts (.fieldLink RX3 35 "HouseSorted$House" "heirs" "I") (by decide +kernel)
  have kcmax := hts (.code Lib.Math.max.name Lib.Math.max.code 2 (some .int)) (by decide +kernel)
  have kiM := hts (.initialized "java/lang/Math") (by decide +kernel)
  have km53 := hts (.methodLink RX3 53 Lib.Math.max.name) (by decide +kernel)
  have ksmax := hts (.static Lib.Math.max.name) (by decide +kernel)
  have LP : ∀ n : Nat, (∀ (f : Int32) (j : Int32) (H : Heap) (locs : List Loc) (ls : Array Slot), 0 ≤ j.toInt ∧ j.toInt ≤ 4 → (4 - j.toInt).toNat < n → va_P (dC, dI) vwCl (wX a cB cI cS cII σ) H → va_D A (wX a cB cI cS cII σ) → va_S A s.heap H locs → lv_has ls 3 [(0, .ref (a 5)), (1, .int f), (2, .int j)] → W p l e (headSpec wsX3_partOfRest RM_X3_partOfRest).room s m ([.ref (a 5)] : List Value).toArray below meth c H locs 0 0 (MQ below (zQi (dC, dI) (zT cB cI cS cII) (wX a cB cI cS cII) A (fun (r : Int32) (σ1 : Cn) => σ1 = σ ∧ True)) ([.ref (a 5)] : List Value).toArray s 0 0 A) (F0 m 4 ls [])) := by
    intro n
    induction n with
    | zero => exact by intros; omega
    | succ n ih =>
      · intro f j H locs ls g1 hmu hP hD hS hl
        refine lv_iload_n hx hb dX3_partOfRest_4 rfl (lv_at hl 2 rfl) ?_
        refine lv_aload_n hx hb dX3_partOfRest_5 rfl (lv_at hl 0 rfl) ?_
        refine va_get (D := (dC, dI)) (ci := 3) (v := .ref (a 4)) (C := RX3) (T := TX3) (N := 4) hx hb hts in3 hown hK hP 5 rfl rfl 0 (by decide) k18 (fun _ h9 => h9) rfl dX3_partOfRest_6 ?_
        refine va_get (D := (dC, dI)) (ci := 1) (v := .int (σ 4 1)) (C := RX1) (T := TX1) (N := 9) hx hb hts in1 hown hK hP 4 rfl rfl 1 (by decide) k35 (fun _ h9 => h9) rfl dX3_partOfRest_9 ?_
        refine lv_icmp_ge (tgt := 29) hx hb dX3_partOfRest_12 (by decide) (fun c12 => ?_) (fun c12 => ?_)
        · skip
          have ic12 := zle (a := (σ 4 1).toInt) (b := j.toInt) rfl rfl c12
          refine lv_iload_n hx hb dX3_partOfRest_29 rfl (lv_at hl 1 rfl) ?_
          refine lv_iconst (v := 1) hx hb dX3_partOfRest_30 (by decide) ?_
          refine lv_aload_n hx hb dX3_partOfRest_31 rfl (lv_at hl 0 rfl) ?_
          refine va_get (D := (dC, dI)) (ci := 3) (v := .ref (a 4)) (C := RX3) (T := TX3) (N := 4) hx hb hts in3 hown hK hP 5 rfl rfl 0 (by decide) k18 (fun _ h9 => h9) rfl dX3_partOfRest_32 ?_
          refine va_get (D := (dC, dI)) (ci := 1) (v := .int (σ 4 1)) (C := RX1) (T := TX1) (N := 9) hx hb hts in1 hown hK hP 4 rfl rfl 1 (by decide) k35 (fun _ h9 => h9) rfl dX3_partOfRest_35 ?_
          refine va_mmax hx hb (hml.trans hl.1.symm) hown km53 ksmax kiM kcmax (Nat.le_of_ble_eq_true rfl) (Nat.le_of_ble_eq_true rfl) (Nat.zero_le _) (Nat.zero_le _) dX3_partOfRest_38 ?_
          refine lv_topi (fun v38 ev38 => ?_)
          have tv38 := zmax (x := 1) (y := σ 4 1) (a := 1) (b := (σ 4 1).toInt) (by decide) rfl ev38
          refine lv_idiv hx hb dX3_partOfRest_41 (fun h0 => by have h1 := zeq (a := v38.toInt) (b := 0) rfl (by decide) h0; omega) ?_
          refine lv_topi (fun v41 ev41 => ?_)
          have hpost : σ = σ ∧ True := by exact ⟨rfl, trivial⟩
          exact W.iret (v := v41) hx hb hr (fun t9 ht hW => ⟨⟨v41, σ, rfl, hpost, by rw [ht]; exact hP, va_K.moved hW.alike hK, hD⟩, hS.F ht⟩) hS.2.2 dX3_partOfRest_42
        · skip
          have ic12 := znle (a := (σ 4 1).toInt) (b := j.toInt) rfl rfl c12
          refine lv_iload_n hx hb dX3_partOfRest_15 rfl (lv_at hl 1 rfl) ?_
          refine lv_aload_n hx hb dX3_partOfRest_16 rfl (lv_at hl 0 rfl) ?_
          refine lv_iload_n hx hb dX3_partOfRest_17 rfl (lv_at hl 2 rfl) ?_
          refine zcalli (va_runV (As := [.int j]) (rest := [.int f]) ⟨hx, hb, hml, hown, hts⟩ (c_X3_paymentOf l dC dI cB cI cS cII a N hok hn σ H.size (j) h0 (by omega) hs hq) (cwV 1 hts gX3_partOfRest_X3_paymentOf rfl rfl rfl (by decide +kernel) ⟨Nat.le_of_ble_eq_true rfl, Nat.le_of_ble_eq_true rfl⟩) (zpreV (wf := wX a cB cI cS cII) (q0 := 5) (ci := 3) hok hN hS hA hK hP hD rfl rfl) rfl rfl hl.1 rfl (lv_room (Nat.le_of_ble_eq_true rfl)) dX3_partOfRest_18 ⟨Nat.zero_le _, Nat.zero_le _⟩) hD hS hA (fun v18 σ1 H locs hv18 hP hD hS => ?_)
          obtain ⟨es9, hv18⟩ := hv18
          subst σ1
          refine lv_iadd hx hb dX3_partOfRest_21 ?_
          refine lv_topi (fun v21 ev21 => ?_)
          refine lv_istore_n (lv' := [(1, .int v21), (0, .ref (a 5)), (2, .int j)]) hx hb dX3_partOfRest_22 rfl hl (by decide) rfl (fun ls hl => ?_)
          obtain ⟨v23, ev23⟩ : ∃ y : Int32, y = j + 1 := ⟨_, rfl⟩
          refine lv_iinc (v := v23) (lv' := [(2, .int v23), (1, .int v21), (0, .ref (a 5))]) hx hb dX3_partOfRest_23 hl (k := 2) rfl (by rw [ev23]; rfl) (by decide) rfl (fun ls hl => ?_)
          have tv23 : v23.toInt = j.toInt + 1 := by rw [ev23, zadd, show (1 : Int32).toInt = 1 from by decide]; omega
          refine lv_goto (tgt := 4) hx hb dX3_partOfRest_26 (by decide) ?_
          exact ih (v21) (v23)  H locs ls (by omega) (by omega) hP hD hS (lv_sub hl [2, 1, 0] rfl)
  have hl := lv_entry ([.ref (a 5)]) (n := 3) (Nat.le_of_ble_eq_true rfl)
  rw [lg_entry_eq]
  generalize (lg_sl ([.ref (a 5)]) ++ List.replicate (3 - (lg_sl ([.ref (a 5)])).length) Slot.unset).toArray = ls at hl ⊢
  have hl : lv_has ls 3 [(0, .ref (a 5))] := hl
  suffices main : ∀ (H : Heap) (locs : List Loc), va_P (dC, dI) vwCl (wX a cB cI cS cII σ) H → va_D A (wX a cB cI cS cII σ) → va_S A s.heap H locs → W p l e (headSpec wsX3_partOfRest RM_X3_partOfRest).room s m ([.ref (a 5)] : List Value).toArray below meth c H locs 0 0 (MQ below (zQi (dC, dI) (zT cB cI cS cII) (wX a cB cI cS cII) A (fun (r : Int32) (σ1 : Cn) => σ1 = σ ∧ True)) ([.ref (a 5)] : List Value).toArray s 0 0 A) (F0 m 0 ls []) from main s.heap [] hP hD hS
  intro H locs hP hD hS
  refine lv_iconst (v := 0) hx hb dX3_partOfRest_0 (by decide) ?_
  refine lv_istore_n (lv' := [(1, .int 0), (0, .ref (a 5))]) hx hb dX3_partOfRest_1 rfl hl (by decide) rfl (fun ls hl => ?_)
  refine lv_iconst (v := 0) hx hb dX3_partOfRest_2 (by decide) ?_
  refine lv_istore_n (lv' := [(2, .int 0), (1, .int 0), (0, .ref (a 5))]) hx hb dX3_partOfRest_3 rfl hl (by decide) rfl (fun ls hl => ?_)
  exact (LP _) (0) (0)  H locs ls (by decide) (Nat.lt_succ_self _) hP hD hS (lv_sub hl [2, 1, 0] rfl)

