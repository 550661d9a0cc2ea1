abbrev RM_X1_takeWorths : Room := { frames := 0, cells := 0, slots := 0, locals := 0 }
set_option maxHeartbeats 4000000 in
set_option maxRecDepth 100000 in
theorem c_X1_takeWorths_8 (l : Launch) (dC : Nat → ClassId) (dI : Nat → Nat → Nat) (cB cI cS cII : ClassId) (a : Nat → Nat) (N : (Nat → Prop) → State → Prop) (hok : zNok N) (hn : ∀ A U, N A U → zN U) (σ : Cn) (sz : Nat) (x1 : Int32) (x3 : Int32) (h1 : 0 ≤ x1.toInt ∧ x1.toInt < 4) (h2 : 0 ≤ (σ 4 2).toInt ∧ (σ 4 2).toInt ≤ 10) (h5 : ∀ t : Nat, (t : Int) < (σ 4 2).toInt → 0 ≤ x3.toInt + t ∧ x3.toInt + t < 60) : Met l yX1_takeWorths wsX1_takeWorths RM_X1_takeWorths (zPc (dC, dI) (zT cB cI cS cII) N (wX a cB cI cS cII) σ sz [.ref (a 4), .int x1, .ref (a 8), .int x3]) (zQi (dC, dI) (zT cB cI cS cII) (wX a cB cI cS cII) (va_A (wX a cB cI cS cII σ) sz) (fun (r : Int32) (σ1 : Cn) => ∃ u21 : Nat → Nat → Int32, σ1 = (upR σ 21 4 u21) ∧ True)) 0 0 (va_A (wX a cB cI cS cII σ) sz) := by
  refine Met.ofW (cc := cX1_takeWorths) (maxL := 7) (ret := (some .int)) (by decide) rfl ?_
  intro p e s m args below meth c s₁ B hml hv
  obtain ⟨rfl, hsz, hP, hK, hD0, hN⟩ := hv
  have hx := B.exec
  have hb := B.bytes
  have hr := B.returns
  have hts := atoms_spec (ws := wsX1_takeWorths) B.pre
  have hown : s.vm.findClass RX1 = some m.cls := findClass_of_methodNamed B.named
  have hlocks := B.notSynchronized
  subst hsz
  have hD := hD0.self (sz := s.heap.size)
  generalize hAe : va_A (wX a cB cI cS cII σ) s.heap.size = A at hD hN ⊢
  have hA : ∀ q : Nat, s.heap.size ≤ q → A q := fun q h => by rw [← hAe]; exact Or.inr h
  clear hAe hD0
  have hS : va_S A s.heap s.heap [] := va_S.rf
  have in1 : ∀ w ∈ u_ws RX1 TX1 9, w ∈ wsX1_takeWorths := by decide +kernel
  have in4 : ∀ w ∈ u_ws RX4 TX4 3, w ∈ wsX1_takeWorths := by decide +kernel
  have k29 := hts (.fieldLink RX1 29 "HouseSorted$House" "worth" "[[I") (by decide +kernel)
  have k40 := hts (.fieldLink RX1 40 "HouseSorted$House" "things" "I") (by decide +kernel)
  have k69 := hts (.fieldLink RX1 69 "HouseSorted$Sheet" "cells" "[I") (by decide +kernel)
  have LP : ∀ n : Nat, (∀ (f : Int32) (j : Int32) (w21 : Nat → Nat → Int32) (H : Heap) (locs : List Loc) (ls : Array Slot), 0 ≤ j.toInt ∧ j.toInt ≤ 10 → (10 - j.toInt).toNat < n → va_P (dC, dI) vwCl (wX a cB cI cS cII (upR σ 21 4 w21)) H → va_D A (wX a cB cI cS cII (upR σ 21 4 w21)) → va_S A s.heap H locs → lv_has ls 7 [(0, .ref (a 4)), (1, .int x1), (2, .ref (a 8)), (3, .int x3), (4, .int f), (5, .int j)] → W p l e (headSpec wsX1_takeWorths RM_X1_takeWorths).room s m ([.ref (a 4), .int x1, .ref (a 8), .int x3] : List Value).toArray below meth c H locs 0 0 (MQ below (zQi (dC, dI) (zT cB cI cS cII) (wX a cB cI cS cII) A (fun (r : Int32) (σ1 : Cn) => ∃ u21 : Nat → Nat → Int32, σ1 = (upR σ 21 4 u21) ∧ True)) ([.ref (a 4), .int x1, .ref (a 8), .int x3] : List Value).toArray s 0 0 A) (F0 m 6 ls [])) := by
    intro n
    induction n with
    | zero => exact by intros; omega
    | succ n ih =>
      · intro f j w21 H locs ls g1 hmu hP hD hS hl
        refine lv_iload hx hb dX1_takeWorths_6 (lv_at hl 5 rfl) ?_
        refine lv_aload_n hx hb dX1_takeWorths_8 rfl (lv_at hl 0 rfl) ?_
        refine va_get (D := (dC, dI)) (ci := 1) (v := .int (σ 4 2)) (C := RX1) (T := TX1) (N := 9) hx hb hts in1 hown hK hP 4 rfl rfl 2 (by decide) k40 (fun _ h9 => h9) rfl dX1_takeWorths_9 ?_
        refine lv_icmp_ge (tgt := 60) hx hb dX1_takeWorths_12 (by decide) (fun c12 => ?_) (fun c12 => ?_)
        · skip
          have ic12 := zle (a := (σ 4 2).toInt) (b := j.toInt) rfl rfl c12
          refine lv_iload hx hb dX1_takeWorths_60 (lv_at hl 4 rfl) ?_
          have hpost : ∃ u21 : Nat → Nat → Int32, (upR σ 21 4 w21) = (upR σ 21 4 u21) ∧ True := by refine ⟨(w21), by first | rfl | (funext j; simp only [upC, upR]; (repeat' split) <;> first | rfl | (simp_all; done) | (congr 1; omega) | (exfalso; omega)), ?_⟩; trivial
          exact W.iret (v := f) hx hb hr (fun t9 ht hW => ⟨⟨f, (upR σ 21 4 w21), rfl, hpost, by rw [ht]; exact hP, va_K.moved hW.alike hK, hD⟩, hS.F ht⟩) hS.2.2 dX1_takeWorths_62
        · skip
          have ic12 := znle (a := (σ 4 2).toInt) (b := j.toInt) rfl rfl c12
          have h6 := h5 (j.toNatClampNeg) (by have q9 := zcl (x := j) (by omega); omega)
          have h7 := zcl (x := j) (by omega)
          refine lv_aload_n hx hb dX1_takeWorths_15 rfl (lv_at hl 2 rfl) ?_
          refine va_get (D := (dC, dI)) (ci := 4) (v := .ref (a 38)) (C := RX4) (T := TX4) (N := 3) hx hb hts in4 hown hK hP 8 rfl rfl 2 (by decide) k69 (fun _ h9 => h9) rfl dX1_takeWorths_16 ?_
          refine lv_iload_n hx hb dX1_takeWorths_19 rfl (lv_at hl 3 rfl) ?_
          refine lv_iload hx hb dX1_takeWorths_20 (lv_at hl 5 rfl) ?_
          refine lv_iadd hx hb dX1_takeWorths_22 ?_
          refine lv_topi (fun v22 ev22 => ?_)
          have tv22 : v22.toInt = x3.toInt + j.toInt := by rw [ev22, zadd]; omega
          refine va_iald (D := (dC, dI)) (f := σ 38) hx hb hK hP 38 1 rfl rfl (i := v22) (n := 60) (zin (by omega) (by omega)) dX1_takeWorths_23 ?_
          refine lv_topi (fun v23 ev23 => ?_)
          have tv23 := congrArg Int32.toInt ev23
          refine lv_istore (lv' := [(6, .int v23), (0, .ref (a 4)), (1, .int x1), (2, .ref (a 8)), (3, .int x3), (4, .int f), (5, .int j)]) hx hb dX1_takeWorths_24 hl (by decide) rfl (fun ls hl => ?_)
          refine lv_aload_n hx hb dX1_takeWorths_26 rfl (lv_at hl 1 rfl) ?_
          refine va_get (D := (dC, dI)) (ci := 1) (v := .ref (a 20)) (C := RX1) (T := TX1) (N := 9) hx hb hts in1 hown hK hP 4 rfl rfl 8 (by decide) k29 (fun _ h9 => h9) rfl dX1_takeWorths_27 ?_
          refine lv_iload_n hx hb dX1_takeWorths_30 rfl (lv_at hl 2 rfl) ?_
          have hr31 : (x1).toNatClampNeg < 4 := by have h9 := zcl (x := x1) (by omega); omega
          refine zald hx hb hK hP 20 3 rfl rfl (i := x1) (n := 4) (zin (by omega) (by omega)) (zro_in hr31) dX1_takeWorths_31 ?_
          refine lv_iload hx hb dX1_takeWorths_32 (lv_at hl 6 rfl) ?_
          refine va_iald (D := (dC, dI)) (f := (upR σ 21 4 w21) (21 + (x1).toNatClampNeg)) hx hb hK hP (21 + (x1).toNatClampNeg) 1 (wX_row21 hr31) rfl (i := j) (n := 10) (zin (by omega) (by omega)) dX1_takeWorths_34 ?_
          refine lv_topi (fun v34 ev34 => ?_)
          have tv34 := congrArg Int32.toInt ev34
          refine lv_iload hx hb dX1_takeWorths_35 (lv_at hl 0 rfl) ?_
          refine lv_icmp_eq (tgt := 54) hx hb dX1_takeWorths_37 (by decide) (fun c37 => ?_) (fun c37 => ?_)
          · skip
            have ic37 := zeq (a := v34.toInt) (b := v23.toInt) rfl rfl c37
            obtain ⟨v54, ev54⟩ : ∃ y : Int32, y = j + 1 := ⟨_, rfl⟩
            refine lv_iinc (v := v54) (lv' := [(5, .int v54), (6, .int v23), (0, .ref (a 4)), (1, .int x1), (2, .ref (a 8)), (3, .int x3), (4, .int f)]) hx hb dX1_takeWorths_54 hl (k := 6) rfl (by rw [ev54]; rfl) (by decide) rfl (fun ls hl => ?_)
            have tv54 : v54.toInt = j.toInt + 1 := by rw [ev54, zadd, show (1 : Int32).toInt = 1 from by decide]; omega
            refine lv_goto (tgt := 6) hx hb dX1_takeWorths_57 (by decide) ?_
            exact ih (f) (v54) (w21) H locs ls (by omega) (by omega) hP hD hS (lv_sub hl [2, 3, 4, 5, 6, 0] rfl)
          · skip
            have ic37 := zneq (a := v34.toInt) (b := v23.toInt) rfl rfl c37
            refine lv_aload_n hx hb dX1_takeWorths_40 rfl (lv_at hl 1 rfl) ?_
            refine va_get (D := (dC, dI)) (ci := 1) (v := .ref (a 20)) (C := RX1) (T := TX1) (N := 9) hx hb hts in1 hown hK hP 4 rfl rfl 8 (by decide) k29 (fun _ h9 => h9) rfl dX1_takeWorths_41 ?_
            refine lv_iload_n hx hb dX1_takeWorths_44 rfl (lv_at hl 2 rfl) ?_
            have hr45 : (x1).toNatClampNeg < 4 := by have h9 := zcl (x := x1) (by omega); omega
            refine zald hx hb hK hP 20 3 rfl rfl (i := x1) (n := 4) (zin (by omega) (by omega)) (zro_in hr45) dX1_takeWorths_45 ?_
            refine lv_iload hx hb dX1_takeWorths_46 (lv_at hl 6 rfl) ?_
            refine lv_iload hx hb dX1_takeWorths_48 (lv_at hl 0 rfl) ?_
            refine va_iast (D := (dC, dI)) (f := (upR σ 21 4 w21) (21 + (x1).toNatClampNeg)) hx hb hK hP hD hS (21 + (x1).toNatClampNeg) 1 (wX_row21 hr45) rfl (i := j) (n := 10) (zin (by omega) (by omega)) dX1_takeWorths_50 (fun H locs hP hD hS => ?_)
            rw [wX_set21 hr45] at hP hD
            obtain ⟨g50, eg50, hP, hD⟩ : ∃ g50 : Nat → Nat → Int32, g50 = (fun i => if i = (x1).toNatClampNeg then upd ((upR σ 21 4 w21) (21 + (x1).toNatClampNeg)) (j).toNatClampNeg v23 else (upR σ 21 4 w21) (21 + i)) ∧ va_P (dC, dI) vwCl (wX a cB cI cS cII (upR σ 21 4 g50)) H ∧ va_D A (wX a cB cI cS cII (upR σ 21 4 g50)) := ⟨_, rfl, hP, hD⟩
            obtain ⟨v51, ev51⟩ : ∃ y : Int32, y = f + 1 := ⟨_, rfl⟩
            refine lv_iinc (v := v51) (lv' := [(4, .int v51), (6, .int v23), (0, .ref (a 4)), (1, .int x1), (2, .ref (a 8)), (3, .int x3), (5, .int j)]) hx hb dX1_takeWorths_51 hl (k := 5) rfl (by rw [ev51]; rfl) (by decide) rfl (fun ls hl => ?_)
            obtain ⟨v54, ev54⟩ : ∃ y : Int32, y = j + 1 := ⟨_, rfl⟩
            refine lv_iinc (v := v54) (lv' := [(5, .int v54), (4, .int v51), (6, .int v23), (0, .ref (a 4)), (1, .int x1), (2, .ref (a 8)), (3, .int x3)]) hx hb dX1_takeWorths_54 hl (k := 6) rfl (by rw [ev54]; rfl) (by decide) rfl (fun ls hl => ?_)
            have tv54 : v54.toInt = j.toInt + 1 := by rw [ev54, zadd, show (1 : Int32).toInt = 1 from by decide]; omega
            refine lv_goto (tgt := 6) hx hb dX1_takeWorths_57 (by decide) ?_
            exact ih (v51) (v54) (g50) H locs ls (by omega) (by omega) hP hD hS (lv_sub hl [3, 4, 5, 6, 1, 0] rfl)
  have hl := lv_entry ([.ref (a 4), .int x1, .ref (a 8), .int x3]) (n := 7) (Nat.le_of_ble_eq_true rfl)
  rw [lg_entry_eq]
  generalize (lg_sl ([.ref (a 4), .int x1, .ref (a 8), .int x3]) ++ List.replicate (7 - (lg_sl ([.ref (a 4), .int x1, .ref (a 8), .int x3])).length) Slot.unset).toArray = ls at hl ⊢
  have hl : lv_has ls 7 [(0, .ref (a 4)), (1, .int x1), (2, .ref (a 8)), (3, .int x3)] := hl
  suffices main : ∀ (H : Heap) (locs : List Loc), va_P (dC, dI) vwCl (wX a cB cI cS cII σ) H → va_D A (wX a cB cI cS cII σ) → va_S A s.heap H locs → W p l e (headSpec wsX1_takeWorths RM_X1_takeWorths).room s m ([.ref (a 4), .int x1, .ref (a 8), .int x3] : List Value).toArray below meth c H locs 0 0 (MQ below (zQi (dC, dI) (zT cB cI cS cII) (wX a cB cI cS cII) A (fun (r : Int32) (σ1 : Cn) => ∃ u21 : Nat → Nat → Int32, σ1 = (upR σ 21 4 u21) ∧ True)) ([.ref (a 4), .int x1, .ref (a 8), .int x3] : List Value).toArray s 0 0 A) (F0 m 0 ls []) from main s.heap [] hP hD hS
  intro H locs hP hD hS
  refine lv_iconst (v := 0) hx hb dX1_takeWorths_0 (by decide) ?_
  refine lv_istore (lv' := [(4, .int 0), (0, .ref (a 4)), (1, .int x1), (2, .ref (a 8)), (3, .int x3)]) hx hb dX1_takeWorths_1 hl (by decide) rfl (fun ls hl => ?_)
  refine lv_iconst (v := 0) hx hb dX1_takeWorths_3 (by decide) ?_
  refine lv_istore (lv' := [(5, .int 0), (4, .int 0), (0, .ref (a 4)), (1, .int x1), (2, .ref (a 8)), (3, .int x3)]) hx hb dX1_takeWorths_4 hl (by decide) rfl (fun ls hl => ?_)
  exact (LP _) (0) (0) (fun i => σ (21 + i)) H locs ls (by decide) (Nat.lt_succ_self _) hP hD hS (lv_sub hl [2, 3, 4, 5, 1, 0] rfl)

set_option maxHeartbeats 4000000 in
set_option maxRecDepth 100000 in
theorem c_X1_takeWorths_9 (l : Launch) (dC : Nat → ClassId) (dI : Nat → Nat → Nat) (cB cI cS cII : ClassId) (a : Nat → Nat) (N : (Nat → Prop) → State → Prop) (hok : zNok N) (hn : ∀ A U, N A U → zN U) (σ : Cn) (sz : Nat) (x1 : Int32) (x3 : Int32) (h1 : 0 ≤ x1.toInt ∧ x1.toInt < 4) (h2 : 0 ≤ (σ 4 2).toInt ∧ (σ 4 2).toInt ≤ 10) (h5 : ∀ t : Nat, (t : Int) < (σ 4 2).toInt → 0 ≤ x3.toInt + t ∧ x3.toInt + t < 60) : Met l yX1_takeWorths wsX1_takeWorths RM_X1_takeWorths (zPc (dC, dI) (zT cB cI cS cII) N (wX a cB cI cS cII) σ sz [.ref (a 4), .int x1, .ref (a 9), .int x3]) (zQi (dC, dI) (zT cB cI cS cII) (wX a cB cI cS cII) (va_A (wX a cB cI cS cII σ) sz) (fun (r : Int32) (σ1 : Cn) => ∃ u21 : Nat → Nat → Int32, σ1 = (upR σ 21 4 u21) ∧ True)) 0 0 (va_A (wX a cB cI cS cII σ) sz) := by
  refine Met.ofW (cc := cX1_takeWorths) (maxL := 7) (ret := (some .int)) (by decide) rfl ?_
  intro p e s m args below meth c s₁ B hml hv
  obtain ⟨rfl, hsz, hP, hK, hD0, hN⟩ := hv
  have hx := B.exec
  have hb := B.bytes
  have hr := B.returns
  have hts := atoms_spec (ws := wsX1_takeWorths) B.pre
  have hown : s.vm.findClass RX1 = some m.cls := findClass_of_methodNamed B.named
  have hlocks := B.notSynchronized
  subst hsz
  have hD := hD0.self (sz := s.heap.size)
  generalize hAe : va_A (wX a cB cI cS cII σ) s.heap.size = A at hD hN ⊢
  have hA : ∀ q : Nat, s.heap.size ≤ q → A q := fun q h => by rw [← hAe]; exact Or.inr h
  clear hAe hD0
  have hS : va_S A s.heap s.heap [] := va_S.rf
  have in1 : ∀ w ∈ u_ws RX1 TX1 9, w ∈ wsX1_takeWorths := by decide +kernel
  have in4 : ∀ w ∈ u_ws RX4 TX4 3, w ∈ wsX1_takeWorths := by decide +kernel
  have k29 := hts (.fieldLink RX1 29 "HouseSorted$House" "worth" "[[I") (by decide +kernel)
  have k40 := hts (.fieldLink RX1 40 "HouseSorted$House" "things" "I") (by decide +kernel)
  have k69 := hts (.fieldLink RX1 69 "HouseSorted$Sheet" "cells" "[I") (by decide +kernel)
  have LP : ∀ n : Nat, (∀ (f : Int32) (j : Int32) (w21 : Nat → Nat → Int32) (H : Heap) (locs : List Loc) (ls : Array Slot), 0 ≤ j.toInt ∧ j.toInt ≤ 10 → (10 - j.toInt).toNat < n → va_P (dC, dI) vwCl (wX a cB cI cS cII (upR σ 21 4 w21)) H → va_D A (wX a cB cI cS cII (upR σ 21 4 w21)) → va_S A s.heap H locs → lv_has ls 7 [(0, .ref (a 4)), (1, .int x1), (2, .ref (a 9)), (3, .int x3), (4, .int f), (5, .int j)] → W p l e (headSpec wsX1_takeWorths RM_X1_takeWorths).room s m ([.ref (a 4), .int x1, .ref (a 9), .int x3] : List Value).toArray below meth c H locs 0 0 (MQ below (zQi (dC, dI) (zT cB cI cS cII) (wX a cB cI cS cII) A (fun (r : Int32) (σ1 : Cn) => ∃ u21 : Nat → Nat → Int32, σ1 = (upR σ 21 4 u21) ∧ True)) ([.ref (a 4), .int x1, .ref (a 9), .int x3] : List Value).toArray s 0 0 A) (F0 m 6 ls [])) := by
    intro n
    induction n with
    | zero => exact by intros; omega
    | succ n ih =>
      · intro f j w21 H locs ls g1 hmu hP hD hS hl
        refine lv_iload hx hb dX1_takeWorths_6 (lv_at hl 5 rfl) ?_
        refine lv_aload_n hx hb dX1_takeWorths_8 rfl (lv_at hl 0 rfl) ?_
        refine va_get (D := (dC, dI)) (ci := 1) (v := .int (σ 4 2)) (C := RX1) (T := TX1) (N := 9) hx hb hts in1 hown hK hP 4 rfl rfl 2 (by decide) k40 (fun _ h9 => h9) rfl dX1_takeWorths_9 ?_
        refine lv_icmp_ge (tgt := 60) hx hb dX1_takeWorths_12 (by decide) (fun c12 => ?_) (fun c12 => ?_)
        · skip
          have ic12 := zle (a := (σ 4 2).toInt) (b := j.toInt) rfl rfl c12
          refine lv_iload hx hb dX1_takeWorths_60 (lv_at hl 4 rfl) ?_
          have hpost : ∃ u21 : Nat → Nat → Int32, (upR σ 21 4 w21) = (upR σ 21 4 u21) ∧ True := by refine ⟨(w21), by first | rfl | (funext j; simp only [upC, upR]; (repeat' split) <;> first | rfl | (simp_all; done) | (congr 1; omega) | (exfalso; omega)), ?_⟩; trivial
          exact W.iret (v := f) hx hb hr (fun t9 ht hW => ⟨⟨f, (upR σ 21 4 w21), rfl, hpost, by rw [ht]; exact hP, va_K.moved hW.alike hK, hD⟩, hS.F ht⟩) hS.2.2 dX1_takeWorths_62
        · skip
          have ic12 := znle (a := (σ 4 2).toInt) (b := j.toInt) rfl rfl c12
          have h6 := h5 (j.toNatClampNeg) (by have q9 := zcl (x := j) (by omega); omega)
          have h7 := zcl (x := j) (by omega)
          refine lv_aload_n hx hb dX1_takeWorths_15 rfl (lv_at hl 2 rfl) ?_
          refine va_get (D := (dC, dI)) (ci := 4) (v := .ref (a 39)) (C := RX4) (T := TX4) (N := 3) hx hb hts in4 hown hK hP 9 rfl rfl 2 (by decide) k69 (fun _ h9 => h9) rfl dX1_takeWorths_16 ?_
          refine lv_iload_n hx hb dX1_takeWorths_19 rfl (lv_at hl 3 rfl) ?_
          refine lv_iload hx hb dX1_takeWorths_20 (lv_at hl 5 rfl) ?_
          refine lv_iadd hx hb dX1_takeWorths_22 ?_
          refine lv_topi (fun v22 ev22 => ?_)
          have tv22 : v22.toInt = x3.toInt + j.toInt := by rw [ev22, zadd]; omega
          refine va_iald (D := (dC, dI)) (f := σ 39) hx hb hK hP 39 1 rfl rfl (i := v22) (n := 60) (zin (by omega) (by omega)) dX1_takeWorths_23 ?_
          refine lv_topi (fun v23 ev23 => ?_)
          have tv23 := congrArg Int32.toInt ev23
          refine lv_istore (lv' := [(6, .int v23), (0, .ref (a 4)), (1, .int x1), (2, .ref (a 9)), (3, .int x3), (4, .int f), (5, .int j)]) hx hb dX1_takeWorths_24 hl (by decide) rfl (fun ls hl => ?_)
          refine lv_aload_n hx hb dX1_takeWorths_26 rfl (lv_at hl 1 rfl) ?_
          refine va_get (D := (dC, dI)) (ci := 1) (v := .ref (a 20)) (C := RX1) (T := TX1) (N := 9) hx hb hts in1 hown hK hP 4 rfl rfl 8 (by decide) k29 (fun _ h9 => h9) rfl dX1_takeWorths_27 ?_
          refine lv_iload_n hx hb dX1_takeWorths_30 rfl (lv_at hl 2 rfl) ?_
          have hr31 : (x1).toNatClampNeg < 4 := by have h9 := zcl (x := x1) (by omega); omega
          refine zald hx hb hK hP 20 3 rfl rfl (i := x1) (n := 4) (zin (by omega) (by omega)) (zro_in hr31) dX1_takeWorths_31 ?_
          refine lv_iload hx hb dX1_takeWorths_32 (lv_at hl 6 rfl) ?_
          refine va_iald (D := (dC, dI)) (f := (upR σ 21 4 w21) (21 + (x1).toNatClampNeg)) hx hb hK hP (21 + (x1).toNatClampNeg) 1 (wX_row21 hr31) rfl (i := j) (n := 10) (zin (by omega) (by omega)) dX1_takeWorths_34 ?_
          refine lv_topi (fun v34 ev34 => ?_)
          have tv34 := congrArg Int32.toInt ev34
          refine lv_iload hx hb dX1_takeWorths_35 (lv_at hl 0 rfl) ?_
          refine lv_icmp_eq (tgt := 54) hx hb dX1_takeWorths_37 (by decide) (fun c37 => ?_) (fun c37 => ?_)
          · skip
            have ic37 := zeq (a := v34.toInt) (b := v23.toInt) rfl rfl c37
            obtain ⟨v54, ev54⟩ : ∃ y : Int32, y = j + 1 := ⟨_, rfl⟩
            refine lv_iinc (v := v54) (lv' := [(5, .int v54), (6, .int v23), (0, .ref (a 4)), (1, .int x1), (2, .ref (a 9)), (3, .int x3), (4, .int f)]) hx hb dX1_takeWorths_54 hl (k := 6) rfl (by rw [ev54]; rfl) (by decide) rfl (fun ls hl => ?_)
            have tv54 : v54.toInt = j.toInt + 1 := by rw [ev54, zadd, show (1 : Int32).toInt = 1 from by decide]; omega
            refine lv_goto (tgt := 6) hx hb dX1_takeWorths_57 (by decide) ?_
            exact ih (f) (v54) (w21) H locs ls (by omega) (by omega) hP hD hS (lv_sub hl [2, 3, 4, 5, 6, 0] rfl)
          · skip
            have ic37 := zneq (a := v34.toInt) (b := v23.toInt) rfl rfl c37
            refine lv_aload_n hx hb dX1_takeWorths_40 rfl (lv_at hl 1 rfl) ?_
            refine va_get (D := (dC, dI)) (ci := 1) (v := .ref (a 20)) (C := RX1) (T := TX1) (N := 9) hx hb hts in1 hown hK hP 4 rfl rfl 8 (by decide) k29 (fun _ h9 => h9) rfl dX1_takeWorths_41 ?_
            refine lv_iload_n hx hb dX1_takeWorths_44 rfl (lv_at hl 2 rfl) ?_
            have hr45 : (x1).toNatClampNeg < 4 := by have h9 := zcl (x := x1) (by omega); omega
            refine zald hx hb hK hP 20 3 rfl rfl (i := x1) (n := 4) (zin (by omega) (by omega)) (zro_in hr45) dX1_takeWorths_45 ?_
            refine lv_iload hx hb dX1_takeWorths_46 (lv_at hl 6 rfl) ?_
            refine lv_iload hx hb dX1_takeWorths_48 (lv_at hl 0 rfl) ?_
            refine va_iast (D := (dC, dI)) (f := (upR σ 21 4 w21) (21 + (x1).toNatClampNeg)) hx hb hK hP hD hS (21 + (x1).toNatClampNeg) 1 (wX_row21 hr45) rfl (i := j) (n := 10) (zin (by omega) (by omega)) dX1_takeWorths_50 (fun H locs hP hD hS => ?_)
            rw [wX_set21 hr45] at hP hD
            obtain ⟨g50, eg50, hP, hD⟩ : ∃ g50 : Nat → Nat → Int32, g50 = (fun i => if i = (x1).toNatClampNeg then upd ((upR σ 21 4 w21) (21 + (x1).toNatClampNeg)) (j).toNatClampNeg v23 else (upR σ 21 4 w21) (21 + i)) ∧ va_P (dC, dI) vwCl (wX a cB cI cS cII (upR σ 21 4 g50)) H ∧ va_D A (wX a cB cI cS cII (upR σ 21 4 g50)) := ⟨_, rfl, hP, hD⟩
            obtain ⟨v51, ev51⟩ : ∃ y : Int32, y = f + 1 := ⟨_, rfl⟩
            refine lv_iinc (v := v51) (lv' := [(4, .int v51), (6, .int v23), (0, .ref (a 4)), (1, .int x1), (2, .ref (a 9)), (3, .int x3), (5, .int j)]) hx hb dX1_takeWorths_51 hl (k := 5) rfl (by rw [ev51]; rfl) (by decide) rfl (fun ls hl => ?_)
            obtain ⟨v54, ev54⟩ : ∃ y : Int32, y = j + 1 := ⟨_, rfl⟩
            refine lv_iinc (v := v54) (lv' := [(5, .int v54), (4, .int v51), (6, .int v23), (0, .ref (a 4)), (1, .int x1), (2, .ref (a 9)), (3, .int x3)]) hx hb dX1_takeWorths_54 hl (k := 6) rfl (by rw [ev54]; rfl) (by decide) rfl (fun ls hl => ?_)
            have tv54 : v54.toInt = j.toInt + 1 := by rw [ev54, zadd, show (1 : Int32).toInt = 1 from by decide]; omega
            refine lv_goto (tgt := 6) hx hb dX1_takeWorths_57 (by decide) ?_
            exact ih (v51) (v54) (g50) H locs ls (by omega) (by omega) hP hD hS (lv_sub hl [3, 4, 5, 6, 1, 0] rfl)
  have hl := lv_entry ([.ref (a 4), .int x1, .ref (a 9), .int x3]) (n := 7) (Nat.le_of_ble_eq_true rfl)
  rw [lg_entry_eq]
  generalize (lg_sl ([.ref (a 4), .int x1, .ref (a 9), .int x3]) ++ List.replicate (7 - (lg_sl ([.ref (a 4), .int x1, .ref (a 9), .int x3])).length) Slot.unset).toArray = ls at hl ⊢
  have hl : lv_has ls 7 [(0, .ref (a 4)), (1, .int x1), (2, .ref (a 9)), (3, .int x3)] := hl
  suffices main : ∀ (H : Heap) (locs : List Loc), va_P (dC, dI) vwCl (wX a cB cI cS cII σ) H → va_D A (wX a cB cI cS cII σ) → va_S A s.heap H locs → W p l e (headSpec wsX1_takeWorths RM_X1_takeWorths).room s m ([.ref (a 4), .int x1, .ref (a 9), .int x3] : List Value).toArray below meth c H locs 0 0 (MQ below (zQi (dC, dI) (zT cB cI cS cII) (wX a cB cI cS cII) A (fun (r : Int32) (σ1 : Cn) => ∃ u21 : Nat → Nat → Int32, σ1 = (upR σ 21 4 u21) ∧ True)) ([.ref (a 4), .int x1, .ref (a 9), .int x3] : List Value).toArray s 0 0 A) (F0 m 0 ls []) from main s.heap [] hP hD hS
  intro H locs hP hD hS
  refine lv_iconst (v := 0) hx hb dX1_takeWorths_0 (by decide) ?_
  refine lv_istore (lv' := [(4, .int 0), (0, .ref (a 4)), (1, .int x1), (2, .ref (a 9)), (3, .int x3)]) hx hb dX1_takeWorths_1 hl (by decide) rfl (fun ls hl => ?_)
  refine lv_iconst (v := 0) hx hb dX1_takeWorths_3 (by decide) ?_
  refine lv_istore (lv' := [(5, .int 0), (4, .int 0), (0, .ref (a 4)), (1, .int x1), (2, .ref (a 9)), (3, .int x3)]) hx hb dX1_takeWorths_4 hl (by decide) rfl (fun ls hl => ?_)
  exact (LP _) (0) (0) (fun i => σ (21 + i)) H locs ls (by decide) (Nat.lt_succ_self _) hP hD hS (lv_sub hl [2, 3, 4, 5, 1, 0] rfl)

set_option maxHeartbeats 4000000 in
set_option maxRecDepth 100000 in
theorem c_X1_takeWorths_10 (l : Launch) (dC : Nat → ClassId) (dI : Nat → Nat → Nat) (cB cI cS cII : ClassId) (a : Nat → Nat) (N : (Nat → Prop) → State → Prop) (hok : zNok N) (hn : ∀ A U, N A U → zN U) (σ : Cn) (sz : Nat) (x1 : Int32) (x3 : Int32) (h1 : 0 ≤ x1.toInt ∧ x1.toInt < 4) (h2 : 0 ≤ (σ 4 2).toInt ∧ (σ 4 2).toInt ≤ 10) (h5 : ∀ t : Nat, (t : Int) < (σ 4 2).toInt → 0 ≤ x3.toInt + t ∧ x3.toInt + t < 60) : Met l yX1_takeWorths wsX1_takeWorths RM_X1_takeWorths (zPc (dC, dI) (zT cB cI cS cII) N (wX a cB cI cS cII) σ sz [.ref (a 4), .int x1, .ref (a 10), .int x3]) (zQi (dC, dI) (zT cB cI cS cII) (wX a cB cI cS cII) (va_A (wX a cB cI cS cII σ) sz) (fun (r : Int32) (σ1 : Cn) => ∃ u21 : Nat → Nat → Int32, σ1 = (upR σ 21 4 u21) ∧ True)) 0 0 (va_A (wX a cB cI cS cII σ) sz) := by
  refine Met.ofW (cc := cX1_takeWorths) (maxL := 7) (ret := (some .int)) (by decide) rfl ?_
  intro p e s m args below meth c s₁ B hml hv
  obtain ⟨rfl, hsz, hP, hK, hD0, hN⟩ := hv
  have hx := B.exec
  have hb := B.bytes
  have hr := B.returns
  have hts := atoms_spec (ws := wsX1_takeWorths) B.pre
  have hown : s.vm.findClass RX1 = some m.cls := findClass_of_methodNamed B.named
  have hlocks := B.notSynchronized
  subst hsz
  have hD := hD0.self (sz := s.heap.size)
  generalize hAe : va_A (wX a cB cI cS cII σ) s.heap.size = A at hD hN ⊢
  have hA : ∀ q : Nat, s.heap.size ≤ q → A q := fun q h => by rw [← hAe]; exact Or.inr h
  clear hAe hD0
  have hS : va_S A s.heap s.heap [] := va_S.rf
  have in1 : ∀ w ∈ u_ws RX1 TX1 9, w ∈ wsX1_takeWorths := by decide +kernel
  have in4 : ∀ w ∈ u_ws RX4 TX4 3, w ∈ wsX1_takeWorths := by decide +kernel
  have k29 := hts (.fieldLink RX1 29 "HouseSorted$House" "worth" "[[I") (by decide +kernel)
  have k40 := hts (.fieldLink RX1 40 "HouseSorted$House" "things" "I") (by decide +kernel)
  have k69 := hts (.fieldLink RX1 69 "HouseSorted$Sheet" "cells" "[I") (by decide +kernel)
  have LP : ∀ n : Nat, (∀ (f : Int32) (j : Int32) (w21 : Nat → Nat → Int32) (H : Heap) (locs : List Loc) (ls : Array Slot), 0 ≤ j.toInt ∧ j.toInt ≤ 10 → (10 - j.toInt).toNat < n → va_P (dC, dI) vwCl (wX a cB cI cS cII (upR σ 21 4 w21)) H → va_D A (wX a cB cI cS cII (upR σ 21 4 w21)) → va_S A s.heap H locs → lv_has ls 7 [(0, .ref (a 4)), (1, .int x1), (2, .ref (a 10)), (3, .int x3), (4, .int f), (5, .int j)] → W p l e (headSpec wsX1_takeWorths RM_X1_takeWorths).room s m ([.ref (a 4), .int x1, .ref (a 10), .int x3] : List Value).toArray below meth c H locs 0 0 (MQ below (zQi (dC, dI) (zT cB cI cS cII) (wX a cB cI cS cII) A (fun (r : Int32) (σ1 : Cn) => ∃ u21 : Nat → Nat → Int32, σ1 = (upR σ 21 4 u21) ∧ True)) ([.ref (a 4), .int x1, .ref (a 10), .int x3] : List Value).toArray s 0 0 A) (F0 m 6 ls [])) := by
    intro n
    induction n with
    | zero => exact by intros; omega
    | succ n ih =>
      · intro f j w21 H locs ls g1 hmu hP hD hS hl
        refine lv_iload hx hb dX1_takeWorths_6 (lv_at hl 5 rfl) ?_
        refine lv_aload_n hx hb dX1_takeWorths_8 rfl (lv_at hl 0 rfl) ?_
        refine va_get (D := (dC, dI)) (ci := 1) (v := .int (σ 4 2)) (C := RX1) (T := TX1) (N := 9) hx hb hts in1 hown hK hP 4 rfl rfl 2 (by decide) k40 (fun _ h9 => h9) rfl dX1_takeWorths_9 ?_
        refine lv_icmp_ge (tgt := 60) hx hb dX1_takeWorths_12 (by decide) (fun c12 => ?_) (fun c12 => ?_)
        · skip
          have ic12 := zle (a := (σ 4 2).toInt) (b := j.toInt) rfl rfl c12
          refine lv_iload hx hb dX1_takeWorths_60 (lv_at hl 4 rfl) ?_
          have hpost : ∃ u21 : Nat → Nat → Int32, (upR σ 21 4 w21) = (upR σ 21 4 u21) ∧ True := by refine ⟨(w21), by first | rfl | (funext j; simp only [upC, upR]; (repeat' split) <;> first | rfl | (simp_all; done) | (congr 1; omega) | (exfalso; omega)), ?_⟩; trivial
          exact W.iret (v := f) hx hb hr (fun t9 ht hW => ⟨⟨f, (upR σ 21 4 w21), rfl, hpost, by rw [ht]; exact hP, va_K.moved hW.alike hK, hD⟩, hS.F ht⟩) hS.2.2 dX1_takeWorths_62
        · skip
          have ic12 := znle (a := (σ 4 2).toInt) (b := j.toInt) rfl rfl c12
          have h6 := h5 (j.toNatClampNeg) (by have q9 := zcl (x := j) (by omega); omega)
          have h7 := zcl (x := j) (by omega)
          refine lv_aload_n hx hb dX1_takeWorths_15 rfl (lv_at hl 2 rfl) ?_
          refine va_get (D := (dC, dI)) (ci := 4) (v := .ref (a 40)) (C := RX4) (T := TX4) (N := 3) hx hb hts in4 hown hK hP 10 rfl rfl 2 (by decide) k69 (fun _ h9 => h9) rfl dX1_takeWorths_16 ?_
          refine lv_iload_n hx hb dX1_takeWorths_19 rfl (lv_at hl 3 rfl) ?_
          refine lv_iload hx hb dX1_takeWorths_20 (lv_at hl 5 rfl) ?_
          refine lv_iadd hx hb dX1_takeWorths_22 ?_
          refine lv_topi (fun v22 ev22 => ?_)
          have tv22 : v22.toInt = x3.toInt + j.toInt := by rw [ev22, zadd]; omega
          refine va_iald (D := (dC, dI)) (f := σ 40) hx hb hK hP 40 1 rfl rfl (i := v22) (n := 60) (zin (by omega) (by omega)) dX1_takeWorths_23 ?_
          refine lv_topi (fun v23 ev23 => ?_)
          have tv23 := congrArg Int32.toInt ev23
          refine lv_istore (lv' := [(6, .int v23), (0, .ref (a 4)), (1, .int x1), (2, .ref (a 10)), (3, .int x3), (4, .int f), (5, .int j)]) hx hb dX1_takeWorths_24 hl (by decide) rfl (fun ls hl => ?_)
          refine lv_aload_n hx hb dX1_takeWorths_26 rfl (lv_at hl 1 rfl) ?_
          refine va_get (D := (dC, dI)) (ci := 1) (v := .ref (a 20)) (C := RX1) (T := TX1) (N := 9) hx hb hts in1 hown hK hP 4 rfl rfl 8 (by decide) k29 (fun _ h9 => h9) rfl dX1_takeWorths_27 ?_
          refine lv_iload_n hx hb dX1_takeWorths_30 rfl (lv_at hl 2 rfl) ?_
          have hr31 : (x1).toNatClampNeg < 4 := by have h9 := zcl (x := x1) (by omega); omega
          refine zald hx hb hK hP 20 3 rfl rfl (i := x1) (n := 4) (zin (by omega) (by omega)) (zro_in hr31) dX1_takeWorths_31 ?_
          refine lv_iload hx hb dX1_takeWorths_32 (lv_at hl 6 rfl) ?_
          refine va_iald (D := (dC, dI)) (f := (upR σ 21 4 w21) (21 + (x1).toNatClampNeg)) hx hb hK hP (21 + (x1).toNatClampNeg) 1 (wX_row21 hr31) rfl (i := j) (n := 10) (zin (by omega) (by omega)) dX1_takeWorths_34 ?_
          refine lv_topi (fun v34 ev34 => ?_)
          have tv34 := congrArg Int32.toInt ev34
          refine lv_iload hx hb dX1_takeWorths_35 (lv_at hl 0 rfl) ?_
          refine lv_icmp_eq (tgt := 54) hx hb dX1_takeWorths_37 (by decide) (fun c37 => ?_) (fun c37 => ?_)
          · skip
            have ic37 := zeq (a := v34.toInt) (b := v23.toInt) rfl rfl c37
            obtain ⟨v54, ev54⟩ : ∃ y : Int32, y = j + 1 := ⟨_, rfl⟩
            refine lv_iinc (v := v54) (lv' := [(5, .int v54), (6, .int v23), (0, .ref (a 4)), (1, .int x1), (2, .ref (a 10)), (3, .int x3), (4, .int f)]) hx hb dX1_takeWorths_54 hl (k := 6) rfl (by rw [ev54]; rfl) (by decide) rfl (fun ls hl => ?_)
            have tv54 : v54.toInt = j.toInt + 1 := by rw [ev54, zadd, show (1 : Int32).toInt = 1 from by decide]; omega
            refine lv_goto (tgt := 6) hx hb dX1_takeWorths_57 (by decide) ?_
            exact ih (f) (v54) (w21) H locs ls (by omega) (by omega) hP hD hS (lv_sub hl [2, 3, 4, 5, 6, 0] rfl)
          · skip
            have ic37 := zneq (a := v34.toInt) (b := v23.toInt) rfl rfl c37
            refine lv_aload_n hx hb dX1_takeWorths_40 rfl (lv_at hl 1 rfl) ?_
            refine va_get (D := (dC, dI)) (ci := 1) (v := .ref (a 20)) (C := RX1) (T := TX1) (N := 9) hx hb hts in1 hown hK hP 4 rfl rfl 8 (by decide) k29 (fun _ h9 => h9) rfl dX1_takeWorths_41 ?_
            refine lv_iload_n hx hb dX1_takeWorths_44 rfl (lv_at hl 2 rfl) ?_
            have hr45 : (x1).toNatClampNeg < 4 := by have h9 := zcl (x := x1) (by omega); omega
            refine zald hx hb hK hP 20 3 rfl rfl (i := x1) (n := 4) (zin (by omega) (by omega)) (zro_in hr45) dX1_takeWorths_45 ?_
            refine lv_iload hx hb dX1_takeWorths_46 (lv_at hl 6 rfl) ?_
            refine lv_iload hx hb dX1_takeWorths_48 (lv_at hl 0 rfl) ?_
            refine va_iast (D := (dC, dI)) (f := (upR σ 21 4 w21) (21 + (x1).toNatClampNeg)) hx hb hK hP hD hS (21 + (x1).toNatClampNeg) 1 (wX_row21 hr45) rfl (i := j) (n := 10) (zin (by omega) (by omega)) dX1_takeWorths_50 (fun H locs hP hD hS => ?_)
            rw [wX_set21 hr45] at hP hD
            obtain ⟨g50, eg50, hP, hD⟩ : ∃ g50 : Nat → Nat → Int32, g50 = (fun i => if i = (x1).toNatClampNeg then upd ((upR σ 21 4 w21) (21 + (x1).toNatClampNeg)) (j).toNatClampNeg v23 else (upR σ 21 4 w21) (21 + i)) ∧ va_P (dC, dI) vwCl (wX a cB cI cS cII (upR σ 21 4 g50)) H ∧ va_D A (wX a cB cI cS cII (upR σ 21 4 g50)) := ⟨_, rfl, hP, hD⟩
            obtain ⟨v51, ev51⟩ : ∃ y : Int32, y = f + 1 := ⟨_, rfl⟩
            refine lv_iinc (v := v51) (lv' := [(4, .int v51), (6, .int v23), (0, .ref (a 4)), (1, .int x1), (2, .ref (a 10)), (3, .int x3), (5, .int j)]) hx hb dX1_takeWorths_51 hl (k := 5) rfl (by rw [ev51]; rfl) (by decide) rfl (fun ls hl => ?_)
            obtain ⟨v54, ev54⟩ : ∃ y : Int32, y = j + 1 := ⟨_, rfl⟩
            refine lv_iinc (v := v54) (lv' := [(5, .int v54), (4, .int v51), (6, .int v23), (0, .ref (a 4)), (1, .int x1), (2, .ref (a 10)), (3, .int x3)]) hx hb dX1_takeWorths_54 hl (k := 6) rfl (by rw [ev54]; rfl) (by decide) rfl (fun ls hl => ?_)
            have tv54 : v54.toInt = j.toInt + 1 := by rw [ev54, zadd, show (1 : Int32).toInt = 1 from by decide]; omega
            refine lv_goto (tgt := 6) hx hb dX1_takeWorths_57 (by decide) ?_
            exact ih (v51) (v54) (g50) H locs ls (by omega) (by omega) hP hD hS (lv_sub hl [3, 4, 5, 6, 1, 0] rfl)
  have hl := lv_entry ([.ref (a 4), .int x1, .ref (a 10), .int x3]) (n := 7) (Nat.le_of_ble_eq_true rfl)
  rw [lg_entry_eq]
  generalize (lg_sl ([.ref (a 4), .int x1, .ref (a 10), .int x3]) ++ List.replicate (7 - (lg_sl ([.ref (a 4), .int x1, .ref (a 10), .int x3])).length) Slot.unset).toArray = ls at hl ⊢
  have hl : lv_has ls 7 [(0, .ref (a 4)), (1, .int x1), (2, .ref (a 10)), (3, .int x3)] := hl
  suffices main : ∀ (H : Heap) (locs : List Loc), va_P (dC, dI) vwCl (wX a cB cI cS cII σ) H → va_D A (wX a cB cI cS cII σ) → va_S A s.heap H locs → W p l e (headSpec wsX1_takeWorths RM_X1_takeWorths).room s m ([.ref (a 4), .int x1, .ref (a 10), .int x3] : List Value).toArray below meth c H locs 0 0 (MQ below (zQi (dC, dI) (zT cB cI cS cII) (wX a cB cI cS cII) A (fun (r : Int32) (σ1 : Cn) => ∃ u21 : Nat → Nat → Int32, σ1 = (upR σ 21 4 u21) ∧ True)) ([.ref (a 4), .int x1, .ref (a 10), .int x3] : List Value).toArray s 0 0 A) (F0 m 0 ls []) from main s.heap [] hP hD hS
  intro H locs hP hD hS
  refine lv_iconst (v := 0) hx hb dX1_takeWorths_0 (by decide) ?_
  refine lv_istore (lv' := [(4, .int 0), (0, .ref (a 4)), (1, .int x1), (2, .ref (a 10)), (3, .int x3)]) hx hb dX1_takeWorths_1 hl (by decide) rfl (fun ls hl => ?_)
  refine lv_iconst (v := 0) hx hb dX1_takeWorths_3 (by decide) ?_
  refine lv_istore (lv' := [(5, .int 0), (4, .int 0), (0, .ref (a 4)), (1, .int x1), (2, .ref (a 10)), (3, .int x3)]) hx hb dX1_takeWorths_4 hl (by decide) rfl (fun ls hl => ?_)
  exact (LP _) (0) (0) (fun i => σ (21 + i)) H locs ls (by decide) (Nat.lt_succ_self _) hP hD hS (lv_sub hl [2, 3, 4, 5, 1, 0] rfl)

set_option maxHeartbeats 4000000 in
set_option maxRecDepth 100000 in
theorem c_X1_takeWorths_11 (l : Launch) (dC : Nat → ClassId) (dI : Nat → Nat → Nat) (cB cI cS cII : ClassId) (a : Nat → Nat) (N : (Nat → Prop) → State → Prop) (hok : zNok N) (hn : ∀ A U, N A U → zN U) (σ : Cn) (sz : Nat) (x1 : Int32) (x3 : Int32) (h1 : 0 ≤ x1.toInt ∧ x1.toInt < 4) (h2 : 0 ≤ (σ 4 2).toInt ∧ (σ 4 2).toInt ≤ 10) (h5 : ∀ t : Nat, (t : Int) < (σ 4 2).toInt → 0 ≤ x3.toInt + t ∧ x3.toInt + t < 60) : Met l yX1_takeWorths wsX1_takeWorths RM_X1_takeWorths (zPc (dC, dI) (zT cB cI cS cII) N (wX a cB cI cS cII) σ sz [.ref (a 4), .int x1, .ref (a 11), .int x3]) (zQi (dC, dI) (zT cB cI cS cII) (wX a cB cI cS cII) (va_A (wX a cB cI cS cII σ) sz) (fun (r : Int32) (σ1 : Cn) => ∃ u21 : Nat → Nat → Int32, σ1 = (upR σ 21 4 u21) ∧ True)) 0 0 (va_A (wX a cB cI cS cII σ) sz) := by
  refine Met.ofW (cc := cX1_takeWorths) (maxL := 7) (ret := (some .int)) (by decide) rfl ?_
  intro p e s m args below meth c s₁ B hml hv
  obtain ⟨rfl, hsz, hP, hK, hD0, hN⟩ := hv
  have hx := B.exec
  have hb := B.bytes
  have hr := B.returns
  have hts := atoms_spec (ws := wsX1_takeWorths) B.pre
  have hown : s.vm.findClass RX1 = some m.cls := findClass_of_methodNamed B.named
  have hlocks := B.notSynchronized
  subst hsz
  have hD := hD0.self (sz := s.heap.size)
  generalize hAe : va_A (wX a cB cI cS cII σ) s.heap.size = A at hD hN ⊢
  have hA : ∀ q : Nat, s.heap.size ≤ q → A q := fun q h => by rw [← hAe]; exact Or.inr h
  clear hAe hD0
  have hS : va_S A s.heap s.heap [] := va_S.rf
  have in1 : ∀ w ∈ u_ws RX1 TX1 9, w ∈ wsX1_takeWorths := by decide +kernel
  have in4 : ∀ w ∈ u_ws RX4 TX4 3, w ∈ wsX1_takeWorths := by decide +kernel
  have k29 := hts (.fieldLink RX1 29 "HouseSorted$House" "worth" "[[I") (by decide +kernel)
  have k40 := hts (.fieldLink RX1 40 "HouseSorted$House" "things" "I") (by decide +kernel)
  have k69 := hts (.fieldLink RX1 69 "HouseSorted$Sheet" "cells" "[I") (by decide +kernel)
  have LP : ∀ n : Nat, (∀ (f : Int32) (j : Int32) (w21 : Nat → Nat → Int32) (H : Heap) (locs : List Loc) (ls : Array Slot), 0 ≤ j.toInt ∧ j.toInt ≤ 10 → (10 - j.toInt).toNat < n → va_P (dC, dI) vwCl (wX a cB cI cS cII (upR σ 21 4 w21)) H → va_D A (wX a cB cI cS cII (upR σ 21 4 w21)) → va_S A s.heap H locs → lv_has ls 7 [(0, .ref (a 4)), (1, .int x1), (2, .ref (a 11)), (3, .int x3), (4, .int f), (5, .int j)] → W p l e (headSpec wsX1_takeWorths RM_X1_takeWorths).room s m ([.ref (a 4), .int x1, .ref (a 11), .int x3] : List Value).toArray below meth c H locs 0 0 (MQ below (zQi (dC, dI) (zT cB cI cS cII) (wX a cB cI cS cII) A (fun (r : Int32) (σ1 : Cn) => ∃ u21 : Nat → Nat → Int32, σ1 = (upR σ 21 4 u21) ∧ True)) ([.ref (a 4), .int x1, .ref (a 11), .int x3] : List Value).toArray s 0 0 A) (F0 m 6 ls [])) := by
    intro n
    induction n with
    | zero => exact by intros; omega
    | succ n ih =>
      · intro f j w21 H locs ls g1 hmu hP hD hS hl
        refine lv_iload hx hb dX1_takeWorths_6 (lv_at hl 5 rfl) ?_
        refine lv_aload_n hx hb dX1_takeWorths_8 rfl (lv_at hl 0 rfl) ?_
        refine va_get (D := (dC, dI)) (ci := 1) (v := .int (σ 4 2)) (C := RX1) (T := TX1) (N := 9) hx hb hts in1 hown hK hP 4 rfl rfl 2 (by decide) k40 (fun _ h9 => h9) rfl dX1_takeWorths_9 ?_
        refine lv_icmp_ge (tgt := 60) hx hb dX1_takeWorths_12 (by decide) (fun c12 => ?_) (fun c12 => ?_)
        · skip
          have ic12 := zle (a := (σ 4 2).toInt) (b := j.toInt) rfl rfl c12
          refine lv_iload hx hb dX1_takeWorths_60 (lv_at hl 4 rfl) ?_
          have hpost : ∃ u21 : Nat → Nat → Int32, (upR σ 21 4 w21) = (upR σ 21 4 u21) ∧ True := by refine ⟨(w21), by first | rfl | (funext j; simp only [upC, upR]; (repeat' split) <;> first | rfl | (simp_all; done) | (congr 1; omega) | (exfalso; omega)), ?_⟩; trivial
          exact W.iret (v := f) hx hb hr (fun t9 ht hW => ⟨⟨f, (upR σ 21 4 w21), rfl, hpost, by rw [ht]; exact hP, va_K.moved hW.alike hK, hD⟩, hS.F ht⟩) hS.2.2 dX1_takeWorths_62
        · skip
          have ic12 := znle (a := (σ 4 2).toInt) (b := j.toInt) rfl rfl c12
          have h6 := h5 (j.toNatClampNeg) (by have q9 := zcl (x := j) (by omega); omega)
          have h7 := zcl (x := j) (by omega)
          refine lv_aload_n hx hb dX1_takeWorths_15 rfl (lv_at hl 2 rfl) ?_
          refine va_get (D := (dC, dI)) (ci := 4) (v := .ref (a 41)) (C := RX4) (T := TX4) (N := 3) hx hb hts in4 hown hK hP 11 rfl rfl 2 (by decide) k69 (fun _ h9 => h9) rfl dX1_takeWorths_16 ?_
          refine lv_iload_n hx hb dX1_takeWorths_19 rfl (lv_at hl 3 rfl) ?_
          refine lv_iload hx hb dX1_takeWorths_20 (lv_at hl 5 rfl) ?_
          refine lv_iadd hx hb dX1_takeWorths_22 ?_
          refine lv_topi (fun v22 ev22 => ?_)
          have tv22 : v22.toInt = x3.toInt + j.toInt := by rw [ev22, zadd]; omega
          refine va_iald (D := (dC, dI)) (f := σ 41) hx hb hK hP 41 1 rfl rfl (i := v22) (n := 60) (zin (by omega) (by omega)) dX1_takeWorths_23 ?_
          refine lv_topi (fun v23 ev23 => ?_)
          have tv23 := congrArg Int32.toInt ev23
          refine lv_istore (lv' := [(6, .int v23), (0, .ref (a 4)), (1, .int x1), (2, .ref (a 11)), (3, .int x3), (4, .int f), (5, .int j)]) hx hb dX1_takeWorths_24 hl (by decide) rfl (fun ls hl => ?_)
          refine lv_aload_n hx hb dX1_takeWorths_26 rfl (lv_at hl 1 rfl) ?_
          refine va_get (D := (dC, dI)) (ci := 1) (v := .ref (a 20)) (C := RX1) (T := TX1) (N := 9) hx hb hts in1 hown hK hP 4 rfl rfl 8 (by decide) k29 (fun _ h9 => h9) rfl dX1_takeWorths_27 ?_
          refine lv_iload_n hx hb dX1_takeWorths_30 rfl (lv_at hl 2 rfl) ?_
          have hr31 : (x1).toNatClampNeg < 4 := by have h9 := zcl (x := x1) (by omega); omega
          refine zald hx hb hK hP 20 3 rfl rfl (i := x1) (n := 4) (zin (by omega) (by omega)) (zro_in hr31) dX1_takeWorths_31 ?_
          refine lv_iload hx hb dX1_takeWorths_32 (lv_at hl 6 rfl) ?_
          refine va_iald (D := (dC, dI)) (f := (upR σ 21 4 w21) (21 + (x1).toNatClampNeg)) hx hb hK hP (21 + (x1).toNatClampNeg) 1 (wX_row21 hr31) rfl (i := j) (n := 10) (zin (by omega) (by omega)) dX1_takeWorths_34 ?_
          refine lv_topi (fun v34 ev34 => ?_)
          have tv34 := congrArg Int32.toInt ev34
          refine lv_iload hx hb dX1_takeWorths_35 (lv_at hl 0 rfl) ?_
          refine lv_icmp_eq (tgt := 54) hx hb dX1_takeWorths_37 (by decide) (fun c37 => ?_) (fun c37 => ?_)
          · skip
            have ic37 := zeq (a := v34.toInt) (b := v23.toInt) rfl rfl c37
            obtain ⟨v54, ev54⟩ : ∃ y : Int32, y = j + 1 := ⟨_, rfl⟩
            refine lv_iinc (v := v54) (lv' := [(5, .int v54), (6, .int v23), (0, .ref (a 4)), (1, .int x1), (2, .ref (a 11)), (3, .int x3), (4, .int f)]) hx hb dX1_takeWorths_54 hl (k := 6) rfl (by rw [ev54]; rfl) (by decide) rfl (fun ls hl => ?_)
            have tv54 : v54.toInt = j.toInt + 1 := by rw [ev54, zadd, show (1 : Int32).toInt = 1 from by decide]; omega
            refine lv_goto (tgt := 6) hx hb dX1_takeWorths_57 (by decide) ?_
            exact ih (f) (v54) (w21) H locs ls (by omega) (by omega) hP hD hS (lv_sub hl [2, 3, 4, 5, 6, 0] rfl)
          · skip
            have ic37 := zneq (a := v34.toInt) (b := v23.toInt) rfl rfl c37
            refine lv_aload_n hx hb dX1_takeWorths_40 rfl (lv_at hl 1 rfl) ?_
            refine va_get (D := (dC, dI)) (ci := 1) (v := .ref (a 20)) (C := RX1) (T := TX1) (N := 9) hx hb hts in1 hown hK hP 4 rfl rfl 8 (by decide) k29 (fun _ h9 => h9) rfl dX1_takeWorths_41 ?_
            refine lv_iload_n hx hb dX1_takeWorths_44 rfl (lv_at hl 2 rfl) ?_
            have hr45 : (x1).toNatClampNeg < 4 := by have h9 := zcl (x := x1) (by omega); omega
            refine zald hx hb hK hP 20 3 rfl rfl (i := x1) (n := 4) (zin (by omega) (by omega)) (zro_in hr45) dX1_takeWorths_45 ?_
            refine lv_iload hx hb dX1_takeWorths_46 (lv_at hl 6 rfl) ?_
            refine lv_iload hx hb dX1_takeWorths_48 (lv_at hl 0 rfl) ?_
            refine va_iast (D := (dC, dI)) (f := (upR σ 21 4 w21) (21 + (x1).toNatClampNeg)) hx hb hK hP hD hS (21 + (x1).toNatClampNeg) 1 (wX_row21 hr45) rfl (i := j) (n := 10) (zin (by omega) (by omega)) dX1_takeWorths_50 (fun H locs hP hD hS => ?_)
            rw [wX_set21 hr45] at hP hD
            obtain ⟨g50, eg50, hP, hD⟩ : ∃ g50 : Nat → Nat → Int32, g50 = (fun i => if i = (x1).toNatClampNeg then upd ((upR σ 21 4 w21) (21 + (x1).toNatClampNeg)) (j).toNatClampNeg v23 else (upR σ 21 4 w21) (21 + i)) ∧ va_P (dC, dI) vwCl (wX a cB cI cS cII (upR σ 21 4 g50)) H ∧ va_D A (wX a cB cI cS cII (upR σ 21 4 g50)) := ⟨_, rfl, hP, hD⟩
            obtain ⟨v51, ev51⟩ : ∃ y : Int32, y = f + 1 := ⟨_, rfl⟩
            refine lv_iinc (v := v51) (lv' := [(4, .int v51), (6, .int v23), (0, .ref (a 4)), (1, .int x1), (2, .ref (a 11)), (3, .int x3), (5, .int j)]) hx hb dX1_takeWorths_51 hl (k := 5) rfl (by rw [ev51]; rfl) (by decide) rfl (fun ls hl => ?_)
            obtain ⟨v54, ev54⟩ : ∃ y : Int32, y = j + 1 := ⟨_, rfl⟩
            refine lv_iinc (v := v54) (lv' := [(5, .int v54), (4, .int v51), (6, .int v23), (0, .ref (a 4)), (1, .int x1), (2, .ref (a 11)), (3, .int x3)]) hx hb dX1_takeWorths_54 hl (k := 6) rfl (by rw [ev54]; rfl) (by decide) rfl (fun ls hl => ?_)
            have tv54 : v54.toInt = j.toInt + 1 := by rw [ev54, zadd, show (1 : Int32).toInt = 1 from by decide]; omega
            refine lv_goto (tgt := 6) hx hb dX1_takeWorths_57 (by decide) ?_
            exact ih (v51) (v54) (g50) H locs ls (by omega) (by omega) hP hD hS (lv_sub hl [3, 4, 5, 6, 1, 0] rfl)
  have hl := lv_entry ([.ref (a 4), .int x1, .ref (a 11), .int x3]) (n := 7) (Nat.le_of_ble_eq_true rfl)
  rw [lg_entry_eq]
  generalize (lg_sl ([.ref (a 4), .int x1, .ref (a 11), .int x3]) ++ List.replicate (7 - (lg_sl ([.ref (a 4), .int x1, .ref (a 11), .int x3])).length) Slot.unset).toArray = ls at hl ⊢
  have hl : lv_has ls 7 [(0, .ref (a 4)), (1, .int x1), (2, .ref (a 11)), (3, .int x3)] := hl
  suffices main : ∀ (H : Heap) (locs : List Loc), va_P (dC, dI) vwCl (wX a cB cI cS cII σ) H → va_D A (wX a cB cI cS cII σ) → va_S A s.heap H locs → W p l e (headSpec wsX1_takeWorths RM_X1_takeWorths).room s m ([.ref (a 4), .int x1, .ref (a 11), .int x3] : List Value).toArray below meth c H locs 0 0 (MQ below (zQi (dC, dI) (zT cB cI cS cII) (wX a cB cI cS cII) A (fun (r : Int32) (σ1 : Cn) => ∃ u21 : Nat → Nat → Int32, σ1 = (upR σ 21 4 u21) ∧ True)) ([.ref (a 4), .int x1, .ref (a 11), .int x3] : List Value).toArray s 0 0 A) (F0 m 0 ls []) from main s.heap [] hP hD hS
  intro H locs hP hD hS
  refine lv_iconst (v := 0) hx hb dX1_takeWorths_0 (by decide) ?_
  refine lv_istore (lv' := [(4, .int 0), (0, .ref (a 4)), (1, .int x1), (2, .ref (a 11)), (3, .int x3)]) hx hb dX1_takeWorths_1 hl (by decide) rfl (fun ls hl => ?_)
  refine lv_iconst (v := 0) hx hb dX1_takeWorths_3 (by decide) ?_
  refine lv_istore (lv' := [(5, .int 0), (4, .int 0), (0, .ref (a 4)), (1, .int x1), (2, .ref (a 11)), (3, .int x3)]) hx hb dX1_takeWorths_4 hl (by decide) rfl (fun ls hl => ?_)
  exact (LP _) (0) (0) (fun i => σ (21 + i)) H locs ls (by decide) (Nat.lt_succ_self _) hP hD hS (lv_sub hl [2, 3, 4, 5, 1, 0] rfl)

