abbrev RM_X1_isWanted : Room := { frames := 0, cells := 0, slots := 0, locals := 0 }
set_option maxHeartbeats 4000000 in
set_option maxRecDepth 100000 in
theorem c_X1_isWanted (l : Launch) (dC : Nat → ClassId) (dI : Nat → Nat → Nat) (cB cI cS cII : ClassId) (a : Nat → Nat) (N : (Nat → Prop) → State → Prop) (hok : zNok N) (hn : ∀ A U, N A U → zN U) (σ : Cn) (sz : Nat) (x1 : Int32) (h0 : 0 ≤ (σ 4 1).toInt ∧ (σ 4 1).toInt ≤ 4) (h1 : 0 ≤ x1.toInt ∧ x1.toInt < 10) : Met l yX1_isWanted wsX1_isWanted RM_X1_isWanted (zPc (dC, dI) (zT cB cI cS cII) N (wX a cB cI cS cII) σ sz [.ref (a 4), .int x1]) (zQi (dC, dI) (zT cB cI cS cII) (wX a cB cI cS cII) (va_A (wX a cB cI cS cII σ) sz) (fun (r : Int32) (σ1 : Cn) => σ1 = σ ∧ ((r : Int32).toInt = 1 ∧ xWant σ x1.toNatClampNeg ∨ (r : Int32).toInt = 0 ∧ ¬ (xWant σ x1.toNatClampNeg)))) 0 0 (va_A (wX a cB cI cS cII σ) sz) := by
  refine Met.ofW (cc := cX1_isWanted) (maxL := 3) (ret := (some .boolean)) (by decide) rfl ?_
  intro p e s m args below meth c s₁ B hml hv
  obtain ⟨rfl, hsz, hP, hK, hD0, hN⟩ := hv
  have hx := B.exec
  have hb := B.bytes
  have hr := B.returns
  have hts := atoms_spec (ws := wsX1_isWanted) B.pre
  have hown : s.vm.findClass RX1 = some m.cls := findClass_of_methodNamed B.named
  have hlocks := B.notSynchronized
  subst hsz
  have hD := hD0.self (sz := s.heap.size)
  generalize hAe : va_A (wX a cB cI cS cII σ) s.heap.size = A at hD hN ⊢
  have hA : ∀ q : Nat, s.heap.size ≤ q → A q := fun q h => by rw [← hAe]; exact Or.inr h
  clear hAe hD0
  have hS : va_S A s.heap s.heap [] := va_S.rf
  have in1 : ∀ w ∈ u_ws RX1 TX1 9, w ∈ wsX1_isWanted := by decide +kernel
  have k29 := hts (.fieldLink RX1 29 "HouseSorted$House" "worth" "[[I") (by decide +kernel)
  have k36 := hts (.fieldLink RX1 36 "HouseSorted$House" "heirs" "I") (by decide +kernel)
  have LP : ∀ n : Nat, (∀ (j : Int32) (H : Heap) (locs : List Loc) (ls : Array Slot), 0 ≤ j.toInt ∧ j.toInt ≤ 4 → (∀ h : Nat, (h : Int) < j.toInt → ¬ 0 < σ (21 + h) x1.toNatClampNeg) → (4 - j.toInt).toNat < n → va_P (dC, dI) vwCl (wX a cB cI cS cII σ) H → va_D A (wX a cB cI cS cII σ) → va_S A s.heap H locs → lv_has ls 3 [(0, .ref (a 4)), (1, .int x1), (2, .int j)] → W p l e (headSpec wsX1_isWanted RM_X1_isWanted).room s m ([.ref (a 4), .int x1] : List Value).toArray below meth c H locs 0 0 (MQ below (zQi (dC, dI) (zT cB cI cS cII) (wX a cB cI cS cII) A (fun (r : Int32) (σ1 : Cn) => σ1 = σ ∧ ((r : Int32).toInt = 1 ∧ xWant σ x1.toNatClampNeg ∨ (r : Int32).toInt = 0 ∧ ¬ (xWant σ x1.toNatClampNeg)))) ([.ref (a 4), .int x1] : List Value).toArray s 0 0 A) (F0 m 2 ls [])) := by
    intro n
    induction n with
    | zero => exact by intros; omega
    | succ n ih =>
      · intro j H locs ls g1 g2 hmu hP hD hS hl
        refine lv_iload_n hx hb dX1_isWanted_2 rfl (lv_at hl 2 rfl) ?_
        refine lv_aload_n hx hb dX1_isWanted_3 rfl (lv_at hl 0 rfl) ?_
        refine va_get (D := (dC, dI)) (ci := 1) (v := .int (σ 4 1)) (C := RX1) (T := TX1) (N := 9) hx hb hts in1 hown hK hP 4 rfl rfl 1 (by decide) k36 (fun _ h9 => h9) rfl dX1_isWanted_4 ?_
        refine lv_icmp_ge (tgt := 29) hx hb dX1_isWanted_7 (by decide) (fun c7 => ?_) (fun c7 => ?_)
        · skip
          have ic7 := zle (a := (σ 4 1).toInt) (b := j.toInt) rfl rfl c7
          refine lv_iconst (v := 0) hx hb dX1_isWanted_29 (by decide) ?_
          have hpost : σ = σ ∧ ((0 : Int32).toInt = 1 ∧ xWant σ x1.toNatClampNeg ∨ (0 : Int32).toInt = 0 ∧ ¬ (xWant σ x1.toNatClampNeg)) := by refine ⟨rfl, Or.inr ⟨by decide, ?_⟩⟩; rintro ⟨h, q1, q2⟩; exact g2 h (by omega) q2
          exact W.zret (v := 0) hx hb hr (by decide +kernel) (fun t9 ht hW => ⟨⟨0, σ, rfl, hpost, by rw [ht]; exact hP, va_K.moved hW.alike hK, hD⟩, hS.F ht⟩) hS.2.2 dX1_isWanted_30
        · skip
          have ic7 := znle (a := (σ 4 1).toInt) (b := j.toInt) rfl rfl c7
          refine lv_aload_n hx hb dX1_isWanted_10 rfl (lv_at hl 0 rfl) ?_
          refine va_get (D := (dC, dI)) (ci := 1) (v := .ref (a 20)) (C := RX1) (T := TX1) (N := 9) hx hb hts in1 hown hK hP 4 rfl rfl 8 (by decide) k29 (fun _ h9 => h9) rfl dX1_isWanted_11 ?_
          refine lv_iload_n hx hb dX1_isWanted_14 rfl (lv_at hl 2 rfl) ?_
          have hr15 : (j).toNatClampNeg < 4 := by have h9 := zcl (x := j) (by omega); omega
          refine zald hx hb hK hP 20 3 rfl rfl (i := j) (n := 4) (zin (by omega) (by omega)) (zro_in hr15) dX1_isWanted_15 ?_
          refine lv_iload_n hx hb dX1_isWanted_16 rfl (lv_at hl 1 rfl) ?_
          refine va_iald (D := (dC, dI)) (f := σ (21 + (j).toNatClampNeg)) hx hb hK hP (21 + (j).toNatClampNeg) 1 (wX_row21 hr15) rfl (i := x1) (n := 10) (zin (by omega) (by omega)) dX1_isWanted_17 ?_
          refine lv_topi (fun v17 ev17 => ?_)
          have tv17 := congrArg Int32.toInt ev17
          refine lv_if_le (tgt := 23) hx hb dX1_isWanted_18 (by decide) (fun c18 => ?_) (fun c18 => ?_)
          · skip
            have ic18 := zle (a := v17.toInt) (b := 0) rfl (by decide) c18
            obtain ⟨v23, ev23⟩ : ∃ y : Int32, y = j + 1 := ⟨_, rfl⟩
            refine lv_iinc (v := v23) (lv' := [(2, .int v23), (0, .ref (a 4)), (1, .int x1)]) hx hb dX1_isWanted_23 hl (k := 2) rfl (by rw [ev23]; rfl) (by decide) rfl (fun ls hl => ?_)
            have tv23 : v23.toInt = j.toInt + 1 := by rw [ev23, zadd, show (1 : Int32).toInt = 1 from by decide]; omega
            refine lv_goto (tgt := 2) hx hb dX1_isWanted_26 (by decide) ?_
            exact ih (v23)  H locs ls (by first | decide | omega) (by intro h hh; rcases (show (h : Int) < j.toInt ∨ (h : Int) = j.toInt from by omega) with q | q; exact g2 h q; have q2 := zcl (x := j) (by omega); rw [show h = j.toNatClampNeg from by omega, ← ev17]; exact fun q3 => by have := zlt (a := 0) (b := v17.toInt) (by decide) rfl q3; omega) (by omega) hP hD hS (lv_sub hl [1, 2, 0] rfl)
          · skip
            have ic18 := znle (a := v17.toInt) (b := 0) rfl (by decide) c18
            refine lv_iconst (v := 1) hx hb dX1_isWanted_21 (by decide) ?_
            have hpost : σ = σ ∧ ((1 : Int32).toInt = 1 ∧ xWant σ x1.toNatClampNeg ∨ (1 : Int32).toInt = 0 ∧ ¬ (xWant σ x1.toNatClampNeg)) := by refine ⟨rfl, Or.inl ⟨by decide, j.toNatClampNeg, by have q2 := zcl (x := j) (by omega); omega, ?_⟩⟩; rw [← ev17]; exact Int32.lt_iff_toInt_lt.mpr (by rw [show (0 : Int32).toInt = 0 from by decide]; omega)
            exact W.zret (v := 1) hx hb hr (by decide +kernel) (fun t9 ht hW => ⟨⟨1, σ, rfl, hpost, by rw [ht]; exact hP, va_K.moved hW.alike hK, hD⟩, hS.F ht⟩) hS.2.2 dX1_isWanted_22
  have hl := lv_entry ([.ref (a 4), .int x1]) (n := 3) (Nat.le_of_ble_eq_true rfl)
  rw [lg_entry_eq]
  generalize (lg_sl ([.ref (a 4), .int x1]) ++ List.replicate (3 - (lg_sl ([.ref (a 4), .int x1])).length) Slot.unset).toArray = ls at hl ⊢
  have hl : lv_has ls 3 [(0, .ref (a 4)), (1, .int x1)] := hl
  suffices main : ∀ (H : Heap) (locs : List Loc), va_P (dC, dI) vwCl (wX a cB cI cS cII σ) H → va_D A (wX a cB cI cS cII σ) → va_S A s.heap H locs → W p l e (headSpec wsX1_isWanted RM_X1_isWanted).room s m ([.ref (a 4), .int x1] : List Value).toArray below meth c H locs 0 0 (MQ below (zQi (dC, dI) (zT cB cI cS cII) (wX a cB cI cS cII) A (fun (r : Int32) (σ1 : Cn) => σ1 = σ ∧ ((r : Int32).toInt = 1 ∧ xWant σ x1.toNatClampNeg ∨ (r : Int32).toInt = 0 ∧ ¬ (xWant σ x1.toNatClampNeg)))) ([.ref (a 4), .int x1] : List Value).toArray s 0 0 A) (F0 m 0 ls []) from main s.heap [] hP hD hS
  intro H locs hP hD hS
  refine lv_iconst (v := 0) hx hb dX1_isWanted_0 (by decide) ?_
  refine lv_istore_n (lv' := [(2, .int 0), (0, .ref (a 4)), (1, .int x1)]) hx hb dX1_isWanted_1 rfl hl (by decide) rfl (fun ls hl => ?_)
  exact (LP _) (0)  H locs ls (by decide) (by intro h hh; rw [show (0 : Int32).toInt = 0 from by decide] at hh; omega) (Nat.lt_succ_self _) hP hD hS (lv_sub hl [1, 2, 0] rfl)

