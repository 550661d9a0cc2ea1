abbrev RM_X0_mayBeBetter : Room := { frames := 0, cells := 0, slots := 0, locals := 0 }
set_option maxHeartbeats 4000000 in
set_option maxRecDepth 100000 in
theorem c_X0_mayBeBetter (l : Launch) (dC : Nat → ClassId) (dI : Nat → Nat → Nat) (cB cI cS cII : ClassId) (a : Nat → Nat) (N : (Nat → Prop) → State → Prop) (hok : zNok N) (hn : ∀ A U, N A U → zN U) (σ : Cn) (sz : Nat) (x1 : Int32) (x2 : Int32) (h0 : 0 ≤ (σ 4 1).toInt ∧ (σ 4 1).toInt ≤ 4) (h1 : 0 ≤ x1.toInt ∧ x1.toInt ≤ 10) : Met l yX0_mayBeBetter wsX0_mayBeBetter RM_X0_mayBeBetter (zPc (dC, dI) (zT cB cI cS cII) N (wX a cB cI cS cII) σ sz [.ref (a 6), .int x1, .int x2]) (zQi (dC, dI) (zT cB cI cS cII) (wX a cB cI cS cII) (va_A (wX a cB cI cS cII σ) sz) (fun (r : Int32) (σ1 : Cn) => σ1 = σ ∧ ((r : Int32).toInt = 1 ∨ (r : Int32).toInt = 0))) 0 0 (va_A (wX a cB cI cS cII σ) sz) := by
  refine Met.ofW (cc := cX0_mayBeBetter) (maxL := 8) (ret := (some .boolean)) (by decide) rfl ?_
  intro p e s m args below meth c s₁ B hml hv
  obtain ⟨rfl, hsz, hP, hK, hD0, hN⟩ := hv
  have hx := B.exec
  have hb := B.bytes
  have hr := B.returns
  have hts := atoms_spec (ws := wsX0_mayBeBetter) B.pre
  have hown : s.vm.findClass RX0 = some m.cls := findClass_of_methodNamed B.named
  have hlocks := B.notSynchronized
  subst hsz
  have hD := hD0.self (sz := s.heap.size)
  generalize hAe : va_A (wX a cB cI cS cII σ) s.heap.size = A at hD hN ⊢
  have hA : ∀ q : Nat, s.heap.size ≤ q → A q := fun q h => by rw [← hAe]; exact Or.inr h
  clear hAe hD0
  have hS : va_S A s.heap s.heap [] := va_S.rf
  have in0 : ∀ w ∈ u_ws RX0 TX0 8, w ∈ wsX0_mayBeBetter := by decide +kernel
  have in1 : ∀ w ∈ u_ws RX1 TX1 9, w ∈ wsX0_mayBeBetter := by decide +kernel
  have k17 := hts (.fieldLink RX0 17 "HouseSorted$FairestSearch" "within" "[[I") (by decide +kernel)
  have k20 := hts (.fieldLink RX0 20 "HouseSorted$FairestSearch" "richest" "[I") (by decide +kernel)
  have k23 := hts (.fieldLink RX0 23 "HouseSorted$FairestSearch" "house" "LHouseSorted$House;") (by decide +kernel)
  have k49 := hts (.fieldLink RX0 49 "HouseSorted$House" "heirs" "I") (by decide +kernel)
  have k52 := hts (.fieldLink RX0 52 "HouseSorted$FairestSearch" "bestLeast" "I") (by decide +kernel)
  have k55 := hts (.fieldLink RX0 55 "HouseSorted$FairestSearch" "bestTotal" "I") (by decide +kernel)
  have k9 := hts (.fieldLink RX0 9 "HouseSorted$FairestSearch" "sums" "[I") (by decide +kernel)
  have LP : ∀ n : Nat, (∀ (ne : Int32) (la : Int32) (po : Int32) (j : Int32) (H : Heap) (locs : List Loc) (ls : Array Slot), 0 ≤ j.toInt ∧ j.toInt ≤ 4 → (4 - j.toInt).toNat < n → va_P (dC, dI) vwCl (wX a cB cI cS cII σ) H → va_D A (wX a cB cI cS cII σ) → va_S A s.heap H locs → lv_has ls 8 [(0, .ref (a 6)), (1, .int x1), (2, .int x2), (3, .int ne), (4, .int la), (5, .int po), (6, .int j)] → W p l e (headSpec wsX0_mayBeBetter RM_X0_mayBeBetter).room s m ([.ref (a 6), .int x1, .int x2] : List Value).toArray below meth c H locs 0 0 (MQ below (zQi (dC, dI) (zT cB cI cS cII) (wX a cB cI cS cII) A (fun (r : Int32) (σ1 : Cn) => σ1 = σ ∧ ((r : Int32).toInt = 1 ∨ (r : Int32).toInt = 0))) ([.ref (a 6), .int x1, .int x2] : List Value).toArray s 0 0 A) (F0 m 38 ls [])) := by
    intro n
    induction n with
    | zero => exact by intros; omega
    | succ n ih =>
      · intro ne la po j H locs ls g1 hmu hP hD hS hl
        refine lv_iload hx hb dX0_mayBeBetter_38 (lv_at hl 6 rfl) ?_
        refine lv_aload_n hx hb dX0_mayBeBetter_40 rfl (lv_at hl 0 rfl) ?_
        refine va_get (D := (dC, dI)) (ci := 0) (v := .ref (a 4)) (C := RX0) (T := TX0) (N := 8) hx hb hts in0 hown hK hP 6 rfl rfl 0 (by decide) k23 (fun _ h9 => h9) rfl dX0_mayBeBetter_41 ?_
        refine va_get (D := (dC, dI)) (ci := 1) (v := .int (σ 4 1)) (C := RX1) (T := TX1) (N := 9) hx hb hts in1 hown hK hP 4 rfl rfl 1 (by decide) k49 (fun _ h9 => h9) rfl dX0_mayBeBetter_44 ?_
        refine lv_icmp_ge (tgt := 98) hx hb dX0_mayBeBetter_47 (by decide) (fun c47 => ?_) (fun c47 => ?_)
        · skip
          have ic47 := zle (a := (σ 4 1).toInt) (b := j.toInt) rfl rfl c47
          refine lv_iload hx hb dX0_mayBeBetter_98 (lv_at hl 4 rfl) ?_
          refine lv_aload_n hx hb dX0_mayBeBetter_100 rfl (lv_at hl 0 rfl) ?_
          refine va_get (D := (dC, dI)) (ci := 0) (v := .ref (a 33)) (C := RX0) (T := TX0) (N := 8) hx hb hts in0 hown hK hP 6 rfl rfl 4 (by decide) k20 (fun _ h9 => h9) rfl dX0_mayBeBetter_101 ?_
          refine lv_iload_n hx hb dX0_mayBeBetter_104 rfl (lv_at hl 1 rfl) ?_
          refine va_iald (D := (dC, dI)) (f := σ 33) hx hb hK hP 33 1 rfl rfl (i := x1) (n := 11) (zin (by omega) (by omega)) dX0_mayBeBetter_105 ?_
          refine lv_topi (fun v105 ev105 => ?_)
          have tv105 := congrArg Int32.toInt ev105
          refine lv_icmp_gt (tgt := 119) hx hb dX0_mayBeBetter_106 (by decide) (fun c106 => ?_) (fun c106 => ?_)
          · skip
            have ic106 := zlt (a := v105.toInt) (b := la.toInt) rfl rfl c106
            refine lv_iconst (v := 0) hx hb dX0_mayBeBetter_119 (by decide) ?_
            have hpost : σ = σ ∧ ((0 : Int32).toInt = 1 ∨ (0 : Int32).toInt = 0) := by exact ⟨rfl, by decide⟩
            exact W.zret (v := 0) hx hb hr (by decide +kernel) (fun t9 ht hW => ⟨⟨0, σ, rfl, hpost, by rw [ht]; exact hP, va_K.moved hW.alike hK, hD⟩, hS.F ht⟩) hS.2.2 dX0_mayBeBetter_120
          · skip
            have ic106 := znlt (a := v105.toInt) (b := la.toInt) rfl rfl c106
            refine lv_iload hx hb dX0_mayBeBetter_109 (lv_at hl 5 rfl) ?_
            refine lv_iload_n hx hb dX0_mayBeBetter_111 rfl (lv_at hl 1 rfl) ?_
            refine lv_icmp_gt (tgt := 119) hx hb dX0_mayBeBetter_112 (by decide) (fun c112 => ?_) (fun c112 => ?_)
            · skip
              have ic112 := zlt (a := x1.toInt) (b := po.toInt) rfl rfl c112
              refine lv_iconst (v := 0) hx hb dX0_mayBeBetter_119 (by decide) ?_
              have hpost : σ = σ ∧ ((0 : Int32).toInt = 1 ∨ (0 : Int32).toInt = 0) := by exact ⟨rfl, by decide⟩
              exact W.zret (v := 0) hx hb hr (by decide +kernel) (fun t9 ht hW => ⟨⟨0, σ, rfl, hpost, by rw [ht]; exact hP, va_K.moved hW.alike hK, hD⟩, hS.F ht⟩) hS.2.2 dX0_mayBeBetter_120
            · skip
              have ic112 := znlt (a := x1.toInt) (b := po.toInt) rfl rfl c112
              refine lv_iconst (v := 1) hx hb dX0_mayBeBetter_115 (by decide) ?_
              refine lv_goto (tgt := 120) hx hb dX0_mayBeBetter_116 (by decide) ?_
              have hpost : σ = σ ∧ ((1 : Int32).toInt = 1 ∨ (1 : Int32).toInt = 0) := by exact ⟨rfl, by decide⟩
              exact W.zret (v := 1) hx hb hr (by decide +kernel) (fun t9 ht hW => ⟨⟨1, σ, rfl, hpost, by rw [ht]; exact hP, va_K.moved hW.alike hK, hD⟩, hS.F ht⟩) hS.2.2 dX0_mayBeBetter_120
        · skip
          have ic47 := znle (a := (σ 4 1).toInt) (b := j.toInt) rfl rfl c47
          refine lv_iload_n hx hb dX0_mayBeBetter_50 rfl (lv_at hl 3 rfl) ?_
          refine lv_aload_n hx hb dX0_mayBeBetter_51 rfl (lv_at hl 0 rfl) ?_
          refine va_get (D := (dC, dI)) (ci := 0) (v := .ref (a 27)) (C := RX0) (T := TX0) (N := 8) hx hb hts in0 hown hK hP 6 rfl rfl 2 (by decide) k9 (fun _ h9 => h9) rfl dX0_mayBeBetter_52 ?_
          refine lv_iload hx hb dX0_mayBeBetter_55 (lv_at hl 6 rfl) ?_
          refine va_iald (D := (dC, dI)) (f := σ 27) hx hb hK hP 27 1 rfl rfl (i := j) (n := 4) (zin (by omega) (by omega)) dX0_mayBeBetter_57 ?_
          refine lv_topi (fun v57 ev57 => ?_)
          have tv57 := congrArg Int32.toInt ev57
          refine lv_isub hx hb dX0_mayBeBetter_58 ?_
          refine lv_topi (fun v58 ev58 => ?_)
          refine lv_istore (lv' := [(7, .int v58), (0, .ref (a 6)), (1, .int x1), (2, .int x2), (3, .int ne), (4, .int la), (5, .int po), (6, .int j)]) hx hb dX0_mayBeBetter_59 hl (by decide) rfl (fun ls hl => ?_)
          refine lv_iload hx hb dX0_mayBeBetter_61 (lv_at hl 0 rfl) ?_
          refine lv_aload_n hx hb dX0_mayBeBetter_63 rfl (lv_at hl 1 rfl) ?_
          refine va_get (D := (dC, dI)) (ci := 0) (v := .ref (a 28)) (C := RX0) (T := TX0) (N := 8) hx hb hts in0 hown hK hP 6 rfl rfl 3 (by decide) k17 (fun _ h9 => h9) rfl dX0_mayBeBetter_64 ?_
          refine lv_iload hx hb dX0_mayBeBetter_67 (lv_at hl 7 rfl) ?_
          have hr69 : (j).toNatClampNeg < 4 := by have h9 := zcl (x := j) (by omega); omega
          refine zald hx hb hK hP 28 3 rfl rfl (i := j) (n := 4) (zin (by omega) (by omega)) (zro_in hr69) dX0_mayBeBetter_69 ?_
          refine lv_iload_n hx hb dX0_mayBeBetter_70 rfl (lv_at hl 2 rfl) ?_
          refine va_iald (D := (dC, dI)) (f := σ (29 + (j).toNatClampNeg)) hx hb hK hP (29 + (j).toNatClampNeg) 1 (wX_row29 hr69) rfl (i := x1) (n := 11) (zin (by omega) (by omega)) dX0_mayBeBetter_71 ?_
          refine lv_topi (fun v71 ev71 => ?_)
          have tv71 := congrArg Int32.toInt ev71
          refine lv_icmp_le (tgt := 77) hx hb dX0_mayBeBetter_72 (by decide) (fun c72 => ?_) (fun c72 => ?_)
          · skip
            have ic72 := zle (a := v58.toInt) (b := v71.toInt) rfl rfl c72
            refine lv_iload hx hb dX0_mayBeBetter_77 (lv_at hl 0 rfl) ?_
            refine lv_if_le (tgt := 92) hx hb dX0_mayBeBetter_79 (by decide) (fun c79 => ?_) (fun c79 => ?_)
            · skip
              have ic79 := zle (a := v58.toInt) (b := 0) rfl (by decide) c79
              obtain ⟨v92, ev92⟩ : ∃ y : Int32, y = j + 1 := ⟨_, rfl⟩
              refine lv_iinc (v := v92) (lv' := [(6, .int v92), (7, .int v58), (0, .ref (a 6)), (1, .int x1), (2, .int x2), (3, .int ne), (4, .int la), (5, .int po)]) hx hb dX0_mayBeBetter_92 hl (k := 7) rfl (by rw [ev92]; rfl) (by decide) rfl (fun ls hl => ?_)
              have tv92 : v92.toInt = j.toInt + 1 := by rw [ev92, zadd, show (1 : Int32).toInt = 1 from by decide]; omega
              refine lv_goto (tgt := 38) hx hb dX0_mayBeBetter_95 (by decide) ?_
              exact ih (ne) (la) (po) (v92)  H locs ls (by omega) (by omega) hP hD hS (lv_sub hl [2, 3, 4, 5, 6, 7, 0] rfl)
            · skip
              have ic79 := znle (a := v58.toInt) (b := 0) rfl (by decide) c79
              refine lv_iload hx hb dX0_mayBeBetter_82 (lv_at hl 5 rfl) ?_
              refine lv_iload hx hb dX0_mayBeBetter_84 (lv_at hl 0 rfl) ?_
              refine lv_iadd hx hb dX0_mayBeBetter_86 ?_
              refine lv_topi (fun v86 ev86 => ?_)
              refine lv_istore (lv' := [(4, .int v86), (7, .int v58), (0, .ref (a 6)), (1, .int x1), (2, .int x2), (3, .int ne), (5, .int po), (6, .int j)]) hx hb dX0_mayBeBetter_87 hl (by decide) rfl (fun ls hl => ?_)
              obtain ⟨v89, ev89⟩ : ∃ y : Int32, y = po + 1 := ⟨_, rfl⟩
              refine lv_iinc (v := v89) (lv' := [(5, .int v89), (4, .int v86), (7, .int v58), (0, .ref (a 6)), (1, .int x1), (2, .int x2), (3, .int ne), (6, .int j)]) hx hb dX0_mayBeBetter_89 hl (k := 6) rfl (by rw [ev89]; rfl) (by decide) rfl (fun ls hl => ?_)
              obtain ⟨v92, ev92⟩ : ∃ y : Int32, y = j + 1 := ⟨_, rfl⟩
              refine lv_iinc (v := v92) (lv' := [(6, .int v92), (5, .int v89), (4, .int v86), (7, .int v58), (0, .ref (a 6)), (1, .int x1), (2, .int x2), (3, .int ne)]) hx hb dX0_mayBeBetter_92 hl (k := 7) rfl (by rw [ev92]; rfl) (by decide) rfl (fun ls hl => ?_)
              have tv92 : v92.toInt = j.toInt + 1 := by rw [ev92, zadd, show (1 : Int32).toInt = 1 from by decide]; omega
              refine lv_goto (tgt := 38) hx hb dX0_mayBeBetter_95 (by decide) ?_
              exact ih (ne) (v86) (v89) (v92)  H locs ls (by omega) (by omega) hP hD hS (lv_sub hl [4, 5, 6, 7, 2, 1, 0] rfl)
          · skip
            have ic72 := znle (a := v58.toInt) (b := v71.toInt) rfl rfl c72
            refine lv_iconst (v := 0) hx hb dX0_mayBeBetter_75 (by decide) ?_
            have hpost : σ = σ ∧ ((0 : Int32).toInt = 1 ∨ (0 : Int32).toInt = 0) := by exact ⟨rfl, by decide⟩
            exact W.zret (v := 0) hx hb hr (by decide +kernel) (fun t9 ht hW => ⟨⟨0, σ, rfl, hpost, by rw [ht]; exact hP, va_K.moved hW.alike hK, hD⟩, hS.F ht⟩) hS.2.2 dX0_mayBeBetter_76
  have hl := lv_entry ([.ref (a 6), .int x1, .int x2]) (n := 8) (Nat.le_of_ble_eq_true rfl)
  rw [lg_entry_eq]
  generalize (lg_sl ([.ref (a 6), .int x1, .int x2]) ++ List.replicate (8 - (lg_sl ([.ref (a 6), .int x1, .int x2])).length) Slot.unset).toArray = ls at hl ⊢
  have hl : lv_has ls 8 [(0, .ref (a 6)), (1, .int x1), (2, .int x2)] := hl
  suffices main : ∀ (H : Heap) (locs : List Loc), va_P (dC, dI) vwCl (wX a cB cI cS cII σ) H → va_D A (wX a cB cI cS cII σ) → va_S A s.heap H locs → W p l e (headSpec wsX0_mayBeBetter RM_X0_mayBeBetter).room s m ([.ref (a 6), .int x1, .int x2] : List Value).toArray below meth c H locs 0 0 (MQ below (zQi (dC, dI) (zT cB cI cS cII) (wX a cB cI cS cII) A (fun (r : Int32) (σ1 : Cn) => σ1 = σ ∧ ((r : Int32).toInt = 1 ∨ (r : Int32).toInt = 0))) ([.ref (a 6), .int x1, .int x2] : List Value).toArray s 0 0 A) (F0 m 0 ls []) from main s.heap [] hP hD hS
  intro H locs hP hD hS
  refine lv_iload_n hx hb dX0_mayBeBetter_0 rfl (lv_at hl 2 rfl) ?_
  refine lv_aload_n hx hb dX0_mayBeBetter_1 rfl (lv_at hl 0 rfl) ?_
  refine va_get (D := (dC, dI)) (ci := 0) (v := .ref (a 33)) (C := RX0) (T := TX0) (N := 8) hx hb hts in0 hown hK hP 6 rfl rfl 4 (by decide) k20 (fun _ h9 => h9) rfl dX0_mayBeBetter_2 ?_
  refine lv_iload_n hx hb dX0_mayBeBetter_5 rfl (lv_at hl 1 rfl) ?_
  refine va_iald (D := (dC, dI)) (f := σ 33) hx hb hK hP 33 1 rfl rfl (i := x1) (n := 11) (zin (by omega) (by omega)) dX0_mayBeBetter_6 ?_
  refine lv_topi (fun v6 ev6 => ?_)
  have tv6 := congrArg Int32.toInt ev6
  refine lv_iadd hx hb dX0_mayBeBetter_7 ?_
  refine lv_topi (fun v7 ev7 => ?_)
  refine lv_aload_n hx hb dX0_mayBeBetter_8 rfl (lv_at hl 0 rfl) ?_
  refine va_get (D := (dC, dI)) (ci := 0) (v := .int (σ 6 6)) (C := RX0) (T := TX0) (N := 8) hx hb hts in0 hown hK hP 6 rfl rfl 6 (by decide) k55 (fun _ h9 => h9) rfl dX0_mayBeBetter_9 ?_
  refine lv_icmp_le (tgt := 22) hx hb dX0_mayBeBetter_12 (by decide) (fun c12 => ?_) (fun c12 => ?_)
  · skip
    have ic12 := zle (a := v7.toInt) (b := (σ 6 6).toInt) rfl rfl c12
    refine lv_aload_n hx hb dX0_mayBeBetter_22 rfl (lv_at hl 0 rfl) ?_
    refine va_get (D := (dC, dI)) (ci := 0) (v := .int (σ 6 5)) (C := RX0) (T := TX0) (N := 8) hx hb hts in0 hown hK hP 6 rfl rfl 5 (by decide) k52 (fun _ h9 => h9) rfl dX0_mayBeBetter_23 ?_
    refine lv_iconst (v := 1) hx hb dX0_mayBeBetter_26 (by decide) ?_
    refine lv_iadd hx hb dX0_mayBeBetter_27 ?_
    refine lv_topi (fun v27 ev27 => ?_)
    refine lv_istore_n (lv' := [(3, .int v27), (0, .ref (a 6)), (1, .int x1), (2, .int x2)]) hx hb dX0_mayBeBetter_28 rfl hl (by decide) rfl (fun ls hl => ?_)
    refine lv_iconst (v := 0) hx hb dX0_mayBeBetter_29 (by decide) ?_
    refine lv_istore (lv' := [(4, .int 0), (3, .int v27), (0, .ref (a 6)), (1, .int x1), (2, .int x2)]) hx hb dX0_mayBeBetter_30 hl (by decide) rfl (fun ls hl => ?_)
    refine lv_iconst (v := 0) hx hb dX0_mayBeBetter_32 (by decide) ?_
    refine lv_istore (lv' := [(5, .int 0), (4, .int 0), (3, .int v27), (0, .ref (a 6)), (1, .int x1), (2, .int x2)]) hx hb dX0_mayBeBetter_33 hl (by decide) rfl (fun ls hl => ?_)
    refine lv_iconst (v := 0) hx hb dX0_mayBeBetter_35 (by decide) ?_
    refine lv_istore (lv' := [(6, .int 0), (5, .int 0), (4, .int 0), (3, .int v27), (0, .ref (a 6)), (1, .int x1), (2, .int x2)]) hx hb dX0_mayBeBetter_36 hl (by decide) rfl (fun ls hl => ?_)
    exact (LP _) (v27) (0) (0) (0)  H locs ls (by decide) (Nat.lt_succ_self _) hP hD hS (lv_sub hl [4, 5, 6, 3, 2, 1, 0] rfl)
  · skip
    have ic12 := znle (a := v7.toInt) (b := (σ 6 6).toInt) rfl rfl c12
    refine lv_aload_n hx hb dX0_mayBeBetter_15 rfl (lv_at hl 0 rfl) ?_
    refine va_get (D := (dC, dI)) (ci := 0) (v := .int (σ 6 5)) (C := RX0) (T := TX0) (N := 8) hx hb hts in0 hown hK hP 6 rfl rfl 5 (by decide) k52 (fun _ h9 => h9) rfl dX0_mayBeBetter_16 ?_
    refine lv_goto (tgt := 28) hx hb dX0_mayBeBetter_19 (by decide) ?_
    refine lv_istore_n (lv' := [(3, .int (σ 6 5)), (0, .ref (a 6)), (1, .int x1), (2, .int x2)]) hx hb dX0_mayBeBetter_28 rfl hl (by decide) rfl (fun ls hl => ?_)
    refine lv_iconst (v := 0) hx hb dX0_mayBeBetter_29 (by decide) ?_
    refine lv_istore (lv' := [(4, .int 0), (3, .int (σ 6 5)), (0, .ref (a 6)), (1, .int x1), (2, .int x2)]) hx hb dX0_mayBeBetter_30 hl (by decide) rfl (fun ls hl => ?_)
    refine lv_iconst (v := 0) hx hb dX0_mayBeBetter_32 (by decide) ?_
    refine lv_istore (lv' := [(5, .int 0), (4, .int 0), (3, .int (σ 6 5)), (0, .ref (a 6)), (1, .int x1), (2, .int x2)]) hx hb dX0_mayBeBetter_33 hl (by decide) rfl (fun ls hl => ?_)
    refine lv_iconst (v := 0) hx hb dX0_mayBeBetter_35 (by decide) ?_
    refine lv_istore (lv' := [(6, .int 0), (5, .int 0), (4, .int 0), (3, .int (σ 6 5)), (0, .ref (a 6)), (1, .int x1), (2, .int x2)]) hx hb dX0_mayBeBetter_36 hl (by decide) rfl (fun ls hl => ?_)
    exact (LP _) (σ 6 5) (0) (0) (0)  H locs ls (by decide) (Nat.lt_succ_self _) hP hD hS (lv_sub hl [4, 5, 6, 3, 2, 1, 0] rfl)

abbrev RM_X0_leastSum : Room := { frames := 1, cells := 0, slots := 0, locals := 21 }
set_option maxHeartbeats 4000000 in
set_option maxRecDepth 100000 in
theorem c_X0_leastSum (l : Launch) (dC : Nat → ClassId) (dI : Nat → Nat → Nat) (cB cI cS cII : ClassId) (a : Nat → Nat) (N : (Nat → Prop) → State → Prop) (hok : zNok N) (hn : ∀ A U, N A U → zN U) (σ : Cn) (sz : Nat)  (h0 : 0 ≤ (σ 4 1).toInt ∧ (σ 4 1).toInt ≤ 4) : Met l yX0_leastSum wsX0_leastSum RM_X0_leastSum (zPc (dC, dI) (zT cB cI cS cII) N (wX a cB cI cS cII) σ sz [.ref (a 6)]) (zQi (dC, dI) (zT cB cI cS cII) (wX a cB cI cS cII) (va_A (wX a cB cI cS cII σ) sz) (fun (r : Int32) (σ1 : Cn) => σ1 = σ ∧ True)) 0 0 (va_A (wX a cB cI cS cII σ) sz) := by
  refine Met.ofW (cc := cX0_leastSum) (maxL := 3) (ret := (some .int)) (by decide) rfl ?_
  intro p e s m args below meth c s₁ B hml hv
  obtain ⟨rfl, hsz, hP, hK, hD0, hN⟩ := hv
  have hx := B.exec
  have hb := B.bytes
  have hr := B.returns
  have hts := atoms_spec (ws := wsX0_leastSum) B.pre
  have hown : s.vm.findClass RX0 = some m.cls := findClass_of_methodNamed B.named
  have hlocks := B.notSynchronized
  subst hsz
  have hD := hD0.self (sz := s.heap.size)
  generalize hAe : va_A (wX a cB cI cS cII σ) s.heap.size = A at hD hN ⊢
  have hA : ∀ q : Nat, s.heap.size ≤ q → A q := fun q h => by rw [← hAe]; exact Or.inr h
  clear hAe hD0
  have hS : va_S A s.heap s.heap [] := va_S.rf
  have in0 : ∀ w ∈ u_ws RX0 TX0 8, w ∈ wsX0_leastSum := by decide +kernel
  have in1 : ∀ w ∈ u_ws RX1 TX1 9, w ∈ wsX0_leastSum := by decide +kernel
  have k23 := hts (.fieldLink RX0 23 "HouseSorted$FairestSearch" "house" "LHouseSorted$House;") (by decide +kernel)
  have k49 := hts (.fieldLink RX0 49 "HouseSorted$House" "heirs" "I") (by decide +kernel)
  have k9 := hts (.fieldLink RX0 9 "HouseSorted$FairestSearch" "sums" "[I") (by decide +kernel)
  have kcmin := hts (.code Lib.Math.min.name Lib.Math.min.code 2 (some .int)) (by decide +kernel)
  have kiM := hts (.initialized "java/lang/Math") (by decide +kernel)
  have km61 := hts (.methodLink RX0 61 Lib.Math.min.name) (by decide +kernel)
  have ksmin := hts (.static Lib.Math.min.name) (by decide +kernel)
  have LP : ∀ n : Nat, (∀ (le : Int32) (j : Int32) (H : Heap) (locs : List Loc) (ls : Array Slot), 1 ≤ j.toInt ∧ j.toInt ≤ 5 → (5 - j.toInt).toNat < n → va_P (dC, dI) vwCl (wX a cB cI cS cII σ) H → va_D A (wX a cB cI cS cII σ) → va_S A s.heap H locs → lv_has ls 3 [(0, .ref (a 6)), (1, .int le), (2, .int j)] → W p l e (headSpec wsX0_leastSum RM_X0_leastSum).room s m ([.ref (a 6)] : List Value).toArray below meth c H locs 0 0 (MQ below (zQi (dC, dI) (zT cB cI cS cII) (wX a cB cI cS cII) A (fun (r : Int32) (σ1 : Cn) => σ1 = σ ∧ True)) ([.ref (a 6)] : List Value).toArray s 0 0 A) (F0 m 9 ls [])) := by
    intro n
    induction n with
    | zero => exact by intros; omega
    | succ n ih =>
      · intro le j H locs ls g1 hmu hP hD hS hl
        refine lv_iload_n hx hb dX0_leastSum_9 rfl (lv_at hl 2 rfl) ?_
        refine lv_aload_n hx hb dX0_leastSum_10 rfl (lv_at hl 0 rfl) ?_
        refine va_get (D := (dC, dI)) (ci := 0) (v := .ref (a 4)) (C := RX0) (T := TX0) (N := 8) hx hb hts in0 hown hK hP 6 rfl rfl 0 (by decide) k23 (fun _ h9 => h9) rfl dX0_leastSum_11 ?_
        refine va_get (D := (dC, dI)) (ci := 1) (v := .int (σ 4 1)) (C := RX1) (T := TX1) (N := 9) hx hb hts in1 hown hK hP 4 rfl rfl 1 (by decide) k49 (fun _ h9 => h9) rfl dX0_leastSum_14 ?_
        refine lv_icmp_ge (tgt := 37) hx hb dX0_leastSum_17 (by decide) (fun c17 => ?_) (fun c17 => ?_)
        · skip
          have ic17 := zle (a := (σ 4 1).toInt) (b := j.toInt) rfl rfl c17
          refine lv_iload_n hx hb dX0_leastSum_37 rfl (lv_at hl 1 rfl) ?_
          have hpost : σ = σ ∧ True := by exact ⟨rfl, trivial⟩
          exact W.iret (v := le) hx hb hr (fun t9 ht hW => ⟨⟨le, σ, rfl, hpost, by rw [ht]; exact hP, va_K.moved hW.alike hK, hD⟩, hS.F ht⟩) hS.2.2 dX0_leastSum_38
        · skip
          have ic17 := znle (a := (σ 4 1).toInt) (b := j.toInt) rfl rfl c17
          refine lv_iload_n hx hb dX0_leastSum_20 rfl (lv_at hl 1 rfl) ?_
          refine lv_aload_n hx hb dX0_leastSum_21 rfl (lv_at hl 0 rfl) ?_
          refine va_get (D := (dC, dI)) (ci := 0) (v := .ref (a 27)) (C := RX0) (T := TX0) (N := 8) hx hb hts in0 hown hK hP 6 rfl rfl 2 (by decide) k9 (fun _ h9 => h9) rfl dX0_leastSum_22 ?_
          refine lv_iload_n hx hb dX0_leastSum_25 rfl (lv_at hl 2 rfl) ?_
          refine va_iald (D := (dC, dI)) (f := σ 27) hx hb hK hP 27 1 rfl rfl (i := j) (n := 4) (zin (by omega) (by omega)) dX0_leastSum_26 ?_
          refine lv_topi (fun v26 ev26 => ?_)
          have tv26 := congrArg Int32.toInt ev26
          refine va_mmin hx hb (hml.trans hl.1.symm) hown km61 ksmin kiM kcmin (Nat.le_of_ble_eq_true rfl) (Nat.le_of_ble_eq_true rfl) (Nat.zero_le _) (Nat.zero_le _) dX0_leastSum_27 ?_
          refine lv_topi (fun v27 ev27 => ?_)
          have tv27 := zmin (x := le) (y := v26) (a := le.toInt) (b := v26.toInt) rfl rfl ev27
          refine lv_istore_n (lv' := [(1, .int v27), (0, .ref (a 6)), (2, .int j)]) hx hb dX0_leastSum_30 rfl hl (by decide) rfl (fun ls hl => ?_)
          obtain ⟨v31, ev31⟩ : ∃ y : Int32, y = j + 1 := ⟨_, rfl⟩
          refine lv_iinc (v := v31) (lv' := [(2, .int v31), (1, .int v27), (0, .ref (a 6))]) hx hb dX0_leastSum_31 hl (k := 2) rfl (by rw [ev31]; rfl) (by decide) rfl (fun ls hl => ?_)
          have tv31 : v31.toInt = j.toInt + 1 := by rw [ev31, zadd, show (1 : Int32).toInt = 1 from by decide]; omega
          refine lv_goto (tgt := 9) hx hb dX0_leastSum_34 (by decide) ?_
          exact ih (v27) (v31)  H locs ls (by omega) (by omega) hP hD hS (lv_sub hl [2, 1, 0] rfl)
  have hl := lv_entry ([.ref (a 6)]) (n := 3) (Nat.le_of_ble_eq_true rfl)
  rw [lg_entry_eq]
  generalize (lg_sl ([.ref (a 6)]) ++ List.replicate (3 - (lg_sl ([.ref (a 6)])).length) Slot.unset).toArray = ls at hl ⊢
  have hl : lv_has ls 3 [(0, .ref (a 6))] := hl
  suffices main : ∀ (H : Heap) (locs : List Loc), va_P (dC, dI) vwCl (wX a cB cI cS cII σ) H → va_D A (wX a cB cI cS cII σ) → va_S A s.heap H locs → W p l e (headSpec wsX0_leastSum RM_X0_leastSum).room s m ([.ref (a 6)] : List Value).toArray below meth c H locs 0 0 (MQ below (zQi (dC, dI) (zT cB cI cS cII) (wX a cB cI cS cII) A (fun (r : Int32) (σ1 : Cn) => σ1 = σ ∧ True)) ([.ref (a 6)] : List Value).toArray s 0 0 A) (F0 m 0 ls []) from main s.heap [] hP hD hS
  intro H locs hP hD hS
  refine lv_aload_n hx hb dX0_leastSum_0 rfl (lv_at hl 0 rfl) ?_
  refine va_get (D := (dC, dI)) (ci := 0) (v := .ref (a 27)) (C := RX0) (T := TX0) (N := 8) hx hb hts in0 hown hK hP 6 rfl rfl 2 (by decide) k9 (fun _ h9 => h9) rfl dX0_leastSum_1 ?_
  refine lv_iconst (v := 0) hx hb dX0_leastSum_4 (by decide) ?_
  refine va_iald (D := (dC, dI)) (f := σ 27) hx hb hK hP 27 1 rfl rfl (i := 0) (n := 4) (zin (by decide) (by decide)) dX0_leastSum_5 ?_
  refine lv_topi (fun v5 ev5 => ?_)
  have tv5 := congrArg Int32.toInt ev5
  refine lv_istore_n (lv' := [(1, .int v5), (0, .ref (a 6))]) hx hb dX0_leastSum_6 rfl hl (by decide) rfl (fun ls hl => ?_)
  refine lv_iconst (v := 1) hx hb dX0_leastSum_7 (by decide) ?_
  refine lv_istore_n (lv' := [(2, .int 1), (1, .int v5), (0, .ref (a 6))]) hx hb dX0_leastSum_8 rfl hl (by decide) rfl (fun ls hl => ?_)
  exact (LP _) (v5) (1)  H locs ls (by decide) (Nat.lt_succ_self _) hP hD hS (lv_sub hl [2, 1, 0] rfl)

abbrev RM_X0_seek (d : Nat) : Room := { frames := 2 + d, cells := 0, slots := 0, locals := 43 + 26 * d }
set_option maxHeartbeats 4000000 in
set_option maxRecDepth 100000 in
theorem c_X0_seek_rec (l : Launch) (dC : Nat → ClassId) (dI : Nat → Nat → Nat) (cB cI cS cII : ClassId) (a : Nat → Nat) (N : (Nat → Prop) → State → Prop) (hok : zNok N) (hn : ∀ A U, N A U → zN U) : ∀ (d : Nat) (σ : Cn) (sz : Nat) (x1 : Int32) (x2 : Int32) (x3 : Int32) (h0 : 0 ≤ (σ 4 1).toInt ∧ (σ 4 1).toInt ≤ 4) (hs : 0 ≤ (σ 5 2).toInt ∧ (σ 5 2).toInt ≤ 10) (hq : ∀ j : Nat, (j : Int) < (σ 5 2).toInt → 0 ≤ (σ 25 j).toInt ∧ (σ 25 j).toInt < 10) (h1 : 0 ≤ x1.toInt ∧ x1.toInt ≤ (σ 5 2).toInt) (hd : x1.toInt ≤ d), Met l yX0_seek wsX0_seek (RM_X0_seek d) (zPc (dC, dI) (zT cB cI cS cII) N (wX a cB cI cS cII) σ sz [.ref (a 6), .int x1, .int x2, .int x3]) (zQv (dC, dI) (zT cB cI cS cII) (wX a cB cI cS cII) (va_A (wX a cB cI cS cII σ) sz) (fun (σ1 : Cn) => ∃ u6 : Nat → Int32, ∃ u27 : Nat → Int32, σ1 = (upC (upC σ 6 u6) 27 u27) ∧ True)) 0 0 (va_A (wX a cB cI cS cII σ) sz) := by
  refine fun d => Nat.strongRecOn d (fun d ihr => ?_)
  intro σ sz x1 x2 x3 h0 hs hq h1 hd
  refine Met.ofW (cc := cX0_seek) (maxL := 7) (ret := none) (by decide) rfl ?_
  intro p e s m args below meth c s₁ B hml hv
  obtain ⟨rfl, hsz, hP, hK, hD0, hN⟩ := hv
  have hx := B.exec
  have hb := B.bytes
  have hr := B.returns
  have hts := atoms_spec (ws := wsX0_seek) B.pre
  have hown : s.vm.findClass RX0 = some m.cls := findClass_of_methodNamed B.named
  have hlocks := B.notSynchronized
  subst hsz
  have hD := hD0.self (sz := s.heap.size)
  generalize hAe : va_A (wX a cB cI cS cII σ) s.heap.size = A at hD hN ⊢
  have hA : ∀ q : Nat, s.heap.size ≤ q → A q := fun q h => by rw [← hAe]; exact Or.inr h
  clear hAe hD0
  have hS : va_S A s.heap s.heap [] := va_S.rf
  have in0 : ∀ w ∈ u_ws RX0 TX0 8, w ∈ wsX0_seek := by decide +kernel
  have in1 : ∀ w ∈ u_ws RX1 TX1 9, w ∈ wsX0_seek := by decide +kernel
  have in3 : ∀ w ∈ u_ws RX3 TX3 4, w ∈ wsX0_seek := by decide +kernel
  have k23 := hts (.fieldLink RX0 23 "HouseSorted$FairestSearch" "house" "LHouseSorted$House;") (by decide +kernel)
  have k27 := hts (.fieldLink RX0 27 "HouseSorted$FairestSearch" "shares" "LHouseSorted$Sharing;") (by decide +kernel)
  have k37 := hts (.fieldLink RX0 37 "HouseSorted$Sharing" "shared" "[I") (by decide +kernel)
  have k40 := hts (.fieldLink RX0 40 "HouseSorted$House" "worth" "[[I") (by decide +kernel)
  have k49 := hts (.fieldLink RX0 49 "HouseSorted$House" "heirs" "I") (by decide +kernel)
  have k52 := hts (.fieldLink RX0 52 "HouseSorted$FairestSearch" "bestLeast" "I") (by decide +kernel)
  have k55 := hts (.fieldLink RX0 55 "HouseSorted$FairestSearch" "bestTotal" "I") (by decide +kernel)
  have k58 := hts (.fieldLink RX0 58 "HouseSorted$FairestSearch" "best" "I") (by decide +kernel)
  have k9 := hts (.fieldLink RX0 9 "HouseSorted$FairestSearch" "sums" "[I") (by decide +kernel)
  have LP : ∀ n : Nat, (∀ (t : Int32) (j : Int32) (w6 : Nat → Int32) (w27 : Nat → Int32) (H : Heap) (locs : List Loc) (ls : Array Slot), 0 ≤ t.toInt ∧ t.toInt < 10 → 0 ≤ j.toInt ∧ j.toInt ≤ 4 → 0 < x1.toInt → (4 - j.toInt).toNat < n → va_P (dC, dI) vwCl (wX a cB cI cS cII (upC (upC σ 6 w6) 27 w27)) H → va_D A (wX a cB cI cS cII (upC (upC σ 6 w6) 27 w27)) → va_S A s.heap H locs → lv_has ls 7 [(0, .ref (a 6)), (1, .int x1), (2, .int x2), (3, .int x3), (4, .int t), (5, .int j)] → W p l e (headSpec wsX0_seek (RM_X0_seek d)).room s m ([.ref (a 6), .int x1, .int x2, .int x3] : List Value).toArray below meth c H locs 0 0 (MQ below (zQv (dC, dI) (zT cB cI cS cII) (wX a cB cI cS cII) A (fun (σ1 : Cn) => ∃ u6 : Nat → Int32, ∃ u27 : Nat → Int32, σ1 = (upC (upC σ 6 u6) 27 u27) ∧ True)) ([.ref (a 6), .int x1, .int x2, .int x3] : List Value).toArray s 0 0 A) (F0 m 49 ls [])) := by
    intro n
    induction n with
    | zero => exact by intros; omega
    | succ n ih =>
      · intro t j w6 w27 H locs ls g1 g2 g3 hmu hP hD hS hl
        refine lv_iload hx hb dX0_seek_49 (lv_at hl 5 rfl) ?_
        refine lv_aload_n hx hb dX0_seek_51 rfl (lv_at hl 0 rfl) ?_
        refine va_get (D := (dC, dI)) (ci := 0) (v := .ref (a 4)) (C := RX0) (T := TX0) (N := 8) hx hb hts in0 hown hK hP 6 rfl rfl 0 (by decide) k23 (fun _ h9 => h9) rfl dX0_seek_52 ?_
        refine va_get (D := (dC, dI)) (ci := 1) (v := .int (σ 4 1)) (C := RX1) (T := TX1) (N := 9) hx hb hts in1 hown hK hP 4 rfl rfl 1 (by decide) k49 (fun _ h9 => h9) rfl dX0_seek_55 ?_
        refine lv_icmp_ge (tgt := 129) hx hb dX0_seek_58 (by decide) (fun c58 => ?_) (fun c58 => ?_)
        · skip
          have ic58 := zle (a := (σ 4 1).toInt) (b := j.toInt) rfl rfl c58
          have hpost : ∃ u6 : Nat → Int32, ∃ u27 : Nat → Int32, (upC (upC σ 6 w6) 27 w27) = (upC (upC σ 6 u6) 27 u27) ∧ True := by exact ⟨_, _, rfl, trivial⟩
          exact W.vret hx hb hr (fun t9 ht hW => ⟨⟨(upC (upC σ 6 w6) 27 w27), rfl, hpost, by rw [ht]; exact hP, va_K.moved hW.alike hK, hD⟩, hS.F ht⟩) hS.2.2 dX0_seek_129
        · skip
          have ic58 := znle (a := (σ 4 1).toInt) (b := j.toInt) rfl rfl c58
          refine lv_aload_n hx hb dX0_seek_61 rfl (lv_at hl 0 rfl) ?_
          refine va_get (D := (dC, dI)) (ci := 0) (v := .ref (a 4)) (C := RX0) (T := TX0) (N := 8) hx hb hts in0 hown hK hP 6 rfl rfl 0 (by decide) k23 (fun _ h9 => h9) rfl dX0_seek_62 ?_
          refine va_get (D := (dC, dI)) (ci := 1) (v := .ref (a 20)) (C := RX1) (T := TX1) (N := 9) hx hb hts in1 hown hK hP 4 rfl rfl 8 (by decide) k40 (fun _ h9 => h9) rfl dX0_seek_65 ?_
          refine lv_iload hx hb dX0_seek_68 (lv_at hl 5 rfl) ?_
          have hr70 : (j).toNatClampNeg < 4 := by have h9 := zcl (x := j) (by omega); omega
          refine zald hx hb hK hP 20 3 rfl rfl (i := j) (n := 4) (zin (by omega) (by omega)) (zro_in hr70) dX0_seek_70 ?_
          refine lv_iload hx hb dX0_seek_71 (lv_at hl 4 rfl) ?_
          refine va_iald (D := (dC, dI)) (f := (upC (upC σ 6 w6) 27 w27) (21 + (j).toNatClampNeg)) hx hb hK hP (21 + (j).toNatClampNeg) 1 (wX_row21 hr70) rfl (i := t) (n := 10) (zin (by omega) (by omega)) dX0_seek_73 ?_
          refine lv_topi (fun v73 ev73 => ?_)
          have tv73 := congrArg Int32.toInt ev73
          refine lv_istore (lv' := [(6, .int v73), (0, .ref (a 6)), (1, .int x1), (2, .int x2), (3, .int x3), (4, .int t), (5, .int j)]) hx hb dX0_seek_74 hl (by decide) rfl (fun ls hl => ?_)
          refine lv_aload_n hx hb dX0_seek_76 rfl (lv_at hl 1 rfl) ?_
          refine va_get (D := (dC, dI)) (ci := 0) (v := .ref (a 27)) (C := RX0) (T := TX0) (N := 8) hx hb hts in0 hown hK hP 6 rfl rfl 2 (by decide) k9 (fun _ h9 => h9) rfl dX0_seek_77 ?_
          refine lv_iload hx hb dX0_seek_80 (lv_at hl 6 rfl) ?_
          refine lv_dup2_11 hx hb dX0_seek_82 rfl rfl ?_
          refine va_iald (D := (dC, dI)) (f := w27) hx hb hK hP 27 1 rfl rfl (i := j) (n := 4) (zin (by omega) (by omega)) dX0_seek_83 ?_
          refine lv_topi (fun v83 ev83 => ?_)
          have tv83 := congrArg Int32.toInt ev83
          refine lv_iload hx hb dX0_seek_84 (lv_at hl 0 rfl) ?_
          refine lv_iadd hx hb dX0_seek_86 ?_
          refine lv_topi (fun v86 ev86 => ?_)
          refine va_iast (D := (dC, dI)) (f := w27) hx hb hK hP hD hS 27 1 rfl rfl (i := j) (n := 4) (zin (by omega) (by omega)) dX0_seek_87 (fun H locs hP hD hS => ?_)
          have hP : va_P (dC, dI) vwCl (wX a cB cI cS cII (upC (upC σ 6 w6) 27 (upd (w27) (j).toNatClampNeg v86))) H := hP
          have hD : va_D A (wX a cB cI cS cII (upC (upC σ 6 w6) 27 (upd (w27) (j).toNatClampNeg v86))) := hD
          refine lv_aload_n hx hb dX0_seek_88 rfl (lv_at hl 1 rfl) ?_
          refine lv_iload_n hx hb dX0_seek_89 rfl (lv_at hl 2 rfl) ?_
          refine lv_iconst (v := 1) hx hb dX0_seek_90 (by decide) ?_
          refine lv_isub hx hb dX0_seek_91 ?_
          refine lv_topi (fun v91 ev91 => ?_)
          have tv91 : v91.toInt = x1.toInt - 1 := by rw [ev91, zsub, show (1 : Int32).toInt = 1 from by decide]; omega
          refine lv_iload_n hx hb dX0_seek_92 rfl (lv_at hl 3 rfl) ?_
          refine lv_aload_n hx hb dX0_seek_93 rfl (lv_at hl 1 rfl) ?_
          refine va_get (D := (dC, dI)) (ci := 0) (v := .ref (a 4)) (C := RX0) (T := TX0) (N := 8) hx hb hts in0 hown hK hP 6 rfl rfl 0 (by decide) k23 (fun _ h9 => h9) rfl dX0_seek_94 ?_
          refine va_get (D := (dC, dI)) (ci := 1) (v := .int (σ 4 1)) (C := RX1) (T := TX1) (N := 9) hx hb hts in1 hown hK hP 4 rfl rfl 1 (by decide) k49 (fun _ h9 => h9) rfl dX0_seek_97 ?_
          refine lv_imul hx hb dX0_seek_100 ?_
          refine lv_topi (fun v100 ev100 => ?_)
          refine lv_iload hx hb dX0_seek_101 (lv_at hl 6 rfl) ?_
          refine lv_iadd hx hb dX0_seek_103 ?_
          refine lv_topi (fun v103 ev103 => ?_)
          refine lv_iload_n hx hb dX0_seek_104 rfl (lv_at hl 4 rfl) ?_
          refine lv_iload hx hb dX0_seek_105 (lv_at hl 0 rfl) ?_
          refine lv_iadd hx hb dX0_seek_107 ?_
          refine lv_topi (fun v107 ev107 => ?_)
          refine zcallv (va_runS (As := [.ref (a 6), .int v91, .int v103, .int v107]) (rest := []) ⟨hx, hb, hml, hown, hts⟩ (ihr (d - 1) (by omega) (upC (upC σ 6 w6) 27 (upd (w27) (j).toNatClampNeg v86)) H.size (v91) (v103) (v107) h0 hs hq (by show 0 ≤ v91.toInt ∧ v91.toInt ≤ (σ 5 2).toInt; omega) (by omega)) (va_cwS 4 hts gX0_seek_X0_seek rfl rfl rfl (by decide +kernel) ⟨by show (2 + (d - 1)) + 1 ≤ 2 + d; omega, by show 26 + (43 + 26 * (d - 1)) ≤ 43 + 26 * d; omega⟩) (zpreS (wf := wX a cB cI cS cII) hok hN hS hA hK hP hD) rfl rfl hl.1 rfl (lv_room (Nat.le_of_ble_eq_true rfl)) dX0_seek_108 ⟨Nat.zero_le _, Nat.zero_le _⟩) hD hS hA (fun σ1 H locs hv108 hP hD hS => ?_)
          obtain ⟨u6_108, u27_108, es9, hv108⟩ := hv108
          subst σ1
          have hP : va_P (dC, dI) vwCl (wX a cB cI cS cII (upC (upC σ 6 u6_108) 27 u27_108)) H := hP
          have hD : va_D A (wX a cB cI cS cII (upC (upC σ 6 u6_108) 27 u27_108)) := hD
          refine lv_aload_n hx hb dX0_seek_111 rfl (lv_at hl 1 rfl) ?_
          refine va_get (D := (dC, dI)) (ci := 0) (v := .ref (a 27)) (C := RX0) (T := TX0) (N := 8) hx hb hts in0 hown hK hP 6 rfl rfl 2 (by decide) k9 (fun _ h9 => h9) rfl dX0_seek_112 ?_
          refine lv_iload hx hb dX0_seek_115 (lv_at hl 6 rfl) ?_
          refine lv_dup2_11 hx hb dX0_seek_117 rfl rfl ?_
          refine va_iald (D := (dC, dI)) (f := u27_108) hx hb hK hP 27 1 rfl rfl (i := j) (n := 4) (zin (by omega) (by omega)) dX0_seek_118 ?_
          refine lv_topi (fun v118 ev118 => ?_)
          have tv118 := congrArg Int32.toInt ev118
          refine lv_iload hx hb dX0_seek_119 (lv_at hl 0 rfl) ?_
          refine lv_isub hx hb dX0_seek_121 ?_
          refine lv_topi (fun v121 ev121 => ?_)
          refine va_iast (D := (dC, dI)) (f := u27_108) hx hb hK hP hD hS 27 1 rfl rfl (i := j) (n := 4) (zin (by omega) (by omega)) dX0_seek_122 (fun H locs hP hD hS => ?_)
          have hP : va_P (dC, dI) vwCl (wX a cB cI cS cII (upC (upC σ 6 u6_108) 27 (upd (u27_108) (j).toNatClampNeg v121))) H := hP
          have hD : va_D A (wX a cB cI cS cII (upC (upC σ 6 u6_108) 27 (upd (u27_108) (j).toNatClampNeg v121))) := hD
          obtain ⟨v123, ev123⟩ : ∃ y : Int32, y = j + 1 := ⟨_, rfl⟩
          refine lv_iinc (v := v123) (lv' := [(5, .int v123), (6, .int v73), (0, .ref (a 6)), (1, .int x1), (2, .int x2), (3, .int x3), (4, .int t)]) hx hb dX0_seek_123 hl (k := 6) rfl (by rw [ev123]; rfl) (by decide) rfl (fun ls hl => ?_)
          have tv123 : v123.toInt = j.toInt + 1 := by rw [ev123, zadd, show (1 : Int32).toInt = 1 from by decide]; omega
          refine lv_goto (tgt := 49) hx hb dX0_seek_126 (by decide) ?_
          exact ih (t) (v123) (u6_108) (upd (u27_108) (j).toNatClampNeg v121) H locs ls (by omega) (by omega) (by omega) (by omega) hP hD hS (lv_sub hl [2, 3, 4, 5, 6, 0] rfl)
  have hl := lv_entry ([.ref (a 6), .int x1, .int x2, .int x3]) (n := 7) (Nat.le_of_ble_eq_true rfl)
  rw [lg_entry_eq]
  generalize (lg_sl ([.ref (a 6), .int x1, .int x2, .int x3]) ++ List.replicate (7 - (lg_sl ([.ref (a 6), .int x1, .int x2, .int x3])).length) Slot.unset).toArray = ls at hl ⊢
  have hl : lv_has ls 7 [(0, .ref (a 6)), (1, .int x1), (2, .int x2), (3, .int x3)] := hl
  suffices main : ∀ (H : Heap) (locs : List Loc), va_P (dC, dI) vwCl (wX a cB cI cS cII σ) H → va_D A (wX a cB cI cS cII σ) → va_S A s.heap H locs → W p l e (headSpec wsX0_seek (RM_X0_seek d)).room s m ([.ref (a 6), .int x1, .int x2, .int x3] : List Value).toArray below meth c H locs 0 0 (MQ below (zQv (dC, dI) (zT cB cI cS cII) (wX a cB cI cS cII) A (fun (σ1 : Cn) => ∃ u6 : Nat → Int32, ∃ u27 : Nat → Int32, σ1 = (upC (upC σ 6 u6) 27 u27) ∧ True)) ([.ref (a 6), .int x1, .int x2, .int x3] : List Value).toArray s 0 0 A) (F0 m 0 ls []) from main s.heap [] hP hD hS
  intro H locs hP hD hS
  refine lv_aload_n hx hb dX0_seek_0 rfl (lv_at hl 0 rfl) ?_
  refine lv_iload_n hx hb dX0_seek_1 rfl (lv_at hl 1 rfl) ?_
  refine lv_iload_n hx hb dX0_seek_2 rfl (lv_at hl 3 rfl) ?_
  refine zcalli (va_runV (As := [.int x1, .int x3]) (rest := []) ⟨hx, hb, hml, hown, hts⟩ (c_X0_mayBeBetter l dC dI cB cI cS cII a N hok hn σ H.size (x1) (x3) h0 (by omega)) (cwV 2 hts gX0_seek_X0_mayBeBetter rfl rfl rfl (by decide +kernel) ⟨by show 0 + 1 ≤ 2 + d; omega, by show 8 + (8 + 11) + 0 ≤ 43 + 26 * d; omega⟩) (zpreV (wf := wX a cB cI cS cII) (q0 := 6) (ci := 0) hok hN hS hA hK hP hD rfl rfl) rfl rfl hl.1 rfl (lv_room (Nat.le_of_ble_eq_true rfl)) dX0_seek_3 ⟨Nat.zero_le _, Nat.zero_le _⟩) hD hS hA (fun v3 σ1 H locs hv3 hP hD hS => ?_)
  obtain ⟨es9, hv3⟩ := hv3
  subst σ1
  refine lv_if_ne (tgt := 10) hx hb dX0_seek_6 (by decide) (fun c6 => ?_) (fun c6 => ?_)
  · skip
    have ic6 := zneq (a := v3.toInt) (b := 0) rfl (by decide) c6
    refine lv_iload_n hx hb dX0_seek_10 rfl (lv_at hl 1 rfl) ?_
    refine lv_if_gt (tgt := 33) hx hb dX0_seek_11 (by decide) (fun c11 => ?_) (fun c11 => ?_)
    · skip
      have ic11 := zlt (a := 0) (b := x1.toInt) (by decide) rfl c11
      refine lv_aload_n hx hb dX0_seek_33 rfl (lv_at hl 0 rfl) ?_
      refine va_get (D := (dC, dI)) (ci := 0) (v := .ref (a 5)) (C := RX0) (T := TX0) (N := 8) hx hb hts in0 hown hK hP 6 rfl rfl 1 (by decide) k27 (fun _ h9 => h9) rfl dX0_seek_34 ?_
      refine va_get (D := (dC, dI)) (ci := 3) (v := .ref (a 25)) (C := RX3) (T := TX3) (N := 4) hx hb hts in3 hown hK hP 5 rfl rfl 1 (by decide) k37 (fun _ h9 => h9) rfl dX0_seek_37 ?_
      refine lv_iload_n hx hb dX0_seek_40 rfl (lv_at hl 1 rfl) ?_
      refine lv_iconst (v := 1) hx hb dX0_seek_41 (by decide) ?_
      refine lv_isub hx hb dX0_seek_42 ?_
      refine lv_topi (fun v42 ev42 => ?_)
      have tv42 : v42.toInt = x1.toInt - 1 := by rw [ev42, zsub, show (1 : Int32).toInt = 1 from by decide]; omega
      refine va_iald (D := (dC, dI)) (f := σ 25) hx hb hK hP 25 1 rfl rfl (i := v42) (n := 10) (zin (by omega) (by omega)) dX0_seek_43 ?_
      refine lv_topi (fun v43 ev43 => ?_)
      have tv43 := congrArg Int32.toInt ev43
      have hb9 := hq ((v42).toNatClampNeg) (by have q := zcl (x := v42) (by omega); omega)
      refine lv_istore (lv' := [(4, .int v43), (0, .ref (a 6)), (1, .int x1), (2, .int x2), (3, .int x3)]) hx hb dX0_seek_44 hl (by decide) rfl (fun ls hl => ?_)
      refine lv_iconst (v := 0) hx hb dX0_seek_46 (by decide) ?_
      refine lv_istore (lv' := [(5, .int 0), (4, .int v43), (0, .ref (a 6)), (1, .int x1), (2, .int x2), (3, .int x3)]) hx hb dX0_seek_47 hl (by decide) rfl (fun ls hl => ?_)
      exact (LP _) (v43) (0) (σ 6) (σ 27) H locs ls (by omega) (by decide) (by omega) (Nat.lt_succ_self _) hP hD hS (lv_sub hl [2, 3, 4, 5, 1, 0] rfl)
    · skip
      have ic11 := znlt (a := 0) (b := x1.toInt) (by decide) rfl c11
      refine lv_aload_n hx hb dX0_seek_14 rfl (lv_at hl 0 rfl) ?_
      refine lv_aload_n hx hb dX0_seek_15 rfl (lv_at hl 0 rfl) ?_
      refine zcalli (va_runV (As := []) (rest := [.ref (a 6)]) ⟨hx, hb, hml, hown, hts⟩ (c_X0_leastSum l dC dI cB cI cS cII a N hok hn σ H.size  h0) (cwV 0 hts gX0_seek_X0_leastSum rfl rfl rfl (by decide +kernel) ⟨by show 1 + 1 ≤ 2 + d; omega, by show 8 + (3 + 11) + 21 ≤ 43 + 26 * d; omega⟩) (zpreV (wf := wX a cB cI cS cII) (q0 := 6) (ci := 0) hok hN hS hA hK hP hD rfl rfl) rfl rfl hl.1 rfl (lv_room (Nat.le_of_ble_eq_true rfl)) dX0_seek_16 ⟨Nat.zero_le _, Nat.zero_le _⟩) hD hS hA (fun v16 σ1 H locs hv16 hP hD hS => ?_)
      obtain ⟨es9, hv16⟩ := hv16
      subst σ1
      refine va_put (D := (dC, dI)) (ci := 0) (v := .int v16) (ty := .int) (C := RX0) (T := TX0) (N := 8) hx hb hts in0 tyX0 tyX0_ok nmX0 hown hK hP hD hS 6 rfl rfl 5 (by decide) k52 (fun _ h9 => h9) rfl (by decide +kernel) rfl rfl (Nat.le_of_ble_eq_true rfl) dX0_seek_19 (fun H locs hP hD hS => ?_)
      have hP : va_P (dC, dI) vwCl (wX a cB cI cS cII (upC σ 6 (upd (σ 6) 5 v16))) H := hP
      have hD : va_D A (wX a cB cI cS cII (upC σ 6 (upd (σ 6) 5 v16))) := hD
      refine lv_aload_n hx hb dX0_seek_22 rfl (lv_at hl 0 rfl) ?_
      refine lv_iload_n hx hb dX0_seek_23 rfl (lv_at hl 3 rfl) ?_
      refine va_put (D := (dC, dI)) (ci := 0) (v := .int x3) (ty := .int) (C := RX0) (T := TX0) (N := 8) hx hb hts in0 tyX0 tyX0_ok nmX0 hown hK hP hD hS 6 rfl rfl 6 (by decide) k55 (fun _ h9 => h9) rfl (by decide +kernel) rfl rfl (Nat.le_of_ble_eq_true rfl) dX0_seek_24 (fun H locs hP hD hS => ?_)
      have hP : va_P (dC, dI) vwCl (wX a cB cI cS cII (upC σ 6 (upd (upd (σ 6) 5 v16) 6 x3))) H := hP
      have hD : va_D A (wX a cB cI cS cII (upC σ 6 (upd (upd (σ 6) 5 v16) 6 x3))) := hD
      refine lv_aload_n hx hb dX0_seek_27 rfl (lv_at hl 0 rfl) ?_
      refine lv_iload_n hx hb dX0_seek_28 rfl (lv_at hl 2 rfl) ?_
      refine va_put (D := (dC, dI)) (ci := 0) (v := .int x2) (ty := .int) (C := RX0) (T := TX0) (N := 8) hx hb hts in0 tyX0 tyX0_ok nmX0 hown hK hP hD hS 6 rfl rfl 7 (by decide) k58 (fun _ h9 => h9) rfl (by decide +kernel) rfl rfl (Nat.le_of_ble_eq_true rfl) dX0_seek_29 (fun H locs hP hD hS => ?_)
      have hP : va_P (dC, dI) vwCl (wX a cB cI cS cII (upC σ 6 (upd (upd (upd (σ 6) 5 v16) 6 x3) 7 x2))) H := hP
      have hD : va_D A (wX a cB cI cS cII (upC σ 6 (upd (upd (upd (σ 6) 5 v16) 6 x3) 7 x2))) := hD
      have hpost : ∃ u6 : Nat → Int32, ∃ u27 : Nat → Int32, (upC σ 6 (upd (upd (upd (σ 6) 5 v16) 6 x3) 7 x2)) = (upC (upC σ 6 u6) 27 u27) ∧ True := by exact ⟨_, σ 27, upC_id _ 27, trivial⟩
      exact W.vret hx hb hr (fun t9 ht hW => ⟨⟨(upC σ 6 (upd (upd (upd (σ 6) 5 v16) 6 x3) 7 x2)), rfl, hpost, by rw [ht]; exact hP, va_K.moved hW.alike hK, hD⟩, hS.F ht⟩) hS.2.2 dX0_seek_32
  · skip
    have ic6 := zeq (a := v3.toInt) (b := 0) rfl (by decide) c6
    have hpost : ∃ u6 : Nat → Int32, ∃ u27 : Nat → Int32, σ = (upC (upC σ 6 u6) 27 u27) ∧ True := by exact ⟨σ 6, σ 27, (upC_id σ 6).trans (upC_id _ 27), trivial⟩
    exact W.vret hx hb hr (fun t9 ht hW => ⟨⟨σ, rfl, hpost, by rw [ht]; exact hP, va_K.moved hW.alike hK, hD⟩, hS.F ht⟩) hS.2.2 dX0_seek_9
theorem c_X0_seek (l : Launch) (dC : Nat → ClassId) (dI : Nat → Nat → Nat) (cB cI cS cII : ClassId) (a : Nat → Nat) (N : (Nat → Prop) → State → Prop) (hok : zNok N) (hn : ∀ A U, N A U → zN U) (σ : Cn) (sz : Nat) (x1 : Int32) (x2 : Int32) (x3 : Int32) (h0 : 0 ≤ (σ 4 1).toInt ∧ (σ 4 1).toInt ≤ 4) (hs : 0 ≤ (σ 5 2).toInt ∧ (σ 5 2).toInt ≤ 10) (hq : ∀ j : Nat, (j : Int) < (σ 5 2).toInt → 0 ≤ (σ 25 j).toInt ∧ (σ 25 j).toInt < 10) (h1 : 0 ≤ x1.toInt ∧ x1.toInt ≤ (σ 5 2).toInt) (hd : x1.toInt ≤ 8) : Met l yX0_seek wsX0_seek (RM_X0_seek 8) (zPc (dC, dI) (zT cB cI cS cII) N (wX a cB cI cS cII) σ sz [.ref (a 6), .int x1, .int x2, .int x3]) (zQv (dC, dI) (zT cB cI cS cII) (wX a cB cI cS cII) (va_A (wX a cB cI cS cII σ) sz) (fun (σ1 : Cn) => ∃ u6 : Nat → Int32, ∃ u27 : Nat → Int32, σ1 = (upC (upC σ 6 u6) 27 u27) ∧ True)) 0 0 (va_A (wX a cB cI cS cII σ) sz) := c_X0_seek_rec l dC dI cB cI cS cII a N hok hn 8 σ sz x1 x2 x3 h0 hs hq h1 hd

abbrev RM_X0_bestNumber : Room := { frames := 11, cells := 0, slots := 0, locals := 277 }
set_option maxHeartbeats 4000000 in
set_option maxRecDepth 100000 in
theorem c_X0_bestNumber (l : Launch) (dC : Nat → ClassId) (dI : Nat → Nat → Nat) (cB cI cS cII : ClassId) (a : Nat → Nat) (N : (Nat → Prop) → State → Prop) (hok : zNok N) (hn : ∀ A U, N A U → zN U) (σ : Cn) (sz : Nat)  (h0 : 0 ≤ (σ 4 1).toInt ∧ (σ 4 1).toInt ≤ 4) (hs : 0 ≤ (σ 5 2).toInt ∧ (σ 5 2).toInt ≤ 10) (hq : ∀ j : Nat, (j : Int) < (σ 5 2).toInt → 0 ≤ (σ 25 j).toInt ∧ (σ 25 j).toInt < 10) : Met l yX0_bestNumber wsX0_bestNumber RM_X0_bestNumber (zPc (dC, dI) (zT cB cI cS cII) N (wX a cB cI cS cII) σ sz [.ref (a 6)]) (zQi (dC, dI) (zT cB cI cS cII) (wX a cB cI cS cII) (va_A (wX a cB cI cS cII σ) sz) (fun (r : Int32) (σ1 : Cn) => ∃ u6 : Nat → Int32, ∃ u27 : Nat → Int32, ∃ u29 : Nat → Nat → Int32, ∃ u33 : Nat → Int32, σ1 = (upC (upC (upC (upR σ 29 4 u29) 6 u6) 27 u27) 33 u33) ∧ True)) 0 0 (va_A (wX a cB cI cS cII σ) sz) := by
  refine Met.ofW (cc := cX0_bestNumber) (maxL := 4) (ret := (some .int)) (by decide) rfl ?_
  intro p e s m args below meth c s₁ B hml hv
  obtain ⟨rfl, hsz, hP, hK, hD0, hN⟩ := hv
  have hx := B.exec
  have hb := B.bytes
  have hr := B.returns
  have hts := atoms_spec (ws := wsX0_bestNumber) B.pre
  have hown : s.vm.findClass RX0 = some m.cls := findClass_of_methodNamed B.named
  have hlocks := B.notSynchronized
  subst hsz
  have hD := hD0.self (sz := s.heap.size)
  generalize hAe : va_A (wX a cB cI cS cII σ) s.heap.size = A at hD hN ⊢
  have hA : ∀ q : Nat, s.heap.size ≤ q → A q := fun q h => by rw [← hAe]; exact Or.inr h
  clear hAe hD0
  have hS : va_S A s.heap s.heap [] := va_S.rf
  have in0 : ∀ w ∈ u_ws RX0 TX0 8, w ∈ wsX0_bestNumber := by decide +kernel
  have in1 : ∀ w ∈ u_ws RX1 TX1 9, w ∈ wsX0_bestNumber := by decide +kernel
  have in3 : ∀ w ∈ u_ws RX3 TX3 4, w ∈ wsX0_bestNumber := by decide +kernel
  have k17 := hts (.fieldLink RX0 17 "HouseSorted$FairestSearch" "within" "[[I") (by decide +kernel)
  have k20 := hts (.fieldLink RX0 20 "HouseSorted$FairestSearch" "richest" "[I") (by decide +kernel)
  have k23 := hts (.fieldLink RX0 23 "HouseSorted$FairestSearch" "house" "LHouseSorted$House;") (by decide +kernel)
  have k27 := hts (.fieldLink RX0 27 "HouseSorted$FairestSearch" "shares" "LHouseSorted$Sharing;") (by decide +kernel)
  have k31 := hts (.fieldLink RX0 31 "HouseSorted$Sharing" "size" "I") (by decide +kernel)
  have k37 := hts (.fieldLink RX0 37 "HouseSorted$Sharing" "shared" "[I") (by decide +kernel)
  have k40 := hts (.fieldLink RX0 40 "HouseSorted$House" "worth" "[[I") (by decide +kernel)
  have k49 := hts (.fieldLink RX0 49 "HouseSorted$House" "heirs" "I") (by decide +kernel)
  have k52 := hts (.fieldLink RX0 52 "HouseSorted$FairestSearch" "bestLeast" "I") (by decide +kernel)
  have k55 := hts (.fieldLink RX0 55 "HouseSorted$FairestSearch" "bestTotal" "I") (by decide +kernel)
  have k58 := hts (.fieldLink RX0 58 "HouseSorted$FairestSearch" "best" "I") (by decide +kernel)
  have kcmin := hts (.code Lib.Math.min.name Lib.Math.min.code 2 (some .int)) (by decide +kernel)
  have kiM := hts (.initialized "java/lang/Math") (by decide +kernel)
  have km61 := hts (.methodLink RX0 61 Lib.Math.min.name) (by decide +kernel)
  have ksmin := hts (.static Lib.Math.min.name) (by decide +kernel)
  have LP : ∀ n : Nat, (∀ (j : Int32) (w29 : Nat → Nat → Int32) (w33 : Nat → Int32) (H : Heap) (locs : List Loc) (ls : Array Slot), 0 ≤ j.toInt ∧ j.toInt ≤ (σ 5 2).toInt → ((10 - j.toInt).toNat * 20) < n → va_P (dC, dI) vwCl (wX a cB cI cS cII (upC (upR σ 29 4 w29) 33 w33)) H → va_D A (wX a cB cI cS cII (upC (upR σ 29 4 w29) 33 w33)) → va_S A s.heap H locs → lv_has ls 4 [(0, .ref (a 6)), (1, .int j)] → W p l e (headSpec wsX0_bestNumber RM_X0_bestNumber).room s m ([.ref (a 6)] : List Value).toArray below meth c H locs 0 0 (MQ below (zQi (dC, dI) (zT cB cI cS cII) (wX a cB cI cS cII) A (fun (r : Int32) (σ1 : Cn) => ∃ u6 : Nat → Int32, ∃ u27 : Nat → Int32, ∃ u29 : Nat → Nat → Int32, ∃ u33 : Nat → Int32, σ1 = (upC (upC (upC (upR σ 29 4 u29) 6 u6) 27 u27) 33 u33) ∧ True)) ([.ref (a 6)] : List Value).toArray s 0 0 A) (F0 m 2 ls [])) ∧ (∀ (j : Int32) (t : Int32) (k : Int32) (w29 : Nat → Nat → Int32) (w33 : Nat → Int32) (H : Heap) (locs : List Loc) (ls : Array Slot), 0 ≤ j.toInt ∧ j.toInt < (σ 5 2).toInt → 0 ≤ t.toInt ∧ t.toInt < 10 → 0 ≤ k.toInt ∧ k.toInt ≤ 4 → ((9 - j.toInt).toNat * 20 + (4 - k.toInt).toNat + 1) < n → va_P (dC, dI) vwCl (wX a cB cI cS cII (upC (upR σ 29 4 w29) 33 w33)) H → va_D A (wX a cB cI cS cII (upC (upR σ 29 4 w29) 33 w33)) → va_S A s.heap H locs → lv_has ls 4 [(0, .ref (a 6)), (1, .int j), (2, .int t), (3, .int k)] → W p l e (headSpec wsX0_bestNumber RM_X0_bestNumber).room s m ([.ref (a 6)] : List Value).toArray below meth c H locs 0 0 (MQ below (zQi (dC, dI) (zT cB cI cS cII) (wX a cB cI cS cII) A (fun (r : Int32) (σ1 : Cn) => ∃ u6 : Nat → Int32, ∃ u27 : Nat → Int32, ∃ u29 : Nat → Nat → Int32, ∃ u33 : Nat → Int32, σ1 = (upC (upC (upC (upR σ 29 4 u29) 6 u6) 27 u27) 33 u33) ∧ True)) ([.ref (a 6)] : List Value).toArray s 0 0 A) (F0 m 58 ls [])) := by
    intro n
    induction n with
    | zero => exact ⟨(by intros; omega), (by intros; omega)⟩
    | succ n ih =>
      refine ⟨?_, ?_⟩
      · intro j w29 w33 H locs ls g1 hmu hP hD hS hl
        refine lv_iload_n hx hb dX0_bestNumber_2 rfl (lv_at hl 1 rfl) ?_
        refine lv_aload_n hx hb dX0_bestNumber_3 rfl (lv_at hl 0 rfl) ?_
        refine va_get (D := (dC, dI)) (ci := 0) (v := .ref (a 5)) (C := RX0) (T := TX0) (N := 8) hx hb hts in0 hown hK hP 6 rfl rfl 1 (by decide) k27 (fun _ h9 => h9) rfl dX0_bestNumber_4 ?_
        refine va_get (D := (dC, dI)) (ci := 3) (v := .int (σ 5 2)) (C := RX3) (T := TX3) (N := 4) hx hb hts in3 hown hK hP 5 rfl rfl 2 (by decide) k31 (fun _ h9 => h9) rfl dX0_bestNumber_7 ?_
        refine lv_icmp_ge (tgt := 111) hx hb dX0_bestNumber_10 (by decide) (fun c10 => ?_) (fun c10 => ?_)
        · skip
          have ic10 := zle (a := (σ 5 2).toInt) (b := j.toInt) rfl rfl c10
          refine lv_aload_n hx hb dX0_bestNumber_111 rfl (lv_at hl 0 rfl) ?_
          refine lv_iconst (v := (-1)) hx hb dX0_bestNumber_112 (by decide) ?_
          refine va_put (D := (dC, dI)) (ci := 0) (v := .int (-1)) (ty := .int) (C := RX0) (T := TX0) (N := 8) hx hb hts in0 tyX0 tyX0_ok nmX0 hown hK hP hD hS 6 rfl rfl 5 (by decide) k52 (fun _ h9 => h9) rfl (by decide +kernel) rfl rfl (Nat.le_of_ble_eq_true rfl) dX0_bestNumber_113 (fun H locs hP hD hS => ?_)
          have hP : va_P (dC, dI) vwCl (wX a cB cI cS cII (upC (upC (upR σ 29 4 w29) 6 (upd (σ 6) 5 (-1))) 33 w33)) H := hP
          have hD : va_D A (wX a cB cI cS cII (upC (upC (upR σ 29 4 w29) 6 (upd (σ 6) 5 (-1))) 33 w33)) := hD
          refine lv_aload_n hx hb dX0_bestNumber_116 rfl (lv_at hl 0 rfl) ?_
          refine lv_iconst (v := (-1)) hx hb dX0_bestNumber_117 (by decide) ?_
          refine va_put (D := (dC, dI)) (ci := 0) (v := .int (-1)) (ty := .int) (C := RX0) (T := TX0) (N := 8) hx hb hts in0 tyX0 tyX0_ok nmX0 hown hK hP hD hS 6 rfl rfl 6 (by decide) k55 (fun _ h9 => h9) rfl (by decide +kernel) rfl rfl (Nat.le_of_ble_eq_true rfl) dX0_bestNumber_118 (fun H locs hP hD hS => ?_)
          have hP : va_P (dC, dI) vwCl (wX a cB cI cS cII (upC (upC (upR σ 29 4 w29) 6 (upd (upd (σ 6) 5 (-1)) 6 (-1))) 33 w33)) H := hP
          have hD : va_D A (wX a cB cI cS cII (upC (upC (upR σ 29 4 w29) 6 (upd (upd (σ 6) 5 (-1)) 6 (-1))) 33 w33)) := hD
          refine lv_aload_n hx hb dX0_bestNumber_121 rfl (lv_at hl 0 rfl) ?_
          refine lv_iconst (v := 0) hx hb dX0_bestNumber_122 (by decide) ?_
          refine va_put (D := (dC, dI)) (ci := 0) (v := .int 0) (ty := .int) (C := RX0) (T := TX0) (N := 8) hx hb hts in0 tyX0 tyX0_ok nmX0 hown hK hP hD hS 6 rfl rfl 7 (by decide) k58 (fun _ h9 => h9) rfl (by decide +kernel) rfl rfl (Nat.le_of_ble_eq_true rfl) dX0_bestNumber_123 (fun H locs hP hD hS => ?_)
          have hP : va_P (dC, dI) vwCl (wX a cB cI cS cII (upC (upC (upR σ 29 4 w29) 6 (upd (upd (upd (σ 6) 5 (-1)) 6 (-1)) 7 0)) 33 w33)) H := hP
          have hD : va_D A (wX a cB cI cS cII (upC (upC (upR σ 29 4 w29) 6 (upd (upd (upd (σ 6) 5 (-1)) 6 (-1)) 7 0)) 33 w33)) := hD
          refine lv_aload_n hx hb dX0_bestNumber_126 rfl (lv_at hl 0 rfl) ?_
          refine lv_aload_n hx hb dX0_bestNumber_127 rfl (lv_at hl 0 rfl) ?_
          refine va_get (D := (dC, dI)) (ci := 0) (v := .ref (a 5)) (C := RX0) (T := TX0) (N := 8) hx hb hts in0 hown hK hP 6 rfl rfl 1 (by decide) k27 (fun _ h9 => h9) rfl dX0_bestNumber_128 ?_
          refine va_get (D := (dC, dI)) (ci := 3) (v := .int (σ 5 2)) (C := RX3) (T := TX3) (N := 4) hx hb hts in3 hown hK hP 5 rfl rfl 2 (by decide) k31 (fun _ h9 => h9) rfl dX0_bestNumber_131 ?_
          refine lv_bipush (v := 8) hx hb dX0_bestNumber_134 (by decide) ?_
          refine va_mmin hx hb (hml.trans hl.1.symm) hown km61 ksmin kiM kcmin (Nat.le_of_ble_eq_true rfl) (Nat.le_of_ble_eq_true rfl) (Nat.zero_le _) (Nat.zero_le _) dX0_bestNumber_136 ?_
          refine lv_topi (fun v136 ev136 => ?_)
          have tv136 := zmin (x := σ 5 2) (y := 8) (a := (σ 5 2).toInt) (b := 8) rfl (by decide) ev136
          refine lv_iconst (v := 0) hx hb dX0_bestNumber_139 (by decide) ?_
          refine lv_iconst (v := 0) hx hb dX0_bestNumber_140 (by decide) ?_
          refine zcallv (va_runS (As := [.ref (a 6), .int v136, .int 0, .int 0]) (rest := []) ⟨hx, hb, hml, hown, hts⟩ (c_X0_seek l dC dI cB cI cS cII a N hok hn (upC (upC (upR σ 29 4 w29) 6 (upd (upd (upd (σ 6) 5 (-1)) 6 (-1)) 7 0)) 33 w33) H.size (v136) (0) (0) h0 hs hq (by show 0 ≤ v136.toInt ∧ v136.toInt ≤ (σ 5 2).toInt; omega) (by omega)) (va_cwS 4 hts gX0_bestNumber_X0_seek rfl rfl rfl (by decide +kernel) ⟨Nat.le_of_ble_eq_true rfl, Nat.le_of_ble_eq_true rfl⟩) (zpreS (wf := wX a cB cI cS cII) hok hN hS hA hK hP hD) rfl rfl hl.1 rfl (lv_room (Nat.le_of_ble_eq_true rfl)) dX0_bestNumber_141 ⟨Nat.zero_le _, Nat.zero_le _⟩) hD hS hA (fun σ1 H locs hv141 hP hD hS => ?_)
          obtain ⟨u6_141, u27_141, es9, hv141⟩ := hv141
          subst σ1
          try simp only [show (0 : Int32).toInt = 0 from by decide] at hv141
          have hP : va_P (dC, dI) vwCl (wX a cB cI cS cII (upC (upC (upC (upR σ 29 4 w29) 6 u6_141) 27 u27_141) 33 w33)) H := hP
          have hD : va_D A (wX a cB cI cS cII (upC (upC (upC (upR σ 29 4 w29) 6 u6_141) 27 u27_141) 33 w33)) := hD
          refine lv_aload_n hx hb dX0_bestNumber_144 rfl (lv_at hl 0 rfl) ?_
          refine va_get (D := (dC, dI)) (ci := 0) (v := .int (u6_141 7)) (C := RX0) (T := TX0) (N := 8) hx hb hts in0 hown hK hP 6 rfl rfl 7 (by decide) k58 (fun _ h9 => h9) rfl dX0_bestNumber_145 ?_
          have hpost : ∃ u6 : Nat → Int32, ∃ u27 : Nat → Int32, ∃ u29 : Nat → Nat → Int32, ∃ u33 : Nat → Int32, (upC (upC (upC (upR σ 29 4 w29) 6 u6_141) 27 u27_141) 33 w33) = (upC (upC (upC (upR σ 29 4 u29) 6 u6) 27 u27) 33 u33) ∧ True := by exact ⟨_, _, _, _, rfl, trivial⟩
          exact W.iret (v := u6_141 7) hx hb hr (fun t9 ht hW => ⟨⟨u6_141 7, (upC (upC (upC (upR σ 29 4 w29) 6 u6_141) 27 u27_141) 33 w33), rfl, hpost, by rw [ht]; exact hP, va_K.moved hW.alike hK, hD⟩, hS.F ht⟩) hS.2.2 dX0_bestNumber_148
        · skip
          have ic10 := znle (a := (σ 5 2).toInt) (b := j.toInt) rfl rfl c10
          refine lv_aload_n hx hb dX0_bestNumber_13 rfl (lv_at hl 0 rfl) ?_
          refine va_get (D := (dC, dI)) (ci := 0) (v := .ref (a 5)) (C := RX0) (T := TX0) (N := 8) hx hb hts in0 hown hK hP 6 rfl rfl 1 (by decide) k27 (fun _ h9 => h9) rfl dX0_bestNumber_14 ?_
          refine va_get (D := (dC, dI)) (ci := 3) (v := .ref (a 25)) (C := RX3) (T := TX3) (N := 4) hx hb hts in3 hown hK hP 5 rfl rfl 1 (by decide) k37 (fun _ h9 => h9) rfl dX0_bestNumber_17 ?_
          refine lv_iload_n hx hb dX0_bestNumber_20 rfl (lv_at hl 1 rfl) ?_
          refine va_iald (D := (dC, dI)) (f := σ 25) hx hb hK hP 25 1 rfl rfl (i := j) (n := 10) (zin (by omega) (by omega)) dX0_bestNumber_21 ?_
          refine lv_topi (fun v21 ev21 => ?_)
          have tv21 := congrArg Int32.toInt ev21
          have hb9 := hq ((j).toNatClampNeg) (by have q := zcl (x := j) (by omega); omega)
          refine lv_istore_n (lv' := [(2, .int v21), (0, .ref (a 6)), (1, .int j)]) hx hb dX0_bestNumber_22 rfl hl (by decide) rfl (fun ls hl => ?_)
          refine lv_aload_n hx hb dX0_bestNumber_23 rfl (lv_at hl 1 rfl) ?_
          refine va_get (D := (dC, dI)) (ci := 0) (v := .ref (a 33)) (C := RX0) (T := TX0) (N := 8) hx hb hts in0 hown hK hP 6 rfl rfl 4 (by decide) k20 (fun _ h9 => h9) rfl dX0_bestNumber_24 ?_
          refine lv_iload_n hx hb dX0_bestNumber_27 rfl (lv_at hl 2 rfl) ?_
          refine lv_iconst (v := 1) hx hb dX0_bestNumber_28 (by decide) ?_
          refine lv_iadd hx hb dX0_bestNumber_29 ?_
          refine lv_topi (fun v29 ev29 => ?_)
          have tv29 : v29.toInt = j.toInt + 1 := by rw [ev29, zadd, show (1 : Int32).toInt = 1 from by decide]; omega
          refine lv_aload_n hx hb dX0_bestNumber_30 rfl (lv_at hl 1 rfl) ?_
          refine va_get (D := (dC, dI)) (ci := 0) (v := .ref (a 33)) (C := RX0) (T := TX0) (N := 8) hx hb hts in0 hown hK hP 6 rfl rfl 4 (by decide) k20 (fun _ h9 => h9) rfl dX0_bestNumber_31 ?_
          refine lv_iload_n hx hb dX0_bestNumber_34 rfl (lv_at hl 2 rfl) ?_
          refine va_iald (D := (dC, dI)) (f := w33) hx hb hK hP 33 1 rfl rfl (i := j) (n := 11) (zin (by omega) (by omega)) dX0_bestNumber_35 ?_
          refine lv_topi (fun v35 ev35 => ?_)
          have tv35 := congrArg Int32.toInt ev35
          refine lv_aload_n hx hb dX0_bestNumber_36 rfl (lv_at hl 1 rfl) ?_
          refine va_get (D := (dC, dI)) (ci := 0) (v := .ref (a 4)) (C := RX0) (T := TX0) (N := 8) hx hb hts in0 hown hK hP 6 rfl rfl 0 (by decide) k23 (fun _ h9 => h9) rfl dX0_bestNumber_37 ?_
          refine va_get (D := (dC, dI)) (ci := 1) (v := .ref (a 20)) (C := RX1) (T := TX1) (N := 9) hx hb hts in1 hown hK hP 4 rfl rfl 8 (by decide) k40 (fun _ h9 => h9) rfl dX0_bestNumber_40 ?_
          refine lv_aload_n hx hb dX0_bestNumber_43 rfl (lv_at hl 1 rfl) ?_
          refine va_get (D := (dC, dI)) (ci := 0) (v := .ref (a 4)) (C := RX0) (T := TX0) (N := 8) hx hb hts in0 hown hK hP 6 rfl rfl 0 (by decide) k23 (fun _ h9 => h9) rfl dX0_bestNumber_44 ?_
          refine lv_iload_n hx hb dX0_bestNumber_47 rfl (lv_at hl 0 rfl) ?_
          refine zcalli (va_runV (As := [.int v21]) (rest := [.ref (a 20), .int v35, .int v29, .ref (a 33)]) ⟨hx, hb, hml, hown, hts⟩ (c_X1_keenest l dC dI cB cI cS cII a N hok hn (upC (upR σ 29 4 w29) 33 w33) H.size (v21) h0 (by omega)) (cwV 1 hts gX0_bestNumber_X1_keenest rfl rfl rfl (by decide +kernel) ⟨Nat.le_of_ble_eq_true rfl, Nat.le_of_ble_eq_true rfl⟩) (zpreV (wf := wX a cB cI cS cII) (q0 := 4) (ci := 1) hok hN hS hA hK hP hD rfl rfl) rfl rfl hl.1 rfl (lv_room (Nat.le_of_ble_eq_true rfl)) dX0_bestNumber_48 ⟨Nat.zero_le _, Nat.zero_le _⟩) hD hS hA (fun v48 σ1 H locs hv48 hP hD hS => ?_)
          obtain ⟨es9, hv48⟩ := hv48
          subst σ1
          have hr51 : (v48).toNatClampNeg < 4 := by have h9 := zcl (x := v48) (by omega); omega
          refine zald hx hb hK hP 20 3 rfl rfl (i := v48) (n := 4) (zin (by omega) (by omega)) (zro_in hr51) dX0_bestNumber_51 ?_
          refine lv_iload_n hx hb dX0_bestNumber_52 rfl (lv_at hl 0 rfl) ?_
          refine va_iald (D := (dC, dI)) (f := (upC (upR σ 29 4 w29) 33 w33) (21 + (v48).toNatClampNeg)) hx hb hK hP (21 + (v48).toNatClampNeg) 1 (wX_row21 hr51) rfl (i := v21) (n := 10) (zin (by omega) (by omega)) dX0_bestNumber_53 ?_
          refine lv_topi (fun v53 ev53 => ?_)
          have tv53 := congrArg Int32.toInt ev53
          refine lv_iadd hx hb dX0_bestNumber_54 ?_
          refine lv_topi (fun v54 ev54 => ?_)
          refine va_iast (D := (dC, dI)) (f := w33) hx hb hK hP hD hS 33 1 rfl rfl (i := v29) (n := 11) (zin (by omega) (by omega)) dX0_bestNumber_55 (fun H locs hP hD hS => ?_)
          have hP : va_P (dC, dI) vwCl (wX a cB cI cS cII (upC (upR σ 29 4 w29) 33 (upd (w33) (v29).toNatClampNeg v54))) H := hP
          have hD : va_D A (wX a cB cI cS cII (upC (upR σ 29 4 w29) 33 (upd (w33) (v29).toNatClampNeg v54))) := hD
          refine lv_iconst (v := 0) hx hb dX0_bestNumber_56 (by decide) ?_
          refine lv_istore_n (lv' := [(3, .int 0), (2, .int v21), (0, .ref (a 6)), (1, .int j)]) hx hb dX0_bestNumber_57 rfl hl (by decide) rfl (fun ls hl => ?_)
          exact ih.2 (j) (v21) (0) (w29) (upd (w33) (v29).toNatClampNeg v54) H locs ls (by omega) (by omega) (by first | omega | decide) (by first | omega | (rw [show (0 : Int32).toInt = 0 from by decide]; omega)) hP hD hS (lv_sub hl [2, 3, 1, 0] rfl)
      · intro j t k w29 w33 H locs ls g1 g2 g3 hmu hP hD hS hl
        refine lv_iload_n hx hb dX0_bestNumber_58 rfl (lv_at hl 3 rfl) ?_
        refine lv_aload_n hx hb dX0_bestNumber_59 rfl (lv_at hl 0 rfl) ?_
        refine va_get (D := (dC, dI)) (ci := 0) (v := .ref (a 4)) (C := RX0) (T := TX0) (N := 8) hx hb hts in0 hown hK hP 6 rfl rfl 0 (by decide) k23 (fun _ h9 => h9) rfl dX0_bestNumber_60 ?_
        refine va_get (D := (dC, dI)) (ci := 1) (v := .int (σ 4 1)) (C := RX1) (T := TX1) (N := 9) hx hb hts in1 hown hK hP 4 rfl rfl 1 (by decide) k49 (fun _ h9 => h9) rfl dX0_bestNumber_63 ?_
        refine lv_icmp_ge (tgt := 105) hx hb dX0_bestNumber_66 (by decide) (fun c66 => ?_) (fun c66 => ?_)
        · skip
          have ic66 := zle (a := (σ 4 1).toInt) (b := k.toInt) rfl rfl c66
          obtain ⟨v105, ev105⟩ : ∃ y : Int32, y = j + 1 := ⟨_, rfl⟩
          refine lv_iinc (v := v105) (lv' := [(1, .int v105), (0, .ref (a 6)), (2, .int t), (3, .int k)]) hx hb dX0_bestNumber_105 hl (k := 1) rfl (by rw [ev105]; rfl) (by decide) rfl (fun ls hl => ?_)
          have tv105 : v105.toInt = j.toInt + 1 := by rw [ev105, zadd, show (1 : Int32).toInt = 1 from by decide]; omega
          refine lv_goto (tgt := 2) hx hb dX0_bestNumber_108 (by decide) ?_
          exact ih.1 (v105) (w29) (w33) H locs ls (by omega) (by omega) hP hD hS (lv_sub hl [1, 0] rfl)
        · skip
          have ic66 := znle (a := (σ 4 1).toInt) (b := k.toInt) rfl rfl c66
          refine lv_aload_n hx hb dX0_bestNumber_69 rfl (lv_at hl 0 rfl) ?_
          refine va_get (D := (dC, dI)) (ci := 0) (v := .ref (a 28)) (C := RX0) (T := TX0) (N := 8) hx hb hts in0 hown hK hP 6 rfl rfl 3 (by decide) k17 (fun _ h9 => h9) rfl dX0_bestNumber_70 ?_
          refine lv_iload_n hx hb dX0_bestNumber_73 rfl (lv_at hl 3 rfl) ?_
          have hr74 : (k).toNatClampNeg < 4 := by have h9 := zcl (x := k) (by omega); omega
          refine zald hx hb hK hP 28 3 rfl rfl (i := k) (n := 4) (zin (by omega) (by omega)) (zro_in hr74) dX0_bestNumber_74 ?_
          refine lv_iload_n hx hb dX0_bestNumber_75 rfl (lv_at hl 1 rfl) ?_
          refine lv_iconst (v := 1) hx hb dX0_bestNumber_76 (by decide) ?_
          refine lv_iadd hx hb dX0_bestNumber_77 ?_
          refine lv_topi (fun v77 ev77 => ?_)
          have tv77 : v77.toInt = j.toInt + 1 := by rw [ev77, zadd, show (1 : Int32).toInt = 1 from by decide]; omega
          refine lv_aload_n hx hb dX0_bestNumber_78 rfl (lv_at hl 0 rfl) ?_
          refine va_get (D := (dC, dI)) (ci := 0) (v := .ref (a 28)) (C := RX0) (T := TX0) (N := 8) hx hb hts in0 hown hK hP 6 rfl rfl 3 (by decide) k17 (fun _ h9 => h9) rfl dX0_bestNumber_79 ?_
          refine lv_iload_n hx hb dX0_bestNumber_82 rfl (lv_at hl 3 rfl) ?_
          have hr83 : (k).toNatClampNeg < 4 := by have h9 := zcl (x := k) (by omega); omega
          refine zald hx hb hK hP 28 3 rfl rfl (i := k) (n := 4) (zin (by omega) (by omega)) (zro_in hr83) dX0_bestNumber_83 ?_
          refine lv_iload_n hx hb dX0_bestNumber_84 rfl (lv_at hl 1 rfl) ?_
          refine va_iald (D := (dC, dI)) (f := (upC (upR σ 29 4 w29) 33 w33) (29 + (k).toNatClampNeg)) hx hb hK hP (29 + (k).toNatClampNeg) 1 (wX_row29 hr83) rfl (i := j) (n := 11) (zin (by omega) (by omega)) dX0_bestNumber_85 ?_
          refine lv_topi (fun v85 ev85 => ?_)
          have tv85 := congrArg Int32.toInt ev85
          refine lv_aload_n hx hb dX0_bestNumber_86 rfl (lv_at hl 0 rfl) ?_
          refine va_get (D := (dC, dI)) (ci := 0) (v := .ref (a 4)) (C := RX0) (T := TX0) (N := 8) hx hb hts in0 hown hK hP 6 rfl rfl 0 (by decide) k23 (fun _ h9 => h9) rfl dX0_bestNumber_87 ?_
          refine va_get (D := (dC, dI)) (ci := 1) (v := .ref (a 20)) (C := RX1) (T := TX1) (N := 9) hx hb hts in1 hown hK hP 4 rfl rfl 8 (by decide) k40 (fun _ h9 => h9) rfl dX0_bestNumber_90 ?_
          refine lv_iload_n hx hb dX0_bestNumber_93 rfl (lv_at hl 3 rfl) ?_
          have hr94 : (k).toNatClampNeg < 4 := by have h9 := zcl (x := k) (by omega); omega
          refine zald hx hb hK hP 20 3 rfl rfl (i := k) (n := 4) (zin (by omega) (by omega)) (zro_in hr94) dX0_bestNumber_94 ?_
          refine lv_iload_n hx hb dX0_bestNumber_95 rfl (lv_at hl 2 rfl) ?_
          refine va_iald (D := (dC, dI)) (f := (upC (upR σ 29 4 w29) 33 w33) (21 + (k).toNatClampNeg)) hx hb hK hP (21 + (k).toNatClampNeg) 1 (wX_row21 hr94) rfl (i := t) (n := 10) (zin (by omega) (by omega)) dX0_bestNumber_96 ?_
          refine lv_topi (fun v96 ev96 => ?_)
          have tv96 := congrArg Int32.toInt ev96
          refine lv_iadd hx hb dX0_bestNumber_97 ?_
          refine lv_topi (fun v97 ev97 => ?_)
          refine va_iast (D := (dC, dI)) (f := (upC (upR σ 29 4 w29) 33 w33) (29 + (k).toNatClampNeg)) hx hb hK hP hD hS (29 + (k).toNatClampNeg) 1 (wX_row29 hr74) rfl (i := v77) (n := 11) (zin (by omega) (by omega)) dX0_bestNumber_98 (fun H locs hP hD hS => ?_)
          rw [wX_set29 hr74] at hP hD
          obtain ⟨g98, eg98, hP, hD⟩ : ∃ g98 : Nat → Nat → Int32, g98 = (fun i => if i = (k).toNatClampNeg then upd ((upC (upR σ 29 4 w29) 33 w33) (29 + (k).toNatClampNeg)) (v77).toNatClampNeg v97 else (upC (upR σ 29 4 w29) 33 w33) (29 + i)) ∧ va_P (dC, dI) vwCl (wX a cB cI cS cII (upC (upR σ 29 4 g98) 33 w33)) H ∧ va_D A (wX a cB cI cS cII (upC (upR σ 29 4 g98) 33 w33)) := ⟨_, rfl, hP, hD⟩
          obtain ⟨v99, ev99⟩ : ∃ y : Int32, y = k + 1 := ⟨_, rfl⟩
          refine lv_iinc (v := v99) (lv' := [(3, .int v99), (0, .ref (a 6)), (1, .int j), (2, .int t)]) hx hb dX0_bestNumber_99 hl (k := 3) rfl (by rw [ev99]; rfl) (by decide) rfl (fun ls hl => ?_)
          have tv99 : v99.toInt = k.toInt + 1 := by rw [ev99, zadd, show (1 : Int32).toInt = 1 from by decide]; omega
          refine lv_goto (tgt := 58) hx hb dX0_bestNumber_102 (by decide) ?_
          exact ih.2 (j) (t) (v99) (g98) (w33) H locs ls (by omega) (by omega) (by first | omega | decide) (by first | omega | (rw [show (0 : Int32).toInt = 0 from by decide]; omega)) hP hD hS (lv_sub hl [1, 2, 3, 0] rfl)
  have hl := lv_entry ([.ref (a 6)]) (n := 4) (Nat.le_of_ble_eq_true rfl)
  rw [lg_entry_eq]
  generalize (lg_sl ([.ref (a 6)]) ++ List.replicate (4 - (lg_sl ([.ref (a 6)])).length) Slot.unset).toArray = ls at hl ⊢
  have hl : lv_has ls 4 [(0, .ref (a 6))] := hl
  suffices main : ∀ (H : Heap) (locs : List Loc), va_P (dC, dI) vwCl (wX a cB cI cS cII σ) H → va_D A (wX a cB cI cS cII σ) → va_S A s.heap H locs → W p l e (headSpec wsX0_bestNumber RM_X0_bestNumber).room s m ([.ref (a 6)] : List Value).toArray below meth c H locs 0 0 (MQ below (zQi (dC, dI) (zT cB cI cS cII) (wX a cB cI cS cII) A (fun (r : Int32) (σ1 : Cn) => ∃ u6 : Nat → Int32, ∃ u27 : Nat → Int32, ∃ u29 : Nat → Nat → Int32, ∃ u33 : Nat → Int32, σ1 = (upC (upC (upC (upR σ 29 4 u29) 6 u6) 27 u27) 33 u33) ∧ True)) ([.ref (a 6)] : List Value).toArray s 0 0 A) (F0 m 0 ls []) from main s.heap [] hP hD hS
  intro H locs hP hD hS
  refine lv_iconst (v := 0) hx hb dX0_bestNumber_0 (by decide) ?_
  refine lv_istore_n (lv' := [(1, .int 0), (0, .ref (a 6))]) hx hb dX0_bestNumber_1 rfl hl (by decide) rfl (fun ls hl => ?_)
  exact (LP _).1 (0) (fun i => σ (29 + i)) (σ 33) H locs ls (by rw [show (0 : Int32).toInt = 0 from by decide]; omega) (Nat.lt_succ_self _) hP hD hS (lv_sub hl [1, 0] rfl)

