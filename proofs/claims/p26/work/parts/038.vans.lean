abbrev RM_X7_hasTwin : Room := { frames := 0, cells := 0, slots := 0, locals := 0 }
set_option maxHeartbeats 4000000 in
set_option maxRecDepth 100000 in
theorem c_X7_hasTwin (l : Launch) (dC : Nat → ClassId) (dI : Nat → Nat → Nat) (cB cI cS cII : ClassId) (a : Nat → Nat) (N : (Nat → Prop) → State → Prop) (hok : zNok N) (hn : ∀ A U, N A U → zN U) (σ : Cn) (sz : Nat) (x1 : Int32) (h1 : 0 ≤ x1.toInt ∧ x1.toInt < 10) : Met l yX7_hasTwin wsX7_hasTwin RM_X7_hasTwin (zPc (dC, dI) (zT cB cI cS cII) N (wX a cB cI cS cII) σ sz [.ref (a 7), .int x1]) (zQi (dC, dI) (zT cB cI cS cII) (wX a cB cI cS cII) (va_A (wX a cB cI cS cII σ) sz) (fun (r : Int32) (σ1 : Cn) => σ1 = σ ∧ ((r : Int32).toInt = 1 ∨ (r : Int32).toInt = 0))) 0 0 (va_A (wX a cB cI cS cII σ) sz) := by
  refine Met.ofW (cc := cX7_hasTwin) (maxL := 3) (ret := (some .boolean)) (by decide) rfl ?_
  intro p e s m args below meth c s₁ B hml hv
  obtain ⟨rfl, hsz, hP, hK, hD0, hN⟩ := hv
  have hx := B.exec
  have hb := B.bytes
  have hr := B.returns
  have hts := atoms_spec (ws := wsX7_hasTwin) B.pre
  have hown : s.vm.findClass RX7 = some m.cls := findClass_of_methodNamed B.named
  have hlocks := B.notSynchronized
  subst hsz
  have hD := hD0.self (sz := s.heap.size)
  generalize hAe : va_A (wX a cB cI cS cII σ) s.heap.size = A at hD hN ⊢
  have hA : ∀ q : Nat, s.heap.size ≤ q → A q := fun q h => by rw [← hAe]; exact Or.inr h
  clear hAe hD0
  have hS : va_S A s.heap s.heap [] := va_S.rf
  have in7 : ∀ w ∈ u_ws RX7 TX7 6, w ∈ wsX7_hasTwin := by decide +kernel
  have k15 := hts (.fieldLink RX7 15 "HouseSorted$Vans" "filled" "[I") (by decide +kernel)
  have LP : ∀ n : Nat, (∀ (j : Int32) (H : Heap) (locs : List Loc) (ls : Array Slot), 0 ≤ j.toInt ∧ j.toInt ≤ 10 → (10 - j.toInt).toNat < n → va_P (dC, dI) vwCl (wX a cB cI cS cII σ) H → va_D A (wX a cB cI cS cII σ) → va_S A s.heap H locs → lv_has ls 3 [(0, .ref (a 7)), (1, .int x1), (2, .int j)] → W p l e (headSpec wsX7_hasTwin RM_X7_hasTwin).room s m ([.ref (a 7), .int x1] : List Value).toArray below meth c H locs 0 0 (MQ below (zQi (dC, dI) (zT cB cI cS cII) (wX a cB cI cS cII) A (fun (r : Int32) (σ1 : Cn) => σ1 = σ ∧ ((r : Int32).toInt = 1 ∨ (r : Int32).toInt = 0))) ([.ref (a 7), .int x1] : List Value).toArray s 0 0 A) (F0 m 2 ls [])) := by
    intro n
    induction n with
    | zero => exact by intros; omega
    | succ n ih =>
      · intro j H locs ls g1 hmu hP hD hS hl
        refine lv_iload_n hx hb dX7_hasTwin_2 rfl (lv_at hl 2 rfl) ?_
        refine lv_iload_n hx hb dX7_hasTwin_3 rfl (lv_at hl 1 rfl) ?_
        refine lv_icmp_ge (tgt := 30) hx hb dX7_hasTwin_4 (by decide) (fun c4 => ?_) (fun c4 => ?_)
        · skip
          have ic4 := zle (a := x1.toInt) (b := j.toInt) rfl rfl c4
          refine lv_iconst (v := 0) hx hb dX7_hasTwin_30 (by decide) ?_
          have hpost : σ = σ ∧ ((0 : Int32).toInt = 1 ∨ (0 : Int32).toInt = 0) := by exact ⟨rfl, by decide⟩
          exact W.zret (v := 0) hx hb hr (by decide +kernel) (fun t9 ht hW => ⟨⟨0, σ, rfl, hpost, by rw [ht]; exact hP, va_K.moved hW.alike hK, hD⟩, hS.F ht⟩) hS.2.2 dX7_hasTwin_31
        · skip
          have ic4 := znle (a := x1.toInt) (b := j.toInt) rfl rfl c4
          refine lv_aload_n hx hb dX7_hasTwin_7 rfl (lv_at hl 0 rfl) ?_
          refine va_get (D := (dC, dI)) (ci := 7) (v := .ref (a 35)) (C := RX7) (T := TX7) (N := 6) hx hb hts in7 hown hK hP 7 rfl rfl 4 (by decide) k15 (fun _ h9 => h9) rfl dX7_hasTwin_8 ?_
          refine lv_iload_n hx hb dX7_hasTwin_11 rfl (lv_at hl 2 rfl) ?_
          refine va_iald (D := (dC, dI)) (f := σ 35) hx hb hK hP 35 1 rfl rfl (i := j) (n := 10) (zin (by omega) (by omega)) dX7_hasTwin_12 ?_
          refine lv_topi (fun v12 ev12 => ?_)
          have tv12 := congrArg Int32.toInt ev12
          refine lv_aload_n hx hb dX7_hasTwin_13 rfl (lv_at hl 0 rfl) ?_
          refine va_get (D := (dC, dI)) (ci := 7) (v := .ref (a 35)) (C := RX7) (T := TX7) (N := 6) hx hb hts in7 hown hK hP 7 rfl rfl 4 (by decide) k15 (fun _ h9 => h9) rfl dX7_hasTwin_14 ?_
          refine lv_iload_n hx hb dX7_hasTwin_17 rfl (lv_at hl 1 rfl) ?_
          refine va_iald (D := (dC, dI)) (f := σ 35) hx hb hK hP 35 1 rfl rfl (i := x1) (n := 10) (zin (by omega) (by omega)) dX7_hasTwin_18 ?_
          refine lv_topi (fun v18 ev18 => ?_)
          have tv18 := congrArg Int32.toInt ev18
          refine lv_icmp_ne (tgt := 24) hx hb dX7_hasTwin_19 (by decide) (fun c19 => ?_) (fun c19 => ?_)
          · skip
            have ic19 := zneq (a := v12.toInt) (b := v18.toInt) rfl rfl c19
            obtain ⟨v24, ev24⟩ : ∃ y : Int32, y = j + 1 := ⟨_, rfl⟩
            refine lv_iinc (v := v24) (lv' := [(2, .int v24), (0, .ref (a 7)), (1, .int x1)]) hx hb dX7_hasTwin_24 hl (k := 2) rfl (by rw [ev24]; rfl) (by decide) rfl (fun ls hl => ?_)
            have tv24 : v24.toInt = j.toInt + 1 := by rw [ev24, zadd, show (1 : Int32).toInt = 1 from by decide]; omega
            refine lv_goto (tgt := 2) hx hb dX7_hasTwin_27 (by decide) ?_
            exact ih (v24)  H locs ls (by omega) (by omega) hP hD hS (lv_sub hl [1, 2, 0] rfl)
          · skip
            have ic19 := zeq (a := v12.toInt) (b := v18.toInt) rfl rfl c19
            refine lv_iconst (v := 1) hx hb dX7_hasTwin_22 (by decide) ?_
            have hpost : σ = σ ∧ ((1 : Int32).toInt = 1 ∨ (1 : Int32).toInt = 0) := by exact ⟨rfl, by decide⟩
            exact W.zret (v := 1) hx hb hr (by decide +kernel) (fun t9 ht hW => ⟨⟨1, σ, rfl, hpost, by rw [ht]; exact hP, va_K.moved hW.alike hK, hD⟩, hS.F ht⟩) hS.2.2 dX7_hasTwin_23
  have hl := lv_entry ([.ref (a 7), .int x1]) (n := 3) (Nat.le_of_ble_eq_true rfl)
  rw [lg_entry_eq]
  generalize (lg_sl ([.ref (a 7), .int x1]) ++ List.replicate (3 - (lg_sl ([.ref (a 7), .int x1])).length) Slot.unset).toArray = ls at hl ⊢
  have hl : lv_has ls 3 [(0, .ref (a 7)), (1, .int x1)] := hl
  suffices main : ∀ (H : Heap) (locs : List Loc), va_P (dC, dI) vwCl (wX a cB cI cS cII σ) H → va_D A (wX a cB cI cS cII σ) → va_S A s.heap H locs → W p l e (headSpec wsX7_hasTwin RM_X7_hasTwin).room s m ([.ref (a 7), .int x1] : List Value).toArray below meth c H locs 0 0 (MQ below (zQi (dC, dI) (zT cB cI cS cII) (wX a cB cI cS cII) A (fun (r : Int32) (σ1 : Cn) => σ1 = σ ∧ ((r : Int32).toInt = 1 ∨ (r : Int32).toInt = 0))) ([.ref (a 7), .int x1] : List Value).toArray s 0 0 A) (F0 m 0 ls []) from main s.heap [] hP hD hS
  intro H locs hP hD hS
  refine lv_iconst (v := 0) hx hb dX7_hasTwin_0 (by decide) ?_
  refine lv_istore_n (lv' := [(2, .int 0), (0, .ref (a 7)), (1, .int x1)]) hx hb dX7_hasTwin_1 rfl hl (by decide) rfl (fun ls hl => ?_)
  exact (LP _) (0)  H locs ls (by decide) (Nat.lt_succ_self _) hP hD hS (lv_sub hl [1, 2, 0] rfl)

abbrev RM_X7_packs (d : Nat) : Room := { frames := 1 + d, cells := 0, slots := 0, locals := 22 + 25 * d }
set_option maxHeartbeats 4000000 in
set_option maxRecDepth 100000 in
theorem c_X7_packs_rec (l : Launch) (dC : Nat → ClassId) (dI : Nat → Nat → Nat) (cB cI cS cII : ClassId) (a : Nat → Nat) (N : (Nat → Prop) → State → Prop) (hok : zNok N) (hn : ∀ A U, N A U → zN U) : ∀ (d : Nat) (σ : Cn) (sz : Nat) (x1 : Int32) (x2 : Int32) (x3 : Int32) (hw : 0 ≤ (σ 7 3).toInt ∧ (σ 7 3).toInt ≤ 10) (hv : ∀ j : Nat, (j : Int) < (σ 7 3).toInt → 0 ≤ (σ 34 j).toInt ∧ (σ 34 j).toInt < 10) (h1 : 0 ≤ x1.toInt ∧ x1.toInt ≤ 10) (h3 : x3.toInt ≤ 10) (hd : (σ 7 3).toInt - x1.toInt ≤ d), Met l yX7_packs wsX7_packs (RM_X7_packs d) (zPc (dC, dI) (zT cB cI cS cII) N (wX a cB cI cS cII) σ sz [.ref (a 7), .int x1, .int x2, .int x3]) (zQi (dC, dI) (zT cB cI cS cII) (wX a cB cI cS cII) (va_A (wX a cB cI cS cII σ) sz) (fun (r : Int32) (σ1 : Cn) => ∃ u35 : Nat → Int32, ∃ u36 : Nat → Int32, σ1 = (upC (upC σ 35 u35) 36 u36) ∧ ((r : Int32).toInt = 1 ∨ (r : Int32).toInt = 0))) 0 0 (va_A (wX a cB cI cS cII σ) sz) := by
  refine fun d => Nat.strongRecOn d (fun d ihr => ?_)
  intro σ sz x1 x2 x3 hw hv h1 h3 hd
  refine Met.ofW (cc := cX7_packs) (maxL := 6) (ret := (some .boolean)) (by decide) rfl ?_
  intro p e s m args below meth c s₁ B hml hv
  obtain ⟨rfl, hsz, hP, hK, hD0, hN⟩ := hv
  have hx := B.exec
  have hb := B.bytes
  have hr := B.returns
  have hts := atoms_spec (ws := wsX7_packs) B.pre
  have hown : s.vm.findClass RX7 = some m.cls := findClass_of_methodNamed B.named
  have hlocks := B.notSynchronized
  subst hsz
  have hD := hD0.self (sz := s.heap.size)
  generalize hAe : va_A (wX a cB cI cS cII σ) s.heap.size = A at hD hN ⊢
  have hA : ∀ q : Nat, s.heap.size ≤ q → A q := fun q h => by rw [← hAe]; exact Or.inr h
  clear hAe hD0
  have hS : va_S A s.heap s.heap [] := va_S.rf
  have in1 : ∀ w ∈ u_ws RX1 TX1 9, w ∈ wsX7_packs := by decide +kernel
  have in2 : ∀ w ∈ u_ws RX2 TX2 6, w ∈ wsX7_packs := by decide +kernel
  have in7 : ∀ w ∈ u_ws RX7 TX7 6, w ∈ wsX7_packs := by decide +kernel
  have k15 := hts (.fieldLink RX7 15 "HouseSorted$Vans" "filled" "[I") (by decide +kernel)
  have k18 := hts (.fieldLink RX7 18 "HouseSorted$Vans" "place" "[I") (by decide +kernel)
  have k21 := hts (.fieldLink RX7 21 "HouseSorted$Vans" "house" "LHouseSorted$House;") (by decide +kernel)
  have k25 := hts (.fieldLink RX7 25 "HouseSorted$Vans" "book" "LHouseSorted$LawBook;") (by decide +kernel)
  have k33 := hts (.fieldLink RX7 33 "HouseSorted$LawBook" "value" "[I") (by decide +kernel)
  have k38 := hts (.fieldLink RX7 38 "HouseSorted$Vans" "size" "I") (by decide +kernel)
  have k42 := hts (.fieldLink RX7 42 "HouseSorted$House" "weight" "[I") (by decide +kernel)
  have k9 := hts (.fieldLink RX7 9 "HouseSorted$Vans" "cargo" "[I") (by decide +kernel)
  have kcmax := hts (.code Lib.Math.max.name Lib.Math.max.code 2 (some .int)) (by decide +kernel)
  have kiM := hts (.initialized "java/lang/Math") (by decide +kernel)
  have km62 := hts (.methodLink RX7 62 Lib.Math.max.name) (by decide +kernel)
  have ksmax := hts (.static Lib.Math.max.name) (by decide +kernel)
  have LP : ∀ n : Nat, (∀ (t : Int32) (j : Int32) (w35 : Nat → Int32) (w36 : Nat → Int32) (H : Heap) (locs : List Loc) (ls : Array Slot), 0 ≤ j.toInt ∧ j.toInt ≤ 10 → x1.toInt < (σ 7 3).toInt → (10 - j.toInt).toNat < n → va_P (dC, dI) vwCl (wX a cB cI cS cII (upC (upC σ 35 w35) 36 w36)) H → va_D A (wX a cB cI cS cII (upC (upC σ 35 w35) 36 w36)) → va_S A s.heap H locs → lv_has ls 6 [(0, .ref (a 7)), (1, .int x1), (2, .int x2), (3, .int x3), (4, .int t), (5, .int j)] → W p l e (headSpec wsX7_packs (RM_X7_packs d)).room s m ([.ref (a 7), .int x1, .int x2, .int x3] : List Value).toArray below meth c H locs 0 0 (MQ below (zQi (dC, dI) (zT cB cI cS cII) (wX a cB cI cS cII) A (fun (r : Int32) (σ1 : Cn) => ∃ u35 : Nat → Int32, ∃ u36 : Nat → Int32, σ1 = (upC (upC σ 35 u35) 36 u36) ∧ ((r : Int32).toInt = 1 ∨ (r : Int32).toInt = 0))) ([.ref (a 7), .int x1, .int x2, .int x3] : List Value).toArray s 0 0 A) (F0 m 29 ls [])) := by
    intro n
    induction n with
    | zero => exact by intros; omega
    | succ n ih =>
      · intro t j w35 w36 H locs ls g1 g2 hmu hP hD hS hl
        refine lv_iload hx hb dX7_packs_29 (lv_at hl 5 rfl) ?_
        refine lv_iload_n hx hb dX7_packs_31 rfl (lv_at hl 2 rfl) ?_
        refine lv_icmp_gt (tgt := 134) hx hb dX7_packs_32 (by decide) (fun c32 => ?_) (fun c32 => ?_)
        · skip
          have ic32 := zlt (a := x2.toInt) (b := j.toInt) rfl rfl c32
          refine lv_iconst (v := 0) hx hb dX7_packs_134 (by decide) ?_
          have hpost : ∃ u35 : Nat → Int32, ∃ u36 : Nat → Int32, (upC (upC σ 35 w35) 36 w36) = (upC (upC σ 35 u35) 36 u36) ∧ ((0 : Int32).toInt = 1 ∨ (0 : Int32).toInt = 0) := by exact ⟨_, _, rfl, by decide⟩
          exact W.zret (v := 0) hx hb hr (by decide +kernel) (fun t9 ht hW => ⟨⟨0, (upC (upC σ 35 w35) 36 w36), rfl, hpost, by rw [ht]; exact hP, va_K.moved hW.alike hK, hD⟩, hS.F ht⟩) hS.2.2 dX7_packs_135
        · skip
          have ic32 := znlt (a := x2.toInt) (b := j.toInt) rfl rfl c32
          refine lv_iload hx hb dX7_packs_35 (lv_at hl 5 rfl) ?_
          refine lv_iload_n hx hb dX7_packs_37 rfl (lv_at hl 3 rfl) ?_
          refine lv_icmp_ge (tgt := 134) hx hb dX7_packs_38 (by decide) (fun c38 => ?_) (fun c38 => ?_)
          · skip
            have ic38 := zle (a := x3.toInt) (b := j.toInt) rfl rfl c38
            refine lv_iconst (v := 0) hx hb dX7_packs_134 (by decide) ?_
            have hpost : ∃ u35 : Nat → Int32, ∃ u36 : Nat → Int32, (upC (upC σ 35 w35) 36 w36) = (upC (upC σ 35 u35) 36 u36) ∧ ((0 : Int32).toInt = 1 ∨ (0 : Int32).toInt = 0) := by exact ⟨_, _, rfl, by decide⟩
            exact W.zret (v := 0) hx hb hr (by decide +kernel) (fun t9 ht hW => ⟨⟨0, (upC (upC σ 35 w35) 36 w36), rfl, hpost, by rw [ht]; exact hP, va_K.moved hW.alike hK, hD⟩, hS.F ht⟩) hS.2.2 dX7_packs_135
          · skip
            have ic38 := znle (a := x3.toInt) (b := j.toInt) rfl rfl c38
            refine lv_aload_n hx hb dX7_packs_41 rfl (lv_at hl 0 rfl) ?_
            refine va_get (D := (dC, dI)) (ci := 7) (v := .ref (a 35)) (C := RX7) (T := TX7) (N := 6) hx hb hts in7 hown hK hP 7 rfl rfl 4 (by decide) k15 (fun _ h9 => h9) rfl dX7_packs_42 ?_
            refine lv_iload hx hb dX7_packs_45 (lv_at hl 5 rfl) ?_
            refine va_iald (D := (dC, dI)) (f := w35) hx hb hK hP 35 1 rfl rfl (i := j) (n := 10) (zin (by omega) (by omega)) dX7_packs_47 ?_
            refine lv_topi (fun v47 ev47 => ?_)
            have tv47 := congrArg Int32.toInt ev47
            refine lv_iload hx hb dX7_packs_48 (lv_at hl 4 rfl) ?_
            refine lv_iadd hx hb dX7_packs_50 ?_
            refine lv_topi (fun v50 ev50 => ?_)
            refine lv_aload_n hx hb dX7_packs_51 rfl (lv_at hl 0 rfl) ?_
            refine va_get (D := (dC, dI)) (ci := 7) (v := .ref (a 2)) (C := RX7) (T := TX7) (N := 6) hx hb hts in7 hown hK hP 7 rfl rfl 1 (by decide) k25 (fun _ h9 => h9) rfl dX7_packs_52 ?_
            refine va_get (D := (dC, dI)) (ci := 2) (v := .ref (a 13)) (C := RX2) (T := TX2) (N := 6) hx hb hts in2 hown hK hP 2 rfl rfl 0 (by decide) k33 (fun _ h9 => h9) rfl dX7_packs_55 ?_
            refine lv_iconst (v := 3) hx hb dX7_packs_58 (by decide) ?_
            refine va_iald (D := (dC, dI)) (f := σ 13) hx hb hK hP 13 1 rfl rfl (i := 3) (n := 7) (zin (by decide) (by decide)) dX7_packs_59 ?_
            refine lv_topi (fun v59 ev59 => ?_)
            have tv59 := congrArg Int32.toInt ev59
            refine lv_icmp_gt (tgt := 128) hx hb dX7_packs_60 (by decide) (fun c60 => ?_) (fun c60 => ?_)
            · skip
              have ic60 := zlt (a := v59.toInt) (b := v50.toInt) rfl rfl c60
              obtain ⟨v128, ev128⟩ : ∃ y : Int32, y = j + 1 := ⟨_, rfl⟩
              refine lv_iinc (v := v128) (lv' := [(5, .int v128), (0, .ref (a 7)), (1, .int x1), (2, .int x2), (3, .int x3), (4, .int t)]) hx hb dX7_packs_128 hl (k := 5) rfl (by rw [ev128]; rfl) (by decide) rfl (fun ls hl => ?_)
              have tv128 : v128.toInt = j.toInt + 1 := by rw [ev128, zadd, show (1 : Int32).toInt = 1 from by decide]; omega
              refine lv_goto (tgt := 29) hx hb dX7_packs_131 (by decide) ?_
              exact ih (t) (v128) (w35) (w36) H locs ls (by omega) (by omega) (by omega) hP hD hS (lv_sub hl [1, 2, 3, 4, 5, 0] rfl)
            · skip
              have ic60 := znlt (a := v59.toInt) (b := v50.toInt) rfl rfl c60
              refine lv_aload_n hx hb dX7_packs_63 rfl (lv_at hl 0 rfl) ?_
              refine lv_iload hx hb dX7_packs_64 (lv_at hl 5 rfl) ?_
              refine zcalli (va_runV (As := [.int j]) (rest := []) ⟨hx, hb, hml, hown, hts⟩ (c_X7_hasTwin l dC dI cB cI cS cII a N hok hn (upC (upC σ 35 w35) 36 w36) H.size (j) (by omega)) (cwV 1 hts gX7_packs_X7_hasTwin rfl rfl rfl (by decide +kernel) ⟨by show 0 + 1 ≤ 1 + d; omega, by show 8 + (3 + 11) + 0 ≤ 22 + 25 * d; omega⟩) (zpreV (wf := wX a cB cI cS cII) (q0 := 7) (ci := 7) hok hN hS hA hK hP hD rfl rfl) rfl rfl hl.1 rfl (lv_room (Nat.le_of_ble_eq_true rfl)) dX7_packs_66 ⟨Nat.zero_le _, Nat.zero_le _⟩) hD hS hA (fun v66 σ1 H locs hv66 hP hD hS => ?_)
              obtain ⟨es9, hv66⟩ := hv66
              subst σ1
              refine lv_if_eq (tgt := 75) hx hb dX7_packs_69 (by decide) (fun c69 => ?_) (fun c69 => ?_)
              · skip
                have ic69 := zeq (a := v66.toInt) (b := 0) rfl (by decide) c69
                refine lv_aload_n hx hb dX7_packs_75 rfl (lv_at hl 0 rfl) ?_
                refine va_get (D := (dC, dI)) (ci := 7) (v := .ref (a 35)) (C := RX7) (T := TX7) (N := 6) hx hb hts in7 hown hK hP 7 rfl rfl 4 (by decide) k15 (fun _ h9 => h9) rfl dX7_packs_76 ?_
                refine lv_iload hx hb dX7_packs_79 (lv_at hl 5 rfl) ?_
                refine lv_dup2_11 hx hb dX7_packs_81 rfl rfl ?_
                refine va_iald (D := (dC, dI)) (f := w35) hx hb hK hP 35 1 rfl rfl (i := j) (n := 10) (zin (by omega) (by omega)) dX7_packs_82 ?_
                refine lv_topi (fun v82 ev82 => ?_)
                have tv82 := congrArg Int32.toInt ev82
                refine lv_iload hx hb dX7_packs_83 (lv_at hl 4 rfl) ?_
                refine lv_iadd hx hb dX7_packs_85 ?_
                refine lv_topi (fun v85 ev85 => ?_)
                refine va_iast (D := (dC, dI)) (f := w35) hx hb hK hP hD hS 35 1 rfl rfl (i := j) (n := 10) (zin (by omega) (by omega)) dX7_packs_86 (fun H locs hP hD hS => ?_)
                have hP : va_P (dC, dI) vwCl (wX a cB cI cS cII (upC (upC σ 35 (upd (w35) (j).toNatClampNeg v85)) 36 w36)) H := hP
                have hD : va_D A (wX a cB cI cS cII (upC (upC σ 35 (upd (w35) (j).toNatClampNeg v85)) 36 w36)) := hD
                refine lv_aload_n hx hb dX7_packs_87 rfl (lv_at hl 0 rfl) ?_
                refine va_get (D := (dC, dI)) (ci := 7) (v := .ref (a 36)) (C := RX7) (T := TX7) (N := 6) hx hb hts in7 hown hK hP 7 rfl rfl 5 (by decide) k18 (fun _ h9 => h9) rfl dX7_packs_88 ?_
                refine lv_iload_n hx hb dX7_packs_91 rfl (lv_at hl 1 rfl) ?_
                refine lv_iload hx hb dX7_packs_92 (lv_at hl 5 rfl) ?_
                refine va_iast (D := (dC, dI)) (f := w36) hx hb hK hP hD hS 36 1 rfl rfl (i := x1) (n := 10) (zin (by omega) (by omega)) dX7_packs_94 (fun H locs hP hD hS => ?_)
                have hP : va_P (dC, dI) vwCl (wX a cB cI cS cII (upC (upC σ 35 (upd (w35) (j).toNatClampNeg v85)) 36 (upd (w36) (x1).toNatClampNeg j))) H := hP
                have hD : va_D A (wX a cB cI cS cII (upC (upC σ 35 (upd (w35) (j).toNatClampNeg v85)) 36 (upd (w36) (x1).toNatClampNeg j))) := hD
                refine lv_aload_n hx hb dX7_packs_95 rfl (lv_at hl 0 rfl) ?_
                refine lv_iload_n hx hb dX7_packs_96 rfl (lv_at hl 1 rfl) ?_
                refine lv_iconst (v := 1) hx hb dX7_packs_97 (by decide) ?_
                refine lv_iadd hx hb dX7_packs_98 ?_
                refine lv_topi (fun v98 ev98 => ?_)
                have tv98 : v98.toInt = x1.toInt + 1 := by rw [ev98, zadd, show (1 : Int32).toInt = 1 from by decide]; omega
                refine lv_iload_n hx hb dX7_packs_99 rfl (lv_at hl 2 rfl) ?_
                refine lv_iload hx hb dX7_packs_100 (lv_at hl 5 rfl) ?_
                refine lv_iconst (v := 1) hx hb dX7_packs_102 (by decide) ?_
                refine lv_iadd hx hb dX7_packs_103 ?_
                refine lv_topi (fun v103 ev103 => ?_)
                have tv103 : v103.toInt = j.toInt + 1 := by rw [ev103, zadd, show (1 : Int32).toInt = 1 from by decide]; omega
                refine va_mmax hx hb (hml.trans hl.1.symm) hown km62 ksmax kiM kcmax (by show 1 ≤ 1 + d; omega) (by show _ ≤ 22 + 25 * d; simp [Value.category]; omega) (Nat.zero_le _) (Nat.zero_le _) dX7_packs_104 ?_
                refine lv_topi (fun v104 ev104 => ?_)
                have tv104 := zmax (x := x2) (y := v103) (a := x2.toInt) (b := v103.toInt) rfl rfl ev104
                refine lv_iload_n hx hb dX7_packs_107 rfl (lv_at hl 3 rfl) ?_
                refine zcalli (va_runS (As := [.ref (a 7), .int v98, .int v104, .int x3]) (rest := []) ⟨hx, hb, hml, hown, hts⟩ (ihr (d - 1) (by omega) (upC (upC σ 35 (upd (w35) (j).toNatClampNeg v85)) 36 (upd (w36) (x1).toNatClampNeg j)) H.size (v98) (v104) (x3) hw hv (by omega) (by omega) (by show (σ 7 3).toInt - v98.toInt ≤ _; omega)) (va_cwS 4 hts gX7_packs_X7_packs rfl rfl rfl (by decide +kernel) ⟨by show (1 + (d - 1)) + 1 ≤ 1 + d; omega, by show 25 + (22 + 25 * (d - 1)) ≤ 22 + 25 * d; omega⟩) (zpreS (wf := wX a cB cI cS cII) hok hN hS hA hK hP hD) rfl rfl hl.1 rfl (lv_room (Nat.le_of_ble_eq_true rfl)) dX7_packs_108 ⟨Nat.zero_le _, Nat.zero_le _⟩) hD hS hA (fun v108 σ1 H locs hv108 hP hD hS => ?_)
                obtain ⟨u35_108, u36_108, es9, hv108⟩ := hv108
                subst σ1
                have hP : va_P (dC, dI) vwCl (wX a cB cI cS cII (upC (upC σ 35 u35_108) 36 u36_108)) H := hP
                have hD : va_D A (wX a cB cI cS cII (upC (upC σ 35 u35_108) 36 u36_108)) := hD
                refine lv_if_eq (tgt := 116) hx hb dX7_packs_111 (by decide) (fun c111 => ?_) (fun c111 => ?_)
                · skip
                  have ic111 := zeq (a := v108.toInt) (b := 0) rfl (by decide) c111
                  refine lv_aload_n hx hb dX7_packs_116 rfl (lv_at hl 0 rfl) ?_
                  refine va_get (D := (dC, dI)) (ci := 7) (v := .ref (a 35)) (C := RX7) (T := TX7) (N := 6) hx hb hts in7 hown hK hP 7 rfl rfl 4 (by decide) k15 (fun _ h9 => h9) rfl dX7_packs_117 ?_
                  refine lv_iload hx hb dX7_packs_120 (lv_at hl 5 rfl) ?_
                  refine lv_dup2_11 hx hb dX7_packs_122 rfl rfl ?_
                  refine va_iald (D := (dC, dI)) (f := u35_108) hx hb hK hP 35 1 rfl rfl (i := j) (n := 10) (zin (by omega) (by omega)) dX7_packs_123 ?_
                  refine lv_topi (fun v123 ev123 => ?_)
                  have tv123 := congrArg Int32.toInt ev123
                  refine lv_iload hx hb dX7_packs_124 (lv_at hl 4 rfl) ?_
                  refine lv_isub hx hb dX7_packs_126 ?_
                  refine lv_topi (fun v126 ev126 => ?_)
                  refine va_iast (D := (dC, dI)) (f := u35_108) hx hb hK hP hD hS 35 1 rfl rfl (i := j) (n := 10) (zin (by omega) (by omega)) dX7_packs_127 (fun H locs hP hD hS => ?_)
                  have hP : va_P (dC, dI) vwCl (wX a cB cI cS cII (upC (upC σ 35 (upd (u35_108) (j).toNatClampNeg v126)) 36 u36_108)) H := hP
                  have hD : va_D A (wX a cB cI cS cII (upC (upC σ 35 (upd (u35_108) (j).toNatClampNeg v126)) 36 u36_108)) := hD
                  obtain ⟨v128, ev128⟩ : ∃ y : Int32, y = j + 1 := ⟨_, rfl⟩
                  refine lv_iinc (v := v128) (lv' := [(5, .int v128), (0, .ref (a 7)), (1, .int x1), (2, .int x2), (3, .int x3), (4, .int t)]) hx hb dX7_packs_128 hl (k := 5) rfl (by rw [ev128]; rfl) (by decide) rfl (fun ls hl => ?_)
                  have tv128 : v128.toInt = j.toInt + 1 := by rw [ev128, zadd, show (1 : Int32).toInt = 1 from by decide]; omega
                  refine lv_goto (tgt := 29) hx hb dX7_packs_131 (by decide) ?_
                  exact ih (t) (v128) (upd (u35_108) (j).toNatClampNeg v126) (u36_108) H locs ls (by omega) (by omega) (by omega) hP hD hS (lv_sub hl [1, 2, 3, 4, 5, 0] rfl)
                · skip
                  have ic111 := zneq (a := v108.toInt) (b := 0) rfl (by decide) c111
                  refine lv_iconst (v := 1) hx hb dX7_packs_114 (by decide) ?_
                  have hpost : ∃ u35 : Nat → Int32, ∃ u36 : Nat → Int32, (upC (upC σ 35 u35_108) 36 u36_108) = (upC (upC σ 35 u35) 36 u36) ∧ ((1 : Int32).toInt = 1 ∨ (1 : Int32).toInt = 0) := by exact ⟨_, _, rfl, by decide⟩
                  exact W.zret (v := 1) hx hb hr (by decide +kernel) (fun t9 ht hW => ⟨⟨1, (upC (upC σ 35 u35_108) 36 u36_108), rfl, hpost, by rw [ht]; exact hP, va_K.moved hW.alike hK, hD⟩, hS.F ht⟩) hS.2.2 dX7_packs_115
              · skip
                have ic69 := zneq (a := v66.toInt) (b := 0) rfl (by decide) c69
                refine lv_goto (tgt := 128) hx hb dX7_packs_72 (by decide) ?_
                obtain ⟨v128, ev128⟩ : ∃ y : Int32, y = j + 1 := ⟨_, rfl⟩
                refine lv_iinc (v := v128) (lv' := [(5, .int v128), (0, .ref (a 7)), (1, .int x1), (2, .int x2), (3, .int x3), (4, .int t)]) hx hb dX7_packs_128 hl (k := 5) rfl (by rw [ev128]; rfl) (by decide) rfl (fun ls hl => ?_)
                have tv128 : v128.toInt = j.toInt + 1 := by rw [ev128, zadd, show (1 : Int32).toInt = 1 from by decide]; omega
                refine lv_goto (tgt := 29) hx hb dX7_packs_131 (by decide) ?_
                exact ih (t) (v128) (w35) (w36) H locs ls (by omega) (by omega) (by omega) hP hD hS (lv_sub hl [1, 2, 3, 4, 5, 0] rfl)
  have hl := lv_entry ([.ref (a 7), .int x1, .int x2, .int x3]) (n := 6) (Nat.le_of_ble_eq_true rfl)
  rw [lg_entry_eq]
  generalize (lg_sl ([.ref (a 7), .int x1, .int x2, .int x3]) ++ List.replicate (6 - (lg_sl ([.ref (a 7), .int x1, .int x2, .int x3])).length) Slot.unset).toArray = ls at hl ⊢
  have hl : lv_has ls 6 [(0, .ref (a 7)), (1, .int x1), (2, .int x2), (3, .int x3)] := hl
  suffices main : ∀ (H : Heap) (locs : List Loc), va_P (dC, dI) vwCl (wX a cB cI cS cII σ) H → va_D A (wX a cB cI cS cII σ) → va_S A s.heap H locs → W p l e (headSpec wsX7_packs (RM_X7_packs d)).room s m ([.ref (a 7), .int x1, .int x2, .int x3] : List Value).toArray below meth c H locs 0 0 (MQ below (zQi (dC, dI) (zT cB cI cS cII) (wX a cB cI cS cII) A (fun (r : Int32) (σ1 : Cn) => ∃ u35 : Nat → Int32, ∃ u36 : Nat → Int32, σ1 = (upC (upC σ 35 u35) 36 u36) ∧ ((r : Int32).toInt = 1 ∨ (r : Int32).toInt = 0))) ([.ref (a 7), .int x1, .int x2, .int x3] : List Value).toArray s 0 0 A) (F0 m 0 ls []) from main s.heap [] hP hD hS
  intro H locs hP hD hS
  refine lv_iload_n hx hb dX7_packs_0 rfl (lv_at hl 1 rfl) ?_
  refine lv_aload_n hx hb dX7_packs_1 rfl (lv_at hl 0 rfl) ?_
  refine va_get (D := (dC, dI)) (ci := 7) (v := .int (σ 7 3)) (C := RX7) (T := TX7) (N := 6) hx hb hts in7 hown hK hP 7 rfl rfl 3 (by decide) k38 (fun _ h9 => h9) rfl dX7_packs_2 ?_
  refine lv_icmp_lt (tgt := 10) hx hb dX7_packs_5 (by decide) (fun c5 => ?_) (fun c5 => ?_)
  · skip
    have ic5 := zlt (a := x1.toInt) (b := (σ 7 3).toInt) rfl rfl c5
    refine lv_aload_n hx hb dX7_packs_10 rfl (lv_at hl 0 rfl) ?_
    refine va_get (D := (dC, dI)) (ci := 7) (v := .ref (a 4)) (C := RX7) (T := TX7) (N := 6) hx hb hts in7 hown hK hP 7 rfl rfl 0 (by decide) k21 (fun _ h9 => h9) rfl dX7_packs_11 ?_
    refine va_get (D := (dC, dI)) (ci := 1) (v := .ref (a 15)) (C := RX1) (T := TX1) (N := 9) hx hb hts in1 hown hK hP 4 rfl rfl 3 (by decide) k42 (fun _ h9 => h9) rfl dX7_packs_14 ?_
    refine lv_aload_n hx hb dX7_packs_17 rfl (lv_at hl 0 rfl) ?_
    refine va_get (D := (dC, dI)) (ci := 7) (v := .ref (a 34)) (C := RX7) (T := TX7) (N := 6) hx hb hts in7 hown hK hP 7 rfl rfl 2 (by decide) k9 (fun _ h9 => h9) rfl dX7_packs_18 ?_
    refine lv_iload_n hx hb dX7_packs_21 rfl (lv_at hl 1 rfl) ?_
    refine va_iald (D := (dC, dI)) (f := σ 34) hx hb hK hP 34 1 rfl rfl (i := x1) (n := 10) (zin (by omega) (by omega)) dX7_packs_22 ?_
    refine lv_topi (fun v22 ev22 => ?_)
    have tv22 := congrArg Int32.toInt ev22
    have hb9 := hv ((x1).toNatClampNeg) (by have q := zcl (x := x1) (by omega); omega)
    refine va_iald (D := (dC, dI)) (f := σ 15) hx hb hK hP 15 1 rfl rfl (i := v22) (n := 10) (zin (by omega) (by omega)) dX7_packs_23 ?_
    refine lv_topi (fun v23 ev23 => ?_)
    have tv23 := congrArg Int32.toInt ev23
    refine lv_istore (lv' := [(4, .int v23), (0, .ref (a 7)), (1, .int x1), (2, .int x2), (3, .int x3)]) hx hb dX7_packs_24 hl (by decide) rfl (fun ls hl => ?_)
    refine lv_iconst (v := 0) hx hb dX7_packs_26 (by decide) ?_
    refine lv_istore (lv' := [(5, .int 0), (4, .int v23), (0, .ref (a 7)), (1, .int x1), (2, .int x2), (3, .int x3)]) hx hb dX7_packs_27 hl (by decide) rfl (fun ls hl => ?_)
    exact (LP _) (v23) (0) (σ 35) (σ 36) H locs ls (by decide) (by omega) (Nat.lt_succ_self _) hP hD hS (lv_sub hl [2, 3, 4, 5, 1, 0] rfl)
  · skip
    have ic5 := znlt (a := x1.toInt) (b := (σ 7 3).toInt) rfl rfl c5
    refine lv_iconst (v := 1) hx hb dX7_packs_8 (by decide) ?_
    have hpost : ∃ u35 : Nat → Int32, ∃ u36 : Nat → Int32, σ = (upC (upC σ 35 u35) 36 u36) ∧ ((1 : Int32).toInt = 1 ∨ (1 : Int32).toInt = 0) := by exact ⟨σ 35, σ 36, (upC_id σ 35).trans (upC_id _ 36), by decide⟩
    exact W.zret (v := 1) hx hb hr (by decide +kernel) (fun t9 ht hW => ⟨⟨1, σ, rfl, hpost, by rw [ht]; exact hP, va_K.moved hW.alike hK, hD⟩, hS.F ht⟩) hS.2.2 dX7_packs_9
theorem c_X7_packs (l : Launch) (dC : Nat → ClassId) (dI : Nat → Nat → Nat) (cB cI cS cII : ClassId) (a : Nat → Nat) (N : (Nat → Prop) → State → Prop) (hok : zNok N) (hn : ∀ A U, N A U → zN U) (σ : Cn) (sz : Nat) (x1 : Int32) (x2 : Int32) (x3 : Int32) (hw : 0 ≤ (σ 7 3).toInt ∧ (σ 7 3).toInt ≤ 10) (hv : ∀ j : Nat, (j : Int) < (σ 7 3).toInt → 0 ≤ (σ 34 j).toInt ∧ (σ 34 j).toInt < 10) (h1 : 0 ≤ x1.toInt ∧ x1.toInt ≤ 10) (h3 : x3.toInt ≤ 10) (hd : (σ 7 3).toInt - x1.toInt ≤ 10) : Met l yX7_packs wsX7_packs (RM_X7_packs 10) (zPc (dC, dI) (zT cB cI cS cII) N (wX a cB cI cS cII) σ sz [.ref (a 7), .int x1, .int x2, .int x3]) (zQi (dC, dI) (zT cB cI cS cII) (wX a cB cI cS cII) (va_A (wX a cB cI cS cII σ) sz) (fun (r : Int32) (σ1 : Cn) => ∃ u35 : Nat → Int32, ∃ u36 : Nat → Int32, σ1 = (upC (upC σ 35 u35) 36 u36) ∧ ((r : Int32).toInt = 1 ∨ (r : Int32).toInt = 0))) 0 0 (va_A (wX a cB cI cS cII σ) sz) := c_X7_packs_rec l dC dI cB cI cS cII a N hok hn 10 σ sz x1 x2 x3 hw hv h1 h3 hd

abbrev RM_X7_gatherCargo : Room := { frames := 3, cells := 0, slots := 0, locals := 64 }
set_option maxHeartbeats 4000000 in
set_option maxRecDepth 100000 in
theorem c_X7_gatherCargo (l : Launch) (dC : Nat → ClassId) (dI : Nat → Nat → Nat) (cB cI cS cII : ClassId) (a : Nat → Nat) (N : (Nat → Prop) → State → Prop) (hok : zNok N) (hn : ∀ A U, N A U → zN U) (σ : Cn) (sz : Nat) (x1 : Int32) (h0 : 0 ≤ (σ 4 1).toInt ∧ (σ 4 1).toInt ≤ 4) (h2 : 0 ≤ (σ 4 2).toInt ∧ (σ 4 2).toInt ≤ 10) : Met l yX7_gatherCargo wsX7_gatherCargo RM_X7_gatherCargo (zPc (dC, dI) (zT cB cI cS cII) N (wX a cB cI cS cII) σ sz [.ref (a 7), .int x1]) (zQv (dC, dI) (zT cB cI cS cII) (wX a cB cI cS cII) (va_A (wX a cB cI cS cII σ) sz) (fun (σ1 : Cn) => ∃ u7 : Nat → Int32, ∃ u34 : Nat → Int32, ∃ u35 : Nat → Int32, σ1 = (upC (upC (upC σ 7 u7) 34 u34) 35 u35) ∧ (0 ≤ (u7 3).toInt ∧ (u7 3).toInt ≤ (σ 4 2).toInt) ∧ ∀ j : Nat, (j : Int) < (u7 3).toInt → 0 ≤ (u34 j).toInt ∧ (u34 j).toInt < (σ 4 2).toInt)) 0 0 (va_A (wX a cB cI cS cII σ) sz) := by
  refine Met.ofW (cc := cX7_gatherCargo) (maxL := 3) (ret := none) (by decide) rfl ?_
  intro p e s m args below meth c s₁ B hml hv
  obtain ⟨rfl, hsz, hP, hK, hD0, hN⟩ := hv
  have hx := B.exec
  have hb := B.bytes
  have hr := B.returns
  have hts := atoms_spec (ws := wsX7_gatherCargo) B.pre
  have hown : s.vm.findClass RX7 = some m.cls := findClass_of_methodNamed B.named
  have hlocks := B.notSynchronized
  subst hsz
  have hD := hD0.self (sz := s.heap.size)
  generalize hAe : va_A (wX a cB cI cS cII σ) s.heap.size = A at hD hN ⊢
  have hA : ∀ q : Nat, s.heap.size ≤ q → A q := fun q h => by rw [← hAe]; exact Or.inr h
  clear hAe hD0
  have hS : va_S A s.heap s.heap [] := va_S.rf
  have in1 : ∀ w ∈ u_ws RX1 TX1 9, w ∈ wsX7_gatherCargo := by decide +kernel
  have in7 : ∀ w ∈ u_ws RX7 TX7 6, w ∈ wsX7_gatherCargo := by decide +kernel
  have k15 := hts (.fieldLink RX7 15 "HouseSorted$Vans" "filled" "[I") (by decide +kernel)
  have k21 := hts (.fieldLink RX7 21 "HouseSorted$Vans" "house" "LHouseSorted$House;") (by decide +kernel)
  have k38 := hts (.fieldLink RX7 38 "HouseSorted$Vans" "size" "I") (by decide +kernel)
  have k51 := hts (.fieldLink RX7 51 "HouseSorted$House" "things" "I") (by decide +kernel)
  have k9 := hts (.fieldLink RX7 9 "HouseSorted$Vans" "cargo" "[I") (by decide +kernel)
  have LP : ∀ n : Nat, (∀ (j : Int32) (w7 : Nat → Int32) (w34 : Nat → Int32) (H : Heap) (locs : List Loc) (ls : Array Slot), 0 ≤ j.toInt ∧ j.toInt ≤ (σ 4 2).toInt → 0 ≤ (w7 3).toInt ∧ (w7 3).toInt ≤ j.toInt → (∀ i : Nat, (i : Int) < (w7 3).toInt → 0 ≤ (w34 i).toInt ∧ (w34 i).toInt < (σ 4 2).toInt) → (100 + (10 - j.toInt).toNat) < n → va_P (dC, dI) vwCl (wX a cB cI cS cII (upC (upC σ 7 w7) 34 w34)) H → va_D A (wX a cB cI cS cII (upC (upC σ 7 w7) 34 w34)) → va_S A s.heap H locs → lv_has ls 3 [(0, .ref (a 7)), (1, .int x1), (2, .int j)] → W p l e (headSpec wsX7_gatherCargo RM_X7_gatherCargo).room s m ([.ref (a 7), .int x1] : List Value).toArray below meth c H locs 0 0 (MQ below (zQv (dC, dI) (zT cB cI cS cII) (wX a cB cI cS cII) A (fun (σ1 : Cn) => ∃ u7 : Nat → Int32, ∃ u34 : Nat → Int32, ∃ u35 : Nat → Int32, σ1 = (upC (upC (upC σ 7 u7) 34 u34) 35 u35) ∧ (0 ≤ (u7 3).toInt ∧ (u7 3).toInt ≤ (σ 4 2).toInt) ∧ ∀ j : Nat, (j : Int) < (u7 3).toInt → 0 ≤ (u34 j).toInt ∧ (u34 j).toInt < (σ 4 2).toInt)) ([.ref (a 7), .int x1] : List Value).toArray s 0 0 A) (F0 m 7 ls [])) ∧ (∀ (j : Int32) (w7 : Nat → Int32) (w34 : Nat → Int32) (w35 : Nat → Int32) (H : Heap) (locs : List Loc) (ls : Array Slot), 0 ≤ j.toInt ∧ j.toInt ≤ 10 → 0 ≤ (w7 3).toInt ∧ (w7 3).toInt ≤ (σ 4 2).toInt → (∀ i : Nat, (i : Int) < (w7 3).toInt → 0 ≤ (w34 i).toInt ∧ (w34 i).toInt < (σ 4 2).toInt) → (10 - j.toInt).toNat < n → va_P (dC, dI) vwCl (wX a cB cI cS cII (upC (upC (upC σ 7 w7) 34 w34) 35 w35)) H → va_D A (wX a cB cI cS cII (upC (upC (upC σ 7 w7) 34 w34) 35 w35)) → va_S A s.heap H locs → lv_has ls 3 [(0, .ref (a 7)), (1, .int x1), (2, .int j)] → W p l e (headSpec wsX7_gatherCargo RM_X7_gatherCargo).room s m ([.ref (a 7), .int x1] : List Value).toArray below meth c H locs 0 0 (MQ below (zQv (dC, dI) (zT cB cI cS cII) (wX a cB cI cS cII) A (fun (σ1 : Cn) => ∃ u7 : Nat → Int32, ∃ u34 : Nat → Int32, ∃ u35 : Nat → Int32, σ1 = (upC (upC (upC σ 7 u7) 34 u34) 35 u35) ∧ (0 ≤ (u7 3).toInt ∧ (u7 3).toInt ≤ (σ 4 2).toInt) ∧ ∀ j : Nat, (j : Int) < (u7 3).toInt → 0 ≤ (u34 j).toInt ∧ (u34 j).toInt < (σ 4 2).toInt)) ([.ref (a 7), .int x1] : List Value).toArray s 0 0 A) (F0 m 58 ls [])) := by
    intro n
    induction n with
    | zero => exact ⟨(by intros; omega), (by intros; omega)⟩
    | succ n ih =>
      refine ⟨?_, ?_⟩
      · intro j w7 w34 H locs ls g1 g2 g3 hmu hP hD hS hl
        refine lv_iload_n hx hb dX7_gatherCargo_7 rfl (lv_at hl 2 rfl) ?_
        refine lv_aload_n hx hb dX7_gatherCargo_8 rfl (lv_at hl 0 rfl) ?_
        refine va_get (D := (dC, dI)) (ci := 7) (v := .ref (a 4)) (C := RX7) (T := TX7) (N := 6) hx hb hts in7 hown hK hP 7 rfl rfl 0 (by decide) k21 (fun _ h9 => h9) rfl dX7_gatherCargo_9 ?_
        refine va_get (D := (dC, dI)) (ci := 1) (v := .int (σ 4 2)) (C := RX1) (T := TX1) (N := 9) hx hb hts in1 hown hK hP 4 rfl rfl 2 (by decide) k51 (fun _ h9 => h9) rfl dX7_gatherCargo_12 ?_
        refine lv_icmp_ge (tgt := 56) hx hb dX7_gatherCargo_15 (by decide) (fun c15 => ?_) (fun c15 => ?_)
        · skip
          have ic15 := zle (a := (σ 4 2).toInt) (b := j.toInt) rfl rfl c15
          refine lv_iconst (v := 0) hx hb dX7_gatherCargo_56 (by decide) ?_
          refine lv_istore_n (lv' := [(2, .int 0), (0, .ref (a 7)), (1, .int x1)]) hx hb dX7_gatherCargo_57 rfl hl (by decide) rfl (fun ls hl => ?_)
          exact ih.2 (0) (w7) (w34) (σ 35) H locs ls (by first | omega | decide) (by omega) (g3) (by first | omega | (rw [show (0 : Int32).toInt = 0 from by decide]; omega)) hP hD hS (lv_sub hl [1, 2, 0] rfl)
        · skip
          have ic15 := znle (a := (σ 4 2).toInt) (b := j.toInt) rfl rfl c15
          refine lv_aload_n hx hb dX7_gatherCargo_18 rfl (lv_at hl 0 rfl) ?_
          refine va_get (D := (dC, dI)) (ci := 7) (v := .ref (a 4)) (C := RX7) (T := TX7) (N := 6) hx hb hts in7 hown hK hP 7 rfl rfl 0 (by decide) k21 (fun _ h9 => h9) rfl dX7_gatherCargo_19 ?_
          refine lv_iload_n hx hb dX7_gatherCargo_22 rfl (lv_at hl 2 rfl) ?_
          refine zcalli (va_runV (As := [.int j]) (rest := []) ⟨hx, hb, hml, hown, hts⟩ (c_X1_wayOf l dC dI cB cI cS cII a N hok hn (upC (upC σ 7 w7) 34 w34) H.size (j) h0 (by omega)) (cwV 1 hts gX7_gatherCargo_X1_wayOf rfl rfl rfl (by decide +kernel) ⟨Nat.le_of_ble_eq_true rfl, Nat.le_of_ble_eq_true rfl⟩) (zpreV (wf := wX a cB cI cS cII) (q0 := 4) (ci := 1) hok hN hS hA hK hP hD rfl rfl) rfl rfl hl.1 rfl (lv_room (Nat.le_of_ble_eq_true rfl)) dX7_gatherCargo_23 ⟨Nat.zero_le _, Nat.zero_le _⟩) hD hS hA (fun v23 σ1 H locs hv23 hP hD hS => ?_)
          obtain ⟨es9, hv23⟩ := hv23
          subst σ1
          refine lv_iload_n hx hb dX7_gatherCargo_26 rfl (lv_at hl 1 rfl) ?_
          refine lv_icmp_ne (tgt := 50) hx hb dX7_gatherCargo_27 (by decide) (fun c27 => ?_) (fun c27 => ?_)
          · skip
            have ic27 := zneq (a := v23.toInt) (b := x1.toInt) rfl rfl c27
            obtain ⟨v50, ev50⟩ : ∃ y : Int32, y = j + 1 := ⟨_, rfl⟩
            refine lv_iinc (v := v50) (lv' := [(2, .int v50), (0, .ref (a 7)), (1, .int x1)]) hx hb dX7_gatherCargo_50 hl (k := 2) rfl (by rw [ev50]; rfl) (by decide) rfl (fun ls hl => ?_)
            have tv50 : v50.toInt = j.toInt + 1 := by rw [ev50, zadd, show (1 : Int32).toInt = 1 from by decide]; omega
            refine lv_goto (tgt := 7) hx hb dX7_gatherCargo_53 (by decide) ?_
            exact ih.1 (v50) (w7) (w34) H locs ls (by omega) (by first | omega | (show 0 ≤ v46.toInt ∧ v46.toInt ≤ v50.toInt; omega)) (by first | exact g3 | (show ∀ i : Nat, (i : Int) < v46.toInt → 0 ≤ (upd w34 (w7 3).toNatClampNeg j i).toInt ∧ (upd w34 (w7 3).toNatClampNeg j i).toInt < (σ 4 2).toInt; have q8 := zcl (x := w7 3) (by omega); intro i hi; by_cases q : i = (w7 3).toNatClampNeg; rw [q, pk_us]; omega; rw [pk_un q]; exact g3 i (by omega))) (by omega) hP hD hS (lv_sub hl [1, 2, 0] rfl)
          · skip
            have ic27 := zeq (a := v23.toInt) (b := x1.toInt) rfl rfl c27
            refine lv_aload_n hx hb dX7_gatherCargo_30 rfl (lv_at hl 0 rfl) ?_
            refine va_get (D := (dC, dI)) (ci := 7) (v := .ref (a 34)) (C := RX7) (T := TX7) (N := 6) hx hb hts in7 hown hK hP 7 rfl rfl 2 (by decide) k9 (fun _ h9 => h9) rfl dX7_gatherCargo_31 ?_
            refine lv_aload_n hx hb dX7_gatherCargo_34 rfl (lv_at hl 0 rfl) ?_
            refine va_get (D := (dC, dI)) (ci := 7) (v := .int (w7 3)) (C := RX7) (T := TX7) (N := 6) hx hb hts in7 hown hK hP 7 rfl rfl 3 (by decide) k38 (fun _ h9 => h9) rfl dX7_gatherCargo_35 ?_
            refine lv_iload_n hx hb dX7_gatherCargo_38 rfl (lv_at hl 2 rfl) ?_
            refine va_iast (D := (dC, dI)) (f := w34) hx hb hK hP hD hS 34 1 rfl rfl (i := w7 3) (n := 10) (zin (by omega) (by omega)) dX7_gatherCargo_39 (fun H locs hP hD hS => ?_)
            have hP : va_P (dC, dI) vwCl (wX a cB cI cS cII (upC (upC σ 7 w7) 34 (upd (w34) (w7 3 : Int32).toNatClampNeg j))) H := hP
            have hD : va_D A (wX a cB cI cS cII (upC (upC σ 7 w7) 34 (upd (w34) (w7 3 : Int32).toNatClampNeg j))) := hD
            refine lv_aload_n hx hb dX7_gatherCargo_40 rfl (lv_at hl 0 rfl) ?_
            refine lv_dup hx hb dX7_gatherCargo_41 rfl ?_
            refine va_get (D := (dC, dI)) (ci := 7) (v := .int (w7 3)) (C := RX7) (T := TX7) (N := 6) hx hb hts in7 hown hK hP 7 rfl rfl 3 (by decide) k38 (fun _ h9 => h9) rfl dX7_gatherCargo_42 ?_
            refine lv_iconst (v := 1) hx hb dX7_gatherCargo_45 (by decide) ?_
            refine lv_iadd hx hb dX7_gatherCargo_46 ?_
            refine lv_topi (fun v46 ev46 => ?_)
            have tv46 : v46.toInt = (w7 3).toInt + 1 := by rw [ev46, zadd, show (1 : Int32).toInt = 1 from by decide]; omega
            refine va_put (D := (dC, dI)) (ci := 7) (v := .int v46) (ty := .int) (C := RX7) (T := TX7) (N := 6) hx hb hts in7 tyX7 tyX7_ok nmX7 hown hK hP hD hS 7 rfl rfl 3 (by decide) k38 (fun _ h9 => h9) rfl (by decide +kernel) rfl rfl (Nat.le_of_ble_eq_true rfl) dX7_gatherCargo_47 (fun H locs hP hD hS => ?_)
            have hP : va_P (dC, dI) vwCl (wX a cB cI cS cII (upC (upC σ 7 (upd (w7) 3 v46)) 34 (upd (w34) (w7 3 : Int32).toNatClampNeg j))) H := hP
            have hD : va_D A (wX a cB cI cS cII (upC (upC σ 7 (upd (w7) 3 v46)) 34 (upd (w34) (w7 3 : Int32).toNatClampNeg j))) := hD
            obtain ⟨v50, ev50⟩ : ∃ y : Int32, y = j + 1 := ⟨_, rfl⟩
            refine lv_iinc (v := v50) (lv' := [(2, .int v50), (0, .ref (a 7)), (1, .int x1)]) hx hb dX7_gatherCargo_50 hl (k := 2) rfl (by rw [ev50]; rfl) (by decide) rfl (fun ls hl => ?_)
            have tv50 : v50.toInt = j.toInt + 1 := by rw [ev50, zadd, show (1 : Int32).toInt = 1 from by decide]; omega
            refine lv_goto (tgt := 7) hx hb dX7_gatherCargo_53 (by decide) ?_
            exact ih.1 (v50) (upd (w7) 3 v46) (upd (w34) (w7 3 : Int32).toNatClampNeg j) H locs ls (by omega) (by first | omega | (show 0 ≤ v46.toInt ∧ v46.toInt ≤ v50.toInt; omega)) (by first | exact g3 | (show ∀ i : Nat, (i : Int) < v46.toInt → 0 ≤ (upd w34 (w7 3).toNatClampNeg j i).toInt ∧ (upd w34 (w7 3).toNatClampNeg j i).toInt < (σ 4 2).toInt; have q8 := zcl (x := w7 3) (by omega); intro i hi; by_cases q : i = (w7 3).toNatClampNeg; rw [q, pk_us]; omega; rw [pk_un q]; exact g3 i (by omega))) (by omega) hP hD hS (lv_sub hl [1, 2, 0] rfl)
      · intro j w7 w34 w35 H locs ls g1 g2 g3 hmu hP hD hS hl
        refine lv_iload_n hx hb dX7_gatherCargo_58 rfl (lv_at hl 2 rfl) ?_
        refine lv_bipush (v := 10) hx hb dX7_gatherCargo_59 (by decide) ?_
        refine lv_icmp_ge (tgt := 77) hx hb dX7_gatherCargo_61 (by decide) (fun c61 => ?_) (fun c61 => ?_)
        · skip
          have ic61 := zle (a := 10) (b := j.toInt) (by decide) rfl c61
          have hpost : ∃ u7 : Nat → Int32, ∃ u34 : Nat → Int32, ∃ u35 : Nat → Int32, (upC (upC (upC σ 7 w7) 34 w34) 35 w35) = (upC (upC (upC σ 7 u7) 34 u34) 35 u35) ∧ (0 ≤ (u7 3).toInt ∧ (u7 3).toInt ≤ (σ 4 2).toInt) ∧ ∀ j : Nat, (j : Int) < (u7 3).toInt → 0 ≤ (u34 j).toInt ∧ (u34 j).toInt < (σ 4 2).toInt := by exact ⟨_, _, _, rfl, by omega, g3⟩
          exact W.vret hx hb hr (fun t9 ht hW => ⟨⟨(upC (upC (upC σ 7 w7) 34 w34) 35 w35), rfl, hpost, by rw [ht]; exact hP, va_K.moved hW.alike hK, hD⟩, hS.F ht⟩) hS.2.2 dX7_gatherCargo_77
        · skip
          have ic61 := znle (a := 10) (b := j.toInt) (by decide) rfl c61
          refine lv_aload_n hx hb dX7_gatherCargo_64 rfl (lv_at hl 0 rfl) ?_
          refine va_get (D := (dC, dI)) (ci := 7) (v := .ref (a 35)) (C := RX7) (T := TX7) (N := 6) hx hb hts in7 hown hK hP 7 rfl rfl 4 (by decide) k15 (fun _ h9 => h9) rfl dX7_gatherCargo_65 ?_
          refine lv_iload_n hx hb dX7_gatherCargo_68 rfl (lv_at hl 2 rfl) ?_
          refine lv_iconst (v := 0) hx hb dX7_gatherCargo_69 (by decide) ?_
          refine va_iast (D := (dC, dI)) (f := w35) hx hb hK hP hD hS 35 1 rfl rfl (i := j) (n := 10) (zin (by omega) (by omega)) dX7_gatherCargo_70 (fun H locs hP hD hS => ?_)
          have hP : va_P (dC, dI) vwCl (wX a cB cI cS cII (upC (upC (upC σ 7 w7) 34 w34) 35 (upd (w35) (j).toNatClampNeg 0))) H := hP
          have hD : va_D A (wX a cB cI cS cII (upC (upC (upC σ 7 w7) 34 w34) 35 (upd (w35) (j).toNatClampNeg 0))) := hD
          obtain ⟨v71, ev71⟩ : ∃ y : Int32, y = j + 1 := ⟨_, rfl⟩
          refine lv_iinc (v := v71) (lv' := [(2, .int v71), (0, .ref (a 7)), (1, .int x1)]) hx hb dX7_gatherCargo_71 hl (k := 2) rfl (by rw [ev71]; rfl) (by decide) rfl (fun ls hl => ?_)
          have tv71 : v71.toInt = j.toInt + 1 := by rw [ev71, zadd, show (1 : Int32).toInt = 1 from by decide]; omega
          refine lv_goto (tgt := 58) hx hb dX7_gatherCargo_74 (by decide) ?_
          exact ih.2 (v71) (w7) (w34) (upd (w35) (j).toNatClampNeg 0) H locs ls (by first | omega | decide) (by omega) (g3) (by first | omega | (rw [show (0 : Int32).toInt = 0 from by decide]; omega)) hP hD hS (lv_sub hl [1, 2, 0] rfl)
  have hl := lv_entry ([.ref (a 7), .int x1]) (n := 3) (Nat.le_of_ble_eq_true rfl)
  rw [lg_entry_eq]
  generalize (lg_sl ([.ref (a 7), .int x1]) ++ List.replicate (3 - (lg_sl ([.ref (a 7), .int x1])).length) Slot.unset).toArray = ls at hl ⊢
  have hl : lv_has ls 3 [(0, .ref (a 7)), (1, .int x1)] := hl
  suffices main : ∀ (H : Heap) (locs : List Loc), va_P (dC, dI) vwCl (wX a cB cI cS cII σ) H → va_D A (wX a cB cI cS cII σ) → va_S A s.heap H locs → W p l e (headSpec wsX7_gatherCargo RM_X7_gatherCargo).room s m ([.ref (a 7), .int x1] : List Value).toArray below meth c H locs 0 0 (MQ below (zQv (dC, dI) (zT cB cI cS cII) (wX a cB cI cS cII) A (fun (σ1 : Cn) => ∃ u7 : Nat → Int32, ∃ u34 : Nat → Int32, ∃ u35 : Nat → Int32, σ1 = (upC (upC (upC σ 7 u7) 34 u34) 35 u35) ∧ (0 ≤ (u7 3).toInt ∧ (u7 3).toInt ≤ (σ 4 2).toInt) ∧ ∀ j : Nat, (j : Int) < (u7 3).toInt → 0 ≤ (u34 j).toInt ∧ (u34 j).toInt < (σ 4 2).toInt)) ([.ref (a 7), .int x1] : List Value).toArray s 0 0 A) (F0 m 0 ls []) from main s.heap [] hP hD hS
  intro H locs hP hD hS
  refine lv_aload_n hx hb dX7_gatherCargo_0 rfl (lv_at hl 0 rfl) ?_
  refine lv_iconst (v := 0) hx hb dX7_gatherCargo_1 (by decide) ?_
  refine va_put (D := (dC, dI)) (ci := 7) (v := .int 0) (ty := .int) (C := RX7) (T := TX7) (N := 6) hx hb hts in7 tyX7 tyX7_ok nmX7 hown hK hP hD hS 7 rfl rfl 3 (by decide) k38 (fun _ h9 => h9) rfl (by decide +kernel) rfl rfl (Nat.le_of_ble_eq_true rfl) dX7_gatherCargo_2 (fun H locs hP hD hS => ?_)
  have hP : va_P (dC, dI) vwCl (wX a cB cI cS cII (upC σ 7 (upd (σ 7) 3 0))) H := hP
  have hD : va_D A (wX a cB cI cS cII (upC σ 7 (upd (σ 7) 3 0))) := hD
  refine lv_iconst (v := 0) hx hb dX7_gatherCargo_5 (by decide) ?_
  refine lv_istore_n (lv' := [(2, .int 0), (0, .ref (a 7)), (1, .int x1)]) hx hb dX7_gatherCargo_6 rfl hl (by decide) rfl (fun ls hl => ?_)
  exact (LP _).1 (0) (upd (σ 7) 3 0) (σ 34) H locs ls (by rw [show (0 : Int32).toInt = 0 from by decide]; omega) (by show 0 ≤ (0 : Int32).toInt ∧ (0 : Int32).toInt ≤ (0 : Int32).toInt; decide) (by show ∀ i : Nat, (i : Int) < (0 : Int32).toInt → _; intro i hi; rw [show (0 : Int32).toInt = 0 from by decide] at hi; omega) (Nat.lt_succ_self _) hP hD hS (lv_sub hl [1, 2, 0] rfl)

abbrev RM_X7_fewest : Room := { frames := 12, cells := 0, slots := 0, locals := 297 }
set_option maxHeartbeats 4000000 in
set_option maxRecDepth 100000 in
theorem c_X7_fewest (l : Launch) (dC : Nat → ClassId) (dI : Nat → Nat → Nat) (cB cI cS cII : ClassId) (a : Nat → Nat) (N : (Nat → Prop) → State → Prop) (hok : zNok N) (hn : ∀ A U, N A U → zN U) (σ : Cn) (sz : Nat) (x1 : Int32) (h0 : 0 ≤ (σ 4 1).toInt ∧ (σ 4 1).toInt ≤ 4) (h2 : 0 ≤ (σ 4 2).toInt ∧ (σ 4 2).toInt ≤ 10) : Met l yX7_fewest wsX7_fewest RM_X7_fewest (zPc (dC, dI) (zT cB cI cS cII) N (wX a cB cI cS cII) σ sz [.ref (a 7), .int x1]) (zQi (dC, dI) (zT cB cI cS cII) (wX a cB cI cS cII) (va_A (wX a cB cI cS cII σ) sz) (fun (r : Int32) (σ1 : Cn) => ∃ u7 : Nat → Int32, ∃ u34 : Nat → Int32, ∃ u35 : Nat → Int32, ∃ u36 : Nat → Int32, σ1 = (upC (upC (upC (upC σ 7 u7) 34 u34) 35 u35) 36 u36) ∧ (0 ≤ (u7 3).toInt ∧ (u7 3).toInt ≤ 10))) 0 0 (va_A (wX a cB cI cS cII σ) sz) := by
  refine Met.ofW (cc := cX7_fewest) (maxL := 6) (ret := (some .int)) (by decide) rfl ?_
  intro p e s m args below meth c s₁ B hml hv
  obtain ⟨rfl, hsz, hP, hK, hD0, hN⟩ := hv
  have hx := B.exec
  have hb := B.bytes
  have hr := B.returns
  have hts := atoms_spec (ws := wsX7_fewest) B.pre
  have hown : s.vm.findClass RX7 = some m.cls := findClass_of_methodNamed B.named
  have hlocks := B.notSynchronized
  subst hsz
  have hD := hD0.self (sz := s.heap.size)
  generalize hAe : va_A (wX a cB cI cS cII σ) s.heap.size = A at hD hN ⊢
  have hA : ∀ q : Nat, s.heap.size ≤ q → A q := fun q h => by rw [← hAe]; exact Or.inr h
  clear hAe hD0
  have hS : va_S A s.heap s.heap [] := va_S.rf
  have in1 : ∀ w ∈ u_ws RX1 TX1 9, w ∈ wsX7_fewest := by decide +kernel
  have in2 : ∀ w ∈ u_ws RX2 TX2 6, w ∈ wsX7_fewest := by decide +kernel
  have in7 : ∀ w ∈ u_ws RX7 TX7 6, w ∈ wsX7_fewest := by decide +kernel
  have k21 := hts (.fieldLink RX7 21 "HouseSorted$Vans" "house" "LHouseSorted$House;") (by decide +kernel)
  have k25 := hts (.fieldLink RX7 25 "HouseSorted$Vans" "book" "LHouseSorted$LawBook;") (by decide +kernel)
  have k33 := hts (.fieldLink RX7 33 "HouseSorted$LawBook" "value" "[I") (by decide +kernel)
  have k38 := hts (.fieldLink RX7 38 "HouseSorted$Vans" "size" "I") (by decide +kernel)
  have k42 := hts (.fieldLink RX7 42 "HouseSorted$House" "weight" "[I") (by decide +kernel)
  have k9 := hts (.fieldLink RX7 9 "HouseSorted$Vans" "cargo" "[I") (by decide +kernel)
  have LP : ∀ n : Nat, (∀ (ro : Int32) (to : Int32) (j : Int32) (w7 : Nat → Int32) (w34 : Nat → Int32) (w35 : Nat → Int32) (H : Heap) (locs : List Loc) (ls : Array Slot), 0 ≤ j.toInt ∧ j.toInt ≤ 10 → (0 ≤ (w7 3).toInt ∧ (w7 3).toInt ≤ 10) → (∀ j : Nat, (j : Int) < (w7 3).toInt → 0 ≤ (w34 j).toInt ∧ (w34 j).toInt < 10) → (100 + (10 - j.toInt).toNat) < n → va_P (dC, dI) vwCl (wX a cB cI cS cII (upC (upC (upC σ 7 w7) 34 w34) 35 w35)) H → va_D A (wX a cB cI cS cII (upC (upC (upC σ 7 w7) 34 w34) 35 w35)) → va_S A s.heap H locs → lv_has ls 6 [(0, .ref (a 7)), (1, .int x1), (2, .int ro), (3, .int to), (4, .int j)] → W p l e (headSpec wsX7_fewest RM_X7_fewest).room s m ([.ref (a 7), .int x1] : List Value).toArray below meth c H locs 0 0 (MQ below (zQi (dC, dI) (zT cB cI cS cII) (wX a cB cI cS cII) A (fun (r : Int32) (σ1 : Cn) => ∃ u7 : Nat → Int32, ∃ u34 : Nat → Int32, ∃ u35 : Nat → Int32, ∃ u36 : Nat → Int32, σ1 = (upC (upC (upC (upC σ 7 u7) 34 u34) 35 u35) 36 u36) ∧ (0 ≤ (u7 3).toInt ∧ (u7 3).toInt ≤ 10))) ([.ref (a 7), .int x1] : List Value).toArray s 0 0 A) (F0 m 20 ls [])) ∧ (∀ (ro : Int32) (to : Int32) (j : Int32) (w7 : Nat → Int32) (w34 : Nat → Int32) (w35 : Nat → Int32) (w36 : Nat → Int32) (H : Heap) (locs : List Loc) (ls : Array Slot), 0 ≤ j.toInt ∧ j.toInt ≤ 10 → (0 ≤ (w7 3).toInt ∧ (w7 3).toInt ≤ 10) → (∀ j : Nat, (j : Int) < (w7 3).toInt → 0 ≤ (w34 j).toInt ∧ (w34 j).toInt < 10) → (10 - j.toInt).toNat < n → va_P (dC, dI) vwCl (wX a cB cI cS cII (upC (upC (upC (upC σ 7 w7) 34 w34) 35 w35) 36 w36)) H → va_D A (wX a cB cI cS cII (upC (upC (upC (upC σ 7 w7) 34 w34) 35 w35) 36 w36)) → va_S A s.heap H locs → lv_has ls 6 [(0, .ref (a 7)), (1, .int x1), (2, .int ro), (3, .int to), (4, .int j)] → W p l e (headSpec wsX7_fewest RM_X7_fewest).room s m ([.ref (a 7), .int x1] : List Value).toArray below meth c H locs 0 0 (MQ below (zQi (dC, dI) (zT cB cI cS cII) (wX a cB cI cS cII) A (fun (r : Int32) (σ1 : Cn) => ∃ u7 : Nat → Int32, ∃ u34 : Nat → Int32, ∃ u35 : Nat → Int32, ∃ u36 : Nat → Int32, σ1 = (upC (upC (upC (upC σ 7 u7) 34 u34) 35 u35) 36 u36) ∧ (0 ≤ (u7 3).toInt ∧ (u7 3).toInt ≤ 10))) ([.ref (a 7), .int x1] : List Value).toArray s 0 0 A) (F0 m 69 ls [])) := by
    intro n
    induction n with
    | zero => exact ⟨(by intros; omega), (by intros; omega)⟩
    | succ n ih =>
      refine ⟨?_, ?_⟩
      · intro ro to j w7 w34 w35 H locs ls g1 g2 g3 hmu hP hD hS hl
        have hw := g2
        have hv := g3
        refine lv_iload hx hb dX7_fewest_20 (lv_at hl 4 rfl) ?_
        refine lv_aload_n hx hb dX7_fewest_22 rfl (lv_at hl 0 rfl) ?_
        refine va_get (D := (dC, dI)) (ci := 7) (v := .int (w7 3)) (C := RX7) (T := TX7) (N := 6) hx hb hts in7 hown hK hP 7 rfl rfl 3 (by decide) k38 (fun _ h9 => h9) rfl dX7_fewest_23 ?_
        refine lv_icmp_ge (tgt := 66) hx hb dX7_fewest_26 (by decide) (fun c26 => ?_) (fun c26 => ?_)
        · skip
          have ic26 := zle (a := (w7 3).toInt) (b := j.toInt) rfl rfl c26
          refine lv_iconst (v := 0) hx hb dX7_fewest_66 (by decide) ?_
          refine lv_istore (lv' := [(4, .int 0), (0, .ref (a 7)), (1, .int x1), (2, .int ro), (3, .int to)]) hx hb dX7_fewest_67 hl (by decide) rfl (fun ls hl => ?_)
          exact ih.2 (ro) (to) (0) (w7) (w34) (w35) (σ 36) H locs ls (by first | omega | decide) (g2) (g3) (by first | omega | (rw [show (0 : Int32).toInt = 0 from by decide]; omega)) hP hD hS (lv_sub hl [1, 2, 3, 4, 0] rfl)
        · skip
          have ic26 := znle (a := (w7 3).toInt) (b := j.toInt) rfl rfl c26
          refine lv_aload_n hx hb dX7_fewest_29 rfl (lv_at hl 0 rfl) ?_
          refine va_get (D := (dC, dI)) (ci := 7) (v := .ref (a 4)) (C := RX7) (T := TX7) (N := 6) hx hb hts in7 hown hK hP 7 rfl rfl 0 (by decide) k21 (fun _ h9 => h9) rfl dX7_fewest_30 ?_
          refine va_get (D := (dC, dI)) (ci := 1) (v := .ref (a 15)) (C := RX1) (T := TX1) (N := 9) hx hb hts in1 hown hK hP 4 rfl rfl 3 (by decide) k42 (fun _ h9 => h9) rfl dX7_fewest_33 ?_
          refine lv_aload_n hx hb dX7_fewest_36 rfl (lv_at hl 0 rfl) ?_
          refine va_get (D := (dC, dI)) (ci := 7) (v := .ref (a 34)) (C := RX7) (T := TX7) (N := 6) hx hb hts in7 hown hK hP 7 rfl rfl 2 (by decide) k9 (fun _ h9 => h9) rfl dX7_fewest_37 ?_
          refine lv_iload hx hb dX7_fewest_40 (lv_at hl 4 rfl) ?_
          refine va_iald (D := (dC, dI)) (f := w34) hx hb hK hP 34 1 rfl rfl (i := j) (n := 10) (zin (by omega) (by omega)) dX7_fewest_42 ?_
          refine lv_topi (fun v42 ev42 => ?_)
          have tv42 := congrArg Int32.toInt ev42
          have hb9 := hv ((j).toNatClampNeg) (by have q := zcl (x := j) (by omega); omega)
          refine va_iald (D := (dC, dI)) (f := σ 15) hx hb hK hP 15 1 rfl rfl (i := v42) (n := 10) (zin (by omega) (by omega)) dX7_fewest_43 ?_
          refine lv_topi (fun v43 ev43 => ?_)
          have tv43 := congrArg Int32.toInt ev43
          refine lv_istore (lv' := [(5, .int v43), (0, .ref (a 7)), (1, .int x1), (2, .int ro), (3, .int to), (4, .int j)]) hx hb dX7_fewest_44 hl (by decide) rfl (fun ls hl => ?_)
          refine lv_iload hx hb dX7_fewest_46 (lv_at hl 0 rfl) ?_
          refine lv_iload_n hx hb dX7_fewest_48 rfl (lv_at hl 3 rfl) ?_
          refine lv_icmp_le (tgt := 55) hx hb dX7_fewest_49 (by decide) (fun c49 => ?_) (fun c49 => ?_)
          · skip
            have ic49 := zle (a := v43.toInt) (b := ro.toInt) rfl rfl c49
            refine lv_iload_n hx hb dX7_fewest_55 rfl (lv_at hl 4 rfl) ?_
            refine lv_iload hx hb dX7_fewest_56 (lv_at hl 0 rfl) ?_
            refine lv_iadd hx hb dX7_fewest_58 ?_
            refine lv_topi (fun v58 ev58 => ?_)
            refine lv_istore_n (lv' := [(3, .int v58), (5, .int v43), (0, .ref (a 7)), (1, .int x1), (2, .int ro), (4, .int j)]) hx hb dX7_fewest_59 rfl hl (by decide) rfl (fun ls hl => ?_)
            obtain ⟨v60, ev60⟩ : ∃ y : Int32, y = j + 1 := ⟨_, rfl⟩
            refine lv_iinc (v := v60) (lv' := [(4, .int v60), (3, .int v58), (5, .int v43), (0, .ref (a 7)), (1, .int x1), (2, .int ro)]) hx hb dX7_fewest_60 hl (k := 5) rfl (by rw [ev60]; rfl) (by decide) rfl (fun ls hl => ?_)
            have tv60 : v60.toInt = j.toInt + 1 := by rw [ev60, zadd, show (1 : Int32).toInt = 1 from by decide]; omega
            refine lv_goto (tgt := 20) hx hb dX7_fewest_63 (by decide) ?_
            exact ih.1 (ro) (v58) (v60) (w7) (w34) (w35) H locs ls (by omega) (g2) (g3) (by omega) hP hD hS (lv_sub hl [3, 4, 5, 1, 0] rfl)
          · skip
            have ic49 := znle (a := v43.toInt) (b := ro.toInt) rfl rfl c49
            refine lv_bipush (v := (-4)) hx hb dX7_fewest_52 (by decide) ?_
            have hpost : ∃ u7 : Nat → Int32, ∃ u34 : Nat → Int32, ∃ u35 : Nat → Int32, ∃ u36 : Nat → Int32, (upC (upC (upC σ 7 w7) 34 w34) 35 w35) = (upC (upC (upC (upC σ 7 u7) 34 u34) 35 u35) 36 u36) ∧ (0 ≤ (u7 3).toInt ∧ (u7 3).toInt ≤ 10) := by exact ⟨_, _, _, σ 36, upC_id _ 36, g2⟩
            exact W.iret (v := (-4)) hx hb hr (fun t9 ht hW => ⟨⟨(-4), (upC (upC (upC σ 7 w7) 34 w34) 35 w35), rfl, hpost, by rw [ht]; exact hP, va_K.moved hW.alike hK, hD⟩, hS.F ht⟩) hS.2.2 dX7_fewest_54
      · intro ro to j w7 w34 w35 w36 H locs ls g1 g2 g3 hmu hP hD hS hl
        have hw := g2
        have hv := g3
        refine lv_iload hx hb dX7_fewest_69 (lv_at hl 4 rfl) ?_
        refine lv_aload_n hx hb dX7_fewest_71 rfl (lv_at hl 0 rfl) ?_
        refine va_get (D := (dC, dI)) (ci := 7) (v := .int (w7 3)) (C := RX7) (T := TX7) (N := 6) hx hb hts in7 hown hK hP 7 rfl rfl 3 (by decide) k38 (fun _ h9 => h9) rfl dX7_fewest_72 ?_
        refine lv_icmp_ge (tgt := 106) hx hb dX7_fewest_75 (by decide) (fun c75 => ?_) (fun c75 => ?_)
        · skip
          have ic75 := zle (a := (w7 3).toInt) (b := j.toInt) rfl rfl c75
          refine lv_aload_n hx hb dX7_fewest_106 rfl (lv_at hl 0 rfl) ?_
          refine lv_iconst (v := 0) hx hb dX7_fewest_107 (by decide) ?_
          refine lv_iconst (v := 0) hx hb dX7_fewest_108 (by decide) ?_
          refine lv_aload_n hx hb dX7_fewest_109 rfl (lv_at hl 0 rfl) ?_
          refine va_get (D := (dC, dI)) (ci := 7) (v := .int (w7 3)) (C := RX7) (T := TX7) (N := 6) hx hb hts in7 hown hK hP 7 rfl rfl 3 (by decide) k38 (fun _ h9 => h9) rfl dX7_fewest_110 ?_
          refine zcalli (va_runS (As := [.ref (a 7), .int 0, .int 0, .int (w7 3)]) (rest := []) ⟨hx, hb, hml, hown, hts⟩ (c_X7_packs l dC dI cB cI cS cII a N hok hn (upC (upC (upC (upC σ 7 w7) 34 w34) 35 w35) 36 w36) H.size (0) (0) (w7 3) hw hv (by decide) (by show (w7 3).toInt ≤ 10; omega) (by show (w7 3).toInt - (0 : Int32).toInt ≤ _; rw [show (0 : Int32).toInt = 0 from by decide]; omega)) (va_cwS 4 hts gX7_fewest_X7_packs rfl rfl rfl (by decide +kernel) ⟨Nat.le_of_ble_eq_true rfl, Nat.le_of_ble_eq_true rfl⟩) (zpreS (wf := wX a cB cI cS cII) hok hN hS hA hK hP hD) rfl rfl hl.1 rfl (lv_room (Nat.le_of_ble_eq_true rfl)) dX7_fewest_113 ⟨Nat.zero_le _, Nat.zero_le _⟩) hD hS hA (fun v113 σ1 H locs hv113 hP hD hS => ?_)
          obtain ⟨u35_113, u36_113, es9, hv113⟩ := hv113
          subst σ1
          try simp only [show (0 : Int32).toInt = 0 from by decide] at hv113
          have hP : va_P (dC, dI) vwCl (wX a cB cI cS cII (upC (upC (upC (upC σ 7 w7) 34 w34) 35 u35_113) 36 u36_113)) H := hP
          have hD : va_D A (wX a cB cI cS cII (upC (upC (upC (upC σ 7 w7) 34 w34) 35 u35_113) 36 u36_113)) := hD
          refine lv_pop hx hb dX7_fewest_116 rfl ?_
          refine lv_aload_n hx hb dX7_fewest_117 rfl (lv_at hl 0 rfl) ?_
          refine va_get (D := (dC, dI)) (ci := 7) (v := .int (w7 3)) (C := RX7) (T := TX7) (N := 6) hx hb hts in7 hown hK hP 7 rfl rfl 3 (by decide) k38 (fun _ h9 => h9) rfl dX7_fewest_118 ?_
          have hpost : ∃ u7 : Nat → Int32, ∃ u34 : Nat → Int32, ∃ u35 : Nat → Int32, ∃ u36 : Nat → Int32, (upC (upC (upC (upC σ 7 w7) 34 w34) 35 u35_113) 36 u36_113) = (upC (upC (upC (upC σ 7 u7) 34 u34) 35 u35) 36 u36) ∧ (0 ≤ (u7 3).toInt ∧ (u7 3).toInt ≤ 10) := by exact ⟨_, _, _, _, rfl, g2⟩
          exact W.iret (v := w7 3) hx hb hr (fun t9 ht hW => ⟨⟨w7 3, (upC (upC (upC (upC σ 7 w7) 34 w34) 35 u35_113) 36 u36_113), rfl, hpost, by rw [ht]; exact hP, va_K.moved hW.alike hK, hD⟩, hS.F ht⟩) hS.2.2 dX7_fewest_121
        · skip
          have ic75 := znle (a := (w7 3).toInt) (b := j.toInt) rfl rfl c75
          refine lv_iload hx hb dX7_fewest_78 (lv_at hl 4 rfl) ?_
          refine lv_iload_n hx hb dX7_fewest_80 rfl (lv_at hl 2 rfl) ?_
          refine lv_imul hx hb dX7_fewest_81 ?_
          refine lv_topi (fun v81 ev81 => ?_)
          refine lv_iload_n hx hb dX7_fewest_82 rfl (lv_at hl 3 rfl) ?_
          refine lv_icmp_lt (tgt := 100) hx hb dX7_fewest_83 (by decide) (fun c83 => ?_) (fun c83 => ?_)
          · skip
            have ic83 := zlt (a := v81.toInt) (b := to.toInt) rfl rfl c83
            obtain ⟨v100, ev100⟩ : ∃ y : Int32, y = j + 1 := ⟨_, rfl⟩
            refine lv_iinc (v := v100) (lv' := [(4, .int v100), (0, .ref (a 7)), (1, .int x1), (2, .int ro), (3, .int to)]) hx hb dX7_fewest_100 hl (k := 4) rfl (by rw [ev100]; rfl) (by decide) rfl (fun ls hl => ?_)
            have tv100 : v100.toInt = j.toInt + 1 := by rw [ev100, zadd, show (1 : Int32).toInt = 1 from by decide]; omega
            refine lv_goto (tgt := 69) hx hb dX7_fewest_103 (by decide) ?_
            exact ih.2 (ro) (to) (v100) (w7) (w34) (w35) (w36) H locs ls (by first | omega | decide) (g2) (g3) (by first | omega | (rw [show (0 : Int32).toInt = 0 from by decide]; omega)) hP hD hS (lv_sub hl [1, 2, 3, 4, 0] rfl)
          · skip
            have ic83 := znlt (a := v81.toInt) (b := to.toInt) rfl rfl c83
            refine lv_aload_n hx hb dX7_fewest_86 rfl (lv_at hl 0 rfl) ?_
            refine lv_iconst (v := 0) hx hb dX7_fewest_87 (by decide) ?_
            refine lv_iconst (v := 0) hx hb dX7_fewest_88 (by decide) ?_
            refine lv_iload hx hb dX7_fewest_89 (lv_at hl 4 rfl) ?_
            refine zcalli (va_runS (As := [.ref (a 7), .int 0, .int 0, .int j]) (rest := []) ⟨hx, hb, hml, hown, hts⟩ (c_X7_packs l dC dI cB cI cS cII a N hok hn (upC (upC (upC (upC σ 7 w7) 34 w34) 35 w35) 36 w36) H.size (0) (0) (j) hw hv (by decide) (by omega) (by show (w7 3).toInt - (0 : Int32).toInt ≤ _; rw [show (0 : Int32).toInt = 0 from by decide]; omega)) (va_cwS 4 hts gX7_fewest_X7_packs rfl rfl rfl (by decide +kernel) ⟨Nat.le_of_ble_eq_true rfl, Nat.le_of_ble_eq_true rfl⟩) (zpreS (wf := wX a cB cI cS cII) hok hN hS hA hK hP hD) rfl rfl hl.1 rfl (lv_room (Nat.le_of_ble_eq_true rfl)) dX7_fewest_91 ⟨Nat.zero_le _, Nat.zero_le _⟩) hD hS hA (fun v91 σ1 H locs hv91 hP hD hS => ?_)
            obtain ⟨u35_91, u36_91, es9, hv91⟩ := hv91
            subst σ1
            try simp only [show (0 : Int32).toInt = 0 from by decide] at hv91
            have hP : va_P (dC, dI) vwCl (wX a cB cI cS cII (upC (upC (upC (upC σ 7 w7) 34 w34) 35 u35_91) 36 u36_91)) H := hP
            have hD : va_D A (wX a cB cI cS cII (upC (upC (upC (upC σ 7 w7) 34 w34) 35 u35_91) 36 u36_91)) := hD
            refine lv_if_eq (tgt := 100) hx hb dX7_fewest_94 (by decide) (fun c94 => ?_) (fun c94 => ?_)
            · skip
              have ic94 := zeq (a := v91.toInt) (b := 0) rfl (by decide) c94
              obtain ⟨v100, ev100⟩ : ∃ y : Int32, y = j + 1 := ⟨_, rfl⟩
              refine lv_iinc (v := v100) (lv' := [(4, .int v100), (0, .ref (a 7)), (1, .int x1), (2, .int ro), (3, .int to)]) hx hb dX7_fewest_100 hl (k := 4) rfl (by rw [ev100]; rfl) (by decide) rfl (fun ls hl => ?_)
              have tv100 : v100.toInt = j.toInt + 1 := by rw [ev100, zadd, show (1 : Int32).toInt = 1 from by decide]; omega
              refine lv_goto (tgt := 69) hx hb dX7_fewest_103 (by decide) ?_
              exact ih.2 (ro) (to) (v100) (w7) (w34) (u35_91) (u36_91) H locs ls (by first | omega | decide) (g2) (g3) (by first | omega | (rw [show (0 : Int32).toInt = 0 from by decide]; omega)) hP hD hS (lv_sub hl [1, 2, 3, 4, 0] rfl)
            · skip
              have ic94 := zneq (a := v91.toInt) (b := 0) rfl (by decide) c94
              refine lv_iload hx hb dX7_fewest_97 (lv_at hl 4 rfl) ?_
              have hpost : ∃ u7 : Nat → Int32, ∃ u34 : Nat → Int32, ∃ u35 : Nat → Int32, ∃ u36 : Nat → Int32, (upC (upC (upC (upC σ 7 w7) 34 w34) 35 u35_91) 36 u36_91) = (upC (upC (upC (upC σ 7 u7) 34 u34) 35 u35) 36 u36) ∧ (0 ≤ (u7 3).toInt ∧ (u7 3).toInt ≤ 10) := by exact ⟨_, _, _, _, rfl, g2⟩
              exact W.iret (v := j) hx hb hr (fun t9 ht hW => ⟨⟨j, (upC (upC (upC (upC σ 7 w7) 34 w34) 35 u35_91) 36 u36_91), rfl, hpost, by rw [ht]; exact hP, va_K.moved hW.alike hK, hD⟩, hS.F ht⟩) hS.2.2 dX7_fewest_99
  have hl := lv_entry ([.ref (a 7), .int x1]) (n := 6) (Nat.le_of_ble_eq_true rfl)
  rw [lg_entry_eq]
  generalize (lg_sl ([.ref (a 7), .int x1]) ++ List.replicate (6 - (lg_sl ([.ref (a 7), .int x1])).length) Slot.unset).toArray = ls at hl ⊢
  have hl : lv_has ls 6 [(0, .ref (a 7)), (1, .int x1)] := hl
  suffices main : ∀ (H : Heap) (locs : List Loc), va_P (dC, dI) vwCl (wX a cB cI cS cII σ) H → va_D A (wX a cB cI cS cII σ) → va_S A s.heap H locs → W p l e (headSpec wsX7_fewest RM_X7_fewest).room s m ([.ref (a 7), .int x1] : List Value).toArray below meth c H locs 0 0 (MQ below (zQi (dC, dI) (zT cB cI cS cII) (wX a cB cI cS cII) A (fun (r : Int32) (σ1 : Cn) => ∃ u7 : Nat → Int32, ∃ u34 : Nat → Int32, ∃ u35 : Nat → Int32, ∃ u36 : Nat → Int32, σ1 = (upC (upC (upC (upC σ 7 u7) 34 u34) 35 u35) 36 u36) ∧ (0 ≤ (u7 3).toInt ∧ (u7 3).toInt ≤ 10))) ([.ref (a 7), .int x1] : List Value).toArray s 0 0 A) (F0 m 0 ls []) from main s.heap [] hP hD hS
  intro H locs hP hD hS
  refine lv_aload_n hx hb dX7_fewest_0 rfl (lv_at hl 0 rfl) ?_
  refine lv_iload_n hx hb dX7_fewest_1 rfl (lv_at hl 1 rfl) ?_
  refine zcallv (va_runV (As := [.int x1]) (rest := []) ⟨hx, hb, hml, hown, hts⟩ (c_X7_gatherCargo l dC dI cB cI cS cII a N hok hn σ H.size (x1) h0 h2) (cwV 1 hts gX7_fewest_X7_gatherCargo rfl rfl rfl (by decide +kernel) ⟨Nat.le_of_ble_eq_true rfl, Nat.le_of_ble_eq_true rfl⟩) (zpreV (wf := wX a cB cI cS cII) (q0 := 7) (ci := 7) hok hN hS hA hK hP hD rfl rfl) rfl rfl hl.1 rfl (lv_room (Nat.le_of_ble_eq_true rfl)) dX7_fewest_2 ⟨Nat.zero_le _, Nat.zero_le _⟩) hD hS hA (fun σ1 H locs hv2 hP hD hS => ?_)
  obtain ⟨u7_2, u34_2, u35_2, es9, hv2⟩ := hv2
  subst σ1
  have hP : va_P (dC, dI) vwCl (wX a cB cI cS cII (upC (upC (upC σ 7 u7_2) 34 u34_2) 35 u35_2)) H := hP
  have hD : va_D A (wX a cB cI cS cII (upC (upC (upC σ 7 u7_2) 34 u34_2) 35 u35_2)) := hD
  have hw : 0 ≤ (u7_2 3).toInt ∧ (u7_2 3).toInt ≤ 10 := by omega
  have hv : ∀ j : Nat, (j : Int) < (u7_2 3).toInt → 0 ≤ (u34_2 j).toInt ∧ (u34_2 j).toInt < 10 := fun j hj => by have q := hv2.2 j hj; omega
  refine lv_aload_n hx hb dX7_fewest_5 rfl (lv_at hl 0 rfl) ?_
  refine va_get (D := (dC, dI)) (ci := 7) (v := .ref (a 2)) (C := RX7) (T := TX7) (N := 6) hx hb hts in7 hown hK hP 7 rfl rfl 1 (by decide) k25 (fun _ h9 => h9) rfl dX7_fewest_6 ?_
  refine va_get (D := (dC, dI)) (ci := 2) (v := .ref (a 13)) (C := RX2) (T := TX2) (N := 6) hx hb hts in2 hown hK hP 2 rfl rfl 0 (by decide) k33 (fun _ h9 => h9) rfl dX7_fewest_9 ?_
  refine lv_iconst (v := 3) hx hb dX7_fewest_12 (by decide) ?_
  refine va_iald (D := (dC, dI)) (f := σ 13) hx hb hK hP 13 1 rfl rfl (i := 3) (n := 7) (zin (by decide) (by decide)) dX7_fewest_13 ?_
  refine lv_topi (fun v13 ev13 => ?_)
  have tv13 := congrArg Int32.toInt ev13
  refine lv_istore_n (lv' := [(2, .int v13), (0, .ref (a 7)), (1, .int x1)]) hx hb dX7_fewest_14 rfl hl (by decide) rfl (fun ls hl => ?_)
  refine lv_iconst (v := 0) hx hb dX7_fewest_15 (by decide) ?_
  refine lv_istore_n (lv' := [(3, .int 0), (2, .int v13), (0, .ref (a 7)), (1, .int x1)]) hx hb dX7_fewest_16 rfl hl (by decide) rfl (fun ls hl => ?_)
  refine lv_iconst (v := 0) hx hb dX7_fewest_17 (by decide) ?_
  refine lv_istore (lv' := [(4, .int 0), (3, .int 0), (2, .int v13), (0, .ref (a 7)), (1, .int x1)]) hx hb dX7_fewest_18 hl (by decide) rfl (fun ls hl => ?_)
  exact (LP _).1 (v13) (0) (0) (u7_2) (u34_2) (u35_2) H locs ls (by decide) (hw) (hv) (Nat.lt_succ_self _) hP hD hS (lv_sub hl [3, 4, 2, 1, 0] rfl)

abbrev RM_X7_loadOf : Room := { frames := 0, cells := 0, slots := 0, locals := 0 }
set_option maxHeartbeats 4000000 in
set_option maxRecDepth 100000 in
theorem c_X7_loadOf (l : Launch) (dC : Nat → ClassId) (dI : Nat → Nat → Nat) (cB cI cS cII : ClassId) (a : Nat → Nat) (N : (Nat → Prop) → State → Prop) (hok : zNok N) (hn : ∀ A U, N A U → zN U) (σ : Cn) (sz : Nat) (x1 : Int32) (hw : 0 ≤ (σ 7 3).toInt ∧ (σ 7 3).toInt ≤ 10) : Met l yX7_loadOf wsX7_loadOf RM_X7_loadOf (zPc (dC, dI) (zT cB cI cS cII) N (wX a cB cI cS cII) σ sz [.ref (a 7), .int x1]) (zQi (dC, dI) (zT cB cI cS cII) (wX a cB cI cS cII) (va_A (wX a cB cI cS cII σ) sz) (fun (r : Int32) (σ1 : Cn) => σ1 = σ ∧ True)) 0 0 (va_A (wX a cB cI cS cII σ) sz) := by
  refine Met.ofW (cc := cX7_loadOf) (maxL := 3) (ret := (some .int)) (by decide) rfl ?_
  intro p e s m args below meth c s₁ B hml hv
  obtain ⟨rfl, hsz, hP, hK, hD0, hN⟩ := hv
  have hx := B.exec
  have hb := B.bytes
  have hr := B.returns
  have hts := atoms_spec (ws := wsX7_loadOf) B.pre
  have hown : s.vm.findClass RX7 = some m.cls := findClass_of_methodNamed B.named
  have hlocks := B.notSynchronized
  subst hsz
  have hD := hD0.self (sz := s.heap.size)
  generalize hAe : va_A (wX a cB cI cS cII σ) s.heap.size = A at hD hN ⊢
  have hA : ∀ q : Nat, s.heap.size ≤ q → A q := fun q h => by rw [← hAe]; exact Or.inr h
  clear hAe hD0
  have hS : va_S A s.heap s.heap [] := va_S.rf
  have in7 : ∀ w ∈ u_ws RX7 TX7 6, w ∈ wsX7_loadOf := by decide +kernel
  have k18 := hts (.fieldLink RX7 18 "HouseSorted$Vans" "place" "[I") (by decide +kernel)
  have k38 := hts (.fieldLink RX7 38 "HouseSorted$Vans" "size" "I") (by decide +kernel)
  have k9 := hts (.fieldLink RX7 9 "HouseSorted$Vans" "cargo" "[I") (by decide +kernel)
  have LP : ∀ n : Nat, (∀ (j : Int32) (H : Heap) (locs : List Loc) (ls : Array Slot), 0 ≤ j.toInt ∧ j.toInt ≤ 10 → (10 - j.toInt).toNat < n → va_P (dC, dI) vwCl (wX a cB cI cS cII σ) H → va_D A (wX a cB cI cS cII σ) → va_S A s.heap H locs → lv_has ls 3 [(0, .ref (a 7)), (1, .int x1), (2, .int j)] → W p l e (headSpec wsX7_loadOf RM_X7_loadOf).room s m ([.ref (a 7), .int x1] : List Value).toArray below meth c H locs 0 0 (MQ below (zQi (dC, dI) (zT cB cI cS cII) (wX a cB cI cS cII) A (fun (r : Int32) (σ1 : Cn) => σ1 = σ ∧ True)) ([.ref (a 7), .int x1] : List Value).toArray s 0 0 A) (F0 m 2 ls [])) := by
    intro n
    induction n with
    | zero => exact by intros; omega
    | succ n ih =>
      · intro j H locs ls g1 hmu hP hD hS hl
        refine lv_iload_n hx hb dX7_loadOf_2 rfl (lv_at hl 2 rfl) ?_
        refine lv_aload_n hx hb dX7_loadOf_3 rfl (lv_at hl 0 rfl) ?_
        refine va_get (D := (dC, dI)) (ci := 7) (v := .int (σ 7 3)) (C := RX7) (T := TX7) (N := 6) hx hb hts in7 hown hK hP 7 rfl rfl 3 (by decide) k38 (fun _ h9 => h9) rfl dX7_loadOf_4 ?_
        refine lv_icmp_ge (tgt := 33) hx hb dX7_loadOf_7 (by decide) (fun c7 => ?_) (fun c7 => ?_)
        · skip
          have ic7 := zle (a := (σ 7 3).toInt) (b := j.toInt) rfl rfl c7
          refine lv_bipush (v := (-4)) hx hb dX7_loadOf_33 (by decide) ?_
          have hpost : σ = σ ∧ True := by exact ⟨rfl, trivial⟩
          exact W.iret (v := (-4)) hx hb hr (fun t9 ht hW => ⟨⟨(-4), σ, rfl, hpost, by rw [ht]; exact hP, va_K.moved hW.alike hK, hD⟩, hS.F ht⟩) hS.2.2 dX7_loadOf_35
        · skip
          have ic7 := znle (a := (σ 7 3).toInt) (b := j.toInt) rfl rfl c7
          refine lv_aload_n hx hb dX7_loadOf_10 rfl (lv_at hl 0 rfl) ?_
          refine va_get (D := (dC, dI)) (ci := 7) (v := .ref (a 34)) (C := RX7) (T := TX7) (N := 6) hx hb hts in7 hown hK hP 7 rfl rfl 2 (by decide) k9 (fun _ h9 => h9) rfl dX7_loadOf_11 ?_
          refine lv_iload_n hx hb dX7_loadOf_14 rfl (lv_at hl 2 rfl) ?_
          refine va_iald (D := (dC, dI)) (f := σ 34) hx hb hK hP 34 1 rfl rfl (i := j) (n := 10) (zin (by omega) (by omega)) dX7_loadOf_15 ?_
          refine lv_topi (fun v15 ev15 => ?_)
          have tv15 := congrArg Int32.toInt ev15
          refine lv_iload_n hx hb dX7_loadOf_16 rfl (lv_at hl 1 rfl) ?_
          refine lv_icmp_ne (tgt := 27) hx hb dX7_loadOf_17 (by decide) (fun c17 => ?_) (fun c17 => ?_)
          · skip
            have ic17 := zneq (a := v15.toInt) (b := x1.toInt) rfl rfl c17
            obtain ⟨v27, ev27⟩ : ∃ y : Int32, y = j + 1 := ⟨_, rfl⟩
            refine lv_iinc (v := v27) (lv' := [(2, .int v27), (0, .ref (a 7)), (1, .int x1)]) hx hb dX7_loadOf_27 hl (k := 2) rfl (by rw [ev27]; rfl) (by decide) rfl (fun ls hl => ?_)
            have tv27 : v27.toInt = j.toInt + 1 := by rw [ev27, zadd, show (1 : Int32).toInt = 1 from by decide]; omega
            refine lv_goto (tgt := 2) hx hb dX7_loadOf_30 (by decide) ?_
            exact ih (v27)  H locs ls (by omega) (by omega) hP hD hS (lv_sub hl [1, 2, 0] rfl)
          · skip
            have ic17 := zeq (a := v15.toInt) (b := x1.toInt) rfl rfl c17
            refine lv_aload_n hx hb dX7_loadOf_20 rfl (lv_at hl 0 rfl) ?_
            refine va_get (D := (dC, dI)) (ci := 7) (v := .ref (a 36)) (C := RX7) (T := TX7) (N := 6) hx hb hts in7 hown hK hP 7 rfl rfl 5 (by decide) k18 (fun _ h9 => h9) rfl dX7_loadOf_21 ?_
            refine lv_iload_n hx hb dX7_loadOf_24 rfl (lv_at hl 2 rfl) ?_
            refine va_iald (D := (dC, dI)) (f := σ 36) hx hb hK hP 36 1 rfl rfl (i := j) (n := 10) (zin (by omega) (by omega)) dX7_loadOf_25 ?_
            refine lv_topi (fun v25 ev25 => ?_)
            have tv25 := congrArg Int32.toInt ev25
            have hpost : σ = σ ∧ True := by exact ⟨rfl, trivial⟩
            exact W.iret (v := v25) hx hb hr (fun t9 ht hW => ⟨⟨v25, σ, rfl, hpost, by rw [ht]; exact hP, va_K.moved hW.alike hK, hD⟩, hS.F ht⟩) hS.2.2 dX7_loadOf_26
  have hl := lv_entry ([.ref (a 7), .int x1]) (n := 3) (Nat.le_of_ble_eq_true rfl)
  rw [lg_entry_eq]
  generalize (lg_sl ([.ref (a 7), .int x1]) ++ List.replicate (3 - (lg_sl ([.ref (a 7), .int x1])).length) Slot.unset).toArray = ls at hl ⊢
  have hl : lv_has ls 3 [(0, .ref (a 7)), (1, .int x1)] := hl
  suffices main : ∀ (H : Heap) (locs : List Loc), va_P (dC, dI) vwCl (wX a cB cI cS cII σ) H → va_D A (wX a cB cI cS cII σ) → va_S A s.heap H locs → W p l e (headSpec wsX7_loadOf RM_X7_loadOf).room s m ([.ref (a 7), .int x1] : List Value).toArray below meth c H locs 0 0 (MQ below (zQi (dC, dI) (zT cB cI cS cII) (wX a cB cI cS cII) A (fun (r : Int32) (σ1 : Cn) => σ1 = σ ∧ True)) ([.ref (a 7), .int x1] : List Value).toArray s 0 0 A) (F0 m 0 ls []) from main s.heap [] hP hD hS
  intro H locs hP hD hS
  refine lv_iconst (v := 0) hx hb dX7_loadOf_0 (by decide) ?_
  refine lv_istore_n (lv' := [(2, .int 0), (0, .ref (a 7)), (1, .int x1)]) hx hb dX7_loadOf_1 rfl hl (by decide) rfl (fun ls hl => ?_)
  exact (LP _) (0)  H locs ls (by decide) (Nat.lt_succ_self _) hP hD hS (lv_sub hl [1, 2, 0] rfl)

