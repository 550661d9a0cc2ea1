abbrev RM_X2_misfit : Room := { frames := 0, cells := 0, slots := 0, locals := 0 }
set_option maxHeartbeats 4000000 in
set_option maxRecDepth 100000 in
theorem c_X2_misfit (l : Launch) (dC : Nat → ClassId) (dI : Nat → Nat → Nat) (cB cI cS cII : ClassId) (a : Nat → Nat) (N : (Nat → Prop) → State → Prop) (hok : zNok N) (hn : ∀ A U, N A U → zN U) (σ : Cn) (sz : Nat)   : Met l yX2_misfit wsX2_misfit RM_X2_misfit (zPc (dC, dI) (zT cB cI cS cII) N (wX a cB cI cS cII) σ sz [.ref (a 2)]) (zQi (dC, dI) (zT cB cI cS cII) (wX a cB cI cS cII) (va_A (wX a cB cI cS cII σ) sz) (fun (r : Int32) (σ1 : Cn) => σ1 = σ ∧ ((r : Int32).toInt = 1 ∨ (r : Int32).toInt = 2))) 0 0 (va_A (wX a cB cI cS cII σ) sz) := by
  refine Met.ofW (cc := cX2_misfit) (maxL := 1) (ret := (some .int)) (by decide) rfl ?_
  intro p e s m args below meth c s₁ B hml hv
  obtain ⟨rfl, hsz, hP, hK, hD0, hN⟩ := hv
  have hx := B.exec
  have hb := B.bytes
  have hr := B.returns
  have hts := atoms_spec (ws := wsX2_misfit) B.pre
  have hown : s.vm.findClass RX2 = some m.cls := findClass_of_methodNamed B.named
  have hlocks := B.notSynchronized
  subst hsz
  have hD := hD0.self (sz := s.heap.size)
  generalize hAe : va_A (wX a cB cI cS cII σ) s.heap.size = A at hD hN ⊢
  have hA : ∀ q : Nat, s.heap.size ≤ q → A q := fun q h => by rw [← hAe]; exact Or.inr h
  clear hAe hD0
  have hS : va_S A s.heap s.heap [] := va_S.rf
  have in2 : ∀ w ∈ u_ws RX2 TX2 6, w ∈ wsX2_misfit := by decide +kernel
  have in6 : ∀ w ∈ u_ws RX6 TX6 5, w ∈ wsX2_misfit := by decide +kernel
  have k31 := hts (.fieldLink RX2 31 "HouseSorted$LawBook" "reader" "LHouseSorted$TokenReader;") (by decide +kernel)
  have k54 := hts (.fieldLink RX2 54 "HouseSorted$TokenReader" "kind" "I") (by decide +kernel)
  have hl := lv_entry ([.ref (a 2)]) (n := 1) (Nat.le_of_ble_eq_true rfl)
  rw [lg_entry_eq]
  generalize (lg_sl ([.ref (a 2)]) ++ List.replicate (1 - (lg_sl ([.ref (a 2)])).length) Slot.unset).toArray = ls at hl ⊢
  have hl : lv_has ls 1 [(0, .ref (a 2))] := hl
  suffices main : ∀ (H : Heap) (locs : List Loc), va_P (dC, dI) vwCl (wX a cB cI cS cII σ) H → va_D A (wX a cB cI cS cII σ) → va_S A s.heap H locs → W p l e (headSpec wsX2_misfit RM_X2_misfit).room s m ([.ref (a 2)] : List Value).toArray below meth c H locs 0 0 (MQ below (zQi (dC, dI) (zT cB cI cS cII) (wX a cB cI cS cII) A (fun (r : Int32) (σ1 : Cn) => σ1 = σ ∧ ((r : Int32).toInt = 1 ∨ (r : Int32).toInt = 2))) ([.ref (a 2)] : List Value).toArray s 0 0 A) (F0 m 0 ls []) from main s.heap [] hP hD hS
  intro H locs hP hD hS
  refine lv_aload_n hx hb dX2_misfit_0 rfl (lv_at hl 0 rfl) ?_
  refine va_get (D := (dC, dI)) (ci := 2) (v := .ref (a 3)) (C := RX2) (T := TX2) (N := 6) hx hb hts in2 hown hK hP 2 rfl rfl 3 (by decide) k31 (fun _ h9 => h9) rfl dX2_misfit_1 ?_
  refine va_get (D := (dC, dI)) (ci := 6) (v := .int (σ 3 3)) (C := RX6) (T := TX6) (N := 5) hx hb hts in6 hown hK hP 3 rfl rfl 3 (by decide) k54 (fun _ h9 => h9) rfl dX2_misfit_4 ?_
  refine lv_iconst (v := 4) hx hb dX2_misfit_7 (by decide) ?_
  refine lv_icmp_ne (tgt := 15) hx hb dX2_misfit_8 (by decide) (fun c8 => ?_) (fun c8 => ?_)
  · skip
    have ic8 := zneq (a := (σ 3 3).toInt) (b := 4) rfl (by decide) c8
    refine lv_iconst (v := 2) hx hb dX2_misfit_15 (by decide) ?_
    have hpost : σ = σ ∧ ((2 : Int32).toInt = 1 ∨ (2 : Int32).toInt = 2) := by refine ⟨by first | rfl | (funext j; simp only [upC, upR]; (repeat' split) <;> first | rfl | (simp_all; done) | (congr 1; omega) | (exfalso; omega)), ?_⟩; decide
    exact W.iret (v := 2) hx hb hr (fun t9 ht hW => ⟨⟨2, σ, rfl, hpost, by rw [ht]; exact hP, va_K.moved hW.alike hK, hD⟩, hS.F ht⟩) hS.2.2 dX2_misfit_16
  · skip
    have ic8 := zeq (a := (σ 3 3).toInt) (b := 4) rfl (by decide) c8
    refine lv_iconst (v := 1) hx hb dX2_misfit_11 (by decide) ?_
    refine lv_goto (tgt := 16) hx hb dX2_misfit_12 (by decide) ?_
    have hpost : σ = σ ∧ ((1 : Int32).toInt = 1 ∨ (1 : Int32).toInt = 2) := by refine ⟨by first | rfl | (funext j; simp only [upC, upR]; (repeat' split) <;> first | rfl | (simp_all; done) | (congr 1; omega) | (exfalso; omega)), ?_⟩; decide
    exact W.iret (v := 1) hx hb hr (fun t9 ht hW => ⟨⟨1, σ, rfl, hpost, by rw [ht]; exact hP, va_K.moved hW.alike hK, hD⟩, hS.F ht⟩) hS.2.2 dX2_misfit_16

