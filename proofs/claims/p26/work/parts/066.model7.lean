abbrev RM_X9_readLaw : Room := { frames := 5, cells := 0, slots := 0, locals := 107 }
set_option maxHeartbeats 4000000 in
set_option maxRecDepth 100000 in
theorem c_X9_readLaw (l : Launch) (dC : Nat → ClassId) (dI : Nat → Nat → Nat) (cI : ClassId) (a : Nat → Nat) (N : (Nat → Prop) → State → Prop) (hok : zNok N) (σ : Cn) (sz : Nat)  (h3 : 0 ≤ (σ 0 1).toInt ∧ (σ 0 1).toInt ≤ 160) (ha : 0 ≤ (σ 0 2).toInt ∧ (σ 0 2).toInt ≤ 160) (hf : 0 ≤ (σ 0 3).toInt ∧ (σ 0 3).toInt ≤ 160) (hx0 : 0 ≤ (σ 0 6).toInt) (hj : (σ 0 6).toInt = 0 → (σ 0 4).toInt = 1 → 0 ≤ (σ 0 5).toInt) : Met l yX9_readLaw wsX9_readLaw RM_X9_readLaw (zPc (dC, dI) [(cI, .int)] N (wM a cI) σ sz [.ref (a 0)]) (zQv (dC, dI) [(cI, .int)] (wM a cI) (va_A (wM a cI σ) sz) (fun (σ1 : Cn) => ∃ n2 : Int32, ∃ n3 : Int32, ∃ n4 : Int32, ∃ n5 : Int32, ∃ n6 : Int32, ∃ n7 : Int32, ∃ u3 : Nat → Int32, σ1 = (upC (upC σ 0 (upd (upd (upd (upd (upd (upd (σ 0) 2 n2) 3 n3) 4 n4) 5 n5) 6 n6) 7 n7)) 3 u3) ∧ (0 ≤ n3.toInt ∧ n3.toInt ≤ 160) ∧ ((σ 0 2).toInt ≤ n2.toInt ∧ n2.toInt ≤ 160) ∧ 0 ≤ n6.toInt ∧ (n6.toInt = 0 → (σ 0 2).toInt < n2.toInt) ∧ (n6.toInt = 0 → n4.toInt = 1 → 0 ≤ n5.toInt))) 0 0 (va_A (wM a cI σ) sz) := by
  refine Met.ofW (cc := cX9_readLaw) (maxL := 3) (ret := none) (by decide) rfl ?_
  intro p e s m args below meth c s₁ B hml hv
  obtain ⟨rfl, hsz, hP, hK, hD0, hN⟩ := hv
  have hx := B.exec
  have hb := B.bytes
  have hr := B.returns
  have hts := atoms_spec (ws := wsX9_readLaw) B.pre
  have hown : s.vm.findClass RX9 = some m.cls := findClass_of_methodNamed B.named
  have hlocks := B.notSynchronized
  subst hsz
  have hD := hD0.self (sz := s.heap.size)
  generalize hAe : va_A (wM a cI σ) s.heap.size = A at hD hN ⊢
  have hA : ∀ q : Nat, s.heap.size ≤ q → A q := fun q h => by rw [← hAe]; exact Or.inr h
  clear hAe hD0
  have hS : va_S A s.heap s.heap [] := va_S.rf
  have in9 : ∀ w ∈ u_ws RX9 TX9 28, w ∈ wsX9_readLaw := by decide +kernel
  have k102 := hts (.fieldLink RX9 102 "HouseSortedModel" "value" "I") (by decide +kernel)
  have k16 := hts (.fieldLink RX9 16 "HouseSortedModel" "draft" "[I") (by decide +kernel)
  have k71 := hts (.fieldLink RX9 71 "HouseSortedModel" "fault" "I") (by decide +kernel)
  have k91 := hts (.fieldLink RX9 91 "HouseSortedModel" "sort" "I") (by decide +kernel)
  have LP : ∀ n : Nat, (∀ (m2 : Int32) (m3 : Int32) (m4 : Int32) (m5 : Int32) (m6 : Int32) (m7 : Int32) (H : Heap) (locs : List Loc) (ls : Array Slot), (0 ≤ m3.toInt ∧ m3.toInt ≤ 160) ∧ ((σ 0 2).toInt ≤ m2.toInt ∧ m2.toInt ≤ 160) ∧ 0 ≤ m6.toInt → (m6.toInt = 0 → 0 ≤ m5.toInt ∧ m5.toInt ≤ 6) → (σ 0 2).toInt ≤ m2.toInt → 100 < n → va_P (dC, dI) vwCl (wM a cI (upC σ 0 (upd (upd (upd (upd (upd (upd (σ 0) 2 m2) 3 m3) 4 m4) 5 m5) 6 m6) 7 m7))) H → va_D A (wM a cI (upC σ 0 (upd (upd (upd (upd (upd (upd (σ 0) 2 m2) 3 m3) 4 m4) 5 m5) 6 m6) 7 m7))) → va_S A s.heap H locs → lv_has ls 3 [(0, .ref (a 0))] → W p l e (headSpec wsX9_readLaw RM_X9_readLaw).room s m ([.ref (a 0)] : List Value).toArray below meth c H locs 0 0 (MQ below (zQv (dC, dI) [(cI, .int)] (wM a cI) A (fun (σ1 : Cn) => ∃ n2 : Int32, ∃ n3 : Int32, ∃ n4 : Int32, ∃ n5 : Int32, ∃ n6 : Int32, ∃ n7 : Int32, ∃ u3 : Nat → Int32, σ1 = (upC (upC σ 0 (upd (upd (upd (upd (upd (upd (σ 0) 2 n2) 3 n3) 4 n4) 5 n5) 6 n6) 7 n7)) 3 u3) ∧ (0 ≤ n3.toInt ∧ n3.toInt ≤ 160) ∧ ((σ 0 2).toInt ≤ n2.toInt ∧ n2.toInt ≤ 160) ∧ 0 ≤ n6.toInt ∧ (n6.toInt = 0 → (σ 0 2).toInt < n2.toInt) ∧ (n6.toInt = 0 → n4.toInt = 1 → 0 ≤ n5.toInt))) ([.ref (a 0)] : List Value).toArray s 0 0 A) (F0 m 27 ls [])) ∧ (∀ (la : Int32) (m2 : Int32) (m3 : Int32) (m4 : Int32) (m5 : Int32) (m6 : Int32) (m7 : Int32) (H : Heap) (locs : List Loc) (ls : Array Slot), (0 ≤ m3.toInt ∧ m3.toInt ≤ 160) ∧ ((σ 0 2).toInt ≤ m2.toInt ∧ m2.toInt ≤ 160) ∧ 0 ≤ m6.toInt → 0 ≤ la.toInt ∧ la.toInt ≤ 6 → 90 < n → va_P (dC, dI) vwCl (wM a cI (upC σ 0 (upd (upd (upd (upd (upd (upd (σ 0) 2 m2) 3 m3) 4 m4) 5 m5) 6 m6) 7 m7))) H → va_D A (wM a cI (upC σ 0 (upd (upd (upd (upd (upd (upd (σ 0) 2 m2) 3 m3) 4 m4) 5 m5) 6 m6) 7 m7))) → va_S A s.heap H locs → lv_has ls 3 [(0, .ref (a 0)), (1, .int la)] → W p l e (headSpec wsX9_readLaw RM_X9_readLaw).room s m ([.ref (a 0)] : List Value).toArray below meth c H locs 0 0 (MQ below (zQv (dC, dI) [(cI, .int)] (wM a cI) A (fun (σ1 : Cn) => ∃ n2 : Int32, ∃ n3 : Int32, ∃ n4 : Int32, ∃ n5 : Int32, ∃ n6 : Int32, ∃ n7 : Int32, ∃ u3 : Nat → Int32, σ1 = (upC (upC σ 0 (upd (upd (upd (upd (upd (upd (σ 0) 2 n2) 3 n3) 4 n4) 5 n5) 6 n6) 7 n7)) 3 u3) ∧ (0 ≤ n3.toInt ∧ n3.toInt ≤ 160) ∧ ((σ 0 2).toInt ≤ n2.toInt ∧ n2.toInt ≤ 160) ∧ 0 ≤ n6.toInt ∧ (n6.toInt = 0 → (σ 0 2).toInt < n2.toInt) ∧ (n6.toInt = 0 → n4.toInt = 1 → 0 ≤ n5.toInt))) ([.ref (a 0)] : List Value).toArray s 0 0 A) (F0 m 61 ls [])) ∧ (∀ (la : Int32) (m2 : Int32) (m3 : Int32) (m4 : Int32) (m5 : Int32) (m6 : Int32) (m7 : Int32) (H : Heap) (locs : List Loc) (ls : Array Slot), (0 ≤ m3.toInt ∧ m3.toInt ≤ 160) ∧ ((σ 0 2).toInt ≤ m2.toInt ∧ m2.toInt ≤ 160) ∧ 0 ≤ m6.toInt → 0 ≤ la.toInt ∧ la.toInt ≤ 6 → (m6.toInt = 0 → (σ 0 2).toInt < m2.toInt) → 80 < n → va_P (dC, dI) vwCl (wM a cI (upC σ 0 (upd (upd (upd (upd (upd (upd (σ 0) 2 m2) 3 m3) 4 m4) 5 m5) 6 m6) 7 m7))) H → va_D A (wM a cI (upC σ 0 (upd (upd (upd (upd (upd (upd (σ 0) 2 m2) 3 m3) 4 m4) 5 m5) 6 m6) 7 m7))) → va_S A s.heap H locs → lv_has ls 3 [(0, .ref (a 0)), (1, .int la)] → W p l e (headSpec wsX9_readLaw RM_X9_readLaw).room s m ([.ref (a 0)] : List Value).toArray below meth c H locs 0 0 (MQ below (zQv (dC, dI) [(cI, .int)] (wM a cI) A (fun (σ1 : Cn) => ∃ n2 : Int32, ∃ n3 : Int32, ∃ n4 : Int32, ∃ n5 : Int32, ∃ n6 : Int32, ∃ n7 : Int32, ∃ u3 : Nat → Int32, σ1 = (upC (upC σ 0 (upd (upd (upd (upd (upd (upd (σ 0) 2 n2) 3 n3) 4 n4) 5 n5) 6 n6) 7 n7)) 3 u3) ∧ (0 ≤ n3.toInt ∧ n3.toInt ≤ 160) ∧ ((σ 0 2).toInt ≤ n2.toInt ∧ n2.toInt ≤ 160) ∧ 0 ≤ n6.toInt ∧ (n6.toInt = 0 → (σ 0 2).toInt < n2.toInt) ∧ (n6.toInt = 0 → n4.toInt = 1 → 0 ≤ n5.toInt))) ([.ref (a 0)] : List Value).toArray s 0 0 A) (F0 m 112 ls [])) ∧ (∀ (la : Int32) (vv : Int32) (m2 : Int32) (m3 : Int32) (m4 : Int32) (m5 : Int32) (m6 : Int32) (m7 : Int32) (H : Heap) (locs : List Loc) (ls : Array Slot), (0 ≤ m3.toInt ∧ m3.toInt ≤ 160) ∧ ((σ 0 2).toInt ≤ m2.toInt ∧ m2.toInt ≤ 160) ∧ 0 ≤ m6.toInt → 0 ≤ la.toInt ∧ la.toInt ≤ 6 → (m6.toInt = 0 → (σ 0 2).toInt < m2.toInt) → 80 < n → va_P (dC, dI) vwCl (wM a cI (upC σ 0 (upd (upd (upd (upd (upd (upd (σ 0) 2 m2) 3 m3) 4 m4) 5 m5) 6 m6) 7 m7))) H → va_D A (wM a cI (upC σ 0 (upd (upd (upd (upd (upd (upd (σ 0) 2 m2) 3 m3) 4 m4) 5 m5) 6 m6) 7 m7))) → va_S A s.heap H locs → lv_has ls 3 [(0, .ref (a 0)), (1, .int la), (2, .int vv)] → W p l e (headSpec wsX9_readLaw RM_X9_readLaw).room s m ([.ref (a 0)] : List Value).toArray below meth c H locs 0 0 (MQ below (zQv (dC, dI) [(cI, .int)] (wM a cI) A (fun (σ1 : Cn) => ∃ n2 : Int32, ∃ n3 : Int32, ∃ n4 : Int32, ∃ n5 : Int32, ∃ n6 : Int32, ∃ n7 : Int32, ∃ u3 : Nat → Int32, σ1 = (upC (upC σ 0 (upd (upd (upd (upd (upd (upd (σ 0) 2 n2) 3 n3) 4 n4) 5 n5) 6 n6) 7 n7)) 3 u3) ∧ (0 ≤ n3.toInt ∧ n3.toInt ≤ 160) ∧ ((σ 0 2).toInt ≤ n2.toInt ∧ n2.toInt ≤ 160) ∧ 0 ≤ n6.toInt ∧ (n6.toInt = 0 → (σ 0 2).toInt < n2.toInt) ∧ (n6.toInt = 0 → n4.toInt = 1 → 0 ≤ n5.toInt))) ([.ref (a 0)] : List Value).toArray s 0 0 A) (F0 m 148 ls [])) ∧ (∀ (la : Int32) (vv : Int32) (m2 : Int32) (m3 : Int32) (m4 : Int32) (m5 : Int32) (m6 : Int32) (m7 : Int32) (H : Heap) (locs : List Loc) (ls : Array Slot), (0 ≤ m3.toInt ∧ m3.toInt ≤ 160) ∧ ((σ 0 2).toInt ≤ m2.toInt ∧ m2.toInt ≤ 160) ∧ 0 ≤ m6.toInt → 0 ≤ la.toInt ∧ la.toInt ≤ 6 → (m6.toInt = 0 → (σ 0 2).toInt < m2.toInt) → 70 < n → va_P (dC, dI) vwCl (wM a cI (upC σ 0 (upd (upd (upd (upd (upd (upd (σ 0) 2 m2) 3 m3) 4 m4) 5 m5) 6 m6) 7 m7))) H → va_D A (wM a cI (upC σ 0 (upd (upd (upd (upd (upd (upd (σ 0) 2 m2) 3 m3) 4 m4) 5 m5) 6 m6) 7 m7))) → va_S A s.heap H locs → lv_has ls 3 [(0, .ref (a 0)), (1, .int la), (2, .int vv)] → W p l e (headSpec wsX9_readLaw RM_X9_readLaw).room s m ([.ref (a 0)] : List Value).toArray below meth c H locs 0 0 (MQ below (zQv (dC, dI) [(cI, .int)] (wM a cI) A (fun (σ1 : Cn) => ∃ n2 : Int32, ∃ n3 : Int32, ∃ n4 : Int32, ∃ n5 : Int32, ∃ n6 : Int32, ∃ n7 : Int32, ∃ u3 : Nat → Int32, σ1 = (upC (upC σ 0 (upd (upd (upd (upd (upd (upd (σ 0) 2 n2) 3 n3) 4 n4) 5 n5) 6 n6) 7 n7)) 3 u3) ∧ (0 ≤ n3.toInt ∧ n3.toInt ≤ 160) ∧ ((σ 0 2).toInt ≤ n2.toInt ∧ n2.toInt ≤ 160) ∧ 0 ≤ n6.toInt ∧ (n6.toInt = 0 → (σ 0 2).toInt < n2.toInt) ∧ (n6.toInt = 0 → n4.toInt = 1 → 0 ≤ n5.toInt))) ([.ref (a 0)] : List Value).toArray s 0 0 A) (F0 m 175 ls [])) ∧ (∀ (m2 : Int32) (m3 : Int32) (m4 : Int32) (m5 : Int32) (m6 : Int32) (m7 : Int32) (w3 : Nat → Int32) (H : Heap) (locs : List Loc) (ls : Array Slot), (0 ≤ m3.toInt ∧ m3.toInt ≤ 160) ∧ ((σ 0 2).toInt ≤ m2.toInt ∧ m2.toInt ≤ 160) ∧ 0 ≤ m6.toInt → (m6.toInt = 0 → (σ 0 2).toInt < m2.toInt) → 60 < n → va_P (dC, dI) vwCl (wM a cI (upC (upC σ 0 (upd (upd (upd (upd (upd (upd (σ 0) 2 m2) 3 m3) 4 m4) 5 m5) 6 m6) 7 m7)) 3 w3)) H → va_D A (wM a cI (upC (upC σ 0 (upd (upd (upd (upd (upd (upd (σ 0) 2 m2) 3 m3) 4 m4) 5 m5) 6 m6) 7 m7)) 3 w3)) → va_S A s.heap H locs → lv_has ls 3 [(0, .ref (a 0))] → W p l e (headSpec wsX9_readLaw RM_X9_readLaw).room s m ([.ref (a 0)] : List Value).toArray below meth c H locs 0 0 (MQ below (zQv (dC, dI) [(cI, .int)] (wM a cI) A (fun (σ1 : Cn) => ∃ n2 : Int32, ∃ n3 : Int32, ∃ n4 : Int32, ∃ n5 : Int32, ∃ n6 : Int32, ∃ n7 : Int32, ∃ u3 : Nat → Int32, σ1 = (upC (upC σ 0 (upd (upd (upd (upd (upd (upd (σ 0) 2 n2) 3 n3) 4 n4) 5 n5) 6 n6) 7 n7)) 3 u3) ∧ (0 ≤ n3.toInt ∧ n3.toInt ≤ 160) ∧ ((σ 0 2).toInt ≤ n2.toInt ∧ n2.toInt ≤ 160) ∧ 0 ≤ n6.toInt ∧ (n6.toInt = 0 → (σ 0 2).toInt < n2.toInt) ∧ (n6.toInt = 0 → n4.toInt = 1 → 0 ≤ n5.toInt))) ([.ref (a 0)] : List Value).toArray s 0 0 A) (F0 m 211 ls [])) := by
    intro n
    induction n with
    | zero => exact ⟨(by intros; omega), (by intros; omega), (by intros; omega), (by intros; omega), (by intros; omega), (by intros; omega)⟩
    | succ n ih =>
      refine ⟨?_, ?_, ?_, ?_, ?_, ?_⟩
      · intro m2 m3 m4 m5 m6 m7 H locs ls g1 g2 g3 hmu hP hD hS hl
        refine lv_aload_n hx hb dX9_readLaw_27 rfl (lv_at hl 0 rfl) ?_
        refine va_get (D := (dC, dI)) (ci := 9) (v := .int m5) (C := RX9) (T := TX9) (N := 28) hx hb hts in9 hown hK hP 0 rfl rfl 5 (by decide) k102 (fun _ h9 => h9) rfl dX9_readLaw_28 ?_
        refine lv_istore_n (lv' := [(1, .int m5), (0, .ref (a 0))]) hx hb dX9_readLaw_31 rfl hl (by decide) rfl (fun ls hl => ?_)
        refine lv_aload_n hx hb dX9_readLaw_32 rfl (lv_at hl 1 rfl) ?_
        refine va_get (D := (dC, dI)) (ci := 9) (v := .int m6) (C := RX9) (T := TX9) (N := 28) hx hb hts in9 hown hK hP 0 rfl rfl 6 (by decide) k71 (fun _ h9 => h9) rfl dX9_readLaw_33 ?_
        refine lv_if_le (tgt := 40) hx hb dX9_readLaw_36 (by decide) (fun c36 => ?_) (fun c36 => ?_)
        · skip
          have ic36 := zle (a := m6.toInt) (b := 0) rfl (by decide) c36
          refine lv_aload_n hx hb dX9_readLaw_40 rfl (lv_at hl 1 rfl) ?_
          refine lv_aload_n hx hb dX9_readLaw_41 rfl (lv_at hl 1 rfl) ?_
          refine va_get (D := (dC, dI)) (ci := 9) (v := .ref (a 3)) (C := RX9) (T := TX9) (N := 28) hx hb hts in9 hown hK hP 0 rfl rfl 9 (by decide) k16 (fun _ h9 => h9) rfl dX9_readLaw_42 ?_
          refine lv_iload_n hx hb dX9_readLaw_45 rfl (lv_at hl 0 rfl) ?_
          refine va_iald (D := (dC, dI)) (f := σ 3) hx hb hK hP 3 0 rfl rfl (i := m5) (n := 7) (zin (by omega) (by omega)) dX9_readLaw_46 ?_
          refine lv_topi (fun v46 ev46 => ?_)
          have tv46 := congrArg Int32.toInt ev46
          refine lv_bipush (v := (-4)) hx hb dX9_readLaw_47 (by decide) ?_
          refine lv_icmp_ne (tgt := 56) hx hb dX9_readLaw_49 (by decide) (fun c49 => ?_) (fun c49 => ?_)
          · skip
            have ic49 := zneq (a := v46.toInt) (b := (-4)) rfl (by decide) c49
            refine lv_iconst (v := 0) hx hb dX9_readLaw_56 (by decide) ?_
            refine lv_iconst (v := 4) hx hb dX9_readLaw_57 (by decide) ?_
            refine zcallv (va_runV (As := [.int 0, .int 4]) (rest := []) ⟨hx, hb, hml, hown, hts⟩ (c_X9_wants l dC dI cI a N hok (upC σ 0 (upd (upd (upd (upd (upd (upd (σ 0) 2 m2) 3 m3) 4 m4) 5 m5) 6 m6) 7 m7)) H.size (0) (4) ) (cwV 2 hts gX9_readLaw_X9_wants rfl rfl rfl (by decide +kernel) ⟨Nat.le_of_ble_eq_true rfl, Nat.le_of_ble_eq_true rfl⟩) (zpreV (wf := wM a cI) (q0 := 0) (ci := 9) hok hN hS hA hK hP hD rfl rfl) rfl rfl hl.1 rfl (lv_room (Nat.le_of_ble_eq_true rfl)) dX9_readLaw_58 ⟨Nat.zero_le _, Nat.zero_le _⟩) hD hS hA (fun σ1 H locs hv58 hP hD hS => ?_)
            obtain ⟨n6_58, n7_58, es9, hv58⟩ := hv58
            subst σ1
            have hP : va_P (dC, dI) vwCl (wM a cI (upC σ 0 (upd (upd (upd (upd (upd (upd (σ 0) 2 m2) 3 m3) 4 m4) 5 m5) 6 n6_58) 7 n7_58))) H := hP
            have hD : va_D A (wM a cI (upC σ 0 (upd (upd (upd (upd (upd (upd (σ 0) 2 m2) 3 m3) 4 m4) 5 m5) 6 n6_58) 7 n7_58))) := hD
            replace hv58 : ((¬ (0 : Int32).toInt = 0 ∧ n6_58 = (m6)) ∨ ((0 : Int32).toInt = 0 ∧ ((m6)).toInt = 0 ∧ n6_58 = (4 : Int32)) ∨ ((0 : Int32).toInt = 0 ∧ ¬ ((m6)).toInt = 0 ∧ n6_58 = (m6))) := hv58
            replace hv58 : (¬ (0 : Int) = 0 ∧ n6_58.toInt = m6.toInt) ∨ ((0 : Int) = 0 ∧ m6.toInt = 0 ∧ n6_58.toInt = 4) ∨ ((0 : Int) = 0 ∧ ¬ m6.toInt = 0 ∧ n6_58.toInt = m6.toInt) := by rcases hv58 with q | q | q; exact Or.inl ⟨by exact q.1, by rw [q.2]⟩; exact Or.inr (Or.inl ⟨by exact q.1, q.2.1, by rw [q.2.2]; decide⟩); exact Or.inr (Or.inr ⟨by exact q.1, q.2.1, by rw [q.2.2]⟩)
            exact ih.2.1 (m5) (m2) (m3) (m4) (m5) (n6_58) (n7_58) H locs ls (by omega) (by omega) (by omega) hP hD hS (lv_sub hl [1, 0] rfl)
          · skip
            have ic49 := zeq (a := v46.toInt) (b := (-4)) rfl (by decide) c49
            refine lv_iconst (v := 1) hx hb dX9_readLaw_52 (by decide) ?_
            refine lv_goto (tgt := 57) hx hb dX9_readLaw_53 (by decide) ?_
            refine lv_iconst (v := 4) hx hb dX9_readLaw_57 (by decide) ?_
            refine zcallv (va_runV (As := [.int 1, .int 4]) (rest := []) ⟨hx, hb, hml, hown, hts⟩ (c_X9_wants l dC dI cI a N hok (upC σ 0 (upd (upd (upd (upd (upd (upd (σ 0) 2 m2) 3 m3) 4 m4) 5 m5) 6 m6) 7 m7)) H.size (1) (4) ) (cwV 2 hts gX9_readLaw_X9_wants rfl rfl rfl (by decide +kernel) ⟨Nat.le_of_ble_eq_true rfl, Nat.le_of_ble_eq_true rfl⟩) (zpreV (wf := wM a cI) (q0 := 0) (ci := 9) hok hN hS hA hK hP hD rfl rfl) rfl rfl hl.1 rfl (lv_room (Nat.le_of_ble_eq_true rfl)) dX9_readLaw_58 ⟨Nat.zero_le _, Nat.zero_le _⟩) hD hS hA (fun σ1 H locs hv58 hP hD hS => ?_)
            obtain ⟨n6_58, n7_58, es9, hv58⟩ := hv58
            subst σ1
            have hP : va_P (dC, dI) vwCl (wM a cI (upC σ 0 (upd (upd (upd (upd (upd (upd (σ 0) 2 m2) 3 m3) 4 m4) 5 m5) 6 n6_58) 7 n7_58))) H := hP
            have hD : va_D A (wM a cI (upC σ 0 (upd (upd (upd (upd (upd (upd (σ 0) 2 m2) 3 m3) 4 m4) 5 m5) 6 n6_58) 7 n7_58))) := hD
            replace hv58 : ((¬ (1 : Int32).toInt = 0 ∧ n6_58 = (m6)) ∨ ((1 : Int32).toInt = 0 ∧ ((m6)).toInt = 0 ∧ n6_58 = (4 : Int32)) ∨ ((1 : Int32).toInt = 0 ∧ ¬ ((m6)).toInt = 0 ∧ n6_58 = (m6))) := hv58
            replace hv58 : (¬ (1 : Int) = 0 ∧ n6_58.toInt = m6.toInt) ∨ ((1 : Int) = 0 ∧ m6.toInt = 0 ∧ n6_58.toInt = 4) ∨ ((1 : Int) = 0 ∧ ¬ m6.toInt = 0 ∧ n6_58.toInt = m6.toInt) := by rcases hv58 with q | q | q; exact Or.inl ⟨by exact q.1, by rw [q.2]⟩; exact Or.inr (Or.inl ⟨by exact q.1, q.2.1, by rw [q.2.2]; decide⟩); exact Or.inr (Or.inr ⟨by exact q.1, q.2.1, by rw [q.2.2]⟩)
            exact ih.2.1 (m5) (m2) (m3) (m4) (m5) (n6_58) (n7_58) H locs ls (by omega) (by omega) (by omega) hP hD hS (lv_sub hl [1, 0] rfl)
        · skip
          have ic36 := znle (a := m6.toInt) (b := 0) rfl (by decide) c36
          have heq9 : (upC σ 0 (upd (upd (upd (upd (upd (upd (σ 0) 2 m2) 3 m3) 4 m4) 5 m5) 6 m6) 7 m7)) = (upC (upC σ 0 (upd (upd (upd (upd (upd (upd (σ 0) 2 m2) 3 m3) 4 m4) 5 m5) 6 m6) 7 m7)) 3 (σ 3)) := by
            funext k
            by_cases e0 : k = 0
            · subst e0; rfl
            by_cases e3 : k = 3
            · subst e3; rfl
            simp only [upC, if_neg e0, if_neg e3]
          have hpost : ∃ n2 : Int32, ∃ n3 : Int32, ∃ n4 : Int32, ∃ n5 : Int32, ∃ n6 : Int32, ∃ n7 : Int32, ∃ u3 : Nat → Int32, (upC σ 0 (upd (upd (upd (upd (upd (upd (σ 0) 2 m2) 3 m3) 4 m4) 5 m5) 6 m6) 7 m7)) = (upC (upC σ 0 (upd (upd (upd (upd (upd (upd (σ 0) 2 n2) 3 n3) 4 n4) 5 n5) 6 n6) 7 n7)) 3 u3) ∧ (0 ≤ n3.toInt ∧ n3.toInt ≤ 160) ∧ ((σ 0 2).toInt ≤ n2.toInt ∧ n2.toInt ≤ 160) ∧ 0 ≤ n6.toInt ∧ (n6.toInt = 0 → (σ 0 2).toInt < n2.toInt) ∧ (n6.toInt = 0 → n4.toInt = 1 → 0 ≤ n5.toInt) := by refine ⟨(m2), (m3), (m4), (m5), (m6), (m7), (σ 3), heq9, ?_⟩; (refine ⟨by omega, by omega, by omega, by omega, by omega⟩)
          exact W.vret hx hb hr (fun t9 ht hW => ⟨⟨(upC σ 0 (upd (upd (upd (upd (upd (upd (σ 0) 2 m2) 3 m3) 4 m4) 5 m5) 6 m6) 7 m7)), rfl, hpost, by rw [ht]; exact hP, va_K.moved hW.alike hK, hD⟩, hS.F ht⟩) hS.2.2 dX9_readLaw_39
      · intro la m2 m3 m4 m5 m6 m7 H locs ls g1 g2 hmu hP hD hS hl
        refine lv_aload_n hx hb dX9_readLaw_61 rfl (lv_at hl 0 rfl) ?_
        refine zcallv (va_runV (As := []) (rest := []) ⟨hx, hb, hml, hown, hts⟩ (c_X9_goesOn l dC dI cI a N hok (upC σ 0 (upd (upd (upd (upd (upd (upd (σ 0) 2 m2) 3 m3) 4 m4) 5 m5) 6 m6) 7 m7)) H.size  h3 (by show 0 ≤ m2.toInt ∧ m2.toInt ≤ 160; omega) (by show 0 ≤ m3.toInt ∧ m3.toInt ≤ 160; omega) (by show 0 ≤ m6.toInt; omega)) (cwV 0 hts gX9_readLaw_X9_goesOn rfl rfl rfl (by decide +kernel) ⟨Nat.le_of_ble_eq_true rfl, Nat.le_of_ble_eq_true rfl⟩) (zpreV (wf := wM a cI) (q0 := 0) (ci := 9) hok hN hS hA hK hP hD rfl rfl) rfl rfl hl.1 rfl (lv_room (Nat.le_of_ble_eq_true rfl)) dX9_readLaw_62 ⟨Nat.zero_le _, Nat.zero_le _⟩) hD hS hA (fun σ1 H locs hv62 hP hD hS => ?_)
        obtain ⟨n2_62, n3_62, n4_62, n5_62, n6_62, n7_62, es9, hv62⟩ := hv62
        subst σ1
        have hP : va_P (dC, dI) vwCl (wM a cI (upC σ 0 (upd (upd (upd (upd (upd (upd (σ 0) 2 n2_62) 3 n3_62) 4 n4_62) 5 n5_62) 6 n6_62) 7 n7_62))) H := hP
        have hD : va_D A (wM a cI (upC σ 0 (upd (upd (upd (upd (upd (upd (σ 0) 2 n2_62) 3 n3_62) 4 n4_62) 5 n5_62) 6 n6_62) 7 n7_62))) := hD
        replace hv62 : (0 ≤ n3_62.toInt ∧ n3_62.toInt ≤ 160) ∧ (((m2)).toInt ≤ n2_62.toInt ∧ n2_62.toInt ≤ 160) ∧ 0 ≤ n6_62.toInt ∧ (n6_62.toInt = 0 → ((m6)).toInt = 0) ∧ (n6_62.toInt = 0 → ¬ n4_62.toInt = 0 → ((m2)).toInt < n2_62.toInt) ∧ (n6_62.toInt = 0 → n4_62.toInt = 1 → 0 ≤ n5_62.toInt) := hv62
        refine lv_aload_n hx hb dX9_readLaw_65 rfl (lv_at hl 0 rfl) ?_
        refine va_get (D := (dC, dI)) (ci := 9) (v := .int n5_62) (C := RX9) (T := TX9) (N := 28) hx hb hts in9 hown hK hP 0 rfl rfl 5 (by decide) k102 (fun _ h9 => h9) rfl dX9_readLaw_66 ?_
        refine lv_istore_n (lv' := [(2, .int n5_62), (0, .ref (a 0)), (1, .int la)]) hx hb dX9_readLaw_69 rfl hl (by decide) rfl (fun ls hl => ?_)
        refine lv_aload_n hx hb dX9_readLaw_70 rfl (lv_at hl 1 rfl) ?_
        refine va_get (D := (dC, dI)) (ci := 9) (v := .int n6_62) (C := RX9) (T := TX9) (N := 28) hx hb hts in9 hown hK hP 0 rfl rfl 6 (by decide) k71 (fun _ h9 => h9) rfl dX9_readLaw_71 ?_
        refine lv_if_ne (tgt := 123) hx hb dX9_readLaw_74 (by decide) (fun c74 => ?_) (fun c74 => ?_)
        · skip
          have ic74 := zneq (a := n6_62.toInt) (b := 0) rfl (by decide) c74
          refine lv_aload_n hx hb dX9_readLaw_123 rfl (lv_at hl 1 rfl) ?_
          refine va_get (D := (dC, dI)) (ci := 9) (v := .int n6_62) (C := RX9) (T := TX9) (N := 28) hx hb hts in9 hown hK hP 0 rfl rfl 6 (by decide) k71 (fun _ h9 => h9) rfl dX9_readLaw_124 ?_
          refine lv_if_ne (tgt := 175) hx hb dX9_readLaw_127 (by decide) (fun c127 => ?_) (fun c127 => ?_)
          · skip
            have ic127 := zneq (a := n6_62.toInt) (b := 0) rfl (by decide) c127
            exact ih.2.2.2.2.1 (la) (n5_62) (n2_62) (n3_62) (n4_62) (n5_62) (n6_62) (n7_62) H locs ls (by omega) (by omega) (by omega) (by omega) hP hD hS (lv_sub hl [1, 2, 0] rfl)
          · skip
            have ic127 := zeq (a := n6_62.toInt) (b := 0) rfl (by decide) c127
            refine lv_aload_n hx hb dX9_readLaw_130 rfl (lv_at hl 1 rfl) ?_
            refine lv_aload_n hx hb dX9_readLaw_131 rfl (lv_at hl 1 rfl) ?_
            refine va_get (D := (dC, dI)) (ci := 9) (v := .int n4_62) (C := RX9) (T := TX9) (N := 28) hx hb hts in9 hown hK hP 0 rfl rfl 4 (by decide) k91 (fun _ h9 => h9) rfl dX9_readLaw_132 ?_
            refine lv_iconst (v := 2) hx hb dX9_readLaw_135 (by decide) ?_
            refine lv_icmp_ne (tgt := 143) hx hb dX9_readLaw_136 (by decide) (fun c136 => ?_) (fun c136 => ?_)
            · skip
              have ic136 := zneq (a := n4_62.toInt) (b := 2) rfl (by decide) c136
              refine lv_iconst (v := 0) hx hb dX9_readLaw_143 (by decide) ?_
              refine lv_iconst (v := 2) hx hb dX9_readLaw_144 (by decide) ?_
              refine zcallv (va_runV (As := [.int 0, .int 2]) (rest := []) ⟨hx, hb, hml, hown, hts⟩ (c_X9_wants l dC dI cI a N hok (upC σ 0 (upd (upd (upd (upd (upd (upd (σ 0) 2 n2_62) 3 n3_62) 4 n4_62) 5 n5_62) 6 n6_62) 7 n7_62)) H.size (0) (2) ) (cwV 2 hts gX9_readLaw_X9_wants rfl rfl rfl (by decide +kernel) ⟨Nat.le_of_ble_eq_true rfl, Nat.le_of_ble_eq_true rfl⟩) (zpreV (wf := wM a cI) (q0 := 0) (ci := 9) hok hN hS hA hK hP hD rfl rfl) rfl rfl hl.1 rfl (lv_room (Nat.le_of_ble_eq_true rfl)) dX9_readLaw_145 ⟨Nat.zero_le _, Nat.zero_le _⟩) hD hS hA (fun σ1 H locs hv145 hP hD hS => ?_)
              obtain ⟨n6_145, n7_145, es9, hv145⟩ := hv145
              subst σ1
              have hP : va_P (dC, dI) vwCl (wM a cI (upC σ 0 (upd (upd (upd (upd (upd (upd (σ 0) 2 n2_62) 3 n3_62) 4 n4_62) 5 n5_62) 6 n6_145) 7 n7_145))) H := hP
              have hD : va_D A (wM a cI (upC σ 0 (upd (upd (upd (upd (upd (upd (σ 0) 2 n2_62) 3 n3_62) 4 n4_62) 5 n5_62) 6 n6_145) 7 n7_145))) := hD
              replace hv145 : ((¬ (0 : Int32).toInt = 0 ∧ n6_145 = (n6_62)) ∨ ((0 : Int32).toInt = 0 ∧ ((n6_62)).toInt = 0 ∧ n6_145 = (2 : Int32)) ∨ ((0 : Int32).toInt = 0 ∧ ¬ ((n6_62)).toInt = 0 ∧ n6_145 = (n6_62))) := hv145
              replace hv145 : (¬ (0 : Int) = 0 ∧ n6_145.toInt = n6_62.toInt) ∨ ((0 : Int) = 0 ∧ n6_62.toInt = 0 ∧ n6_145.toInt = 2) ∨ ((0 : Int) = 0 ∧ ¬ n6_62.toInt = 0 ∧ n6_145.toInt = n6_62.toInt) := by rcases hv145 with q | q | q; exact Or.inl ⟨by exact q.1, by rw [q.2]⟩; exact Or.inr (Or.inl ⟨by exact q.1, q.2.1, by rw [q.2.2]; decide⟩); exact Or.inr (Or.inr ⟨by exact q.1, q.2.1, by rw [q.2.2]⟩)
              exact ih.2.2.2.1 (la) (n5_62) (n2_62) (n3_62) (n4_62) (n5_62) (n6_145) (n7_145) H locs ls (by omega) (by omega) (by omega) (by omega) hP hD hS (lv_sub hl [1, 2, 0] rfl)
            · skip
              have ic136 := zeq (a := n4_62.toInt) (b := 2) rfl (by decide) c136
              refine lv_iconst (v := 1) hx hb dX9_readLaw_139 (by decide) ?_
              refine lv_goto (tgt := 144) hx hb dX9_readLaw_140 (by decide) ?_
              refine lv_iconst (v := 2) hx hb dX9_readLaw_144 (by decide) ?_
              refine zcallv (va_runV (As := [.int 1, .int 2]) (rest := []) ⟨hx, hb, hml, hown, hts⟩ (c_X9_wants l dC dI cI a N hok (upC σ 0 (upd (upd (upd (upd (upd (upd (σ 0) 2 n2_62) 3 n3_62) 4 n4_62) 5 n5_62) 6 n6_62) 7 n7_62)) H.size (1) (2) ) (cwV 2 hts gX9_readLaw_X9_wants rfl rfl rfl (by decide +kernel) ⟨Nat.le_of_ble_eq_true rfl, Nat.le_of_ble_eq_true rfl⟩) (zpreV (wf := wM a cI) (q0 := 0) (ci := 9) hok hN hS hA hK hP hD rfl rfl) rfl rfl hl.1 rfl (lv_room (Nat.le_of_ble_eq_true rfl)) dX9_readLaw_145 ⟨Nat.zero_le _, Nat.zero_le _⟩) hD hS hA (fun σ1 H locs hv145 hP hD hS => ?_)
              obtain ⟨n6_145, n7_145, es9, hv145⟩ := hv145
              subst σ1
              have hP : va_P (dC, dI) vwCl (wM a cI (upC σ 0 (upd (upd (upd (upd (upd (upd (σ 0) 2 n2_62) 3 n3_62) 4 n4_62) 5 n5_62) 6 n6_145) 7 n7_145))) H := hP
              have hD : va_D A (wM a cI (upC σ 0 (upd (upd (upd (upd (upd (upd (σ 0) 2 n2_62) 3 n3_62) 4 n4_62) 5 n5_62) 6 n6_145) 7 n7_145))) := hD
              replace hv145 : ((¬ (1 : Int32).toInt = 0 ∧ n6_145 = (n6_62)) ∨ ((1 : Int32).toInt = 0 ∧ ((n6_62)).toInt = 0 ∧ n6_145 = (2 : Int32)) ∨ ((1 : Int32).toInt = 0 ∧ ¬ ((n6_62)).toInt = 0 ∧ n6_145 = (n6_62))) := hv145
              replace hv145 : (¬ (1 : Int) = 0 ∧ n6_145.toInt = n6_62.toInt) ∨ ((1 : Int) = 0 ∧ n6_62.toInt = 0 ∧ n6_145.toInt = 2) ∨ ((1 : Int) = 0 ∧ ¬ n6_62.toInt = 0 ∧ n6_145.toInt = n6_62.toInt) := by rcases hv145 with q | q | q; exact Or.inl ⟨by exact q.1, by rw [q.2]⟩; exact Or.inr (Or.inl ⟨by exact q.1, q.2.1, by rw [q.2.2]; decide⟩); exact Or.inr (Or.inr ⟨by exact q.1, q.2.1, by rw [q.2.2]⟩)
              exact ih.2.2.2.1 (la) (n5_62) (n2_62) (n3_62) (n4_62) (n5_62) (n6_145) (n7_145) H locs ls (by omega) (by omega) (by omega) (by omega) hP hD hS (lv_sub hl [1, 2, 0] rfl)
        · skip
          have ic74 := zeq (a := n6_62.toInt) (b := 0) rfl (by decide) c74
          refine lv_iload_n hx hb dX9_readLaw_77 rfl (lv_at hl 2 rfl) ?_
          refine lv_iconst (v := 5) hx hb dX9_readLaw_78 (by decide) ?_
          refine lv_icmp_lt (tgt := 123) hx hb dX9_readLaw_79 (by decide) (fun c79 => ?_) (fun c79 => ?_)
          · skip
            have ic79 := zlt (a := la.toInt) (b := 5) rfl (by decide) c79
            refine lv_aload_n hx hb dX9_readLaw_123 rfl (lv_at hl 1 rfl) ?_
            refine va_get (D := (dC, dI)) (ci := 9) (v := .int n6_62) (C := RX9) (T := TX9) (N := 28) hx hb hts in9 hown hK hP 0 rfl rfl 6 (by decide) k71 (fun _ h9 => h9) rfl dX9_readLaw_124 ?_
            refine lv_if_ne (tgt := 175) hx hb dX9_readLaw_127 (by decide) (fun c127 => ?_) (fun c127 => ?_)
            · skip
              have ic127 := zneq (a := n6_62.toInt) (b := 0) rfl (by decide) c127
              exact ih.2.2.2.2.1 (la) (n5_62) (n2_62) (n3_62) (n4_62) (n5_62) (n6_62) (n7_62) H locs ls (by omega) (by omega) (by omega) (by omega) hP hD hS (lv_sub hl [1, 2, 0] rfl)
            · skip
              have ic127 := zeq (a := n6_62.toInt) (b := 0) rfl (by decide) c127
              refine lv_aload_n hx hb dX9_readLaw_130 rfl (lv_at hl 1 rfl) ?_
              refine lv_aload_n hx hb dX9_readLaw_131 rfl (lv_at hl 1 rfl) ?_
              refine va_get (D := (dC, dI)) (ci := 9) (v := .int n4_62) (C := RX9) (T := TX9) (N := 28) hx hb hts in9 hown hK hP 0 rfl rfl 4 (by decide) k91 (fun _ h9 => h9) rfl dX9_readLaw_132 ?_
              refine lv_iconst (v := 2) hx hb dX9_readLaw_135 (by decide) ?_
              refine lv_icmp_ne (tgt := 143) hx hb dX9_readLaw_136 (by decide) (fun c136 => ?_) (fun c136 => ?_)
              · skip
                have ic136 := zneq (a := n4_62.toInt) (b := 2) rfl (by decide) c136
                refine lv_iconst (v := 0) hx hb dX9_readLaw_143 (by decide) ?_
                refine lv_iconst (v := 2) hx hb dX9_readLaw_144 (by decide) ?_
                refine zcallv (va_runV (As := [.int 0, .int 2]) (rest := []) ⟨hx, hb, hml, hown, hts⟩ (c_X9_wants l dC dI cI a N hok (upC σ 0 (upd (upd (upd (upd (upd (upd (σ 0) 2 n2_62) 3 n3_62) 4 n4_62) 5 n5_62) 6 n6_62) 7 n7_62)) H.size (0) (2) ) (cwV 2 hts gX9_readLaw_X9_wants rfl rfl rfl (by decide +kernel) ⟨Nat.le_of_ble_eq_true rfl, Nat.le_of_ble_eq_true rfl⟩) (zpreV (wf := wM a cI) (q0 := 0) (ci := 9) hok hN hS hA hK hP hD rfl rfl) rfl rfl hl.1 rfl (lv_room (Nat.le_of_ble_eq_true rfl)) dX9_readLaw_145 ⟨Nat.zero_le _, Nat.zero_le _⟩) hD hS hA (fun σ1 H locs hv145 hP hD hS => ?_)
                obtain ⟨n6_145, n7_145, es9, hv145⟩ := hv145
                subst σ1
                have hP : va_P (dC, dI) vwCl (wM a cI (upC σ 0 (upd (upd (upd (upd (upd (upd (σ 0) 2 n2_62) 3 n3_62) 4 n4_62) 5 n5_62) 6 n6_145) 7 n7_145))) H := hP
                have hD : va_D A (wM a cI (upC σ 0 (upd (upd (upd (upd (upd (upd (σ 0) 2 n2_62) 3 n3_62) 4 n4_62) 5 n5_62) 6 n6_145) 7 n7_145))) := hD
                replace hv145 : ((¬ (0 : Int32).toInt = 0 ∧ n6_145 = (n6_62)) ∨ ((0 : Int32).toInt = 0 ∧ ((n6_62)).toInt = 0 ∧ n6_145 = (2 : Int32)) ∨ ((0 : Int32).toInt = 0 ∧ ¬ ((n6_62)).toInt = 0 ∧ n6_145 = (n6_62))) := hv145
                replace hv145 : (¬ (0 : Int) = 0 ∧ n6_145.toInt = n6_62.toInt) ∨ ((0 : Int) = 0 ∧ n6_62.toInt = 0 ∧ n6_145.toInt = 2) ∨ ((0 : Int) = 0 ∧ ¬ n6_62.toInt = 0 ∧ n6_145.toInt = n6_62.toInt) := by rcases hv145 with q | q | q; exact Or.inl ⟨by exact q.1, by rw [q.2]⟩; exact Or.inr (Or.inl ⟨by exact q.1, q.2.1, by rw [q.2.2]; decide⟩); exact Or.inr (Or.inr ⟨by exact q.1, q.2.1, by rw [q.2.2]⟩)
                exact ih.2.2.2.1 (la) (n5_62) (n2_62) (n3_62) (n4_62) (n5_62) (n6_145) (n7_145) H locs ls (by omega) (by omega) (by omega) (by omega) hP hD hS (lv_sub hl [1, 2, 0] rfl)
              · skip
                have ic136 := zeq (a := n4_62.toInt) (b := 2) rfl (by decide) c136
                refine lv_iconst (v := 1) hx hb dX9_readLaw_139 (by decide) ?_
                refine lv_goto (tgt := 144) hx hb dX9_readLaw_140 (by decide) ?_
                refine lv_iconst (v := 2) hx hb dX9_readLaw_144 (by decide) ?_
                refine zcallv (va_runV (As := [.int 1, .int 2]) (rest := []) ⟨hx, hb, hml, hown, hts⟩ (c_X9_wants l dC dI cI a N hok (upC σ 0 (upd (upd (upd (upd (upd (upd (σ 0) 2 n2_62) 3 n3_62) 4 n4_62) 5 n5_62) 6 n6_62) 7 n7_62)) H.size (1) (2) ) (cwV 2 hts gX9_readLaw_X9_wants rfl rfl rfl (by decide +kernel) ⟨Nat.le_of_ble_eq_true rfl, Nat.le_of_ble_eq_true rfl⟩) (zpreV (wf := wM a cI) (q0 := 0) (ci := 9) hok hN hS hA hK hP hD rfl rfl) rfl rfl hl.1 rfl (lv_room (Nat.le_of_ble_eq_true rfl)) dX9_readLaw_145 ⟨Nat.zero_le _, Nat.zero_le _⟩) hD hS hA (fun σ1 H locs hv145 hP hD hS => ?_)
                obtain ⟨n6_145, n7_145, es9, hv145⟩ := hv145
                subst σ1
                have hP : va_P (dC, dI) vwCl (wM a cI (upC σ 0 (upd (upd (upd (upd (upd (upd (σ 0) 2 n2_62) 3 n3_62) 4 n4_62) 5 n5_62) 6 n6_145) 7 n7_145))) H := hP
                have hD : va_D A (wM a cI (upC σ 0 (upd (upd (upd (upd (upd (upd (σ 0) 2 n2_62) 3 n3_62) 4 n4_62) 5 n5_62) 6 n6_145) 7 n7_145))) := hD
                replace hv145 : ((¬ (1 : Int32).toInt = 0 ∧ n6_145 = (n6_62)) ∨ ((1 : Int32).toInt = 0 ∧ ((n6_62)).toInt = 0 ∧ n6_145 = (2 : Int32)) ∨ ((1 : Int32).toInt = 0 ∧ ¬ ((n6_62)).toInt = 0 ∧ n6_145 = (n6_62))) := hv145
                replace hv145 : (¬ (1 : Int) = 0 ∧ n6_145.toInt = n6_62.toInt) ∨ ((1 : Int) = 0 ∧ n6_62.toInt = 0 ∧ n6_145.toInt = 2) ∨ ((1 : Int) = 0 ∧ ¬ n6_62.toInt = 0 ∧ n6_145.toInt = n6_62.toInt) := by rcases hv145 with q | q | q; exact Or.inl ⟨by exact q.1, by rw [q.2]⟩; exact Or.inr (Or.inl ⟨by exact q.1, q.2.1, by rw [q.2.2]; decide⟩); exact Or.inr (Or.inr ⟨by exact q.1, q.2.1, by rw [q.2.2]⟩)
                exact ih.2.2.2.1 (la) (n5_62) (n2_62) (n3_62) (n4_62) (n5_62) (n6_145) (n7_145) H locs ls (by omega) (by omega) (by omega) (by omega) hP hD hS (lv_sub hl [1, 2, 0] rfl)
          · skip
            have ic79 := znlt (a := la.toInt) (b := 5) rfl (by decide) c79
            refine lv_aload_n hx hb dX9_readLaw_82 rfl (lv_at hl 1 rfl) ?_
            refine lv_aload_n hx hb dX9_readLaw_83 rfl (lv_at hl 1 rfl) ?_
            refine va_get (D := (dC, dI)) (ci := 9) (v := .int n4_62) (C := RX9) (T := TX9) (N := 28) hx hb hts in9 hown hK hP 0 rfl rfl 4 (by decide) k91 (fun _ h9 => h9) rfl dX9_readLaw_84 ?_
            refine lv_iconst (v := 1) hx hb dX9_readLaw_87 (by decide) ?_
            refine lv_icmp_ne (tgt := 107) hx hb dX9_readLaw_88 (by decide) (fun c88 => ?_) (fun c88 => ?_)
            · skip
              have ic88 := zneq (a := n4_62.toInt) (b := 1) rfl (by decide) c88
              refine lv_iconst (v := 0) hx hb dX9_readLaw_107 (by decide) ?_
              refine lv_iconst (v := 2) hx hb dX9_readLaw_108 (by decide) ?_
              refine zcallv (va_runV (As := [.int 0, .int 2]) (rest := []) ⟨hx, hb, hml, hown, hts⟩ (c_X9_wants l dC dI cI a N hok (upC σ 0 (upd (upd (upd (upd (upd (upd (σ 0) 2 n2_62) 3 n3_62) 4 n4_62) 5 n5_62) 6 n6_62) 7 n7_62)) H.size (0) (2) ) (cwV 2 hts gX9_readLaw_X9_wants rfl rfl rfl (by decide +kernel) ⟨Nat.le_of_ble_eq_true rfl, Nat.le_of_ble_eq_true rfl⟩) (zpreV (wf := wM a cI) (q0 := 0) (ci := 9) hok hN hS hA hK hP hD rfl rfl) rfl rfl hl.1 rfl (lv_room (Nat.le_of_ble_eq_true rfl)) dX9_readLaw_109 ⟨Nat.zero_le _, Nat.zero_le _⟩) hD hS hA (fun σ1 H locs hv109 hP hD hS => ?_)
              obtain ⟨n6_109, n7_109, es9, hv109⟩ := hv109
              subst σ1
              have hP : va_P (dC, dI) vwCl (wM a cI (upC σ 0 (upd (upd (upd (upd (upd (upd (σ 0) 2 n2_62) 3 n3_62) 4 n4_62) 5 n5_62) 6 n6_109) 7 n7_109))) H := hP
              have hD : va_D A (wM a cI (upC σ 0 (upd (upd (upd (upd (upd (upd (σ 0) 2 n2_62) 3 n3_62) 4 n4_62) 5 n5_62) 6 n6_109) 7 n7_109))) := hD
              replace hv109 : ((¬ (0 : Int32).toInt = 0 ∧ n6_109 = (n6_62)) ∨ ((0 : Int32).toInt = 0 ∧ ((n6_62)).toInt = 0 ∧ n6_109 = (2 : Int32)) ∨ ((0 : Int32).toInt = 0 ∧ ¬ ((n6_62)).toInt = 0 ∧ n6_109 = (n6_62))) := hv109
              replace hv109 : (¬ (0 : Int) = 0 ∧ n6_109.toInt = n6_62.toInt) ∨ ((0 : Int) = 0 ∧ n6_62.toInt = 0 ∧ n6_109.toInt = 2) ∨ ((0 : Int) = 0 ∧ ¬ n6_62.toInt = 0 ∧ n6_109.toInt = n6_62.toInt) := by rcases hv109 with q | q | q; exact Or.inl ⟨by exact q.1, by rw [q.2]⟩; exact Or.inr (Or.inl ⟨by exact q.1, q.2.1, by rw [q.2.2]; decide⟩); exact Or.inr (Or.inr ⟨by exact q.1, q.2.1, by rw [q.2.2]⟩)
              exact ih.2.2.1 (la) (n2_62) (n3_62) (n4_62) (n5_62) (n6_109) (n7_109) H locs ls (by omega) (by omega) (by omega) (by omega) hP hD hS (lv_sub hl [1, 2] rfl)
            · skip
              have ic88 := zeq (a := n4_62.toInt) (b := 1) rfl (by decide) c88
              refine lv_aload_n hx hb dX9_readLaw_91 rfl (lv_at hl 1 rfl) ?_
              refine va_get (D := (dC, dI)) (ci := 9) (v := .int n5_62) (C := RX9) (T := TX9) (N := 28) hx hb hts in9 hown hK hP 0 rfl rfl 5 (by decide) k102 (fun _ h9 => h9) rfl dX9_readLaw_92 ?_
              refine zcalli (va_runS (As := [.int n5_62]) (rest := [.ref (a 0)]) ⟨hx, hb, hml, hown, hts⟩ (c_X9_wayOf l dC dI cI a N hok (upC σ 0 (upd (upd (upd (upd (upd (upd (σ 0) 2 n2_62) 3 n3_62) 4 n4_62) 5 n5_62) 6 n6_62) 7 n7_62)) H.size (n5_62) ) (va_cwS 1 hts gX9_readLaw_X9_wayOf rfl rfl rfl (by decide +kernel) ⟨Nat.le_of_ble_eq_true rfl, Nat.le_of_ble_eq_true rfl⟩) (zpreS (wf := wM a cI) hok hN hS hA hK hP hD) rfl rfl hl.1 rfl (lv_room (Nat.le_of_ble_eq_true rfl)) dX9_readLaw_95 ⟨Nat.zero_le _, Nat.zero_le _⟩) hD hS hA (fun v95 σ1 H locs hv95 hP hD hS => ?_)
              obtain ⟨es9, hv95⟩ := hv95
              subst σ1
              refine lv_bipush (v := (-4)) hx hb dX9_readLaw_98 (by decide) ?_
              refine lv_icmp_eq (tgt := 107) hx hb dX9_readLaw_100 (by decide) (fun c100 => ?_) (fun c100 => ?_)
              · skip
                have ic100 := zeq (a := v95.toInt) (b := (-4)) rfl (by decide) c100
                refine lv_iconst (v := 0) hx hb dX9_readLaw_107 (by decide) ?_
                refine lv_iconst (v := 2) hx hb dX9_readLaw_108 (by decide) ?_
                refine zcallv (va_runV (As := [.int 0, .int 2]) (rest := []) ⟨hx, hb, hml, hown, hts⟩ (c_X9_wants l dC dI cI a N hok (upC σ 0 (upd (upd (upd (upd (upd (upd (σ 0) 2 n2_62) 3 n3_62) 4 n4_62) 5 n5_62) 6 n6_62) 7 n7_62)) H.size (0) (2) ) (cwV 2 hts gX9_readLaw_X9_wants rfl rfl rfl (by decide +kernel) ⟨Nat.le_of_ble_eq_true rfl, Nat.le_of_ble_eq_true rfl⟩) (zpreV (wf := wM a cI) (q0 := 0) (ci := 9) hok hN hS hA hK hP hD rfl rfl) rfl rfl hl.1 rfl (lv_room (Nat.le_of_ble_eq_true rfl)) dX9_readLaw_109 ⟨Nat.zero_le _, Nat.zero_le _⟩) hD hS hA (fun σ1 H locs hv109 hP hD hS => ?_)
                obtain ⟨n6_109, n7_109, es9, hv109⟩ := hv109
                subst σ1
                have hP : va_P (dC, dI) vwCl (wM a cI (upC σ 0 (upd (upd (upd (upd (upd (upd (σ 0) 2 n2_62) 3 n3_62) 4 n4_62) 5 n5_62) 6 n6_109) 7 n7_109))) H := hP
                have hD : va_D A (wM a cI (upC σ 0 (upd (upd (upd (upd (upd (upd (σ 0) 2 n2_62) 3 n3_62) 4 n4_62) 5 n5_62) 6 n6_109) 7 n7_109))) := hD
                replace hv109 : ((¬ (0 : Int32).toInt = 0 ∧ n6_109 = (n6_62)) ∨ ((0 : Int32).toInt = 0 ∧ ((n6_62)).toInt = 0 ∧ n6_109 = (2 : Int32)) ∨ ((0 : Int32).toInt = 0 ∧ ¬ ((n6_62)).toInt = 0 ∧ n6_109 = (n6_62))) := hv109
                replace hv109 : (¬ (0 : Int) = 0 ∧ n6_109.toInt = n6_62.toInt) ∨ ((0 : Int) = 0 ∧ n6_62.toInt = 0 ∧ n6_109.toInt = 2) ∨ ((0 : Int) = 0 ∧ ¬ n6_62.toInt = 0 ∧ n6_109.toInt = n6_62.toInt) := by rcases hv109 with q | q | q; exact Or.inl ⟨by exact q.1, by rw [q.2]⟩; exact Or.inr (Or.inl ⟨by exact q.1, q.2.1, by rw [q.2.2]; decide⟩); exact Or.inr (Or.inr ⟨by exact q.1, q.2.1, by rw [q.2.2]⟩)
                exact ih.2.2.1 (la) (n2_62) (n3_62) (n4_62) (n5_62) (n6_109) (n7_109) H locs ls (by omega) (by omega) (by omega) (by omega) hP hD hS (lv_sub hl [1, 2] rfl)
              · skip
                have ic100 := zneq (a := v95.toInt) (b := (-4)) rfl (by decide) c100
                refine lv_iconst (v := 1) hx hb dX9_readLaw_103 (by decide) ?_
                refine lv_goto (tgt := 108) hx hb dX9_readLaw_104 (by decide) ?_
                refine lv_iconst (v := 2) hx hb dX9_readLaw_108 (by decide) ?_
                refine zcallv (va_runV (As := [.int 1, .int 2]) (rest := []) ⟨hx, hb, hml, hown, hts⟩ (c_X9_wants l dC dI cI a N hok (upC σ 0 (upd (upd (upd (upd (upd (upd (σ 0) 2 n2_62) 3 n3_62) 4 n4_62) 5 n5_62) 6 n6_62) 7 n7_62)) H.size (1) (2) ) (cwV 2 hts gX9_readLaw_X9_wants rfl rfl rfl (by decide +kernel) ⟨Nat.le_of_ble_eq_true rfl, Nat.le_of_ble_eq_true rfl⟩) (zpreV (wf := wM a cI) (q0 := 0) (ci := 9) hok hN hS hA hK hP hD rfl rfl) rfl rfl hl.1 rfl (lv_room (Nat.le_of_ble_eq_true rfl)) dX9_readLaw_109 ⟨Nat.zero_le _, Nat.zero_le _⟩) hD hS hA (fun σ1 H locs hv109 hP hD hS => ?_)
                obtain ⟨n6_109, n7_109, es9, hv109⟩ := hv109
                subst σ1
                have hP : va_P (dC, dI) vwCl (wM a cI (upC σ 0 (upd (upd (upd (upd (upd (upd (σ 0) 2 n2_62) 3 n3_62) 4 n4_62) 5 n5_62) 6 n6_109) 7 n7_109))) H := hP
                have hD : va_D A (wM a cI (upC σ 0 (upd (upd (upd (upd (upd (upd (σ 0) 2 n2_62) 3 n3_62) 4 n4_62) 5 n5_62) 6 n6_109) 7 n7_109))) := hD
                replace hv109 : ((¬ (1 : Int32).toInt = 0 ∧ n6_109 = (n6_62)) ∨ ((1 : Int32).toInt = 0 ∧ ((n6_62)).toInt = 0 ∧ n6_109 = (2 : Int32)) ∨ ((1 : Int32).toInt = 0 ∧ ¬ ((n6_62)).toInt = 0 ∧ n6_109 = (n6_62))) := hv109
                replace hv109 : (¬ (1 : Int) = 0 ∧ n6_109.toInt = n6_62.toInt) ∨ ((1 : Int) = 0 ∧ n6_62.toInt = 0 ∧ n6_109.toInt = 2) ∨ ((1 : Int) = 0 ∧ ¬ n6_62.toInt = 0 ∧ n6_109.toInt = n6_62.toInt) := by rcases hv109 with q | q | q; exact Or.inl ⟨by exact q.1, by rw [q.2]⟩; exact Or.inr (Or.inl ⟨by exact q.1, q.2.1, by rw [q.2.2]; decide⟩); exact Or.inr (Or.inr ⟨by exact q.1, q.2.1, by rw [q.2.2]⟩)
                exact ih.2.2.1 (la) (n2_62) (n3_62) (n4_62) (n5_62) (n6_109) (n7_109) H locs ls (by omega) (by omega) (by omega) (by omega) hP hD hS (lv_sub hl [1, 2] rfl)
      · intro la m2 m3 m4 m5 m6 m7 H locs ls g1 g2 g3 hmu hP hD hS hl
        refine lv_aload_n hx hb dX9_readLaw_112 rfl (lv_at hl 0 rfl) ?_
        refine va_get (D := (dC, dI)) (ci := 9) (v := .int m5) (C := RX9) (T := TX9) (N := 28) hx hb hts in9 hown hK hP 0 rfl rfl 5 (by decide) k102 (fun _ h9 => h9) rfl dX9_readLaw_113 ?_
        refine zcalli (va_runS (As := [.int m5]) (rest := []) ⟨hx, hb, hml, hown, hts⟩ (c_X9_wayOf l dC dI cI a N hok (upC σ 0 (upd (upd (upd (upd (upd (upd (σ 0) 2 m2) 3 m3) 4 m4) 5 m5) 6 m6) 7 m7)) H.size (m5) ) (va_cwS 1 hts gX9_readLaw_X9_wayOf rfl rfl rfl (by decide +kernel) ⟨Nat.le_of_ble_eq_true rfl, Nat.le_of_ble_eq_true rfl⟩) (zpreS (wf := wM a cI) hok hN hS hA hK hP hD) rfl rfl hl.1 rfl (lv_room (Nat.le_of_ble_eq_true rfl)) dX9_readLaw_116 ⟨Nat.zero_le _, Nat.zero_le _⟩) hD hS hA (fun v116 σ1 H locs hv116 hP hD hS => ?_)
        obtain ⟨es9, hv116⟩ := hv116
        subst σ1
        refine lv_istore_n (lv' := [(2, .int v116), (0, .ref (a 0)), (1, .int la)]) hx hb dX9_readLaw_119 rfl hl (by decide) rfl (fun ls hl => ?_)
        refine lv_goto (tgt := 175) hx hb dX9_readLaw_120 (by decide) ?_
        exact ih.2.2.2.2.1 (la) (v116) (m2) (m3) (m4) (m5) (m6) (m7) H locs ls (by omega) (by omega) (by omega) (by omega) hP hD hS (lv_sub hl [1, 2, 0] rfl)
      · intro la vv m2 m3 m4 m5 m6 m7 H locs ls g1 g2 g3 hmu hP hD hS hl
        refine lv_aload_n hx hb dX9_readLaw_148 rfl (lv_at hl 0 rfl) ?_
        refine va_get (D := (dC, dI)) (ci := 9) (v := .int m6) (C := RX9) (T := TX9) (N := 28) hx hb hts in9 hown hK hP 0 rfl rfl 6 (by decide) k71 (fun _ h9 => h9) rfl dX9_readLaw_149 ?_
        refine lv_if_ne (tgt := 175) hx hb dX9_readLaw_152 (by decide) (fun c152 => ?_) (fun c152 => ?_)
        · skip
          have ic152 := zneq (a := m6.toInt) (b := 0) rfl (by decide) c152
          exact ih.2.2.2.2.1 (la) (vv) (m2) (m3) (m4) (m5) (m6) (m7) H locs ls (by omega) (by omega) (by omega) (by omega) hP hD hS (lv_sub hl [0, 1, 2] rfl)
        · skip
          have ic152 := zeq (a := m6.toInt) (b := 0) rfl (by decide) c152
          refine lv_aload_n hx hb dX9_readLaw_155 rfl (lv_at hl 0 rfl) ?_
          refine lv_iload_n hx hb dX9_readLaw_156 rfl (lv_at hl 2 rfl) ?_
          refine lv_i2l hx hb dX9_readLaw_157 rfl ?_
          refine lv_topl (fun v157 ev157 => ?_)
          have tv157 : v157.toInt = vv.toInt := by rw [ev157]; exact zi2l rfl
          refine lv_iload_n hx hb dX9_readLaw_158 rfl (lv_at hl 1 rfl) ?_
          refine zcalli (va_runS (As := [.int la]) (rest := [.long v157, .ref (a 0)]) ⟨hx, hb, hml, hown, hts⟩ (c_X9_least l dC dI cI a N hok (upC σ 0 (upd (upd (upd (upd (upd (upd (σ 0) 2 m2) 3 m3) 4 m4) 5 m5) 6 m6) 7 m7)) H.size (la) ) (va_cwS 1 hts gX9_readLaw_X9_least rfl rfl rfl (by decide +kernel) ⟨Nat.le_of_ble_eq_true rfl, Nat.le_of_ble_eq_true rfl⟩) (zpreS (wf := wM a cI) hok hN hS hA hK hP hD) rfl rfl hl.1 rfl (lv_room (Nat.le_of_ble_eq_true rfl)) dX9_readLaw_159 ⟨Nat.zero_le _, Nat.zero_le _⟩) hD hS hA (fun v159 σ1 H locs hv159 hP hD hS => ?_)
          obtain ⟨es9, hv159⟩ := hv159
          subst σ1
          refine lv_i2l hx hb dX9_readLaw_162 rfl ?_
          refine lv_topl (fun v162 ev162 => ?_)
          have tv162 : v162.toInt = v159.toInt := by rw [ev162]; exact zi2l rfl
          refine lv_iload_n hx hb dX9_readLaw_163 rfl (lv_at hl 1 rfl) ?_
          refine zcalli (va_runS (As := [.int la]) (rest := [.long v162, .long v157, .ref (a 0)]) ⟨hx, hb, hml, hown, hts⟩ (c_X9_most l dC dI cI a N hok (upC σ 0 (upd (upd (upd (upd (upd (upd (σ 0) 2 m2) 3 m3) 4 m4) 5 m5) 6 m6) 7 m7)) H.size (la) ) (va_cwS 1 hts gX9_readLaw_X9_most rfl rfl rfl (by decide +kernel) ⟨Nat.le_of_ble_eq_true rfl, Nat.le_of_ble_eq_true rfl⟩) (zpreS (wf := wM a cI) hok hN hS hA hK hP hD) rfl rfl hl.1 rfl (lv_room (Nat.le_of_ble_eq_true rfl)) dX9_readLaw_164 ⟨Nat.zero_le _, Nat.zero_le _⟩) hD hS hA (fun v164 σ1 H locs hv164 hP hD hS => ?_)
          obtain ⟨es9, hv164⟩ := hv164
          subst σ1
          refine lv_i2l hx hb dX9_readLaw_167 rfl ?_
          refine lv_topl (fun v167 ev167 => ?_)
          have tv167 : v167.toInt = v164.toInt := by rw [ev167]; exact zi2l rfl
          refine zcalli (va_runS (As := [.long v157, .long v162, .long v167]) (rest := [.ref (a 0)]) ⟨hx, hb, hml, hown, hts⟩ (c_X9_in l dC dI cI a N hok (upC σ 0 (upd (upd (upd (upd (upd (upd (σ 0) 2 m2) 3 m3) 4 m4) 5 m5) 6 m6) 7 m7)) H.size (v157) (v162) (v167) ) (va_cwS 3 hts gX9_readLaw_X9_in rfl rfl rfl (by decide +kernel) ⟨Nat.le_of_ble_eq_true rfl, Nat.le_of_ble_eq_true rfl⟩) (zpreS (wf := wM a cI) hok hN hS hA hK hP hD) rfl rfl hl.1 rfl (lv_room (Nat.le_of_ble_eq_true rfl)) dX9_readLaw_168 ⟨Nat.zero_le _, Nat.zero_le _⟩) hD hS hA (fun v168 σ1 H locs hv168 hP hD hS => ?_)
          obtain ⟨es9, hv168⟩ := hv168
          subst σ1
          replace hv168 : ((v168 : Int32).toInt = 1 ∧ (v162 : Int64).toInt ≤ (v157 : Int64).toInt ∧ (v157 : Int64).toInt ≤ (v167 : Int64).toInt ∨ (v168 : Int32).toInt = 0 ∧ ¬ ((v162 : Int64).toInt ≤ (v157 : Int64).toInt ∧ (v157 : Int64).toInt ≤ (v167 : Int64).toInt)) := hv168
          refine lv_iconst (v := 3) hx hb dX9_readLaw_171 (by decide) ?_
          refine zcallv (va_runV (As := [.int v168, .int 3]) (rest := []) ⟨hx, hb, hml, hown, hts⟩ (c_X9_wants l dC dI cI a N hok (upC σ 0 (upd (upd (upd (upd (upd (upd (σ 0) 2 m2) 3 m3) 4 m4) 5 m5) 6 m6) 7 m7)) H.size (v168) (3) ) (cwV 2 hts gX9_readLaw_X9_wants rfl rfl rfl (by decide +kernel) ⟨Nat.le_of_ble_eq_true rfl, Nat.le_of_ble_eq_true rfl⟩) (zpreV (wf := wM a cI) (q0 := 0) (ci := 9) hok hN hS hA hK hP hD rfl rfl) rfl rfl hl.1 rfl (lv_room (Nat.le_of_ble_eq_true rfl)) dX9_readLaw_172 ⟨Nat.zero_le _, Nat.zero_le _⟩) hD hS hA (fun σ1 H locs hv172 hP hD hS => ?_)
          obtain ⟨n6_172, n7_172, es9, hv172⟩ := hv172
          subst σ1
          have hP : va_P (dC, dI) vwCl (wM a cI (upC σ 0 (upd (upd (upd (upd (upd (upd (σ 0) 2 m2) 3 m3) 4 m4) 5 m5) 6 n6_172) 7 n7_172))) H := hP
          have hD : va_D A (wM a cI (upC σ 0 (upd (upd (upd (upd (upd (upd (σ 0) 2 m2) 3 m3) 4 m4) 5 m5) 6 n6_172) 7 n7_172))) := hD
          replace hv172 : ((¬ (v168 : Int32).toInt = 0 ∧ n6_172 = (m6)) ∨ ((v168 : Int32).toInt = 0 ∧ ((m6)).toInt = 0 ∧ n6_172 = (3 : Int32)) ∨ ((v168 : Int32).toInt = 0 ∧ ¬ ((m6)).toInt = 0 ∧ n6_172 = (m6))) := hv172
          replace hv172 : (¬ v168.toInt = 0 ∧ n6_172.toInt = m6.toInt) ∨ (v168.toInt = 0 ∧ m6.toInt = 0 ∧ n6_172.toInt = 3) ∨ (v168.toInt = 0 ∧ ¬ m6.toInt = 0 ∧ n6_172.toInt = m6.toInt) := by rcases hv172 with q | q | q; exact Or.inl ⟨by exact q.1, by rw [q.2]⟩; exact Or.inr (Or.inl ⟨by exact q.1, q.2.1, by rw [q.2.2]; decide⟩); exact Or.inr (Or.inr ⟨by exact q.1, q.2.1, by rw [q.2.2]⟩)
          exact ih.2.2.2.2.1 (la) (vv) (m2) (m3) (m4) (m5) (n6_172) (n7_172) H locs ls (by omega) (by omega) (by omega) (by omega) hP hD hS (lv_sub hl [0, 1, 2] rfl)
      · intro la vv m2 m3 m4 m5 m6 m7 H locs ls g1 g2 g3 hmu hP hD hS hl
        refine lv_aload_n hx hb dX9_readLaw_175 rfl (lv_at hl 0 rfl) ?_
        refine va_get (D := (dC, dI)) (ci := 9) (v := .ref (a 3)) (C := RX9) (T := TX9) (N := 28) hx hb hts in9 hown hK hP 0 rfl rfl 9 (by decide) k16 (fun _ h9 => h9) rfl dX9_readLaw_176 ?_
        refine lv_iload_n hx hb dX9_readLaw_179 rfl (lv_at hl 1 rfl) ?_
        refine lv_iload_n hx hb dX9_readLaw_180 rfl (lv_at hl 2 rfl) ?_
        refine va_iast (D := (dC, dI)) (f := σ 3) hx hb hK hP hD hS 3 0 rfl rfl (i := la) (n := 7) (zin (by omega) (by omega)) dX9_readLaw_181 (fun H locs hP hD hS => ?_)
        have hP : va_P (dC, dI) vwCl (wM a cI (upC (upC σ 0 (upd (upd (upd (upd (upd (upd (σ 0) 2 m2) 3 m3) 4 m4) 5 m5) 6 m6) 7 m7)) 3 (upd (σ 3) (la).toNatClampNeg vv))) H := hP
        have hD : va_D A (wM a cI (upC (upC σ 0 (upd (upd (upd (upd (upd (upd (σ 0) 2 m2) 3 m3) 4 m4) 5 m5) 6 m6) 7 m7)) 3 (upd (σ 3) (la).toNatClampNeg vv))) := hD
        refine lv_aload_n hx hb dX9_readLaw_182 rfl (lv_at hl 0 rfl) ?_
        refine zcallv (va_runV (As := []) (rest := []) ⟨hx, hb, hml, hown, hts⟩ (c_X9_goesOn l dC dI cI a N hok (upC (upC σ 0 (upd (upd (upd (upd (upd (upd (σ 0) 2 m2) 3 m3) 4 m4) 5 m5) 6 m6) 7 m7)) 3 (upd (σ 3) (la).toNatClampNeg vv)) H.size  h3 (by show 0 ≤ m2.toInt ∧ m2.toInt ≤ 160; omega) (by show 0 ≤ m3.toInt ∧ m3.toInt ≤ 160; omega) (by show 0 ≤ m6.toInt; omega)) (cwV 0 hts gX9_readLaw_X9_goesOn rfl rfl rfl (by decide +kernel) ⟨Nat.le_of_ble_eq_true rfl, Nat.le_of_ble_eq_true rfl⟩) (zpreV (wf := wM a cI) (q0 := 0) (ci := 9) hok hN hS hA hK hP hD rfl rfl) rfl rfl hl.1 rfl (lv_room (Nat.le_of_ble_eq_true rfl)) dX9_readLaw_183 ⟨Nat.zero_le _, Nat.zero_le _⟩) hD hS hA (fun σ1 H locs hv183 hP hD hS => ?_)
        obtain ⟨n2_183, n3_183, n4_183, n5_183, n6_183, n7_183, es9, hv183⟩ := hv183
        subst σ1
        have hP : va_P (dC, dI) vwCl (wM a cI (upC (upC σ 0 (upd (upd (upd (upd (upd (upd (σ 0) 2 n2_183) 3 n3_183) 4 n4_183) 5 n5_183) 6 n6_183) 7 n7_183)) 3 (upd (σ 3) (la).toNatClampNeg vv))) H := hP
        have hD : va_D A (wM a cI (upC (upC σ 0 (upd (upd (upd (upd (upd (upd (σ 0) 2 n2_183) 3 n3_183) 4 n4_183) 5 n5_183) 6 n6_183) 7 n7_183)) 3 (upd (σ 3) (la).toNatClampNeg vv))) := hD
        replace hv183 : (0 ≤ n3_183.toInt ∧ n3_183.toInt ≤ 160) ∧ (((m2)).toInt ≤ n2_183.toInt ∧ n2_183.toInt ≤ 160) ∧ 0 ≤ n6_183.toInt ∧ (n6_183.toInt = 0 → ((m6)).toInt = 0) ∧ (n6_183.toInt = 0 → ¬ n4_183.toInt = 0 → ((m2)).toInt < n2_183.toInt) ∧ (n6_183.toInt = 0 → n4_183.toInt = 1 → 0 ≤ n5_183.toInt) := hv183
        refine lv_aload_n hx hb dX9_readLaw_186 rfl (lv_at hl 0 rfl) ?_
        refine va_get (D := (dC, dI)) (ci := 9) (v := .int n6_183) (C := RX9) (T := TX9) (N := 28) hx hb hts in9 hown hK hP 0 rfl rfl 6 (by decide) k71 (fun _ h9 => h9) rfl dX9_readLaw_187 ?_
        refine lv_if_ne (tgt := 211) hx hb dX9_readLaw_190 (by decide) (fun c190 => ?_) (fun c190 => ?_)
        · skip
          have ic190 := zneq (a := n6_183.toInt) (b := 0) rfl (by decide) c190
          exact ih.2.2.2.2.2  (n2_183) (n3_183) (n4_183) (n5_183) (n6_183) (n7_183) (upd (σ 3) (la).toNatClampNeg vv) H locs ls (by omega) (by omega) (by omega) hP hD hS (lv_sub hl [0] rfl)
        · skip
          have ic190 := zeq (a := n6_183.toInt) (b := 0) rfl (by decide) c190
          refine lv_aload_n hx hb dX9_readLaw_193 rfl (lv_at hl 0 rfl) ?_
          refine lv_aload_n hx hb dX9_readLaw_194 rfl (lv_at hl 0 rfl) ?_
          refine va_get (D := (dC, dI)) (ci := 9) (v := .int n4_183) (C := RX9) (T := TX9) (N := 28) hx hb hts in9 hown hK hP 0 rfl rfl 4 (by decide) k91 (fun _ h9 => h9) rfl dX9_readLaw_195 ?_
          refine lv_iconst (v := 3) hx hb dX9_readLaw_198 (by decide) ?_
          refine lv_icmp_ne (tgt := 206) hx hb dX9_readLaw_199 (by decide) (fun c199 => ?_) (fun c199 => ?_)
          · skip
            have ic199 := zneq (a := n4_183.toInt) (b := 3) rfl (by decide) c199
            refine lv_iconst (v := 0) hx hb dX9_readLaw_206 (by decide) ?_
            refine lv_iconst (v := 2) hx hb dX9_readLaw_207 (by decide) ?_
            refine zcallv (va_runV (As := [.int 0, .int 2]) (rest := []) ⟨hx, hb, hml, hown, hts⟩ (c_X9_wants l dC dI cI a N hok (upC (upC σ 0 (upd (upd (upd (upd (upd (upd (σ 0) 2 n2_183) 3 n3_183) 4 n4_183) 5 n5_183) 6 n6_183) 7 n7_183)) 3 (upd (σ 3) (la).toNatClampNeg vv)) H.size (0) (2) ) (cwV 2 hts gX9_readLaw_X9_wants rfl rfl rfl (by decide +kernel) ⟨Nat.le_of_ble_eq_true rfl, Nat.le_of_ble_eq_true rfl⟩) (zpreV (wf := wM a cI) (q0 := 0) (ci := 9) hok hN hS hA hK hP hD rfl rfl) rfl rfl hl.1 rfl (lv_room (Nat.le_of_ble_eq_true rfl)) dX9_readLaw_208 ⟨Nat.zero_le _, Nat.zero_le _⟩) hD hS hA (fun σ1 H locs hv208 hP hD hS => ?_)
            obtain ⟨n6_208, n7_208, es9, hv208⟩ := hv208
            subst σ1
            have hP : va_P (dC, dI) vwCl (wM a cI (upC (upC σ 0 (upd (upd (upd (upd (upd (upd (σ 0) 2 n2_183) 3 n3_183) 4 n4_183) 5 n5_183) 6 n6_208) 7 n7_208)) 3 (upd (σ 3) (la).toNatClampNeg vv))) H := hP
            have hD : va_D A (wM a cI (upC (upC σ 0 (upd (upd (upd (upd (upd (upd (σ 0) 2 n2_183) 3 n3_183) 4 n4_183) 5 n5_183) 6 n6_208) 7 n7_208)) 3 (upd (σ 3) (la).toNatClampNeg vv))) := hD
            replace hv208 : ((¬ (0 : Int32).toInt = 0 ∧ n6_208 = (n6_183)) ∨ ((0 : Int32).toInt = 0 ∧ ((n6_183)).toInt = 0 ∧ n6_208 = (2 : Int32)) ∨ ((0 : Int32).toInt = 0 ∧ ¬ ((n6_183)).toInt = 0 ∧ n6_208 = (n6_183))) := hv208
            replace hv208 : (¬ (0 : Int) = 0 ∧ n6_208.toInt = n6_183.toInt) ∨ ((0 : Int) = 0 ∧ n6_183.toInt = 0 ∧ n6_208.toInt = 2) ∨ ((0 : Int) = 0 ∧ ¬ n6_183.toInt = 0 ∧ n6_208.toInt = n6_183.toInt) := by rcases hv208 with q | q | q; exact Or.inl ⟨by exact q.1, by rw [q.2]⟩; exact Or.inr (Or.inl ⟨by exact q.1, q.2.1, by rw [q.2.2]; decide⟩); exact Or.inr (Or.inr ⟨by exact q.1, q.2.1, by rw [q.2.2]⟩)
            exact ih.2.2.2.2.2  (n2_183) (n3_183) (n4_183) (n5_183) (n6_208) (n7_208) (upd (σ 3) (la).toNatClampNeg vv) H locs ls (by omega) (by omega) (by omega) hP hD hS (lv_sub hl [0] rfl)
          · skip
            have ic199 := zeq (a := n4_183.toInt) (b := 3) rfl (by decide) c199
            refine lv_iconst (v := 1) hx hb dX9_readLaw_202 (by decide) ?_
            refine lv_goto (tgt := 207) hx hb dX9_readLaw_203 (by decide) ?_
            refine lv_iconst (v := 2) hx hb dX9_readLaw_207 (by decide) ?_
            refine zcallv (va_runV (As := [.int 1, .int 2]) (rest := []) ⟨hx, hb, hml, hown, hts⟩ (c_X9_wants l dC dI cI a N hok (upC (upC σ 0 (upd (upd (upd (upd (upd (upd (σ 0) 2 n2_183) 3 n3_183) 4 n4_183) 5 n5_183) 6 n6_183) 7 n7_183)) 3 (upd (σ 3) (la).toNatClampNeg vv)) H.size (1) (2) ) (cwV 2 hts gX9_readLaw_X9_wants rfl rfl rfl (by decide +kernel) ⟨Nat.le_of_ble_eq_true rfl, Nat.le_of_ble_eq_true rfl⟩) (zpreV (wf := wM a cI) (q0 := 0) (ci := 9) hok hN hS hA hK hP hD rfl rfl) rfl rfl hl.1 rfl (lv_room (Nat.le_of_ble_eq_true rfl)) dX9_readLaw_208 ⟨Nat.zero_le _, Nat.zero_le _⟩) hD hS hA (fun σ1 H locs hv208 hP hD hS => ?_)
            obtain ⟨n6_208, n7_208, es9, hv208⟩ := hv208
            subst σ1
            have hP : va_P (dC, dI) vwCl (wM a cI (upC (upC σ 0 (upd (upd (upd (upd (upd (upd (σ 0) 2 n2_183) 3 n3_183) 4 n4_183) 5 n5_183) 6 n6_208) 7 n7_208)) 3 (upd (σ 3) (la).toNatClampNeg vv))) H := hP
            have hD : va_D A (wM a cI (upC (upC σ 0 (upd (upd (upd (upd (upd (upd (σ 0) 2 n2_183) 3 n3_183) 4 n4_183) 5 n5_183) 6 n6_208) 7 n7_208)) 3 (upd (σ 3) (la).toNatClampNeg vv))) := hD
            replace hv208 : ((¬ (1 : Int32).toInt = 0 ∧ n6_208 = (n6_183)) ∨ ((1 : Int32).toInt = 0 ∧ ((n6_183)).toInt = 0 ∧ n6_208 = (2 : Int32)) ∨ ((1 : Int32).toInt = 0 ∧ ¬ ((n6_183)).toInt = 0 ∧ n6_208 = (n6_183))) := hv208
            replace hv208 : (¬ (1 : Int) = 0 ∧ n6_208.toInt = n6_183.toInt) ∨ ((1 : Int) = 0 ∧ n6_183.toInt = 0 ∧ n6_208.toInt = 2) ∨ ((1 : Int) = 0 ∧ ¬ n6_183.toInt = 0 ∧ n6_208.toInt = n6_183.toInt) := by rcases hv208 with q | q | q; exact Or.inl ⟨by exact q.1, by rw [q.2]⟩; exact Or.inr (Or.inl ⟨by exact q.1, q.2.1, by rw [q.2.2]; decide⟩); exact Or.inr (Or.inr ⟨by exact q.1, q.2.1, by rw [q.2.2]⟩)
            exact ih.2.2.2.2.2  (n2_183) (n3_183) (n4_183) (n5_183) (n6_208) (n7_208) (upd (σ 3) (la).toNatClampNeg vv) H locs ls (by omega) (by omega) (by omega) hP hD hS (lv_sub hl [0] rfl)
      · intro m2 m3 m4 m5 m6 m7 w3 H locs ls g1 g2 hmu hP hD hS hl
        refine lv_aload_n hx hb dX9_readLaw_211 rfl (lv_at hl 0 rfl) ?_
        refine zcallv (va_runV (As := []) (rest := []) ⟨hx, hb, hml, hown, hts⟩ (c_X9_goesOn l dC dI cI a N hok (upC (upC σ 0 (upd (upd (upd (upd (upd (upd (σ 0) 2 m2) 3 m3) 4 m4) 5 m5) 6 m6) 7 m7)) 3 w3) H.size  h3 (by show 0 ≤ m2.toInt ∧ m2.toInt ≤ 160; omega) (by show 0 ≤ m3.toInt ∧ m3.toInt ≤ 160; omega) (by show 0 ≤ m6.toInt; omega)) (cwV 0 hts gX9_readLaw_X9_goesOn rfl rfl rfl (by decide +kernel) ⟨Nat.le_of_ble_eq_true rfl, Nat.le_of_ble_eq_true rfl⟩) (zpreV (wf := wM a cI) (q0 := 0) (ci := 9) hok hN hS hA hK hP hD rfl rfl) rfl rfl hl.1 rfl (lv_room (Nat.le_of_ble_eq_true rfl)) dX9_readLaw_212 ⟨Nat.zero_le _, Nat.zero_le _⟩) hD hS hA (fun σ1 H locs hv212 hP hD hS => ?_)
        obtain ⟨n2_212, n3_212, n4_212, n5_212, n6_212, n7_212, es9, hv212⟩ := hv212
        subst σ1
        have hP : va_P (dC, dI) vwCl (wM a cI (upC (upC σ 0 (upd (upd (upd (upd (upd (upd (σ 0) 2 n2_212) 3 n3_212) 4 n4_212) 5 n5_212) 6 n6_212) 7 n7_212)) 3 w3)) H := hP
        have hD : va_D A (wM a cI (upC (upC σ 0 (upd (upd (upd (upd (upd (upd (σ 0) 2 n2_212) 3 n3_212) 4 n4_212) 5 n5_212) 6 n6_212) 7 n7_212)) 3 w3)) := hD
        replace hv212 : (0 ≤ n3_212.toInt ∧ n3_212.toInt ≤ 160) ∧ (((m2)).toInt ≤ n2_212.toInt ∧ n2_212.toInt ≤ 160) ∧ 0 ≤ n6_212.toInt ∧ (n6_212.toInt = 0 → ((m6)).toInt = 0) ∧ (n6_212.toInt = 0 → ¬ n4_212.toInt = 0 → ((m2)).toInt < n2_212.toInt) ∧ (n6_212.toInt = 0 → n4_212.toInt = 1 → 0 ≤ n5_212.toInt) := hv212
        have heq9 : (upC (upC σ 0 (upd (upd (upd (upd (upd (upd (σ 0) 2 n2_212) 3 n3_212) 4 n4_212) 5 n5_212) 6 n6_212) 7 n7_212)) 3 w3) = (upC (upC σ 0 (upd (upd (upd (upd (upd (upd (σ 0) 2 n2_212) 3 n3_212) 4 n4_212) 5 n5_212) 6 n6_212) 7 n7_212)) 3 w3) := rfl
        have hpost : ∃ n2 : Int32, ∃ n3 : Int32, ∃ n4 : Int32, ∃ n5 : Int32, ∃ n6 : Int32, ∃ n7 : Int32, ∃ u3 : Nat → Int32, (upC (upC σ 0 (upd (upd (upd (upd (upd (upd (σ 0) 2 n2_212) 3 n3_212) 4 n4_212) 5 n5_212) 6 n6_212) 7 n7_212)) 3 w3) = (upC (upC σ 0 (upd (upd (upd (upd (upd (upd (σ 0) 2 n2) 3 n3) 4 n4) 5 n5) 6 n6) 7 n7)) 3 u3) ∧ (0 ≤ n3.toInt ∧ n3.toInt ≤ 160) ∧ ((σ 0 2).toInt ≤ n2.toInt ∧ n2.toInt ≤ 160) ∧ 0 ≤ n6.toInt ∧ (n6.toInt = 0 → (σ 0 2).toInt < n2.toInt) ∧ (n6.toInt = 0 → n4.toInt = 1 → 0 ≤ n5.toInt) := by refine ⟨(n2_212), (n3_212), (n4_212), (n5_212), (n6_212), (n7_212), (w3), heq9, ?_⟩; (refine ⟨by omega, by omega, by omega, by omega, by omega⟩)
        exact W.vret hx hb hr (fun t9 ht hW => ⟨⟨(upC (upC σ 0 (upd (upd (upd (upd (upd (upd (σ 0) 2 n2_212) 3 n3_212) 4 n4_212) 5 n5_212) 6 n6_212) 7 n7_212)) 3 w3), rfl, hpost, by rw [ht]; exact hP, va_K.moved hW.alike hK, hD⟩, hS.F ht⟩) hS.2.2 dX9_readLaw_215
  have hl := lv_entry ([.ref (a 0)]) (n := 3) (Nat.le_of_ble_eq_true rfl)
  rw [lg_entry_eq]
  generalize (lg_sl ([.ref (a 0)]) ++ List.replicate (3 - (lg_sl ([.ref (a 0)])).length) Slot.unset).toArray = ls at hl ⊢
  have hl : lv_has ls 3 [(0, .ref (a 0))] := hl
  suffices main : ∀ (H : Heap) (locs : List Loc), va_P (dC, dI) vwCl (wM a cI σ) H → va_D A (wM a cI σ) → va_S A s.heap H locs → W p l e (headSpec wsX9_readLaw RM_X9_readLaw).room s m ([.ref (a 0)] : List Value).toArray below meth c H locs 0 0 (MQ below (zQv (dC, dI) [(cI, .int)] (wM a cI) A (fun (σ1 : Cn) => ∃ n2 : Int32, ∃ n3 : Int32, ∃ n4 : Int32, ∃ n5 : Int32, ∃ n6 : Int32, ∃ n7 : Int32, ∃ u3 : Nat → Int32, σ1 = (upC (upC σ 0 (upd (upd (upd (upd (upd (upd (σ 0) 2 n2) 3 n3) 4 n4) 5 n5) 6 n6) 7 n7)) 3 u3) ∧ (0 ≤ n3.toInt ∧ n3.toInt ≤ 160) ∧ ((σ 0 2).toInt ≤ n2.toInt ∧ n2.toInt ≤ 160) ∧ 0 ≤ n6.toInt ∧ (n6.toInt = 0 → (σ 0 2).toInt < n2.toInt) ∧ (n6.toInt = 0 → n4.toInt = 1 → 0 ≤ n5.toInt))) ([.ref (a 0)] : List Value).toArray s 0 0 A) (F0 m 0 ls []) from main s.heap [] hP hD hS
  intro H locs hP hD hS
  refine lv_aload_n hx hb dX9_readLaw_0 rfl (lv_at hl 0 rfl) ?_
  refine lv_aload_n hx hb dX9_readLaw_1 rfl (lv_at hl 0 rfl) ?_
  refine va_get (D := (dC, dI)) (ci := 9) (v := .int (σ 0 4)) (C := RX9) (T := TX9) (N := 28) hx hb hts in9 hown hK hP 0 rfl rfl 4 (by decide) k91 (fun _ h9 => h9) rfl dX9_readLaw_2 ?_
  refine lv_iconst (v := 1) hx hb dX9_readLaw_5 (by decide) ?_
  refine lv_icmp_ne (tgt := 22) hx hb dX9_readLaw_6 (by decide) (fun c6 => ?_) (fun c6 => ?_)
  · skip
    have ic6 := zneq (a := (σ 0 4).toInt) (b := 1) rfl (by decide) c6
    refine lv_iconst (v := 0) hx hb dX9_readLaw_22 (by decide) ?_
    refine lv_iconst (v := 2) hx hb dX9_readLaw_23 (by decide) ?_
    refine zcallv (va_runV (As := [.int 0, .int 2]) (rest := []) ⟨hx, hb, hml, hown, hts⟩ (c_X9_wants l dC dI cI a N hok σ H.size (0) (2) ) (cwV 2 hts gX9_readLaw_X9_wants rfl rfl rfl (by decide +kernel) ⟨Nat.le_of_ble_eq_true rfl, Nat.le_of_ble_eq_true rfl⟩) (zpreV (wf := wM a cI) (q0 := 0) (ci := 9) hok hN hS hA hK hP hD rfl rfl) rfl rfl hl.1 rfl (lv_room (Nat.le_of_ble_eq_true rfl)) dX9_readLaw_24 ⟨Nat.zero_le _, Nat.zero_le _⟩) hD hS hA (fun σ1 H locs hv24 hP hD hS => ?_)
    obtain ⟨n6_24, n7_24, es9, hv24⟩ := hv24
    subst σ1
    have hP : va_P (dC, dI) vwCl (wM a cI (upC σ 0 (upd (upd (σ 0) 6 n6_24) 7 n7_24))) H := hP
    have hD : va_D A (wM a cI (upC σ 0 (upd (upd (σ 0) 6 n6_24) 7 n7_24))) := hD
    replace hv24 : (¬ (0 : Int) = 0 ∧ n6_24.toInt = (σ 0 6).toInt) ∨ ((0 : Int) = 0 ∧ (σ 0 6).toInt = 0 ∧ n6_24.toInt = 2) ∨ ((0 : Int) = 0 ∧ ¬ (σ 0 6).toInt = 0 ∧ n6_24.toInt = (σ 0 6).toInt) := by rcases hv24 with q | q | q; exact Or.inl ⟨by exact q.1, by rw [q.2]⟩; exact Or.inr (Or.inl ⟨by exact q.1, q.2.1, by rw [q.2.2]; decide⟩); exact Or.inr (Or.inr ⟨by exact q.1, q.2.1, by rw [q.2.2]⟩)
    exact (LP _).1  (σ 0 2) (σ 0 3) (σ 0 4) (σ 0 5) (n6_24) (n7_24) H locs ls (by omega) (by omega) (by omega) (Nat.lt_succ_self _) hP hD hS (lv_sub hl [0] rfl)
  · skip
    have ic6 := zeq (a := (σ 0 4).toInt) (b := 1) rfl (by decide) c6
    refine lv_aload_n hx hb dX9_readLaw_9 rfl (lv_at hl 0 rfl) ?_
    refine va_get (D := (dC, dI)) (ci := 9) (v := .int (σ 0 5)) (C := RX9) (T := TX9) (N := 28) hx hb hts in9 hown hK hP 0 rfl rfl 5 (by decide) k102 (fun _ h9 => h9) rfl dX9_readLaw_10 ?_
    refine lv_bipush (v := 6) hx hb dX9_readLaw_13 (by decide) ?_
    refine lv_icmp_gt (tgt := 22) hx hb dX9_readLaw_15 (by decide) (fun c15 => ?_) (fun c15 => ?_)
    · skip
      have ic15 := zlt (a := 6) (b := (σ 0 5).toInt) (by decide) rfl c15
      refine lv_iconst (v := 0) hx hb dX9_readLaw_22 (by decide) ?_
      refine lv_iconst (v := 2) hx hb dX9_readLaw_23 (by decide) ?_
      refine zcallv (va_runV (As := [.int 0, .int 2]) (rest := []) ⟨hx, hb, hml, hown, hts⟩ (c_X9_wants l dC dI cI a N hok σ H.size (0) (2) ) (cwV 2 hts gX9_readLaw_X9_wants rfl rfl rfl (by decide +kernel) ⟨Nat.le_of_ble_eq_true rfl, Nat.le_of_ble_eq_true rfl⟩) (zpreV (wf := wM a cI) (q0 := 0) (ci := 9) hok hN hS hA hK hP hD rfl rfl) rfl rfl hl.1 rfl (lv_room (Nat.le_of_ble_eq_true rfl)) dX9_readLaw_24 ⟨Nat.zero_le _, Nat.zero_le _⟩) hD hS hA (fun σ1 H locs hv24 hP hD hS => ?_)
      obtain ⟨n6_24, n7_24, es9, hv24⟩ := hv24
      subst σ1
      have hP : va_P (dC, dI) vwCl (wM a cI (upC σ 0 (upd (upd (σ 0) 6 n6_24) 7 n7_24))) H := hP
      have hD : va_D A (wM a cI (upC σ 0 (upd (upd (σ 0) 6 n6_24) 7 n7_24))) := hD
      replace hv24 : (¬ (0 : Int) = 0 ∧ n6_24.toInt = (σ 0 6).toInt) ∨ ((0 : Int) = 0 ∧ (σ 0 6).toInt = 0 ∧ n6_24.toInt = 2) ∨ ((0 : Int) = 0 ∧ ¬ (σ 0 6).toInt = 0 ∧ n6_24.toInt = (σ 0 6).toInt) := by rcases hv24 with q | q | q; exact Or.inl ⟨by exact q.1, by rw [q.2]⟩; exact Or.inr (Or.inl ⟨by exact q.1, q.2.1, by rw [q.2.2]; decide⟩); exact Or.inr (Or.inr ⟨by exact q.1, q.2.1, by rw [q.2.2]⟩)
      exact (LP _).1  (σ 0 2) (σ 0 3) (σ 0 4) (σ 0 5) (n6_24) (n7_24) H locs ls (by omega) (by omega) (by omega) (Nat.lt_succ_self _) hP hD hS (lv_sub hl [0] rfl)
    · skip
      have ic15 := znlt (a := 6) (b := (σ 0 5).toInt) (by decide) rfl c15
      refine lv_iconst (v := 1) hx hb dX9_readLaw_18 (by decide) ?_
      refine lv_goto (tgt := 23) hx hb dX9_readLaw_19 (by decide) ?_
      refine lv_iconst (v := 2) hx hb dX9_readLaw_23 (by decide) ?_
      refine zcallv (va_runV (As := [.int 1, .int 2]) (rest := []) ⟨hx, hb, hml, hown, hts⟩ (c_X9_wants l dC dI cI a N hok σ H.size (1) (2) ) (cwV 2 hts gX9_readLaw_X9_wants rfl rfl rfl (by decide +kernel) ⟨Nat.le_of_ble_eq_true rfl, Nat.le_of_ble_eq_true rfl⟩) (zpreV (wf := wM a cI) (q0 := 0) (ci := 9) hok hN hS hA hK hP hD rfl rfl) rfl rfl hl.1 rfl (lv_room (Nat.le_of_ble_eq_true rfl)) dX9_readLaw_24 ⟨Nat.zero_le _, Nat.zero_le _⟩) hD hS hA (fun σ1 H locs hv24 hP hD hS => ?_)
      obtain ⟨n6_24, n7_24, es9, hv24⟩ := hv24
      subst σ1
      have hP : va_P (dC, dI) vwCl (wM a cI (upC σ 0 (upd (upd (σ 0) 6 n6_24) 7 n7_24))) H := hP
      have hD : va_D A (wM a cI (upC σ 0 (upd (upd (σ 0) 6 n6_24) 7 n7_24))) := hD
      replace hv24 : (¬ (1 : Int) = 0 ∧ n6_24.toInt = (σ 0 6).toInt) ∨ ((1 : Int) = 0 ∧ (σ 0 6).toInt = 0 ∧ n6_24.toInt = 2) ∨ ((1 : Int) = 0 ∧ ¬ (σ 0 6).toInt = 0 ∧ n6_24.toInt = (σ 0 6).toInt) := by rcases hv24 with q | q | q; exact Or.inl ⟨by exact q.1, by rw [q.2]⟩; exact Or.inr (Or.inl ⟨by exact q.1, q.2.1, by rw [q.2.2]; decide⟩); exact Or.inr (Or.inr ⟨by exact q.1, q.2.1, by rw [q.2.2]⟩)
      exact (LP _).1  (σ 0 2) (σ 0 3) (σ 0 4) (σ 0 5) (n6_24) (n7_24) H locs ls (by omega) (by omega) (by omega) (Nat.lt_succ_self _) hP hD hS (lv_sub hl [0] rfl)

abbrev RM_X9_laws : Room := { frames := 6, cells := 0, slots := 0, locals := 129 }
set_option maxHeartbeats 4000000 in
set_option maxRecDepth 100000 in
theorem c_X9_laws (l : Launch) (dC : Nat → ClassId) (dI : Nat → Nat → Nat) (cI : ClassId) (a : Nat → Nat) (N : (Nat → Prop) → State → Prop) (hok : zNok N) (σ : Cn) (sz : Nat)  (h3 : 0 ≤ (σ 0 1).toInt ∧ (σ 0 1).toInt ≤ 160) : Met l yX9_laws wsX9_laws RM_X9_laws (zPc (dC, dI) [(cI, .int)] N (wM a cI) σ sz [.ref (a 0)]) (zQi (dC, dI) [(cI, .int)] (wM a cI) (va_A (wM a cI σ) sz) (fun (r : Int32) (σ1 : Cn) => ∃ n1 : Int32, ∃ n2 : Int32, ∃ n3 : Int32, ∃ n4 : Int32, ∃ n5 : Int32, ∃ n6 : Int32, ∃ n7 : Int32, ∃ u2 : Nat → Int32, ∃ u3 : Nat → Int32, σ1 = (upC (upC (upC σ 0 (upd (upd (upd (upd (upd (upd (upd (σ 0) 1 n1) 2 n2) 3 n3) 4 n4) 5 n5) 6 n6) 7 n7)) 2 u2) 3 u3) ∧ n1.toInt = 0)) 0 0 (va_A (wM a cI σ) sz) := by
  refine Met.ofW (cc := cX9_laws) (maxL := 2) (ret := (some .int)) (by decide) rfl ?_
  intro p e s m args below meth c s₁ B hml hv
  obtain ⟨rfl, hsz, hP, hK, hD0, hN⟩ := hv
  have hx := B.exec
  have hb := B.bytes
  have hr := B.returns
  have hts := atoms_spec (ws := wsX9_laws) B.pre
  have hown : s.vm.findClass RX9 = some m.cls := findClass_of_methodNamed B.named
  have hlocks := B.notSynchronized
  subst hsz
  have hD := hD0.self (sz := s.heap.size)
  generalize hAe : va_A (wM a cI σ) s.heap.size = A at hD hN ⊢
  have hA : ∀ q : Nat, s.heap.size ≤ q → A q := fun q h => by rw [← hAe]; exact Or.inr h
  clear hAe hD0
  have hS : va_S A s.heap s.heap [] := va_S.rf
  have in9 : ∀ w ∈ u_ws RX9 TX9 28, w ∈ wsX9_laws := by decide +kernel
  have k13 := hts (.fieldLink RX9 13 "HouseSortedModel" "laws" "[I") (by decide +kernel)
  have k16 := hts (.fieldLink RX9 16 "HouseSortedModel" "draft" "[I") (by decide +kernel)
  have k61 := hts (.fieldLink RX9 61 "HouseSortedModel" "taped" "I") (by decide +kernel)
  have k71 := hts (.fieldLink RX9 71 "HouseSortedModel" "fault" "I") (by decide +kernel)
  have k77 := hts (.fieldLink RX9 77 "HouseSortedModel" "wrongAt" "I") (by decide +kernel)
  have k80 := hts (.fieldLink RX9 80 "HouseSortedModel" "at" "I") (by decide +kernel)
  have k91 := hts (.fieldLink RX9 91 "HouseSortedModel" "sort" "I") (by decide +kernel)
  have LP : ∀ n : Nat, (∀ (j : Int32) (m2 : Int32) (m6 : Int32) (w3 : Nat → Int32) (H : Heap) (locs : List Loc) (ls : Array Slot), 0 ≤ j.toInt ∧ j.toInt ≤ 7 → m2.toInt = 0 ∧ m6.toInt = 0 → (2000 + (7 - j.toInt).toNat) < n → va_P (dC, dI) vwCl (wM a cI (upC (upC σ 0 (upd (upd (σ 0) 2 m2) 6 m6)) 3 w3)) H → va_D A (wM a cI (upC (upC σ 0 (upd (upd (σ 0) 2 m2) 6 m6)) 3 w3)) → va_S A s.heap H locs → lv_has ls 2 [(0, .ref (a 0)), (1, .int j)] → W p l e (headSpec wsX9_laws RM_X9_laws).room s m ([.ref (a 0)] : List Value).toArray below meth c H locs 0 0 (MQ below (zQi (dC, dI) [(cI, .int)] (wM a cI) A (fun (r : Int32) (σ1 : Cn) => ∃ n1 : Int32, ∃ n2 : Int32, ∃ n3 : Int32, ∃ n4 : Int32, ∃ n5 : Int32, ∃ n6 : Int32, ∃ n7 : Int32, ∃ u2 : Nat → Int32, ∃ u3 : Nat → Int32, σ1 = (upC (upC (upC σ 0 (upd (upd (upd (upd (upd (upd (upd (σ 0) 1 n1) 2 n2) 3 n3) 4 n4) 5 n5) 6 n6) 7 n7)) 2 u2) 3 u3) ∧ n1.toInt = 0)) ([.ref (a 0)] : List Value).toArray s 0 0 A) (F0 m 12 ls [])) ∧ (∀ (m2 : Int32) (m3 : Int32) (m4 : Int32) (m5 : Int32) (m6 : Int32) (m7 : Int32) (w3 : Nat → Int32) (H : Heap) (locs : List Loc) (ls : Array Slot), (0 ≤ m3.toInt ∧ m3.toInt ≤ 160) ∧ (0 ≤ m2.toInt ∧ m2.toInt ≤ 160) ∧ 0 ≤ m6.toInt → (m6.toInt = 0 → m4.toInt = 1 → 0 ≤ m5.toInt) → (if m6.toInt = 0 then 101 + (160 - m2.toInt).toNat else 100) < n → va_P (dC, dI) vwCl (wM a cI (upC (upC σ 0 (upd (upd (upd (upd (upd (upd (σ 0) 2 m2) 3 m3) 4 m4) 5 m5) 6 m6) 7 m7)) 3 w3)) H → va_D A (wM a cI (upC (upC σ 0 (upd (upd (upd (upd (upd (upd (σ 0) 2 m2) 3 m3) 4 m4) 5 m5) 6 m6) 7 m7)) 3 w3)) → va_S A s.heap H locs → lv_has ls 2 [(0, .ref (a 0))] → W p l e (headSpec wsX9_laws RM_X9_laws).room s m ([.ref (a 0)] : List Value).toArray below meth c H locs 0 0 (MQ below (zQi (dC, dI) [(cI, .int)] (wM a cI) A (fun (r : Int32) (σ1 : Cn) => ∃ n1 : Int32, ∃ n2 : Int32, ∃ n3 : Int32, ∃ n4 : Int32, ∃ n5 : Int32, ∃ n6 : Int32, ∃ n7 : Int32, ∃ u2 : Nat → Int32, ∃ u3 : Nat → Int32, σ1 = (upC (upC (upC σ 0 (upd (upd (upd (upd (upd (upd (upd (σ 0) 1 n1) 2 n2) 3 n3) 4 n4) 5 n5) 6 n6) 7 n7)) 2 u2) 3 u3) ∧ n1.toInt = 0)) ([.ref (a 0)] : List Value).toArray s 0 0 A) (F0 m 36 ls [])) ∧ (∀ (j : Int32) (m1 : Int32) (m2 : Int32) (m3 : Int32) (m4 : Int32) (m5 : Int32) (m6 : Int32) (m7 : Int32) (w2 : Nat → Int32) (w3 : Nat → Int32) (H : Heap) (locs : List Loc) (ls : Array Slot), 0 ≤ j.toInt ∧ j.toInt ≤ 7 → m1.toInt = 0 → (7 - j.toInt).toNat < n → va_P (dC, dI) vwCl (wM a cI (upC (upC (upC σ 0 (upd (upd (upd (upd (upd (upd (upd (σ 0) 1 m1) 2 m2) 3 m3) 4 m4) 5 m5) 6 m6) 7 m7)) 2 w2) 3 w3)) H → va_D A (wM a cI (upC (upC (upC σ 0 (upd (upd (upd (upd (upd (upd (upd (σ 0) 1 m1) 2 m2) 3 m3) 4 m4) 5 m5) 6 m6) 7 m7)) 2 w2) 3 w3)) → va_S A s.heap H locs → lv_has ls 2 [(0, .ref (a 0)), (1, .int j)] → W p l e (headSpec wsX9_laws RM_X9_laws).room s m ([.ref (a 0)] : List Value).toArray below meth c H locs 0 0 (MQ below (zQi (dC, dI) [(cI, .int)] (wM a cI) A (fun (r : Int32) (σ1 : Cn) => ∃ n1 : Int32, ∃ n2 : Int32, ∃ n3 : Int32, ∃ n4 : Int32, ∃ n5 : Int32, ∃ n6 : Int32, ∃ n7 : Int32, ∃ u2 : Nat → Int32, ∃ u3 : Nat → Int32, σ1 = (upC (upC (upC σ 0 (upd (upd (upd (upd (upd (upd (upd (σ 0) 1 n1) 2 n2) 3 n3) 4 n4) 5 n5) 6 n6) 7 n7)) 2 u2) 3 u3) ∧ n1.toInt = 0)) ([.ref (a 0)] : List Value).toArray s 0 0 A) (F0 m 79 ls [])) := by
    intro n
    induction n with
    | zero => exact ⟨(by intros; omega), (by intros; omega), (by intros; omega)⟩
    | succ n ih =>
      refine ⟨?_, ?_, ?_⟩
      · intro j m2 m6 w3 H locs ls g1 g2 hmu hP hD hS hl
        refine lv_iload_n hx hb dX9_laws_12 rfl (lv_at hl 1 rfl) ?_
        refine lv_bipush (v := 7) hx hb dX9_laws_13 (by decide) ?_
        refine lv_icmp_ge (tgt := 32) hx hb dX9_laws_15 (by decide) (fun c15 => ?_) (fun c15 => ?_)
        · skip
          have ic15 := zle (a := 7) (b := j.toInt) (by decide) rfl c15
          refine lv_aload_n hx hb dX9_laws_32 rfl (lv_at hl 0 rfl) ?_
          refine zcallv (va_runV (As := []) (rest := []) ⟨hx, hb, hml, hown, hts⟩ (c_X9_next l dC dI cI a N hok (upC (upC σ 0 (upd (upd (σ 0) 2 m2) 6 m6)) 3 w3) H.size  h3 (by show 0 ≤ m2.toInt ∧ m2.toInt ≤ 160; omega) (by show 0 ≤ m6.toInt; omega)) (cwV 0 hts gX9_laws_X9_next rfl rfl rfl (by decide +kernel) ⟨Nat.le_of_ble_eq_true rfl, Nat.le_of_ble_eq_true rfl⟩) (zpreV (wf := wM a cI) (q0 := 0) (ci := 9) hok hN hS hA hK hP hD rfl rfl) rfl rfl hl.1 rfl (lv_room (Nat.le_of_ble_eq_true rfl)) dX9_laws_33 ⟨Nat.zero_le _, Nat.zero_le _⟩) hD hS hA (fun σ1 H locs hv33 hP hD hS => ?_)
          obtain ⟨n2_33, n3_33, n4_33, n5_33, n6_33, n7_33, es9, hv33⟩ := hv33
          subst σ1
          have hP : va_P (dC, dI) vwCl (wM a cI (upC (upC σ 0 (upd (upd (upd (upd (upd (upd (σ 0) 2 n2_33) 3 n3_33) 4 n4_33) 5 n5_33) 6 n6_33) 7 n7_33)) 3 w3)) H := hP
          have hD : va_D A (wM a cI (upC (upC σ 0 (upd (upd (upd (upd (upd (upd (σ 0) 2 n2_33) 3 n3_33) 4 n4_33) 5 n5_33) 6 n6_33) 7 n7_33)) 3 w3)) := hD
          replace hv33 : (0 ≤ n3_33.toInt ∧ n3_33.toInt ≤ 160) ∧ (((m2)).toInt ≤ n2_33.toInt ∧ n2_33.toInt ≤ 160) ∧ 0 ≤ n6_33.toInt ∧ (n6_33.toInt = 0 → ((m6)).toInt = 0) ∧ (n6_33.toInt = 0 → ¬ n4_33.toInt = 0 → ((m2)).toInt < n2_33.toInt) ∧ (n6_33.toInt = 0 → n4_33.toInt = 1 → 0 ≤ n5_33.toInt) := hv33
          exact ih.2.1  (n2_33) (n3_33) (n4_33) (n5_33) (n6_33) (n7_33) (w3) H locs ls (by omega) (by omega) (by split <;> (try split at hmu) <;> omega) hP hD hS (lv_sub hl [0] rfl)
        · skip
          have ic15 := znle (a := 7) (b := j.toInt) (by decide) rfl c15
          refine lv_aload_n hx hb dX9_laws_18 rfl (lv_at hl 0 rfl) ?_
          refine va_get (D := (dC, dI)) (ci := 9) (v := .ref (a 3)) (C := RX9) (T := TX9) (N := 28) hx hb hts in9 hown hK hP 0 rfl rfl 9 (by decide) k16 (fun _ h9 => h9) rfl dX9_laws_19 ?_
          refine lv_iload_n hx hb dX9_laws_22 rfl (lv_at hl 1 rfl) ?_
          refine lv_bipush (v := (-4)) hx hb dX9_laws_23 (by decide) ?_
          refine va_iast (D := (dC, dI)) (f := w3) hx hb hK hP hD hS 3 0 rfl rfl (i := j) (n := 7) (zin (by omega) (by omega)) dX9_laws_25 (fun H locs hP hD hS => ?_)
          have hP : va_P (dC, dI) vwCl (wM a cI (upC (upC σ 0 (upd (upd (σ 0) 2 m2) 6 m6)) 3 (upd (w3) (j).toNatClampNeg (-4)))) H := hP
          have hD : va_D A (wM a cI (upC (upC σ 0 (upd (upd (σ 0) 2 m2) 6 m6)) 3 (upd (w3) (j).toNatClampNeg (-4)))) := hD
          obtain ⟨v26, ev26⟩ : ∃ y : Int32, y = j + 1 := ⟨_, rfl⟩
          refine lv_iinc (v := v26) (lv' := [(1, .int v26), (0, .ref (a 0))]) hx hb dX9_laws_26 hl (k := 1) rfl (by rw [ev26]; rfl) (by decide) rfl (fun ls hl => ?_)
          have tv26 : v26.toInt = j.toInt + 1 := by rw [ev26, zadd, show (1 : Int32).toInt = 1 from by decide]; omega
          refine lv_goto (tgt := 12) hx hb dX9_laws_29 (by decide) ?_
          exact ih.1 (v26) (m2) (m6) (upd (w3) (j).toNatClampNeg (-4)) H locs ls (by omega) (g2) (by omega) hP hD hS (lv_sub hl [1, 0] rfl)
      · intro m2 m3 m4 m5 m6 m7 w3 H locs ls g1 g2 hmu hP hD hS hl
        refine lv_aload_n hx hb dX9_laws_36 rfl (lv_at hl 0 rfl) ?_
        refine va_get (D := (dC, dI)) (ci := 9) (v := .int m6) (C := RX9) (T := TX9) (N := 28) hx hb hts in9 hown hK hP 0 rfl rfl 6 (by decide) k71 (fun _ h9 => h9) rfl dX9_laws_37 ?_
        refine lv_if_ne (tgt := 57) hx hb dX9_laws_40 (by decide) (fun c40 => ?_) (fun c40 => ?_)
        · skip
          have ic40 := zneq (a := m6.toInt) (b := 0) rfl (by decide) c40
          refine lv_aload_n hx hb dX9_laws_57 rfl (lv_at hl 0 rfl) ?_
          refine lv_iconst (v := 0) hx hb dX9_laws_58 (by decide) ?_
          refine va_put (D := (dC, dI)) (ci := 9) (v := .int 0) (ty := .int) (C := RX9) (T := TX9) (N := 28) hx hb hts in9 tyX9 tyX9_ok nmX9 hown hK hP hD hS 0 rfl rfl 1 (by decide) k61 (fun _ h9 => h9) rfl (by decide +kernel) rfl rfl (Nat.le_of_ble_eq_true rfl) dX9_laws_59 (fun H locs hP hD hS => ?_)
          have hP : va_P (dC, dI) vwCl (wM a cI (upC (upC σ 0 (upd (upd (upd (upd (upd (upd (upd (σ 0) 1 0) 2 m2) 3 m3) 4 m4) 5 m5) 6 m6) 7 m7)) 3 w3)) H := hP
          have hD : va_D A (wM a cI (upC (upC σ 0 (upd (upd (upd (upd (upd (upd (upd (σ 0) 1 0) 2 m2) 3 m3) 4 m4) 5 m5) 6 m6) 7 m7)) 3 w3)) := hD
          refine lv_aload_n hx hb dX9_laws_62 rfl (lv_at hl 0 rfl) ?_
          refine va_get (D := (dC, dI)) (ci := 9) (v := .int m6) (C := RX9) (T := TX9) (N := 28) hx hb hts in9 hown hK hP 0 rfl rfl 6 (by decide) k71 (fun _ h9 => h9) rfl dX9_laws_63 ?_
          refine lv_if_le (tgt := 77) hx hb dX9_laws_66 (by decide) (fun c66 => ?_) (fun c66 => ?_)
          · skip
            have ic66 := zle (a := m6.toInt) (b := 0) rfl (by decide) c66
            refine lv_iconst (v := 0) hx hb dX9_laws_77 (by decide) ?_
            refine lv_istore_n (lv' := [(1, .int 0), (0, .ref (a 0))]) hx hb dX9_laws_78 rfl hl (by decide) rfl (fun ls hl => ?_)
            exact ih.2.2 (0) (0) (m2) (m3) (m4) (m5) (m6) (m7) (σ 2) (w3) H locs ls (by first | omega | decide) (by first | exact g2 | decide) (by first | omega | (rw [show (0 : Int32).toInt = 0 from by decide]; (try split at hmu) <;> omega)) hP hD hS (lv_sub hl [1, 0] rfl)
          · skip
            have ic66 := znle (a := m6.toInt) (b := 0) rfl (by decide) c66
            refine lv_bipush (v := (-10)) hx hb dX9_laws_69 (by decide) ?_
            refine lv_aload_n hx hb dX9_laws_71 rfl (lv_at hl 0 rfl) ?_
            refine va_get (D := (dC, dI)) (ci := 9) (v := .int m7) (C := RX9) (T := TX9) (N := 28) hx hb hts in9 hown hK hP 0 rfl rfl 7 (by decide) k77 (fun _ h9 => h9) rfl dX9_laws_72 ?_
            refine lv_isub hx hb dX9_laws_75 ?_
            refine lv_topi (fun v75 ev75 => ?_)
            have heq9 : (upC (upC σ 0 (upd (upd (upd (upd (upd (upd (upd (σ 0) 1 0) 2 m2) 3 m3) 4 m4) 5 m5) 6 m6) 7 m7)) 3 w3) = (upC (upC (upC σ 0 (upd (upd (upd (upd (upd (upd (upd (σ 0) 1 0) 2 m2) 3 m3) 4 m4) 5 m5) 6 m6) 7 m7)) 2 (σ 2)) 3 w3) := by
              funext k
              by_cases e0 : k = 0
              · subst e0; rfl
              by_cases e2 : k = 2
              · subst e2; rfl
              by_cases e3 : k = 3
              · subst e3; rfl
              simp only [upC, if_neg e0, if_neg e2, if_neg e3]
            have hpost : ∃ n1 : Int32, ∃ n2 : Int32, ∃ n3 : Int32, ∃ n4 : Int32, ∃ n5 : Int32, ∃ n6 : Int32, ∃ n7 : Int32, ∃ u2 : Nat → Int32, ∃ u3 : Nat → Int32, (upC (upC σ 0 (upd (upd (upd (upd (upd (upd (upd (σ 0) 1 0) 2 m2) 3 m3) 4 m4) 5 m5) 6 m6) 7 m7)) 3 w3) = (upC (upC (upC σ 0 (upd (upd (upd (upd (upd (upd (upd (σ 0) 1 n1) 2 n2) 3 n3) 4 n4) 5 n5) 6 n6) 7 n7)) 2 u2) 3 u3) ∧ n1.toInt = 0 := by refine ⟨(0), (m2), (m3), (m4), (m5), (m6), (m7), (σ 2), (w3), heq9, ?_⟩; first | exact g2 | decide
            exact W.iret (v := v75) hx hb hr (fun t9 ht hW => ⟨⟨v75, (upC (upC σ 0 (upd (upd (upd (upd (upd (upd (upd (σ 0) 1 0) 2 m2) 3 m3) 4 m4) 5 m5) 6 m6) 7 m7)) 3 w3), rfl, hpost, by rw [ht]; exact hP, va_K.moved hW.alike hK, hD⟩, hS.F ht⟩) hS.2.2 dX9_laws_76
        · skip
          have ic40 := zeq (a := m6.toInt) (b := 0) rfl (by decide) c40
          refine lv_aload_n hx hb dX9_laws_43 rfl (lv_at hl 0 rfl) ?_
          refine va_get (D := (dC, dI)) (ci := 9) (v := .int m4) (C := RX9) (T := TX9) (N := 28) hx hb hts in9 hown hK hP 0 rfl rfl 4 (by decide) k91 (fun _ h9 => h9) rfl dX9_laws_44 ?_
          refine lv_if_eq (tgt := 57) hx hb dX9_laws_47 (by decide) (fun c47 => ?_) (fun c47 => ?_)
          · skip
            have ic47 := zeq (a := m4.toInt) (b := 0) rfl (by decide) c47
            refine lv_aload_n hx hb dX9_laws_57 rfl (lv_at hl 0 rfl) ?_
            refine lv_iconst (v := 0) hx hb dX9_laws_58 (by decide) ?_
            refine va_put (D := (dC, dI)) (ci := 9) (v := .int 0) (ty := .int) (C := RX9) (T := TX9) (N := 28) hx hb hts in9 tyX9 tyX9_ok nmX9 hown hK hP hD hS 0 rfl rfl 1 (by decide) k61 (fun _ h9 => h9) rfl (by decide +kernel) rfl rfl (Nat.le_of_ble_eq_true rfl) dX9_laws_59 (fun H locs hP hD hS => ?_)
            have hP : va_P (dC, dI) vwCl (wM a cI (upC (upC σ 0 (upd (upd (upd (upd (upd (upd (upd (σ 0) 1 0) 2 m2) 3 m3) 4 m4) 5 m5) 6 m6) 7 m7)) 3 w3)) H := hP
            have hD : va_D A (wM a cI (upC (upC σ 0 (upd (upd (upd (upd (upd (upd (upd (σ 0) 1 0) 2 m2) 3 m3) 4 m4) 5 m5) 6 m6) 7 m7)) 3 w3)) := hD
            refine lv_aload_n hx hb dX9_laws_62 rfl (lv_at hl 0 rfl) ?_
            refine va_get (D := (dC, dI)) (ci := 9) (v := .int m6) (C := RX9) (T := TX9) (N := 28) hx hb hts in9 hown hK hP 0 rfl rfl 6 (by decide) k71 (fun _ h9 => h9) rfl dX9_laws_63 ?_
            refine lv_if_le (tgt := 77) hx hb dX9_laws_66 (by decide) (fun c66 => ?_) (fun c66 => ?_)
            · skip
              have ic66 := zle (a := m6.toInt) (b := 0) rfl (by decide) c66
              refine lv_iconst (v := 0) hx hb dX9_laws_77 (by decide) ?_
              refine lv_istore_n (lv' := [(1, .int 0), (0, .ref (a 0))]) hx hb dX9_laws_78 rfl hl (by decide) rfl (fun ls hl => ?_)
              exact ih.2.2 (0) (0) (m2) (m3) (m4) (m5) (m6) (m7) (σ 2) (w3) H locs ls (by first | omega | decide) (by first | exact g2 | decide) (by first | omega | (rw [show (0 : Int32).toInt = 0 from by decide]; (try split at hmu) <;> omega)) hP hD hS (lv_sub hl [1, 0] rfl)
            · skip
              have ic66 := znle (a := m6.toInt) (b := 0) rfl (by decide) c66
              refine lv_bipush (v := (-10)) hx hb dX9_laws_69 (by decide) ?_
              refine lv_aload_n hx hb dX9_laws_71 rfl (lv_at hl 0 rfl) ?_
              refine va_get (D := (dC, dI)) (ci := 9) (v := .int m7) (C := RX9) (T := TX9) (N := 28) hx hb hts in9 hown hK hP 0 rfl rfl 7 (by decide) k77 (fun _ h9 => h9) rfl dX9_laws_72 ?_
              refine lv_isub hx hb dX9_laws_75 ?_
              refine lv_topi (fun v75 ev75 => ?_)
              have heq9 : (upC (upC σ 0 (upd (upd (upd (upd (upd (upd (upd (σ 0) 1 0) 2 m2) 3 m3) 4 m4) 5 m5) 6 m6) 7 m7)) 3 w3) = (upC (upC (upC σ 0 (upd (upd (upd (upd (upd (upd (upd (σ 0) 1 0) 2 m2) 3 m3) 4 m4) 5 m5) 6 m6) 7 m7)) 2 (σ 2)) 3 w3) := by
                funext k
                by_cases e0 : k = 0
                · subst e0; rfl
                by_cases e2 : k = 2
                · subst e2; rfl
                by_cases e3 : k = 3
                · subst e3; rfl
                simp only [upC, if_neg e0, if_neg e2, if_neg e3]
              have hpost : ∃ n1 : Int32, ∃ n2 : Int32, ∃ n3 : Int32, ∃ n4 : Int32, ∃ n5 : Int32, ∃ n6 : Int32, ∃ n7 : Int32, ∃ u2 : Nat → Int32, ∃ u3 : Nat → Int32, (upC (upC σ 0 (upd (upd (upd (upd (upd (upd (upd (σ 0) 1 0) 2 m2) 3 m3) 4 m4) 5 m5) 6 m6) 7 m7)) 3 w3) = (upC (upC (upC σ 0 (upd (upd (upd (upd (upd (upd (upd (σ 0) 1 n1) 2 n2) 3 n3) 4 n4) 5 n5) 6 n6) 7 n7)) 2 u2) 3 u3) ∧ n1.toInt = 0 := by refine ⟨(0), (m2), (m3), (m4), (m5), (m6), (m7), (σ 2), (w3), heq9, ?_⟩; first | exact g2 | decide
              exact W.iret (v := v75) hx hb hr (fun t9 ht hW => ⟨⟨v75, (upC (upC σ 0 (upd (upd (upd (upd (upd (upd (upd (σ 0) 1 0) 2 m2) 3 m3) 4 m4) 5 m5) 6 m6) 7 m7)) 3 w3), rfl, hpost, by rw [ht]; exact hP, va_K.moved hW.alike hK, hD⟩, hS.F ht⟩) hS.2.2 dX9_laws_76
          · skip
            have ic47 := zneq (a := m4.toInt) (b := 0) rfl (by decide) c47
            refine lv_aload_n hx hb dX9_laws_50 rfl (lv_at hl 0 rfl) ?_
            refine zcallv (va_runV (As := []) (rest := []) ⟨hx, hb, hml, hown, hts⟩ (c_X9_readLaw l dC dI cI a N hok (upC (upC σ 0 (upd (upd (upd (upd (upd (upd (σ 0) 2 m2) 3 m3) 4 m4) 5 m5) 6 m6) 7 m7)) 3 w3) H.size  h3 (by show 0 ≤ m2.toInt ∧ m2.toInt ≤ 160; omega) (by show 0 ≤ m3.toInt ∧ m3.toInt ≤ 160; omega) (by show 0 ≤ m6.toInt; omega) (by show m6.toInt = 0 → m4.toInt = 1 → 0 ≤ m5.toInt; omega)) (cwV 0 hts gX9_laws_X9_readLaw rfl rfl rfl (by decide +kernel) ⟨Nat.le_of_ble_eq_true rfl, Nat.le_of_ble_eq_true rfl⟩) (zpreV (wf := wM a cI) (q0 := 0) (ci := 9) hok hN hS hA hK hP hD rfl rfl) rfl rfl hl.1 rfl (lv_room (Nat.le_of_ble_eq_true rfl)) dX9_laws_51 ⟨Nat.zero_le _, Nat.zero_le _⟩) hD hS hA (fun σ1 H locs hv51 hP hD hS => ?_)
            obtain ⟨n2_51, n3_51, n4_51, n5_51, n6_51, n7_51, u3_51, es9, hv51⟩ := hv51
            subst σ1
            have hP : va_P (dC, dI) vwCl (wM a cI (upC (upC σ 0 (upd (upd (upd (upd (upd (upd (σ 0) 2 n2_51) 3 n3_51) 4 n4_51) 5 n5_51) 6 n6_51) 7 n7_51)) 3 u3_51)) H := hP
            have hD : va_D A (wM a cI (upC (upC σ 0 (upd (upd (upd (upd (upd (upd (σ 0) 2 n2_51) 3 n3_51) 4 n4_51) 5 n5_51) 6 n6_51) 7 n7_51)) 3 u3_51)) := hD
            replace hv51 : (0 ≤ n3_51.toInt ∧ n3_51.toInt ≤ 160) ∧ (((m2)).toInt ≤ n2_51.toInt ∧ n2_51.toInt ≤ 160) ∧ 0 ≤ n6_51.toInt ∧ (n6_51.toInt = 0 → ((m2)).toInt < n2_51.toInt) ∧ (n6_51.toInt = 0 → n4_51.toInt = 1 → 0 ≤ n5_51.toInt) := hv51
            refine lv_goto (tgt := 36) hx hb dX9_laws_54 (by decide) ?_
            exact ih.2.1  (n2_51) (n3_51) (n4_51) (n5_51) (n6_51) (n7_51) (u3_51) H locs ls (by omega) (by omega) (by split <;> (try split at hmu) <;> omega) hP hD hS (lv_sub hl [0] rfl)
      · intro j m1 m2 m3 m4 m5 m6 m7 w2 w3 H locs ls g1 g2 hmu hP hD hS hl
        refine lv_iload_n hx hb dX9_laws_79 rfl (lv_at hl 1 rfl) ?_
        refine lv_bipush (v := 7) hx hb dX9_laws_80 (by decide) ?_
        refine lv_icmp_ge (tgt := 103) hx hb dX9_laws_82 (by decide) (fun c82 => ?_) (fun c82 => ?_)
        · skip
          have ic82 := zle (a := 7) (b := j.toInt) (by decide) rfl c82
          refine lv_aload_n hx hb dX9_laws_103 rfl (lv_at hl 0 rfl) ?_
          refine zcalli (va_runV (As := []) (rest := []) ⟨hx, hb, hml, hown, hts⟩ (c_X9_lawMany l dC dI cI a N hok (upC (upC (upC σ 0 (upd (upd (upd (upd (upd (upd (upd (σ 0) 1 m1) 2 m2) 3 m3) 4 m4) 5 m5) 6 m6) 7 m7)) 2 w2) 3 w3) H.size  ) (cwV 0 hts gX9_laws_X9_lawMany rfl rfl rfl (by decide +kernel) ⟨Nat.le_of_ble_eq_true rfl, Nat.le_of_ble_eq_true rfl⟩) (zpreV (wf := wM a cI) (q0 := 0) (ci := 9) hok hN hS hA hK hP hD rfl rfl) rfl rfl hl.1 rfl (lv_room (Nat.le_of_ble_eq_true rfl)) dX9_laws_104 ⟨Nat.zero_le _, Nat.zero_le _⟩) hD hS hA (fun v104 σ1 H locs hv104 hP hD hS => ?_)
          obtain ⟨es9, hv104⟩ := hv104
          subst σ1
          have heq9 : (upC (upC (upC σ 0 (upd (upd (upd (upd (upd (upd (upd (σ 0) 1 m1) 2 m2) 3 m3) 4 m4) 5 m5) 6 m6) 7 m7)) 2 w2) 3 w3) = (upC (upC (upC σ 0 (upd (upd (upd (upd (upd (upd (upd (σ 0) 1 m1) 2 m2) 3 m3) 4 m4) 5 m5) 6 m6) 7 m7)) 2 w2) 3 w3) := rfl
          have hpost : ∃ n1 : Int32, ∃ n2 : Int32, ∃ n3 : Int32, ∃ n4 : Int32, ∃ n5 : Int32, ∃ n6 : Int32, ∃ n7 : Int32, ∃ u2 : Nat → Int32, ∃ u3 : Nat → Int32, (upC (upC (upC σ 0 (upd (upd (upd (upd (upd (upd (upd (σ 0) 1 m1) 2 m2) 3 m3) 4 m4) 5 m5) 6 m6) 7 m7)) 2 w2) 3 w3) = (upC (upC (upC σ 0 (upd (upd (upd (upd (upd (upd (upd (σ 0) 1 n1) 2 n2) 3 n3) 4 n4) 5 n5) 6 n6) 7 n7)) 2 u2) 3 u3) ∧ n1.toInt = 0 := by refine ⟨(m1), (m2), (m3), (m4), (m5), (m6), (m7), (w2), (w3), heq9, ?_⟩; first | exact g2 | decide
          exact W.iret (v := v104) hx hb hr (fun t9 ht hW => ⟨⟨v104, (upC (upC (upC σ 0 (upd (upd (upd (upd (upd (upd (upd (σ 0) 1 m1) 2 m2) 3 m3) 4 m4) 5 m5) 6 m6) 7 m7)) 2 w2) 3 w3), rfl, hpost, by rw [ht]; exact hP, va_K.moved hW.alike hK, hD⟩, hS.F ht⟩) hS.2.2 dX9_laws_107
        · skip
          have ic82 := znle (a := 7) (b := j.toInt) (by decide) rfl c82
          refine lv_aload_n hx hb dX9_laws_85 rfl (lv_at hl 0 rfl) ?_
          refine va_get (D := (dC, dI)) (ci := 9) (v := .ref (a 2)) (C := RX9) (T := TX9) (N := 28) hx hb hts in9 hown hK hP 0 rfl rfl 8 (by decide) k13 (fun _ h9 => h9) rfl dX9_laws_86 ?_
          refine lv_iload_n hx hb dX9_laws_89 rfl (lv_at hl 1 rfl) ?_
          refine lv_aload_n hx hb dX9_laws_90 rfl (lv_at hl 0 rfl) ?_
          refine va_get (D := (dC, dI)) (ci := 9) (v := .ref (a 3)) (C := RX9) (T := TX9) (N := 28) hx hb hts in9 hown hK hP 0 rfl rfl 9 (by decide) k16 (fun _ h9 => h9) rfl dX9_laws_91 ?_
          refine lv_iload_n hx hb dX9_laws_94 rfl (lv_at hl 1 rfl) ?_
          refine va_iald (D := (dC, dI)) (f := w3) hx hb hK hP 3 0 rfl rfl (i := j) (n := 7) (zin (by omega) (by omega)) dX9_laws_95 ?_
          refine lv_topi (fun v95 ev95 => ?_)
          have tv95 := congrArg Int32.toInt ev95
          refine va_iast (D := (dC, dI)) (f := w2) hx hb hK hP hD hS 2 0 rfl rfl (i := j) (n := 7) (zin (by omega) (by omega)) dX9_laws_96 (fun H locs hP hD hS => ?_)
          have hP : va_P (dC, dI) vwCl (wM a cI (upC (upC (upC σ 0 (upd (upd (upd (upd (upd (upd (upd (σ 0) 1 m1) 2 m2) 3 m3) 4 m4) 5 m5) 6 m6) 7 m7)) 2 (upd (w2) (j).toNatClampNeg v95)) 3 w3)) H := hP
          have hD : va_D A (wM a cI (upC (upC (upC σ 0 (upd (upd (upd (upd (upd (upd (upd (σ 0) 1 m1) 2 m2) 3 m3) 4 m4) 5 m5) 6 m6) 7 m7)) 2 (upd (w2) (j).toNatClampNeg v95)) 3 w3)) := hD
          obtain ⟨v97, ev97⟩ : ∃ y : Int32, y = j + 1 := ⟨_, rfl⟩
          refine lv_iinc (v := v97) (lv' := [(1, .int v97), (0, .ref (a 0))]) hx hb dX9_laws_97 hl (k := 1) rfl (by rw [ev97]; rfl) (by decide) rfl (fun ls hl => ?_)
          have tv97 : v97.toInt = j.toInt + 1 := by rw [ev97, zadd, show (1 : Int32).toInt = 1 from by decide]; omega
          refine lv_goto (tgt := 79) hx hb dX9_laws_100 (by decide) ?_
          exact ih.2.2 (v97) (m1) (m2) (m3) (m4) (m5) (m6) (m7) (upd (w2) (j).toNatClampNeg v95) (w3) H locs ls (by first | omega | decide) (by first | exact g2 | decide) (by first | omega | (rw [show (0 : Int32).toInt = 0 from by decide]; (try split at hmu) <;> omega)) hP hD hS (lv_sub hl [1, 0] rfl)
  have hl := lv_entry ([.ref (a 0)]) (n := 2) (Nat.le_of_ble_eq_true rfl)
  rw [lg_entry_eq]
  generalize (lg_sl ([.ref (a 0)]) ++ List.replicate (2 - (lg_sl ([.ref (a 0)])).length) Slot.unset).toArray = ls at hl ⊢
  have hl : lv_has ls 2 [(0, .ref (a 0))] := hl
  suffices main : ∀ (H : Heap) (locs : List Loc), va_P (dC, dI) vwCl (wM a cI σ) H → va_D A (wM a cI σ) → va_S A s.heap H locs → W p l e (headSpec wsX9_laws RM_X9_laws).room s m ([.ref (a 0)] : List Value).toArray below meth c H locs 0 0 (MQ below (zQi (dC, dI) [(cI, .int)] (wM a cI) A (fun (r : Int32) (σ1 : Cn) => ∃ n1 : Int32, ∃ n2 : Int32, ∃ n3 : Int32, ∃ n4 : Int32, ∃ n5 : Int32, ∃ n6 : Int32, ∃ n7 : Int32, ∃ u2 : Nat → Int32, ∃ u3 : Nat → Int32, σ1 = (upC (upC (upC σ 0 (upd (upd (upd (upd (upd (upd (upd (σ 0) 1 n1) 2 n2) 3 n3) 4 n4) 5 n5) 6 n6) 7 n7)) 2 u2) 3 u3) ∧ n1.toInt = 0)) ([.ref (a 0)] : List Value).toArray s 0 0 A) (F0 m 0 ls []) from main s.heap [] hP hD hS
  intro H locs hP hD hS
  refine lv_aload_n hx hb dX9_laws_0 rfl (lv_at hl 0 rfl) ?_
  refine lv_iconst (v := 0) hx hb dX9_laws_1 (by decide) ?_
  refine va_put (D := (dC, dI)) (ci := 9) (v := .int 0) (ty := .int) (C := RX9) (T := TX9) (N := 28) hx hb hts in9 tyX9 tyX9_ok nmX9 hown hK hP hD hS 0 rfl rfl 6 (by decide) k71 (fun _ h9 => h9) rfl (by decide +kernel) rfl rfl (Nat.le_of_ble_eq_true rfl) dX9_laws_2 (fun H locs hP hD hS => ?_)
  have hP : va_P (dC, dI) vwCl (wM a cI (upC σ 0 (upd (σ 0) 6 0))) H := hP
  have hD : va_D A (wM a cI (upC σ 0 (upd (σ 0) 6 0))) := hD
  refine lv_aload_n hx hb dX9_laws_5 rfl (lv_at hl 0 rfl) ?_
  refine lv_iconst (v := 0) hx hb dX9_laws_6 (by decide) ?_
  refine va_put (D := (dC, dI)) (ci := 9) (v := .int 0) (ty := .int) (C := RX9) (T := TX9) (N := 28) hx hb hts in9 tyX9 tyX9_ok nmX9 hown hK hP hD hS 0 rfl rfl 2 (by decide) k80 (fun _ h9 => h9) rfl (by decide +kernel) rfl rfl (Nat.le_of_ble_eq_true rfl) dX9_laws_7 (fun H locs hP hD hS => ?_)
  have hP : va_P (dC, dI) vwCl (wM a cI (upC σ 0 (upd (upd (σ 0) 2 0) 6 0))) H := hP
  have hD : va_D A (wM a cI (upC σ 0 (upd (upd (σ 0) 2 0) 6 0))) := hD
  refine lv_iconst (v := 0) hx hb dX9_laws_10 (by decide) ?_
  refine lv_istore_n (lv' := [(1, .int 0), (0, .ref (a 0))]) hx hb dX9_laws_11 rfl hl (by decide) rfl (fun ls hl => ?_)
  exact (LP _).1 (0) (0) (0) (σ 3) H locs ls (by decide) (by decide) (Nat.lt_succ_self _) hP hD hS (lv_sub hl [1, 0] rfl)

