abbrev RM_X9_findLoads : Room := { frames := 3, cells := 0, slots := 0, locals := 67 }
set_option maxHeartbeats 4000000 in
set_option maxRecDepth 100000 in
theorem c_X9_findLoads (l : Launch) (dC : Nat → ClassId) (dI : Nat → Nat → Nat) (cI : ClassId) (a : Nat → Nat) (N : (Nat → Prop) → State → Prop) (hok : zNok N) (σ : Cn) (sz : Nat) (x1 : Int32) (h0 : 0 ≤ (σ 0 10).toInt ∧ (σ 0 10).toInt ≤ 4) (h2 : 0 ≤ (σ 0 11).toInt ∧ (σ 0 11).toInt ≤ 10) : Met l yX9_findLoads wsX9_findLoads RM_X9_findLoads (zPc (dC, dI) [(cI, .int)] N (wM a cI) σ sz [.ref (a 0), .int x1]) (zQi (dC, dI) [(cI, .int)] (wM a cI) (va_A (wM a cI σ) sz) (fun (r : Int32) (σ1 : Cn) => ∃ n21 : Int32, ∃ u12 : Nat → Int32, ∃ u13 : Nat → Int32, ∃ u14 : Nat → Int32, σ1 = (upC (upC (upC (upC σ 0 (upd (σ 0) 21 n21)) 12 u12) 13 u13) 14 u14) ∧ (0 ≤ n21.toInt ∧ n21.toInt ≤ 10) ∧ (∀ t : Nat, (t : Int) < (σ 0 11).toInt → mWay σ t = x1 → ∃ i : Nat, (i : Int) < n21.toInt ∧ (u12 i).toInt = t))) 0 0 (va_A (wM a cI σ) sz) := by
  refine Met.ofW (cc := cX9_findLoads) (maxL := 4) (ret := (some .int)) (by decide) rfl ?_
  intro p e s m args below meth c s₁ B hml hv
  obtain ⟨rfl, hsz, hP, hK, hD0, hN⟩ := hv
  have hx := B.exec
  have hb := B.bytes
  have hr := B.returns
  have hts := atoms_spec (ws := wsX9_findLoads) B.pre
  have hown : s.vm.findClass RX9 = some m.cls := findClass_of_methodNamed B.named
  have hlocks := B.notSynchronized
  subst hsz
  have hD := hD0.self (sz := s.heap.size)
  generalize hAe : va_A (wM a cI σ) s.heap.size = A at hD hN ⊢
  have hA : ∀ q : Nat, s.heap.size ≤ q → A q := fun q h => by rw [← hAe]; exact Or.inr h
  clear hAe hD0
  have hS : va_S A s.heap s.heap [] := va_S.rf
  have in9 : ∀ w ∈ u_ws RX9 TX9 28, w ∈ wsX9_findLoads := by decide +kernel
  have k146 := hts (.fieldLink RX9 146 "HouseSortedModel" "things" "I") (by decide +kernel)
  have k19 := hts (.fieldLink RX9 19 "HouseSortedModel" "weights" "[I") (by decide +kernel)
  have k225 := hts (.fieldLink RX9 225 "HouseSortedModel" "goods" "I") (by decide +kernel)
  have k43 := hts (.fieldLink RX9 43 "HouseSortedModel" "good" "[I") (by decide +kernel)
  have LP : ∀ n : Nat, (∀ (hy : Int32) (j : Int32) (m21 : Int32) (w12 : Nat → Int32) (H : Heap) (locs : List Loc) (ls : Array Slot), 0 ≤ j.toInt ∧ j.toInt ≤ (σ 0 11).toInt → 0 ≤ m21.toInt ∧ m21.toInt ≤ j.toInt → (∀ i : Nat, (i : Int) < m21.toInt → 0 ≤ (w12 i).toInt ∧ (w12 i).toInt < 10) → (∀ t : Nat, (t : Int) < j.toInt → mWay σ t = x1 → ∃ i : Nat, (i : Int) < m21.toInt ∧ (w12 i).toInt = t) → (hy.toInt = 0 → (∀ i : Nat, (i : Int) < m21.toInt → (σ 4 (w12 i).toNatClampNeg).toInt ≤ (mLaw (σ 2) 3).toInt)) → (100 + (10 - j.toInt).toNat) < n → va_P (dC, dI) vwCl (wM a cI (upC (upC σ 0 (upd (σ 0) 21 m21)) 12 w12)) H → va_D A (wM a cI (upC (upC σ 0 (upd (σ 0) 21 m21)) 12 w12)) → va_S A s.heap H locs → lv_has ls 4 [(0, .ref (a 0)), (1, .int x1), (2, .int hy), (3, .int j)] → W p l e (headSpec wsX9_findLoads RM_X9_findLoads).room s m ([.ref (a 0), .int x1] : List Value).toArray below meth c H locs 0 0 (MQ below (zQi (dC, dI) [(cI, .int)] (wM a cI) A (fun (r : Int32) (σ1 : Cn) => ∃ n21 : Int32, ∃ u12 : Nat → Int32, ∃ u13 : Nat → Int32, ∃ u14 : Nat → Int32, σ1 = (upC (upC (upC (upC σ 0 (upd (σ 0) 21 n21)) 12 u12) 13 u13) 14 u14) ∧ (0 ≤ n21.toInt ∧ n21.toInt ≤ 10) ∧ (∀ t : Nat, (t : Int) < (σ 0 11).toInt → mWay σ t = x1 → ∃ i : Nat, (i : Int) < n21.toInt ∧ (u12 i).toInt = t))) ([.ref (a 0), .int x1] : List Value).toArray s 0 0 A) (F0 m 9 ls [])) ∧ (∀ (va : Int32) (m21 : Int32) (w12 : Nat → Int32) (w13 : Nat → Int32) (w14 : Nat → Int32) (H : Heap) (locs : List Loc) (ls : Array Slot), 0 ≤ va.toInt ∧ va.toInt ≤ m21.toInt → 0 ≤ m21.toInt ∧ m21.toInt ≤ 10 → (∀ i : Nat, (i : Int) < m21.toInt → 0 ≤ (w12 i).toInt ∧ (w12 i).toInt < 10) → (∀ t : Nat, (t : Int) < (σ 0 11).toInt → mWay σ t = x1 → ∃ i : Nat, (i : Int) < m21.toInt ∧ (w12 i).toInt = t) → (∀ i : Nat, (i : Int) < m21.toInt → (σ 4 (w12 i).toNatClampNeg).toInt ≤ (mLaw (σ 2) 3).toInt) → (10 - va.toInt).toNat < n → va_P (dC, dI) vwCl (wM a cI (upC (upC (upC (upC σ 0 (upd (σ 0) 21 m21)) 12 w12) 13 w13) 14 w14)) H → va_D A (wM a cI (upC (upC (upC (upC σ 0 (upd (σ 0) 21 m21)) 12 w12) 13 w13) 14 w14)) → va_S A s.heap H locs → lv_has ls 4 [(0, .ref (a 0)), (1, .int x1), (3, .int va)] → W p l e (headSpec wsX9_findLoads RM_X9_findLoads).room s m ([.ref (a 0), .int x1] : List Value).toArray below meth c H locs 0 0 (MQ below (zQi (dC, dI) [(cI, .int)] (wM a cI) A (fun (r : Int32) (σ1 : Cn) => ∃ n21 : Int32, ∃ u12 : Nat → Int32, ∃ u13 : Nat → Int32, ∃ u14 : Nat → Int32, σ1 = (upC (upC (upC (upC σ 0 (upd (σ 0) 21 n21)) 12 u12) 13 u13) 14 u14) ∧ (0 ≤ n21.toInt ∧ n21.toInt ≤ 10) ∧ (∀ t : Nat, (t : Int) < (σ 0 11).toInt → mWay σ t = x1 → ∃ i : Nat, (i : Int) < n21.toInt ∧ (u12 i).toInt = t))) ([.ref (a 0), .int x1] : List Value).toArray s 0 0 A) (F0 m 85 ls [])) := by
    intro n
    induction n with
    | zero => exact ⟨(by intros; omega), (by intros; omega)⟩
    | succ n ih =>
      refine ⟨?_, ?_⟩
      · intro hy j m21 w12 H locs ls g1 g2 g3 g4 g5 hmu hP hD hS hl
        refine lv_iload_n hx hb dX9_findLoads_9 rfl (lv_at hl 3 rfl) ?_
        refine lv_aload_n hx hb dX9_findLoads_10 rfl (lv_at hl 0 rfl) ?_
        refine va_get (D := (dC, dI)) (ci := 9) (v := .int (σ 0 11)) (C := RX9) (T := TX9) (N := 28) hx hb hts in9 hown hK hP 0 rfl rfl 11 (by decide) k146 (fun _ h9 => h9) rfl dX9_findLoads_11 ?_
        refine lv_icmp_ge (tgt := 76) hx hb dX9_findLoads_14 (by decide) (fun c14 => ?_) (fun c14 => ?_)
        · skip
          have ic14 := zle (a := (σ 0 11).toInt) (b := j.toInt) rfl rfl c14
          refine lv_iload_n hx hb dX9_findLoads_76 rfl (lv_at hl 2 rfl) ?_
          refine lv_if_eq (tgt := 83) hx hb dX9_findLoads_77 (by decide) (fun c77 => ?_) (fun c77 => ?_)
          · skip
            have ic77 := zeq (a := hy.toInt) (b := 0) rfl (by decide) c77
            refine lv_iconst (v := 0) hx hb dX9_findLoads_83 (by decide) ?_
            refine lv_istore_n (lv' := [(3, .int 0), (0, .ref (a 0)), (1, .int x1), (2, .int hy)]) hx hb dX9_findLoads_84 rfl hl (by decide) rfl (fun ls hl => ?_)
            exact ih.2 (0) (m21) (w12) (σ 13) (σ 14) H locs ls (by first | omega | (rw [show (0 : Int32).toInt = 0 from by decide]; omega)) (by omega) (g3) (by first | exact g4 | exact fun t ht q => g4 t (by omega) q) (by first | exact g5 | exact g5 (by omega)) (by first | omega | (rw [show (0 : Int32).toInt = 0 from by decide]; omega)) hP hD hS (lv_sub hl [1, 2, 0] rfl)
          · skip
            have ic77 := zneq (a := hy.toInt) (b := 0) rfl (by decide) c77
            refine lv_bipush (v := (-4)) hx hb dX9_findLoads_80 (by decide) ?_
            have heq9 : (upC (upC σ 0 (upd (σ 0) 21 m21)) 12 w12) = (upC (upC (upC (upC σ 0 (upd (σ 0) 21 m21)) 12 w12) 13 (σ 13)) 14 (σ 14)) := by
              funext k
              by_cases e0 : k = 0
              · subst e0; rfl
              by_cases e12 : k = 12
              · subst e12; rfl
              by_cases e13 : k = 13
              · subst e13; rfl
              by_cases e14 : k = 14
              · subst e14; rfl
              simp only [upC, if_neg e0, if_neg e12, if_neg e13, if_neg e14]
            have hpost : ∃ n21 : Int32, ∃ u12 : Nat → Int32, ∃ u13 : Nat → Int32, ∃ u14 : Nat → Int32, (upC (upC σ 0 (upd (σ 0) 21 m21)) 12 w12) = (upC (upC (upC (upC σ 0 (upd (σ 0) 21 n21)) 12 u12) 13 u13) 14 u14) ∧ (0 ≤ n21.toInt ∧ n21.toInt ≤ 10) ∧ (∀ t : Nat, (t : Int) < (σ 0 11).toInt → mWay σ t = x1 → ∃ i : Nat, (i : Int) < n21.toInt ∧ (u12 i).toInt = t) := by refine ⟨(m21), (w12), (σ 13), (σ 14), heq9, ?_⟩; exact ⟨by omega, fun t ht q => g4 t (by omega) q⟩
            exact W.iret (v := (-4)) hx hb hr (fun t9 ht hW => ⟨⟨(-4), (upC (upC σ 0 (upd (σ 0) 21 m21)) 12 w12), rfl, hpost, by rw [ht]; exact hP, va_K.moved hW.alike hK, hD⟩, hS.F ht⟩) hS.2.2 dX9_findLoads_82
        · skip
          have ic14 := znle (a := (σ 0 11).toInt) (b := j.toInt) rfl rfl c14
          refine lv_aload_n hx hb dX9_findLoads_17 rfl (lv_at hl 0 rfl) ?_
          refine lv_iload_n hx hb dX9_findLoads_18 rfl (lv_at hl 3 rfl) ?_
          refine zcalli (va_runV (As := [.int j]) (rest := []) ⟨hx, hb, hml, hown, hts⟩ (c_X9_wayNow l dC dI cI a N hok (upC (upC σ 0 (upd (σ 0) 21 m21)) 12 w12) H.size (j) h0 (by omega)) (cwV 1 hts gX9_findLoads_X9_wayNow rfl rfl rfl (by decide +kernel) ⟨Nat.le_of_ble_eq_true rfl, Nat.le_of_ble_eq_true rfl⟩) (zpreV (wf := wM a cI) (q0 := 0) (ci := 9) hok hN hS hA hK hP hD rfl rfl) rfl rfl hl.1 rfl (lv_room (Nat.le_of_ble_eq_true rfl)) dX9_findLoads_19 ⟨Nat.zero_le _, Nat.zero_le _⟩) hD hS hA (fun v19 σ1 H locs hv19 hP hD hS => ?_)
          obtain ⟨es9, hv19⟩ := hv19
          subst σ1
          replace hv19 : (v19 : Int32) = mWay σ (j : Int32).toNatClampNeg := hv19
          refine lv_iload_n hx hb dX9_findLoads_22 rfl (lv_at hl 1 rfl) ?_
          refine lv_icmp_ne (tgt := 70) hx hb dX9_findLoads_23 (by decide) (fun c23 => ?_) (fun c23 => ?_)
          · skip
            have ic23 := zneq (a := v19.toInt) (b := x1.toInt) rfl rfl c23
            obtain ⟨v70, ev70⟩ : ∃ y : Int32, y = j + 1 := ⟨_, rfl⟩
            refine lv_iinc (v := v70) (lv' := [(3, .int v70), (0, .ref (a 0)), (1, .int x1), (2, .int hy)]) hx hb dX9_findLoads_70 hl (k := 3) rfl (by rw [ev70]; rfl) (by decide) rfl (fun ls hl => ?_)
            have tv70 : v70.toInt = j.toInt + 1 := by rw [ev70, zadd, show (1 : Int32).toInt = 1 from by decide]; omega
            refine lv_goto (tgt := 9) hx hb dX9_findLoads_73 (by decide) ?_
            exact ih.1 (hy) (v70) (m21) (w12) H locs ls (by omega) (by omega) (by first | exact g3 | (have q8 := zcl (x := m21) (by omega); intro i hi; by_cases q : i = m21.toNatClampNeg; rw [q, pk_us]; omega; rw [pk_un q]; exact g3 i (by omega))) (by first | (intro t ht q; rcases (show (t : Int) < j.toInt ∨ (t : Int) = j.toInt from by omega) with q1 | q1; exact g4 t q1 q; exfalso; have q2 := zcl (x := j) (by omega); rw [show t = j.toNatClampNeg from by omega] at q; exact c23 (hv19.trans q)) | (intro t ht q; have q8 := zcl (x := m21) (by omega); rcases (show (t : Int) < j.toInt ∨ (t : Int) = j.toInt from by omega) with q1 | q1; obtain ⟨i, hi, e9⟩ := g4 t q1 q; exact ⟨i, by omega, by rw [pk_un (by omega)]; exact e9⟩; exact ⟨m21.toNatClampNeg, by omega, by rw [pk_us]; omega⟩)) (by first | exact g5 | exact (fun z => absurd z (by decide)) | (intro z i hi; have q8 := zcl (x := m21) (by omega); by_cases q : i = m21.toNatClampNeg; rw [q, pk_us, ← ev55, ← hv58]; omega; rw [pk_un q]; exact g5 (by omega) i (by omega))) (by omega) hP hD hS (lv_sub hl [1, 2, 3, 0] rfl)
          · skip
            have ic23 := zeq (a := v19.toInt) (b := x1.toInt) rfl rfl c23
            refine lv_aload_n hx hb dX9_findLoads_26 rfl (lv_at hl 0 rfl) ?_
            refine va_get (D := (dC, dI)) (ci := 9) (v := .ref (a 12)) (C := RX9) (T := TX9) (N := 28) hx hb hts in9 hown hK hP 0 rfl rfl 22 (by decide) k43 (fun _ h9 => h9) rfl dX9_findLoads_27 ?_
            refine lv_aload_n hx hb dX9_findLoads_30 rfl (lv_at hl 0 rfl) ?_
            refine va_get (D := (dC, dI)) (ci := 9) (v := .int m21) (C := RX9) (T := TX9) (N := 28) hx hb hts in9 hown hK hP 0 rfl rfl 21 (by decide) k225 (fun _ h9 => h9) rfl dX9_findLoads_31 ?_
            refine lv_iload_n hx hb dX9_findLoads_34 rfl (lv_at hl 3 rfl) ?_
            refine va_iast (D := (dC, dI)) (f := w12) hx hb hK hP hD hS 12 0 rfl rfl (i := m21) (n := 10) (zin (by omega) (by omega)) dX9_findLoads_35 (fun H locs hP hD hS => ?_)
            have hP : va_P (dC, dI) vwCl (wM a cI (upC (upC σ 0 (upd (σ 0) 21 m21)) 12 (upd (w12) (m21).toNatClampNeg j))) H := hP
            have hD : va_D A (wM a cI (upC (upC σ 0 (upd (σ 0) 21 m21)) 12 (upd (w12) (m21).toNatClampNeg j))) := hD
            refine lv_aload_n hx hb dX9_findLoads_36 rfl (lv_at hl 0 rfl) ?_
            refine lv_dup hx hb dX9_findLoads_37 rfl ?_
            refine va_get (D := (dC, dI)) (ci := 9) (v := .int m21) (C := RX9) (T := TX9) (N := 28) hx hb hts in9 hown hK hP 0 rfl rfl 21 (by decide) k225 (fun _ h9 => h9) rfl dX9_findLoads_38 ?_
            refine lv_iconst (v := 1) hx hb dX9_findLoads_41 (by decide) ?_
            refine lv_iadd hx hb dX9_findLoads_42 ?_
            refine lv_topi (fun v42 ev42 => ?_)
            have tv42 : v42.toInt = m21.toInt + 1 := by rw [ev42, zadd, show (1 : Int32).toInt = 1 from by decide]; omega
            refine va_put (D := (dC, dI)) (ci := 9) (v := .int v42) (ty := .int) (C := RX9) (T := TX9) (N := 28) hx hb hts in9 tyX9 tyX9_ok nmX9 hown hK hP hD hS 0 rfl rfl 21 (by decide) k225 (fun _ h9 => h9) rfl (by decide +kernel) rfl rfl (Nat.le_of_ble_eq_true rfl) dX9_findLoads_43 (fun H locs hP hD hS => ?_)
            have hP : va_P (dC, dI) vwCl (wM a cI (upC (upC σ 0 (upd (σ 0) 21 v42)) 12 (upd (w12) (m21).toNatClampNeg j))) H := hP
            have hD : va_D A (wM a cI (upC (upC σ 0 (upd (σ 0) 21 v42)) 12 (upd (w12) (m21).toNatClampNeg j))) := hD
            refine lv_iload_n hx hb dX9_findLoads_46 rfl (lv_at hl 2 rfl) ?_
            refine lv_if_ne (tgt := 64) hx hb dX9_findLoads_47 (by decide) (fun c47 => ?_) (fun c47 => ?_)
            · skip
              have ic47 := zneq (a := hy.toInt) (b := 0) rfl (by decide) c47
              refine lv_iconst (v := 1) hx hb dX9_findLoads_64 (by decide) ?_
              refine lv_goto (tgt := 69) hx hb dX9_findLoads_65 (by decide) ?_
              refine lv_istore_n (lv' := [(2, .int 1), (0, .ref (a 0)), (1, .int x1), (3, .int j)]) hx hb dX9_findLoads_69 rfl hl (by decide) rfl (fun ls hl => ?_)
              obtain ⟨v70, ev70⟩ : ∃ y : Int32, y = j + 1 := ⟨_, rfl⟩
              refine lv_iinc (v := v70) (lv' := [(3, .int v70), (2, .int 1), (0, .ref (a 0)), (1, .int x1)]) hx hb dX9_findLoads_70 hl (k := 3) rfl (by rw [ev70]; rfl) (by decide) rfl (fun ls hl => ?_)
              have tv70 : v70.toInt = j.toInt + 1 := by rw [ev70, zadd, show (1 : Int32).toInt = 1 from by decide]; omega
              refine lv_goto (tgt := 9) hx hb dX9_findLoads_73 (by decide) ?_
              exact ih.1 (1) (v70) (v42) (upd (w12) (m21).toNatClampNeg j) H locs ls (by omega) (by omega) (by first | exact g3 | (have q8 := zcl (x := m21) (by omega); intro i hi; by_cases q : i = m21.toNatClampNeg; rw [q, pk_us]; omega; rw [pk_un q]; exact g3 i (by omega))) (by first | (intro t ht q; rcases (show (t : Int) < j.toInt ∨ (t : Int) = j.toInt from by omega) with q1 | q1; exact g4 t q1 q; exfalso; have q2 := zcl (x := j) (by omega); rw [show t = j.toNatClampNeg from by omega] at q; exact c23 (hv19.trans q)) | (intro t ht q; have q8 := zcl (x := m21) (by omega); rcases (show (t : Int) < j.toInt ∨ (t : Int) = j.toInt from by omega) with q1 | q1; obtain ⟨i, hi, e9⟩ := g4 t q1 q; exact ⟨i, by omega, by rw [pk_un (by omega)]; exact e9⟩; exact ⟨m21.toNatClampNeg, by omega, by rw [pk_us]; omega⟩)) (by first | exact g5 | exact (fun z => absurd z (by decide)) | (intro z i hi; have q8 := zcl (x := m21) (by omega); by_cases q : i = m21.toNatClampNeg; rw [q, pk_us, ← ev55, ← hv58]; omega; rw [pk_un q]; exact g5 (by omega) i (by omega))) (by omega) hP hD hS (lv_sub hl [2, 3, 1, 0] rfl)
            · skip
              have ic47 := zeq (a := hy.toInt) (b := 0) rfl (by decide) c47
              refine lv_aload_n hx hb dX9_findLoads_50 rfl (lv_at hl 0 rfl) ?_
              refine va_get (D := (dC, dI)) (ci := 9) (v := .ref (a 4)) (C := RX9) (T := TX9) (N := 28) hx hb hts in9 hown hK hP 0 rfl rfl 12 (by decide) k19 (fun _ h9 => h9) rfl dX9_findLoads_51 ?_
              refine lv_iload_n hx hb dX9_findLoads_54 rfl (lv_at hl 3 rfl) ?_
              refine va_iald (D := (dC, dI)) (f := σ 4) hx hb hK hP 4 0 rfl rfl (i := j) (n := 10) (zin (by omega) (by omega)) dX9_findLoads_55 ?_
              refine lv_topi (fun v55 ev55 => ?_)
              have tv55 := congrArg Int32.toInt ev55
              refine lv_aload_n hx hb dX9_findLoads_56 rfl (lv_at hl 0 rfl) ?_
              refine lv_iconst (v := 3) hx hb dX9_findLoads_57 (by decide) ?_
              refine zcalli (va_runV (As := [.int 3]) (rest := [.int v55]) ⟨hx, hb, hml, hown, hts⟩ (c_X9_lawOf l dC dI cI a N hok (upC (upC σ 0 (upd (σ 0) 21 v42)) 12 (upd (w12) (m21).toNatClampNeg j)) H.size (3) (by decide)) (cwV 1 hts gX9_findLoads_X9_lawOf rfl rfl rfl (by decide +kernel) ⟨Nat.le_of_ble_eq_true rfl, Nat.le_of_ble_eq_true rfl⟩) (zpreV (wf := wM a cI) (q0 := 0) (ci := 9) hok hN hS hA hK hP hD rfl rfl) rfl rfl hl.1 rfl (lv_room (Nat.le_of_ble_eq_true rfl)) dX9_findLoads_58 ⟨Nat.zero_le _, Nat.zero_le _⟩) hD hS hA (fun v58 σ1 H locs hv58 hP hD hS => ?_)
              obtain ⟨es9, hv58⟩ := hv58
              subst σ1
              replace hv58 : (v58 : Int32) = mLaw (σ 2) (3 : Int32) := hv58
              try simp only [show (3 : Int32).toInt = 3 from by decide] at hv58
              refine lv_icmp_le (tgt := 68) hx hb dX9_findLoads_61 (by decide) (fun c61 => ?_) (fun c61 => ?_)
              · skip
                have ic61 := zle (a := v55.toInt) (b := v58.toInt) rfl rfl c61
                refine lv_iconst (v := 0) hx hb dX9_findLoads_68 (by decide) ?_
                refine lv_istore_n (lv' := [(2, .int 0), (0, .ref (a 0)), (1, .int x1), (3, .int j)]) hx hb dX9_findLoads_69 rfl hl (by decide) rfl (fun ls hl => ?_)
                obtain ⟨v70, ev70⟩ : ∃ y : Int32, y = j + 1 := ⟨_, rfl⟩
                refine lv_iinc (v := v70) (lv' := [(3, .int v70), (2, .int 0), (0, .ref (a 0)), (1, .int x1)]) hx hb dX9_findLoads_70 hl (k := 3) rfl (by rw [ev70]; rfl) (by decide) rfl (fun ls hl => ?_)
                have tv70 : v70.toInt = j.toInt + 1 := by rw [ev70, zadd, show (1 : Int32).toInt = 1 from by decide]; omega
                refine lv_goto (tgt := 9) hx hb dX9_findLoads_73 (by decide) ?_
                exact ih.1 (0) (v70) (v42) (upd (w12) (m21).toNatClampNeg j) H locs ls (by omega) (by omega) (by first | exact g3 | (have q8 := zcl (x := m21) (by omega); intro i hi; by_cases q : i = m21.toNatClampNeg; rw [q, pk_us]; omega; rw [pk_un q]; exact g3 i (by omega))) (by first | (intro t ht q; rcases (show (t : Int) < j.toInt ∨ (t : Int) = j.toInt from by omega) with q1 | q1; exact g4 t q1 q; exfalso; have q2 := zcl (x := j) (by omega); rw [show t = j.toNatClampNeg from by omega] at q; exact c23 (hv19.trans q)) | (intro t ht q; have q8 := zcl (x := m21) (by omega); rcases (show (t : Int) < j.toInt ∨ (t : Int) = j.toInt from by omega) with q1 | q1; obtain ⟨i, hi, e9⟩ := g4 t q1 q; exact ⟨i, by omega, by rw [pk_un (by omega)]; exact e9⟩; exact ⟨m21.toNatClampNeg, by omega, by rw [pk_us]; omega⟩)) (by first | exact g5 | exact (fun z => absurd z (by decide)) | (intro z i hi; have q8 := zcl (x := m21) (by omega); by_cases q : i = m21.toNatClampNeg; rw [q, pk_us, ← ev55, ← hv58]; omega; rw [pk_un q]; exact g5 (by omega) i (by omega))) (by omega) hP hD hS (lv_sub hl [2, 3, 1, 0] rfl)
              · skip
                have ic61 := znle (a := v55.toInt) (b := v58.toInt) rfl rfl c61
                refine lv_iconst (v := 1) hx hb dX9_findLoads_64 (by decide) ?_
                refine lv_goto (tgt := 69) hx hb dX9_findLoads_65 (by decide) ?_
                refine lv_istore_n (lv' := [(2, .int 1), (0, .ref (a 0)), (1, .int x1), (3, .int j)]) hx hb dX9_findLoads_69 rfl hl (by decide) rfl (fun ls hl => ?_)
                obtain ⟨v70, ev70⟩ : ∃ y : Int32, y = j + 1 := ⟨_, rfl⟩
                refine lv_iinc (v := v70) (lv' := [(3, .int v70), (2, .int 1), (0, .ref (a 0)), (1, .int x1)]) hx hb dX9_findLoads_70 hl (k := 3) rfl (by rw [ev70]; rfl) (by decide) rfl (fun ls hl => ?_)
                have tv70 : v70.toInt = j.toInt + 1 := by rw [ev70, zadd, show (1 : Int32).toInt = 1 from by decide]; omega
                refine lv_goto (tgt := 9) hx hb dX9_findLoads_73 (by decide) ?_
                exact ih.1 (1) (v70) (v42) (upd (w12) (m21).toNatClampNeg j) H locs ls (by omega) (by omega) (by first | exact g3 | (have q8 := zcl (x := m21) (by omega); intro i hi; by_cases q : i = m21.toNatClampNeg; rw [q, pk_us]; omega; rw [pk_un q]; exact g3 i (by omega))) (by first | (intro t ht q; rcases (show (t : Int) < j.toInt ∨ (t : Int) = j.toInt from by omega) with q1 | q1; exact g4 t q1 q; exfalso; have q2 := zcl (x := j) (by omega); rw [show t = j.toNatClampNeg from by omega] at q; exact c23 (hv19.trans q)) | (intro t ht q; have q8 := zcl (x := m21) (by omega); rcases (show (t : Int) < j.toInt ∨ (t : Int) = j.toInt from by omega) with q1 | q1; obtain ⟨i, hi, e9⟩ := g4 t q1 q; exact ⟨i, by omega, by rw [pk_un (by omega)]; exact e9⟩; exact ⟨m21.toNatClampNeg, by omega, by rw [pk_us]; omega⟩)) (by first | exact g5 | exact (fun z => absurd z (by decide)) | (intro z i hi; have q8 := zcl (x := m21) (by omega); by_cases q : i = m21.toNatClampNeg; rw [q, pk_us, ← ev55, ← hv58]; omega; rw [pk_un q]; exact g5 (by omega) i (by omega))) (by omega) hP hD hS (lv_sub hl [2, 3, 1, 0] rfl)
      · intro va m21 w12 w13 w14 H locs ls g1 g2 g3 g4 g5 hmu hP hD hS hl
        refine lv_aload_n hx hb dX9_findLoads_85 rfl (lv_at hl 0 rfl) ?_
        refine lv_iload_n hx hb dX9_findLoads_86 rfl (lv_at hl 2 rfl) ?_
        refine zcalli (va_runV (As := [.int va]) (rest := []) ⟨hx, hb, hml, hown, hts⟩ (c_X9_lays l dC dI cI a N hok (upC (upC (upC (upC σ 0 (upd (σ 0) 21 m21)) 12 w12) 13 w13) 14 w14) H.size (va) (by show 0 ≤ m21.toInt ∧ m21.toInt ≤ 10; omega) g3) (cwV 1 hts gX9_findLoads_X9_lays rfl rfl rfl (by decide +kernel) ⟨Nat.le_of_ble_eq_true rfl, Nat.le_of_ble_eq_true rfl⟩) (zpreV (wf := wM a cI) (q0 := 0) (ci := 9) hok hN hS hA hK hP hD rfl rfl) rfl rfl hl.1 rfl (lv_room (Nat.le_of_ble_eq_true rfl)) dX9_findLoads_87 ⟨Nat.zero_le _, Nat.zero_le _⟩) hD hS hA (fun v87 σ1 H locs hv87 hP hD hS => ?_)
        obtain ⟨u13_87, u14_87, es9, hv87⟩ := hv87
        subst σ1
        have hP : va_P (dC, dI) vwCl (wM a cI (upC (upC (upC (upC σ 0 (upd (σ 0) 21 m21)) 12 w12) 13 u13_87) 14 u14_87)) H := hP
        have hD : va_D A (wM a cI (upC (upC (upC (upC σ 0 (upd (σ 0) 21 m21)) 12 w12) 13 u13_87) 14 u14_87)) := hD
        replace hv87 : ((v87 : Int32).toInt = 1 ∨ (v87 : Int32).toInt = 0) ∧ ((((m21)).toInt ≤ (va : Int32).toInt ∧ ∀ i : Nat, (i : Int) < ((m21)).toInt → ((σ 4) ((w12) i).toNatClampNeg).toInt ≤ (mLaw (σ 2) 3).toInt) → (v87 : Int32).toInt = 1) := hv87
        refine lv_if_ne (tgt := 99) hx hb dX9_findLoads_90 (by decide) (fun c90 => ?_) (fun c90 => ?_)
        · skip
          have ic90 := zneq (a := v87.toInt) (b := 0) rfl (by decide) c90
          refine lv_iload_n hx hb dX9_findLoads_99 rfl (lv_at hl 2 rfl) ?_
          have heq9 : (upC (upC (upC (upC σ 0 (upd (σ 0) 21 m21)) 12 w12) 13 u13_87) 14 u14_87) = (upC (upC (upC (upC σ 0 (upd (σ 0) 21 m21)) 12 w12) 13 u13_87) 14 u14_87) := rfl
          have hpost : ∃ n21 : Int32, ∃ u12 : Nat → Int32, ∃ u13 : Nat → Int32, ∃ u14 : Nat → Int32, (upC (upC (upC (upC σ 0 (upd (σ 0) 21 m21)) 12 w12) 13 u13_87) 14 u14_87) = (upC (upC (upC (upC σ 0 (upd (σ 0) 21 n21)) 12 u12) 13 u13) 14 u14) ∧ (0 ≤ n21.toInt ∧ n21.toInt ≤ 10) ∧ (∀ t : Nat, (t : Int) < (σ 0 11).toInt → mWay σ t = x1 → ∃ i : Nat, (i : Int) < n21.toInt ∧ (u12 i).toInt = t) := by refine ⟨(m21), (w12), (u13_87), (u14_87), heq9, ?_⟩; exact ⟨by omega, g4⟩
          exact W.iret (v := va) hx hb hr (fun t9 ht hW => ⟨⟨va, (upC (upC (upC (upC σ 0 (upd (σ 0) 21 m21)) 12 w12) 13 u13_87) 14 u14_87), rfl, hpost, by rw [ht]; exact hP, va_K.moved hW.alike hK, hD⟩, hS.F ht⟩) hS.2.2 dX9_findLoads_100
        · skip
          have ic90 := zeq (a := v87.toInt) (b := 0) rfl (by decide) c90
          have hlt : va.toInt < m21.toInt := by rcases (show va.toInt < m21.toInt ∨ m21.toInt ≤ va.toInt from by omega) with q | q; exact q; exfalso; have q2 := hv87.2 ⟨q, g5⟩; omega
          obtain ⟨v93, ev93⟩ : ∃ y : Int32, y = va + 1 := ⟨_, rfl⟩
          refine lv_iinc (v := v93) (lv' := [(3, .int v93), (0, .ref (a 0)), (1, .int x1)]) hx hb dX9_findLoads_93 hl (k := 2) rfl (by rw [ev93]; rfl) (by decide) rfl (fun ls hl => ?_)
          have tv93 : v93.toInt = va.toInt + 1 := by rw [ev93, zadd, show (1 : Int32).toInt = 1 from by decide]; omega
          refine lv_goto (tgt := 85) hx hb dX9_findLoads_96 (by decide) ?_
          exact ih.2 (v93) (m21) (w12) (u13_87) (u14_87) H locs ls (by first | omega | (rw [show (0 : Int32).toInt = 0 from by decide]; omega)) (by omega) (g3) (by first | exact g4 | exact fun t ht q => g4 t (by omega) q) (by first | exact g5 | exact g5 (by omega)) (by first | omega | (rw [show (0 : Int32).toInt = 0 from by decide]; omega)) hP hD hS (lv_sub hl [1, 2, 0] rfl)
  have hl := lv_entry ([.ref (a 0), .int x1]) (n := 4) (Nat.le_of_ble_eq_true rfl)
  rw [lg_entry_eq]
  generalize (lg_sl ([.ref (a 0), .int x1]) ++ List.replicate (4 - (lg_sl ([.ref (a 0), .int x1])).length) Slot.unset).toArray = ls at hl ⊢
  have hl : lv_has ls 4 [(0, .ref (a 0)), (1, .int x1)] := hl
  suffices main : ∀ (H : Heap) (locs : List Loc), va_P (dC, dI) vwCl (wM a cI σ) H → va_D A (wM a cI σ) → va_S A s.heap H locs → W p l e (headSpec wsX9_findLoads RM_X9_findLoads).room s m ([.ref (a 0), .int x1] : List Value).toArray below meth c H locs 0 0 (MQ below (zQi (dC, dI) [(cI, .int)] (wM a cI) A (fun (r : Int32) (σ1 : Cn) => ∃ n21 : Int32, ∃ u12 : Nat → Int32, ∃ u13 : Nat → Int32, ∃ u14 : Nat → Int32, σ1 = (upC (upC (upC (upC σ 0 (upd (σ 0) 21 n21)) 12 u12) 13 u13) 14 u14) ∧ (0 ≤ n21.toInt ∧ n21.toInt ≤ 10) ∧ (∀ t : Nat, (t : Int) < (σ 0 11).toInt → mWay σ t = x1 → ∃ i : Nat, (i : Int) < n21.toInt ∧ (u12 i).toInt = t))) ([.ref (a 0), .int x1] : List Value).toArray s 0 0 A) (F0 m 0 ls []) from main s.heap [] hP hD hS
  intro H locs hP hD hS
  refine lv_aload_n hx hb dX9_findLoads_0 rfl (lv_at hl 0 rfl) ?_
  refine lv_iconst (v := 0) hx hb dX9_findLoads_1 (by decide) ?_
  refine va_put (D := (dC, dI)) (ci := 9) (v := .int 0) (ty := .int) (C := RX9) (T := TX9) (N := 28) hx hb hts in9 tyX9 tyX9_ok nmX9 hown hK hP hD hS 0 rfl rfl 21 (by decide) k225 (fun _ h9 => h9) rfl (by decide +kernel) rfl rfl (Nat.le_of_ble_eq_true rfl) dX9_findLoads_2 (fun H locs hP hD hS => ?_)
  have hP : va_P (dC, dI) vwCl (wM a cI (upC σ 0 (upd (σ 0) 21 0))) H := hP
  have hD : va_D A (wM a cI (upC σ 0 (upd (σ 0) 21 0))) := hD
  refine lv_iconst (v := 0) hx hb dX9_findLoads_5 (by decide) ?_
  refine lv_istore_n (lv' := [(2, .int 0), (0, .ref (a 0)), (1, .int x1)]) hx hb dX9_findLoads_6 rfl hl (by decide) rfl (fun ls hl => ?_)
  refine lv_iconst (v := 0) hx hb dX9_findLoads_7 (by decide) ?_
  refine lv_istore_n (lv' := [(3, .int 0), (2, .int 0), (0, .ref (a 0)), (1, .int x1)]) hx hb dX9_findLoads_8 rfl hl (by decide) rfl (fun ls hl => ?_)
  exact (LP _).1 (0) (0) (0) (σ 12) H locs ls (by rw [show (0 : Int32).toInt = 0 from by decide]; omega) (by decide) (by intro i hi; rw [show (0 : Int32).toInt = 0 from by decide] at hi; omega) (by intro t ht; rw [show (0 : Int32).toInt = 0 from by decide] at ht; omega) (by intro _ i hi; rw [show (0 : Int32).toInt = 0 from by decide] at hi; omega) (Nat.lt_succ_self _) hP hD hS (lv_sub hl [2, 3, 1, 0] rfl)

abbrev RM_X9_loads : Room := { frames := 4, cells := 0, slots := 0, locals := 90 }
set_option maxHeartbeats 4000000 in
set_option maxRecDepth 100000 in
theorem c_X9_loads (l : Launch) (dC : Nat → ClassId) (dI : Nat → Nat → Nat) (cI : ClassId) (a : Nat → Nat) (N : (Nat → Prop) → State → Prop) (hok : zNok N) (σ : Cn) (sz : Nat) (x1 : Int32) (h0 : 0 ≤ (σ 0 10).toInt ∧ (σ 0 10).toInt ≤ 4) (h2 : 0 ≤ (σ 0 11).toInt ∧ (σ 0 11).toInt ≤ 10) : Met l yX9_loads wsX9_loads RM_X9_loads (zPc (dC, dI) [(cI, .int)] N (wM a cI) σ sz [.ref (a 0), .int x1]) (zQi (dC, dI) [(cI, .int)] (wM a cI) (va_A (wM a cI σ) sz) (fun (r : Int32) (σ1 : Cn) => ∃ n21 : Int32, ∃ u12 : Nat → Int32, ∃ u13 : Nat → Int32, ∃ u14 : Nat → Int32, σ1 = (upC (upC (upC (upC σ 0 (upd (σ 0) 21 n21)) 12 u12) 13 u13) 14 u14) ∧ True)) 0 0 (va_A (wM a cI σ) sz) := by
  refine Met.ofW (cc := cX9_loads) (maxL := 2) (ret := (some .int)) (by decide) rfl ?_
  intro p e s m args below meth c s₁ B hml hv
  obtain ⟨rfl, hsz, hP, hK, hD0, hN⟩ := hv
  have hx := B.exec
  have hb := B.bytes
  have hr := B.returns
  have hts := atoms_spec (ws := wsX9_loads) B.pre
  have hown : s.vm.findClass RX9 = some m.cls := findClass_of_methodNamed B.named
  have hlocks := B.notSynchronized
  subst hsz
  have hD := hD0.self (sz := s.heap.size)
  generalize hAe : va_A (wM a cI σ) s.heap.size = A at hD hN ⊢
  have hA : ∀ q : Nat, s.heap.size ≤ q → A q := fun q h => by rw [← hAe]; exact Or.inr h
  clear hAe hD0
  have hS : va_S A s.heap s.heap [] := va_S.rf
  have kq178 := hts (.constantLong RX9 178 (4)) (by decide +kernel)
  have hl := lv_entry ([.ref (a 0), .int x1]) (n := 2) (Nat.le_of_ble_eq_true rfl)
  rw [lg_entry_eq]
  generalize (lg_sl ([.ref (a 0), .int x1]) ++ List.replicate (2 - (lg_sl ([.ref (a 0), .int x1])).length) Slot.unset).toArray = ls at hl ⊢
  have hl : lv_has ls 2 [(0, .ref (a 0)), (1, .int x1)] := hl
  suffices main : ∀ (H : Heap) (locs : List Loc), va_P (dC, dI) vwCl (wM a cI σ) H → va_D A (wM a cI σ) → va_S A s.heap H locs → W p l e (headSpec wsX9_loads RM_X9_loads).room s m ([.ref (a 0), .int x1] : List Value).toArray below meth c H locs 0 0 (MQ below (zQi (dC, dI) [(cI, .int)] (wM a cI) A (fun (r : Int32) (σ1 : Cn) => ∃ n21 : Int32, ∃ u12 : Nat → Int32, ∃ u13 : Nat → Int32, ∃ u14 : Nat → Int32, σ1 = (upC (upC (upC (upC σ 0 (upd (σ 0) 21 n21)) 12 u12) 13 u13) 14 u14) ∧ True)) ([.ref (a 0), .int x1] : List Value).toArray s 0 0 A) (F0 m 0 ls []) from main s.heap [] hP hD hS
  intro H locs hP hD hS
  refine lv_iload_n hx hb dX9_loads_0 rfl (lv_at hl 1 rfl) ?_
  refine lv_i2l hx hb dX9_loads_1 rfl ?_
  refine lv_topl (fun v1 ev1 => ?_)
  have tv1 : v1.toInt = x1.toInt := by rw [ev1]; exact zi2l rfl
  refine lv_lconst (v := 0) hx hb dX9_loads_2 (by decide) ?_
  refine lv_ldc2 hx hb hown kq178 dX9_loads_3 ?_
  refine zcalli (va_runS (As := [.long v1, .long 0, .long 4]) (rest := []) ⟨hx, hb, hml, hown, hts⟩ (c_X9_in l dC dI cI a N hok σ H.size (v1) (0) (4) ) (va_cwS 3 hts gX9_loads_X9_in rfl rfl rfl (by decide +kernel) ⟨Nat.le_of_ble_eq_true rfl, Nat.le_of_ble_eq_true rfl⟩) (zpreS (wf := wM a cI) hok hN hS hA hK hP hD) rfl rfl hl.1 rfl (lv_room (Nat.le_of_ble_eq_true rfl)) dX9_loads_6 ⟨Nat.zero_le _, Nat.zero_le _⟩) hD hS hA (fun v6 σ1 H locs hv6 hP hD hS => ?_)
  obtain ⟨es9, hv6⟩ := hv6
  subst σ1
  try simp only [show (0 : Int64).toInt = 0 from by decide, show (4 : Int64).toInt = 4 from by decide] at hv6
  refine lv_if_eq (tgt := 20) hx hb dX9_loads_9 (by decide) (fun c9 => ?_) (fun c9 => ?_)
  · skip
    have ic9 := zeq (a := v6.toInt) (b := 0) rfl (by decide) c9
    refine lv_iconst (v := (-1)) hx hb dX9_loads_20 (by decide) ?_
    have heq9 : σ = (upC (upC (upC (upC σ 0 (upd (σ 0) 21 (σ 0 21))) 12 (σ 12)) 13 (σ 13)) 14 (σ 14)) := by
      funext k
      by_cases e0 : k = 0
      · subst e0
        funext i
        by_cases f21 : i = 21
        · subst f21; rfl
        show (σ 0) i = (upd (σ 0) 21 (σ 0 21)) i
        simp only [upd, if_neg f21]
      by_cases e12 : k = 12
      · subst e12; rfl
      by_cases e13 : k = 13
      · subst e13; rfl
      by_cases e14 : k = 14
      · subst e14; rfl
      simp only [upC, if_neg e0, if_neg e12, if_neg e13, if_neg e14]
    have hpost : ∃ n21 : Int32, ∃ u12 : Nat → Int32, ∃ u13 : Nat → Int32, ∃ u14 : Nat → Int32, σ = (upC (upC (upC (upC σ 0 (upd (σ 0) 21 n21)) 12 u12) 13 u13) 14 u14) ∧ True := by refine ⟨(σ 0 21), (σ 12), (σ 13), (σ 14), heq9, ?_⟩; trivial
    exact W.iret (v := (-1)) hx hb hr (fun t9 ht hW => ⟨⟨(-1), σ, rfl, hpost, by rw [ht]; exact hP, va_K.moved hW.alike hK, hD⟩, hS.F ht⟩) hS.2.2 dX9_loads_21
  · skip
    have ic9 := zneq (a := v6.toInt) (b := 0) rfl (by decide) c9
    refine lv_aload_n hx hb dX9_loads_12 rfl (lv_at hl 0 rfl) ?_
    refine lv_iload_n hx hb dX9_loads_13 rfl (lv_at hl 1 rfl) ?_
    refine zcalli (va_runV (As := [.int x1]) (rest := []) ⟨hx, hb, hml, hown, hts⟩ (c_X9_findLoads l dC dI cI a N hok σ H.size (x1) h0 h2) (cwV 1 hts gX9_loads_X9_findLoads rfl rfl rfl (by decide +kernel) ⟨Nat.le_of_ble_eq_true rfl, Nat.le_of_ble_eq_true rfl⟩) (zpreV (wf := wM a cI) (q0 := 0) (ci := 9) hok hN hS hA hK hP hD rfl rfl) rfl rfl hl.1 rfl (lv_room (Nat.le_of_ble_eq_true rfl)) dX9_loads_14 ⟨Nat.zero_le _, Nat.zero_le _⟩) hD hS hA (fun v14 σ1 H locs hv14 hP hD hS => ?_)
    obtain ⟨n21_14, u12_14, u13_14, u14_14, es9, hv14⟩ := hv14
    subst σ1
    have hP : va_P (dC, dI) vwCl (wM a cI (upC (upC (upC (upC σ 0 (upd (σ 0) 21 n21_14)) 12 u12_14) 13 u13_14) 14 u14_14)) H := hP
    have hD : va_D A (wM a cI (upC (upC (upC (upC σ 0 (upd (σ 0) 21 n21_14)) 12 u12_14) 13 u13_14) 14 u14_14)) := hD
    refine lv_goto (tgt := 21) hx hb dX9_loads_17 (by decide) ?_
    have heq9 : (upC (upC (upC (upC σ 0 (upd (σ 0) 21 n21_14)) 12 u12_14) 13 u13_14) 14 u14_14) = (upC (upC (upC (upC σ 0 (upd (σ 0) 21 n21_14)) 12 u12_14) 13 u13_14) 14 u14_14) := rfl
    have hpost : ∃ n21 : Int32, ∃ u12 : Nat → Int32, ∃ u13 : Nat → Int32, ∃ u14 : Nat → Int32, (upC (upC (upC (upC σ 0 (upd (σ 0) 21 n21_14)) 12 u12_14) 13 u13_14) 14 u14_14) = (upC (upC (upC (upC σ 0 (upd (σ 0) 21 n21)) 12 u12) 13 u13) 14 u14) ∧ True := by refine ⟨(n21_14), (u12_14), (u13_14), (u14_14), heq9, ?_⟩; trivial
    exact W.iret (v := v14) hx hb hr (fun t9 ht hW => ⟨⟨v14, (upC (upC (upC (upC σ 0 (upd (σ 0) 21 n21_14)) 12 u12_14) 13 u13_14) 14 u14_14), rfl, hpost, by rw [ht]; exact hP, va_K.moved hW.alike hK, hD⟩, hS.F ht⟩) hS.2.2 dX9_loads_21

abbrev RM_X9_load : Room := { frames := 4, cells := 0, slots := 0, locals := 90 }
set_option maxHeartbeats 4000000 in
set_option maxRecDepth 100000 in
theorem c_X9_load (l : Launch) (dC : Nat → ClassId) (dI : Nat → Nat → Nat) (cI : ClassId) (a : Nat → Nat) (N : (Nat → Prop) → State → Prop) (hok : zNok N) (σ : Cn) (sz : Nat) (x1 : Int32) (h0 : 0 ≤ (σ 0 10).toInt ∧ (σ 0 10).toInt ≤ 4) (h2 : 0 ≤ (σ 0 11).toInt ∧ (σ 0 11).toInt ≤ 10) : Met l yX9_load wsX9_load RM_X9_load (zPc (dC, dI) [(cI, .int)] N (wM a cI) σ sz [.ref (a 0), .int x1]) (zQi (dC, dI) [(cI, .int)] (wM a cI) (va_A (wM a cI σ) sz) (fun (r : Int32) (σ1 : Cn) => ∃ n21 : Int32, ∃ u12 : Nat → Int32, ∃ u13 : Nat → Int32, ∃ u14 : Nat → Int32, σ1 = (upC (upC (upC (upC σ 0 (upd (σ 0) 21 n21)) 12 u12) 13 u13) 14 u14) ∧ True)) 0 0 (va_A (wM a cI σ) sz) := by
  refine Met.ofW (cc := cX9_load) (maxL := 3) (ret := (some .int)) (by decide) rfl ?_
  intro p e s m args below meth c s₁ B hml hv
  obtain ⟨rfl, hsz, hP, hK, hD0, hN⟩ := hv
  have hx := B.exec
  have hb := B.bytes
  have hr := B.returns
  have hts := atoms_spec (ws := wsX9_load) B.pre
  have hown : s.vm.findClass RX9 = some m.cls := findClass_of_methodNamed B.named
  have hlocks := B.notSynchronized
  subst hsz
  have hD := hD0.self (sz := s.heap.size)
  generalize hAe : va_A (wM a cI σ) s.heap.size = A at hD hN ⊢
  have hA : ∀ q : Nat, s.heap.size ≤ q → A q := fun q h => by rw [← hAe]; exact Or.inr h
  clear hAe hD0
  have hS : va_S A s.heap s.heap [] := va_S.rf
  have in9 : ∀ w ∈ u_ws RX9 TX9 28, w ∈ wsX9_load := by decide +kernel
  have k43 := hts (.fieldLink RX9 43 "HouseSortedModel" "good" "[I") (by decide +kernel)
  have k46 := hts (.fieldLink RX9 46 "HouseSortedModel" "placed" "[I") (by decide +kernel)
  have LP : ∀ n : Nat, (∀ (k : Int32) (m21 : Int32) (w12 : Nat → Int32) (w13 : Nat → Int32) (w14 : Nat → Int32) (H : Heap) (locs : List Loc) (ls : Array Slot), 0 ≤ k.toInt → (∃ i : Nat, k.toInt ≤ i ∧ (i : Int) < 10 ∧ (w12 i).toInt = x1.toInt) → (10 - k.toInt).toNat < n → va_P (dC, dI) vwCl (wM a cI (upC (upC (upC (upC σ 0 (upd (σ 0) 21 m21)) 12 w12) 13 w13) 14 w14)) H → va_D A (wM a cI (upC (upC (upC (upC σ 0 (upd (σ 0) 21 m21)) 12 w12) 13 w13) 14 w14)) → va_S A s.heap H locs → lv_has ls 3 [(0, .ref (a 0)), (1, .int x1), (2, .int k)] → W p l e (headSpec wsX9_load RM_X9_load).room s m ([.ref (a 0), .int x1] : List Value).toArray below meth c H locs 0 0 (MQ below (zQi (dC, dI) [(cI, .int)] (wM a cI) A (fun (r : Int32) (σ1 : Cn) => ∃ n21 : Int32, ∃ u12 : Nat → Int32, ∃ u13 : Nat → Int32, ∃ u14 : Nat → Int32, σ1 = (upC (upC (upC (upC σ 0 (upd (σ 0) 21 n21)) 12 u12) 13 u13) 14 u14) ∧ True)) ([.ref (a 0), .int x1] : List Value).toArray s 0 0 A) (F0 m 29 ls [])) := by
    intro n
    induction n with
    | zero => exact by intros; omega
    | succ n ih =>
      · intro k m21 w12 w13 w14 H locs ls g1 g2 hmu hP hD hS hl
        obtain ⟨i0, q1, q2, q3⟩ := g2
        refine lv_aload_n hx hb dX9_load_29 rfl (lv_at hl 0 rfl) ?_
        refine va_get (D := (dC, dI)) (ci := 9) (v := .ref (a 12)) (C := RX9) (T := TX9) (N := 28) hx hb hts in9 hown hK hP 0 rfl rfl 22 (by decide) k43 (fun _ h9 => h9) rfl dX9_load_30 ?_
        refine lv_iload_n hx hb dX9_load_33 rfl (lv_at hl 2 rfl) ?_
        refine va_iald (D := (dC, dI)) (f := w12) hx hb hK hP 12 0 rfl rfl (i := k) (n := 10) (zin (by omega) (by omega)) dX9_load_34 ?_
        refine lv_topi (fun v34 ev34 => ?_)
        have tv34 := congrArg Int32.toInt ev34
        refine lv_iload_n hx hb dX9_load_35 rfl (lv_at hl 1 rfl) ?_
        refine lv_icmp_eq (tgt := 45) hx hb dX9_load_36 (by decide) (fun c36 => ?_) (fun c36 => ?_)
        · skip
          have ic36 := zeq (a := v34.toInt) (b := x1.toInt) rfl rfl c36
          refine lv_aload_n hx hb dX9_load_45 rfl (lv_at hl 0 rfl) ?_
          refine va_get (D := (dC, dI)) (ci := 9) (v := .ref (a 13)) (C := RX9) (T := TX9) (N := 28) hx hb hts in9 hown hK hP 0 rfl rfl 23 (by decide) k46 (fun _ h9 => h9) rfl dX9_load_46 ?_
          refine lv_iload_n hx hb dX9_load_49 rfl (lv_at hl 2 rfl) ?_
          refine va_iald (D := (dC, dI)) (f := w13) hx hb hK hP 13 0 rfl rfl (i := k) (n := 10) (zin (by omega) (by omega)) dX9_load_50 ?_
          refine lv_topi (fun v50 ev50 => ?_)
          have tv50 := congrArg Int32.toInt ev50
          have heq9 : (upC (upC (upC (upC σ 0 (upd (σ 0) 21 m21)) 12 w12) 13 w13) 14 w14) = (upC (upC (upC (upC σ 0 (upd (σ 0) 21 m21)) 12 w12) 13 w13) 14 w14) := rfl
          have hpost : ∃ n21 : Int32, ∃ u12 : Nat → Int32, ∃ u13 : Nat → Int32, ∃ u14 : Nat → Int32, (upC (upC (upC (upC σ 0 (upd (σ 0) 21 m21)) 12 w12) 13 w13) 14 w14) = (upC (upC (upC (upC σ 0 (upd (σ 0) 21 n21)) 12 u12) 13 u13) 14 u14) ∧ True := by refine ⟨(m21), (w12), (w13), (w14), heq9, ?_⟩; trivial
          exact W.iret (v := v50) hx hb hr (fun t9 ht hW => ⟨⟨v50, (upC (upC (upC (upC σ 0 (upd (σ 0) 21 m21)) 12 w12) 13 w13) 14 w14), rfl, hpost, by rw [ht]; exact hP, va_K.moved hW.alike hK, hD⟩, hS.F ht⟩) hS.2.2 dX9_load_51
        · skip
          have ic36 := zneq (a := v34.toInt) (b := x1.toInt) rfl rfl c36
          obtain ⟨v39, ev39⟩ : ∃ y : Int32, y = k + 1 := ⟨_, rfl⟩
          refine lv_iinc (v := v39) (lv' := [(2, .int v39), (0, .ref (a 0)), (1, .int x1)]) hx hb dX9_load_39 hl (k := 2) rfl (by rw [ev39]; rfl) (by decide) rfl (fun ls hl => ?_)
          have tv39 : v39.toInt = k.toInt + 1 := by rw [ev39, zadd, show (1 : Int32).toInt = 1 from by decide]; omega
          refine lv_goto (tgt := 29) hx hb dX9_load_42 (by decide) ?_
          exact ih (v39) (m21) (w12) (w13) (w14) H locs ls (by omega) (⟨i0, by rcases (show k.toInt < i0 ∨ k.toInt = i0 from by omega) with q | q; omega; exfalso; have q5 := zcl (x := k) (by omega); rw [show k.toNatClampNeg = i0 from by omega] at tv34; omega, q2, q3⟩) (by omega) hP hD hS (lv_sub hl [1, 2, 0] rfl)
  have hl := lv_entry ([.ref (a 0), .int x1]) (n := 3) (Nat.le_of_ble_eq_true rfl)
  rw [lg_entry_eq]
  generalize (lg_sl ([.ref (a 0), .int x1]) ++ List.replicate (3 - (lg_sl ([.ref (a 0), .int x1])).length) Slot.unset).toArray = ls at hl ⊢
  have hl : lv_has ls 3 [(0, .ref (a 0)), (1, .int x1)] := hl
  suffices main : ∀ (H : Heap) (locs : List Loc), va_P (dC, dI) vwCl (wM a cI σ) H → va_D A (wM a cI σ) → va_S A s.heap H locs → W p l e (headSpec wsX9_load RM_X9_load).room s m ([.ref (a 0), .int x1] : List Value).toArray below meth c H locs 0 0 (MQ below (zQi (dC, dI) [(cI, .int)] (wM a cI) A (fun (r : Int32) (σ1 : Cn) => ∃ n21 : Int32, ∃ u12 : Nat → Int32, ∃ u13 : Nat → Int32, ∃ u14 : Nat → Int32, σ1 = (upC (upC (upC (upC σ 0 (upd (σ 0) 21 n21)) 12 u12) 13 u13) 14 u14) ∧ True)) ([.ref (a 0), .int x1] : List Value).toArray s 0 0 A) (F0 m 0 ls []) from main s.heap [] hP hD hS
  intro H locs hP hD hS
  refine lv_aload_n hx hb dX9_load_0 rfl (lv_at hl 0 rfl) ?_
  refine lv_iload_n hx hb dX9_load_1 rfl (lv_at hl 1 rfl) ?_
  refine zcalli (va_runV (As := [.int x1]) (rest := []) ⟨hx, hb, hml, hown, hts⟩ (c_X9_isThing l dC dI cI a N hok σ H.size (x1) h2) (cwV 1 hts gX9_load_X9_isThing rfl rfl rfl (by decide +kernel) ⟨Nat.le_of_ble_eq_true rfl, Nat.le_of_ble_eq_true rfl⟩) (zpreV (wf := wM a cI) (q0 := 0) (ci := 9) hok hN hS hA hK hP hD rfl rfl) rfl rfl hl.1 rfl (lv_room (Nat.le_of_ble_eq_true rfl)) dX9_load_2 ⟨Nat.zero_le _, Nat.zero_le _⟩) hD hS hA (fun v2 σ1 H locs hv2 hP hD hS => ?_)
  obtain ⟨es9, hv2⟩ := hv2
  subst σ1
  refine lv_if_ne (tgt := 10) hx hb dX9_load_5 (by decide) (fun c5 => ?_) (fun c5 => ?_)
  · skip
    have ic5 := zneq (a := v2.toInt) (b := 0) rfl (by decide) c5
    replace hv2 := (hv2.resolve_right (fun q => by omega)).2
    refine lv_aload_n hx hb dX9_load_10 rfl (lv_at hl 0 rfl) ?_
    refine lv_aload_n hx hb dX9_load_11 rfl (lv_at hl 0 rfl) ?_
    refine lv_iload_n hx hb dX9_load_12 rfl (lv_at hl 1 rfl) ?_
    refine zcalli (va_runV (As := [.int x1]) (rest := [.ref (a 0)]) ⟨hx, hb, hml, hown, hts⟩ (c_X9_wayNow l dC dI cI a N hok σ H.size (x1) h0 (by omega)) (cwV 1 hts gX9_load_X9_wayNow rfl rfl rfl (by decide +kernel) ⟨Nat.le_of_ble_eq_true rfl, Nat.le_of_ble_eq_true rfl⟩) (zpreV (wf := wM a cI) (q0 := 0) (ci := 9) hok hN hS hA hK hP hD rfl rfl) rfl rfl hl.1 rfl (lv_room (Nat.le_of_ble_eq_true rfl)) dX9_load_13 ⟨Nat.zero_le _, Nat.zero_le _⟩) hD hS hA (fun v13 σ1 H locs hv13 hP hD hS => ?_)
    obtain ⟨es9, hv13⟩ := hv13
    subst σ1
    refine zcalli (va_runV (As := [.int v13]) (rest := []) ⟨hx, hb, hml, hown, hts⟩ (c_X9_findLoads l dC dI cI a N hok σ H.size (v13) h0 h2) (cwV 1 hts gX9_load_X9_findLoads rfl rfl rfl (by decide +kernel) ⟨Nat.le_of_ble_eq_true rfl, Nat.le_of_ble_eq_true rfl⟩) (zpreV (wf := wM a cI) (q0 := 0) (ci := 9) hok hN hS hA hK hP hD rfl rfl) rfl rfl hl.1 rfl (lv_room (Nat.le_of_ble_eq_true rfl)) dX9_load_16 ⟨Nat.zero_le _, Nat.zero_le _⟩) hD hS hA (fun v16 σ1 H locs hv16 hP hD hS => ?_)
    obtain ⟨n21_16, u12_16, u13_16, u14_16, es9, hv16⟩ := hv16
    subst σ1
    have hP : va_P (dC, dI) vwCl (wM a cI (upC (upC (upC (upC σ 0 (upd (σ 0) 21 n21_16)) 12 u12_16) 13 u13_16) 14 u14_16)) H := hP
    have hD : va_D A (wM a cI (upC (upC (upC (upC σ 0 (upd (σ 0) 21 n21_16)) 12 u12_16) 13 u13_16) 14 u14_16)) := hD
    refine lv_bipush (v := (-4)) hx hb dX9_load_19 (by decide) ?_
    refine lv_icmp_ne (tgt := 27) hx hb dX9_load_21 (by decide) (fun c21 => ?_) (fun c21 => ?_)
    · skip
      have ic21 := zneq (a := v16.toInt) (b := (-4)) rfl (by decide) c21
      refine lv_iconst (v := 0) hx hb dX9_load_27 (by decide) ?_
      refine lv_istore_n (lv' := [(2, .int 0), (0, .ref (a 0)), (1, .int x1)]) hx hb dX9_load_28 rfl hl (by decide) rfl (fun ls hl => ?_)
      exact (LP _) (0) (n21_16) (u12_16) (u13_16) (u14_16) H locs ls (by decide) (by obtain ⟨i, q1, q2⟩ := hv16.2 x1.toNatClampNeg (by have q := zcl (x := x1) (by omega); omega) hv13.symm; have q := zcl (x := x1) (by omega); exact ⟨i, by rw [show (0 : Int32).toInt = 0 from by decide]; omega, by omega, by omega⟩) (Nat.lt_succ_self _) hP hD hS (lv_sub hl [1, 2, 0] rfl)
    · skip
      have ic21 := zeq (a := v16.toInt) (b := (-4)) rfl (by decide) c21
      refine lv_bipush (v := (-4)) hx hb dX9_load_24 (by decide) ?_
      have heq9 : (upC (upC (upC (upC σ 0 (upd (σ 0) 21 n21_16)) 12 u12_16) 13 u13_16) 14 u14_16) = (upC (upC (upC (upC σ 0 (upd (σ 0) 21 n21_16)) 12 u12_16) 13 u13_16) 14 u14_16) := rfl
      have hpost : ∃ n21 : Int32, ∃ u12 : Nat → Int32, ∃ u13 : Nat → Int32, ∃ u14 : Nat → Int32, (upC (upC (upC (upC σ 0 (upd (σ 0) 21 n21_16)) 12 u12_16) 13 u13_16) 14 u14_16) = (upC (upC (upC (upC σ 0 (upd (σ 0) 21 n21)) 12 u12) 13 u13) 14 u14) ∧ True := by refine ⟨(n21_16), (u12_16), (u13_16), (u14_16), heq9, ?_⟩; trivial
      exact W.iret (v := (-4)) hx hb hr (fun t9 ht hW => ⟨⟨(-4), (upC (upC (upC (upC σ 0 (upd (σ 0) 21 n21_16)) 12 u12_16) 13 u13_16) 14 u14_16), rfl, hpost, by rw [ht]; exact hP, va_K.moved hW.alike hK, hD⟩, hS.F ht⟩) hS.2.2 dX9_load_26
  · skip
    have ic5 := zeq (a := v2.toInt) (b := 0) rfl (by decide) c5
    replace hv2 := (hv2.resolve_left (fun q => by omega)).2
    refine lv_iconst (v := (-1)) hx hb dX9_load_8 (by decide) ?_
    have heq9 : σ = (upC (upC (upC (upC σ 0 (upd (σ 0) 21 (σ 0 21))) 12 (σ 12)) 13 (σ 13)) 14 (σ 14)) := by
      funext k
      by_cases e0 : k = 0
      · subst e0
        funext i
        by_cases f21 : i = 21
        · subst f21; rfl
        show (σ 0) i = (upd (σ 0) 21 (σ 0 21)) i
        simp only [upd, if_neg f21]
      by_cases e12 : k = 12
      · subst e12; rfl
      by_cases e13 : k = 13
      · subst e13; rfl
      by_cases e14 : k = 14
      · subst e14; rfl
      simp only [upC, if_neg e0, if_neg e12, if_neg e13, if_neg e14]
    have hpost : ∃ n21 : Int32, ∃ u12 : Nat → Int32, ∃ u13 : Nat → Int32, ∃ u14 : Nat → Int32, σ = (upC (upC (upC (upC σ 0 (upd (σ 0) 21 n21)) 12 u12) 13 u13) 14 u14) ∧ True := by refine ⟨(σ 0 21), (σ 12), (σ 13), (σ 14), heq9, ?_⟩; trivial
    exact W.iret (v := (-1)) hx hb hr (fun t9 ht hW => ⟨⟨(-1), σ, rfl, hpost, by rw [ht]; exact hP, va_K.moved hW.alike hK, hD⟩, hS.F ht⟩) hS.2.2 dX9_load_9

