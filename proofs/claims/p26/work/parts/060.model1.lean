abbrev RM_X9_in : Room := { frames := 0, cells := 0, slots := 0, locals := 0 }
set_option maxHeartbeats 4000000 in
set_option maxRecDepth 100000 in
theorem c_X9_in (l : Launch) (dC : Nat → ClassId) (dI : Nat → Nat → Nat) (cI : ClassId) (a : Nat → Nat) (N : (Nat → Prop) → State → Prop) (hok : zNok N) (σ : Cn) (sz : Nat) (x0 : Int64) (x2 : Int64) (x4 : Int64)  : Met l yX9_in wsX9_in RM_X9_in (zPc (dC, dI) [(cI, .int)] N (wM a cI) σ sz [.long x0, .long x2, .long x4]) (zQi (dC, dI) [(cI, .int)] (wM a cI) (va_A (wM a cI σ) sz) (fun (r : Int32) (σ1 : Cn) => σ1 = σ ∧ ((r : Int32).toInt = 1 ∧ x2.toInt ≤ x0.toInt ∧ x0.toInt ≤ x4.toInt ∨ (r : Int32).toInt = 0 ∧ ¬ (x2.toInt ≤ x0.toInt ∧ x0.toInt ≤ x4.toInt)))) 0 0 (va_A (wM a cI σ) sz) := by
  refine Met.ofW (cc := cX9_in) (maxL := 6) (ret := (some .boolean)) (by decide) rfl ?_
  intro p e s m args below meth c s₁ B hml hv
  obtain ⟨rfl, hsz, hP, hK, hD0, hN⟩ := hv
  have hx := B.exec
  have hb := B.bytes
  have hr := B.returns
  have hts := atoms_spec (ws := wsX9_in) B.pre
  have hown : s.vm.findClass RX9 = some m.cls := findClass_of_methodNamed B.named
  have hlocks := B.notSynchronized
  subst hsz
  have hD := hD0.self (sz := s.heap.size)
  generalize hAe : va_A (wM a cI σ) s.heap.size = A at hD hN ⊢
  have hA : ∀ q : Nat, s.heap.size ≤ q → A q := fun q h => by rw [← hAe]; exact Or.inr h
  clear hAe hD0
  have hS : va_S A s.heap s.heap [] := va_S.rf
  have hl := lv_entry ([.long x0, .long x2, .long x4]) (n := 6) (Nat.le_of_ble_eq_true rfl)
  rw [lg_entry_eq]
  generalize (lg_sl ([.long x0, .long x2, .long x4]) ++ List.replicate (6 - (lg_sl ([.long x0, .long x2, .long x4])).length) Slot.unset).toArray = ls at hl ⊢
  have hl : lv_has ls 6 [(0, .long x0), (2, .long x2), (4, .long x4)] := hl
  suffices main : ∀ (H : Heap) (locs : List Loc), va_P (dC, dI) vwCl (wM a cI σ) H → va_D A (wM a cI σ) → va_S A s.heap H locs → W p l e (headSpec wsX9_in RM_X9_in).room s m ([.long x0, .long x2, .long x4] : List Value).toArray below meth c H locs 0 0 (MQ below (zQi (dC, dI) [(cI, .int)] (wM a cI) A (fun (r : Int32) (σ1 : Cn) => σ1 = σ ∧ ((r : Int32).toInt = 1 ∧ x2.toInt ≤ x0.toInt ∧ x0.toInt ≤ x4.toInt ∨ (r : Int32).toInt = 0 ∧ ¬ (x2.toInt ≤ x0.toInt ∧ x0.toInt ≤ x4.toInt)))) ([.long x0, .long x2, .long x4] : List Value).toArray s 0 0 A) (F0 m 0 ls []) from main s.heap [] hP hD hS
  intro H locs hP hD hS
  refine lv_lload_n hx hb dX9_in_0 rfl (lv_at hl 0 rfl) ?_
  refine lv_lload_n hx hb dX9_in_1 rfl (lv_at hl 1 rfl) ?_
  refine W.lcmp hx hb dX9_in_2 ?_
  refine lv_topi (fun v2 ev2 => ?_)
  have tv2 := zlcmp (x := x0) (y := x2) (a := x0.toInt) (b := x2.toInt) rfl rfl ev2
  refine lv_if_lt (tgt := 17) hx hb dX9_in_3 (by decide) (fun c3 => ?_) (fun c3 => ?_)
  · skip
    have ic3 := zlt (a := v2.toInt) (b := 0) rfl (by decide) c3
    refine lv_iconst (v := 0) hx hb dX9_in_17 (by decide) ?_
    have hpost : σ = σ ∧ ((0 : Int32).toInt = 1 ∧ x2.toInt ≤ x0.toInt ∧ x0.toInt ≤ x4.toInt ∨ (0 : Int32).toInt = 0 ∧ ¬ (x2.toInt ≤ x0.toInt ∧ x0.toInt ≤ x4.toInt)) := by exact ⟨rfl, by first | (left; exact ⟨by decide, by omega⟩) | (right; exact ⟨by decide, by omega⟩)⟩
    exact W.zret (v := 0) hx hb hr (by decide +kernel) (fun t9 ht hW => ⟨⟨0, σ, rfl, hpost, by rw [ht]; exact hP, va_K.moved hW.alike hK, hD⟩, hS.F ht⟩) hS.2.2 dX9_in_18
  · skip
    have ic3 := znlt (a := v2.toInt) (b := 0) rfl (by decide) c3
    refine lv_lload_n hx hb dX9_in_6 rfl (lv_at hl 0 rfl) ?_
    refine lv_lload hx hb dX9_in_7 (lv_at hl 2 rfl) ?_
    refine W.lcmp hx hb dX9_in_9 ?_
    refine lv_topi (fun v9 ev9 => ?_)
    have tv9 := zlcmp (x := x0) (y := x4) (a := x0.toInt) (b := x4.toInt) rfl rfl ev9
    refine lv_if_gt (tgt := 17) hx hb dX9_in_10 (by decide) (fun c10 => ?_) (fun c10 => ?_)
    · skip
      have ic10 := zlt (a := 0) (b := v9.toInt) (by decide) rfl c10
      refine lv_iconst (v := 0) hx hb dX9_in_17 (by decide) ?_
      have hpost : σ = σ ∧ ((0 : Int32).toInt = 1 ∧ x2.toInt ≤ x0.toInt ∧ x0.toInt ≤ x4.toInt ∨ (0 : Int32).toInt = 0 ∧ ¬ (x2.toInt ≤ x0.toInt ∧ x0.toInt ≤ x4.toInt)) := by exact ⟨rfl, by first | (left; exact ⟨by decide, by omega⟩) | (right; exact ⟨by decide, by omega⟩)⟩
      exact W.zret (v := 0) hx hb hr (by decide +kernel) (fun t9 ht hW => ⟨⟨0, σ, rfl, hpost, by rw [ht]; exact hP, va_K.moved hW.alike hK, hD⟩, hS.F ht⟩) hS.2.2 dX9_in_18
    · skip
      have ic10 := znlt (a := 0) (b := v9.toInt) (by decide) rfl c10
      refine lv_iconst (v := 1) hx hb dX9_in_13 (by decide) ?_
      refine lv_goto (tgt := 18) hx hb dX9_in_14 (by decide) ?_
      have hpost : σ = σ ∧ ((1 : Int32).toInt = 1 ∧ x2.toInt ≤ x0.toInt ∧ x0.toInt ≤ x4.toInt ∨ (1 : Int32).toInt = 0 ∧ ¬ (x2.toInt ≤ x0.toInt ∧ x0.toInt ≤ x4.toInt)) := by exact ⟨rfl, by first | (left; exact ⟨by decide, by omega⟩) | (right; exact ⟨by decide, by omega⟩)⟩
      exact W.zret (v := 1) hx hb hr (by decide +kernel) (fun t9 ht hW => ⟨⟨1, σ, rfl, hpost, by rw [ht]; exact hP, va_K.moved hW.alike hK, hD⟩, hS.F ht⟩) hS.2.2 dX9_in_18

abbrev RM_X9_down : Room := { frames := 0, cells := 0, slots := 0, locals := 0 }
set_option maxHeartbeats 4000000 in
set_option maxRecDepth 100000 in
theorem c_X9_down (l : Launch) (dC : Nat → ClassId) (dI : Nat → Nat → Nat) (cI : ClassId) (a : Nat → Nat) (N : (Nat → Prop) → State → Prop) (hok : zNok N) (σ : Cn) (sz : Nat) (x0 : Int32) (x1 : Int32) (h1 : ¬ x1.toInt = 0) : Met l yX9_down wsX9_down RM_X9_down (zPc (dC, dI) [(cI, .int)] N (wM a cI) σ sz [.int x0, .int x1]) (zQi (dC, dI) [(cI, .int)] (wM a cI) (va_A (wM a cI σ) sz) (fun (r : Int32) (σ1 : Cn) => σ1 = σ ∧ True)) 0 0 (va_A (wM a cI σ) sz) := by
  refine Met.ofW (cc := cX9_down) (maxL := 3) (ret := (some .int)) (by decide) rfl ?_
  intro p e s m args below meth c s₁ B hml hv
  obtain ⟨rfl, hsz, hP, hK, hD0, hN⟩ := hv
  have hx := B.exec
  have hb := B.bytes
  have hr := B.returns
  have hts := atoms_spec (ws := wsX9_down) B.pre
  have hown : s.vm.findClass RX9 = some m.cls := findClass_of_methodNamed B.named
  have hlocks := B.notSynchronized
  subst hsz
  have hD := hD0.self (sz := s.heap.size)
  generalize hAe : va_A (wM a cI σ) s.heap.size = A at hD hN ⊢
  have hA : ∀ q : Nat, s.heap.size ≤ q → A q := fun q h => by rw [← hAe]; exact Or.inr h
  clear hAe hD0
  have hS : va_S A s.heap s.heap [] := va_S.rf
  have hl := lv_entry ([.int x0, .int x1]) (n := 3) (Nat.le_of_ble_eq_true rfl)
  rw [lg_entry_eq]
  generalize (lg_sl ([.int x0, .int x1]) ++ List.replicate (3 - (lg_sl ([.int x0, .int x1])).length) Slot.unset).toArray = ls at hl ⊢
  have hl : lv_has ls 3 [(0, .int x0), (1, .int x1)] := hl
  suffices main : ∀ (H : Heap) (locs : List Loc), va_P (dC, dI) vwCl (wM a cI σ) H → va_D A (wM a cI σ) → va_S A s.heap H locs → W p l e (headSpec wsX9_down RM_X9_down).room s m ([.int x0, .int x1] : List Value).toArray below meth c H locs 0 0 (MQ below (zQi (dC, dI) [(cI, .int)] (wM a cI) A (fun (r : Int32) (σ1 : Cn) => σ1 = σ ∧ True)) ([.int x0, .int x1] : List Value).toArray s 0 0 A) (F0 m 0 ls []) from main s.heap [] hP hD hS
  intro H locs hP hD hS
  refine lv_iload_n hx hb dX9_down_0 rfl (lv_at hl 0 rfl) ?_
  refine lv_iload_n hx hb dX9_down_1 rfl (lv_at hl 1 rfl) ?_
  refine lv_idiv hx hb dX9_down_2 (fun h0 => by have h1 := zeq (a := x1.toInt) (b := 0) rfl (by decide) h0; omega) ?_
  refine lv_topi (fun v2 ev2 => ?_)
  refine lv_istore_n (lv' := [(2, .int v2), (0, .int x0), (1, .int x1)]) hx hb dX9_down_3 rfl hl (by decide) rfl (fun ls hl => ?_)
  refine lv_iload_n hx hb dX9_down_4 rfl (lv_at hl 1 rfl) ?_
  refine lv_iload_n hx hb dX9_down_5 rfl (lv_at hl 2 rfl) ?_
  refine lv_irem hx hb dX9_down_6 (fun h0 => by have h1 := zeq (a := x1.toInt) (b := 0) rfl (by decide) h0; omega) ?_
  refine lv_topi (fun v6 ev6 => ?_)
  refine lv_if_ge (tgt := 16) hx hb dX9_down_7 (by decide) (fun c7 => ?_) (fun c7 => ?_)
  · skip
    have ic7 := zle (a := 0) (b := v6.toInt) (by decide) rfl c7
    refine lv_iload_n hx hb dX9_down_16 rfl (lv_at hl 0 rfl) ?_
    have hpost : σ = σ ∧ True := by exact ⟨rfl, trivial⟩
    exact W.iret (v := v2) hx hb hr (fun t9 ht hW => ⟨⟨v2, σ, rfl, hpost, by rw [ht]; exact hP, va_K.moved hW.alike hK, hD⟩, hS.F ht⟩) hS.2.2 dX9_down_17
  · skip
    have ic7 := znle (a := 0) (b := v6.toInt) (by decide) rfl c7
    refine lv_iload_n hx hb dX9_down_10 rfl (lv_at hl 0 rfl) ?_
    refine lv_iconst (v := 1) hx hb dX9_down_11 (by decide) ?_
    refine lv_isub hx hb dX9_down_12 ?_
    refine lv_topi (fun v12 ev12 => ?_)
    refine lv_goto (tgt := 17) hx hb dX9_down_13 (by decide) ?_
    have hpost : σ = σ ∧ True := by exact ⟨rfl, trivial⟩
    exact W.iret (v := v12) hx hb hr (fun t9 ht hW => ⟨⟨v12, σ, rfl, hpost, by rw [ht]; exact hP, va_K.moved hW.alike hK, hD⟩, hS.F ht⟩) hS.2.2 dX9_down_17

abbrev RM_X9_feed : Room := { frames := 0, cells := 0, slots := 0, locals := 0 }
set_option maxHeartbeats 4000000 in
set_option maxRecDepth 100000 in
theorem c_X9_feed (l : Launch) (dC : Nat → ClassId) (dI : Nat → Nat → Nat) (cI : ClassId) (a : Nat → Nat) (N : (Nat → Prop) → State → Prop) (hok : zNok N) (σ : Cn) (sz : Nat) (x1 : Int64) (h3 : 0 ≤ (σ 0 1).toInt ∧ (σ 0 1).toInt ≤ 160) : Met l yX9_feed wsX9_feed RM_X9_feed (zPc (dC, dI) [(cI, .int)] N (wM a cI) σ sz [.ref (a 0), .long x1]) (zQi (dC, dI) [(cI, .int)] (wM a cI) (va_A (wM a cI σ) sz) (fun (r : Int32) (σ1 : Cn) => ∃ n1 : Int32, ∃ u1 : Nat → Int32, σ1 = (upC (upC σ 0 (upd (σ 0) 1 n1)) 1 u1) ∧ ((152 < (σ 0 1).toInt ∧ (r : Int32).toInt = -3 ∧ n1.toInt = (σ 0 1).toInt) ∨ ((σ 0 1).toInt ≤ 152 ∧ (r : Int32).toInt = (σ 0 1).toInt + 8 ∧ n1.toInt = (σ 0 1).toInt + 8)))) 0 0 (va_A (wM a cI σ) sz) := by
  refine Met.ofW (cc := cX9_feed) (maxL := 4) (ret := (some .int)) (by decide) rfl ?_
  intro p e s m args below meth c s₁ B hml hv
  obtain ⟨rfl, hsz, hP, hK, hD0, hN⟩ := hv
  have hx := B.exec
  have hb := B.bytes
  have hr := B.returns
  have hts := atoms_spec (ws := wsX9_feed) B.pre
  have hown : s.vm.findClass RX9 = some m.cls := findClass_of_methodNamed B.named
  have hlocks := B.notSynchronized
  subst hsz
  have hD := hD0.self (sz := s.heap.size)
  generalize hAe : va_A (wM a cI σ) s.heap.size = A at hD hN ⊢
  have hA : ∀ q : Nat, s.heap.size ≤ q → A q := fun q h => by rw [← hAe]; exact Or.inr h
  clear hAe hD0
  have hS : va_S A s.heap s.heap [] := va_S.rf
  have in9 : ∀ w ∈ u_ws RX9 TX9 28, w ∈ wsX9_feed := by decide +kernel
  have k61 := hts (.fieldLink RX9 61 "HouseSortedModel" "taped" "I") (by decide +kernel)
  have k7 := hts (.fieldLink RX9 7 "HouseSortedModel" "tape" "[I") (by decide +kernel)
  have kq65 := hts (.constantLong RX9 65 (255)) (by decide +kernel)
  have LP : ∀ n : Nat, (∀ (k : Int32) (m1 : Int32) (w1 : Nat → Int32) (H : Heap) (locs : List Loc) (ls : Array Slot), -8 ≤ k.toInt ∧ k.toInt ≤ 56 ∧ k.toInt % 8 = 0 → (σ 0 1).toInt ≤ 152 → 8 * m1.toInt = 8 * (σ 0 1).toInt + 56 - k.toInt → (k.toInt + 8).toNat < n → va_P (dC, dI) vwCl (wM a cI (upC (upC σ 0 (upd (σ 0) 1 m1)) 1 w1)) H → va_D A (wM a cI (upC (upC σ 0 (upd (σ 0) 1 m1)) 1 w1)) → va_S A s.heap H locs → lv_has ls 4 [(0, .ref (a 0)), (1, .long x1), (3, .int k)] → W p l e (headSpec wsX9_feed RM_X9_feed).room s m ([.ref (a 0), .long x1] : List Value).toArray below meth c H locs 0 0 (MQ below (zQi (dC, dI) [(cI, .int)] (wM a cI) A (fun (r : Int32) (σ1 : Cn) => ∃ n1 : Int32, ∃ u1 : Nat → Int32, σ1 = (upC (upC σ 0 (upd (σ 0) 1 n1)) 1 u1) ∧ ((152 < (σ 0 1).toInt ∧ (r : Int32).toInt = -3 ∧ n1.toInt = (σ 0 1).toInt) ∨ ((σ 0 1).toInt ≤ 152 ∧ (r : Int32).toInt = (σ 0 1).toInt + 8 ∧ n1.toInt = (σ 0 1).toInt + 8)))) ([.ref (a 0), .long x1] : List Value).toArray s 0 0 A) (F0 m 19 ls [])) := by
    intro n
    induction n with
    | zero => exact by intros; omega
    | succ n ih =>
      · intro k m1 w1 H locs ls g1 g2 g3 hmu hP hD hS hl
        refine lv_iload_n hx hb dX9_feed_19 rfl (lv_at hl 2 rfl) ?_
        refine lv_if_lt (tgt := 56) hx hb dX9_feed_20 (by decide) (fun c20 => ?_) (fun c20 => ?_)
        · skip
          have ic20 := zlt (a := k.toInt) (b := 0) rfl (by decide) c20
          refine lv_aload_n hx hb dX9_feed_56 rfl (lv_at hl 0 rfl) ?_
          refine va_get (D := (dC, dI)) (ci := 9) (v := .int m1) (C := RX9) (T := TX9) (N := 28) hx hb hts in9 hown hK hP 0 rfl rfl 1 (by decide) k61 (fun _ h9 => h9) rfl dX9_feed_57 ?_
          have heq9 : (upC (upC σ 0 (upd (σ 0) 1 m1)) 1 w1) = (upC (upC σ 0 (upd (σ 0) 1 m1)) 1 w1) := rfl
          have hpost : ∃ n1 : Int32, ∃ u1 : Nat → Int32, (upC (upC σ 0 (upd (σ 0) 1 m1)) 1 w1) = (upC (upC σ 0 (upd (σ 0) 1 n1)) 1 u1) ∧ ((152 < (σ 0 1).toInt ∧ (m1 : Int32).toInt = -3 ∧ n1.toInt = (σ 0 1).toInt) ∨ ((σ 0 1).toInt ≤ 152 ∧ (m1 : Int32).toInt = (σ 0 1).toInt + 8 ∧ n1.toInt = (σ 0 1).toInt + 8)) := by refine ⟨(m1), (w1), heq9, ?_⟩; first | exact Or.inr ⟨by omega, by omega, by omega⟩ | exact Or.inl ⟨by omega, by decide, rfl⟩
          exact W.iret (v := m1) hx hb hr (fun t9 ht hW => ⟨⟨m1, (upC (upC σ 0 (upd (σ 0) 1 m1)) 1 w1), rfl, hpost, by rw [ht]; exact hP, va_K.moved hW.alike hK, hD⟩, hS.F ht⟩) hS.2.2 dX9_feed_60
        · skip
          have ic20 := znlt (a := k.toInt) (b := 0) rfl (by decide) c20
          refine lv_aload_n hx hb dX9_feed_23 rfl (lv_at hl 0 rfl) ?_
          refine va_get (D := (dC, dI)) (ci := 9) (v := .ref (a 1)) (C := RX9) (T := TX9) (N := 28) hx hb hts in9 hown hK hP 0 rfl rfl 0 (by decide) k7 (fun _ h9 => h9) rfl dX9_feed_24 ?_
          refine lv_aload_n hx hb dX9_feed_27 rfl (lv_at hl 0 rfl) ?_
          refine va_get (D := (dC, dI)) (ci := 9) (v := .int m1) (C := RX9) (T := TX9) (N := 28) hx hb hts in9 hown hK hP 0 rfl rfl 1 (by decide) k61 (fun _ h9 => h9) rfl dX9_feed_28 ?_
          refine lv_lload_n hx hb dX9_feed_31 rfl (lv_at hl 1 rfl) ?_
          refine lv_iload_n hx hb dX9_feed_32 rfl (lv_at hl 2 rfl) ?_
          refine lv_lshr hx hb dX9_feed_33 rfl ?_
          refine lv_topl (fun v33 ev33 => ?_)
          refine lv_ldc2 hx hb hown kq65 dX9_feed_34 ?_
          refine lv_land hx hb dX9_feed_37 ?_
          refine lv_topl (fun v37 ev37 => ?_)
          refine lv_l2i hx hb dX9_feed_38 rfl ?_
          refine lv_topi (fun v38 ev38 => ?_)
          refine va_iast (D := (dC, dI)) (f := w1) hx hb hK hP hD hS 1 0 rfl rfl (i := m1) (n := 160) (zin (by omega) (by omega)) dX9_feed_39 (fun H locs hP hD hS => ?_)
          have hP : va_P (dC, dI) vwCl (wM a cI (upC (upC σ 0 (upd (σ 0) 1 m1)) 1 (upd (w1) (m1).toNatClampNeg v38))) H := hP
          have hD : va_D A (wM a cI (upC (upC σ 0 (upd (σ 0) 1 m1)) 1 (upd (w1) (m1).toNatClampNeg v38))) := hD
          refine lv_aload_n hx hb dX9_feed_40 rfl (lv_at hl 0 rfl) ?_
          refine lv_dup hx hb dX9_feed_41 rfl ?_
          refine va_get (D := (dC, dI)) (ci := 9) (v := .int m1) (C := RX9) (T := TX9) (N := 28) hx hb hts in9 hown hK hP 0 rfl rfl 1 (by decide) k61 (fun _ h9 => h9) rfl dX9_feed_42 ?_
          refine lv_iconst (v := 1) hx hb dX9_feed_45 (by decide) ?_
          refine lv_iadd hx hb dX9_feed_46 ?_
          refine lv_topi (fun v46 ev46 => ?_)
          have tv46 : v46.toInt = m1.toInt + 1 := by rw [ev46, zadd, show (1 : Int32).toInt = 1 from by decide]; omega
          refine va_put (D := (dC, dI)) (ci := 9) (v := .int v46) (ty := .int) (C := RX9) (T := TX9) (N := 28) hx hb hts in9 tyX9 tyX9_ok nmX9 hown hK hP hD hS 0 rfl rfl 1 (by decide) k61 (fun _ h9 => h9) rfl (by decide +kernel) rfl rfl (Nat.le_of_ble_eq_true rfl) dX9_feed_47 (fun H locs hP hD hS => ?_)
          have hP : va_P (dC, dI) vwCl (wM a cI (upC (upC σ 0 (upd (σ 0) 1 v46)) 1 (upd (w1) (m1).toNatClampNeg v38))) H := hP
          have hD : va_D A (wM a cI (upC (upC σ 0 (upd (σ 0) 1 v46)) 1 (upd (w1) (m1).toNatClampNeg v38))) := hD
          obtain ⟨v50, ev50⟩ : ∃ y : Int32, y = k + (-8) := ⟨_, rfl⟩
          refine lv_iinc (v := v50) (lv' := [(3, .int v50), (0, .ref (a 0)), (1, .long x1)]) hx hb dX9_feed_50 hl (k := 2) rfl (by rw [ev50]; rfl) (by decide) rfl (fun ls hl => ?_)
          have tv50 : v50.toInt = k.toInt + (-8) := by rw [ev50, zadd, show ((-8) : Int32).toInt = (-8) from by decide]; omega
          refine lv_goto (tgt := 19) hx hb dX9_feed_53 (by decide) ?_
          exact ih (v50) (v46) (upd (w1) (m1).toNatClampNeg v38) H locs ls (by omega) (g2) (by omega) (by omega) hP hD hS (lv_sub hl [1, 2, 0] rfl)
  have hl := lv_entry ([.ref (a 0), .long x1]) (n := 4) (Nat.le_of_ble_eq_true rfl)
  rw [lg_entry_eq]
  generalize (lg_sl ([.ref (a 0), .long x1]) ++ List.replicate (4 - (lg_sl ([.ref (a 0), .long x1])).length) Slot.unset).toArray = ls at hl ⊢
  have hl : lv_has ls 4 [(0, .ref (a 0)), (1, .long x1)] := hl
  suffices main : ∀ (H : Heap) (locs : List Loc), va_P (dC, dI) vwCl (wM a cI σ) H → va_D A (wM a cI σ) → va_S A s.heap H locs → W p l e (headSpec wsX9_feed RM_X9_feed).room s m ([.ref (a 0), .long x1] : List Value).toArray below meth c H locs 0 0 (MQ below (zQi (dC, dI) [(cI, .int)] (wM a cI) A (fun (r : Int32) (σ1 : Cn) => ∃ n1 : Int32, ∃ u1 : Nat → Int32, σ1 = (upC (upC σ 0 (upd (σ 0) 1 n1)) 1 u1) ∧ ((152 < (σ 0 1).toInt ∧ (r : Int32).toInt = -3 ∧ n1.toInt = (σ 0 1).toInt) ∨ ((σ 0 1).toInt ≤ 152 ∧ (r : Int32).toInt = (σ 0 1).toInt + 8 ∧ n1.toInt = (σ 0 1).toInt + 8)))) ([.ref (a 0), .long x1] : List Value).toArray s 0 0 A) (F0 m 0 ls []) from main s.heap [] hP hD hS
  intro H locs hP hD hS
  refine lv_aload_n hx hb dX9_feed_0 rfl (lv_at hl 0 rfl) ?_
  refine va_get (D := (dC, dI)) (ci := 9) (v := .int (σ 0 1)) (C := RX9) (T := TX9) (N := 28) hx hb hts in9 hown hK hP 0 rfl rfl 1 (by decide) k61 (fun _ h9 => h9) rfl dX9_feed_1 ?_
  refine lv_bipush (v := 8) hx hb dX9_feed_4 (by decide) ?_
  refine lv_iadd hx hb dX9_feed_6 ?_
  refine lv_topi (fun v6 ev6 => ?_)
  have tv6 : v6.toInt = (σ 0 1).toInt + 8 := by rw [ev6, zadd, show (8 : Int32).toInt = 8 from by decide]; omega
  refine lv_sipush (v := 160) hx hb dX9_feed_7 (by decide) ?_
  refine lv_icmp_le (tgt := 16) hx hb dX9_feed_10 (by decide) (fun c10 => ?_) (fun c10 => ?_)
  · skip
    have ic10 := zle (a := v6.toInt) (b := 160) rfl (by decide) c10
    refine lv_bipush (v := 56) hx hb dX9_feed_16 (by decide) ?_
    refine lv_istore_n (lv' := [(3, .int 56), (0, .ref (a 0)), (1, .long x1)]) hx hb dX9_feed_18 rfl hl (by decide) rfl (fun ls hl => ?_)
    exact (LP _) (56) (σ 0 1) (σ 1) H locs ls (by decide) (by omega) (by rw [show (56 : Int32).toInt = 56 from by decide]; omega) (Nat.lt_succ_self _) hP hD hS (lv_sub hl [1, 2, 0] rfl)
  · skip
    have ic10 := znle (a := v6.toInt) (b := 160) rfl (by decide) c10
    refine lv_bipush (v := (-3)) hx hb dX9_feed_13 (by decide) ?_
    have heq9 : σ = (upC (upC σ 0 (upd (σ 0) 1 (σ 0 1))) 1 (σ 1)) := by
      funext k
      by_cases e0 : k = 0
      · subst e0
        funext i
        by_cases f1 : i = 1
        · subst f1; rfl
        show (σ 0) i = (upd (σ 0) 1 (σ 0 1)) i
        simp only [upd, if_neg f1]
      by_cases e1 : k = 1
      · subst e1; rfl
      simp only [upC, if_neg e0, if_neg e1]
    have hpost : ∃ n1 : Int32, ∃ u1 : Nat → Int32, σ = (upC (upC σ 0 (upd (σ 0) 1 n1)) 1 u1) ∧ ((152 < (σ 0 1).toInt ∧ ((-3) : Int32).toInt = -3 ∧ n1.toInt = (σ 0 1).toInt) ∨ ((σ 0 1).toInt ≤ 152 ∧ ((-3) : Int32).toInt = (σ 0 1).toInt + 8 ∧ n1.toInt = (σ 0 1).toInt + 8)) := by refine ⟨(σ 0 1), (σ 1), heq9, ?_⟩; first | exact Or.inr ⟨by omega, by omega, by omega⟩ | exact Or.inl ⟨by omega, by decide, rfl⟩
    exact W.iret (v := (-3)) hx hb hr (fun t9 ht hW => ⟨⟨(-3), σ, rfl, hpost, by rw [ht]; exact hP, va_K.moved hW.alike hK, hD⟩, hS.F ht⟩) hS.2.2 dX9_feed_15

abbrev RM_X9_end : Room := { frames := 1, cells := 0, slots := 0, locals := 25 }
set_option maxHeartbeats 4000000 in
set_option maxRecDepth 100000 in
theorem c_X9_end (l : Launch) (dC : Nat → ClassId) (dI : Nat → Nat → Nat) (cI : ClassId) (a : Nat → Nat) (N : (Nat → Prop) → State → Prop) (hok : zNok N) (σ : Cn) (sz : Nat) (x1 : Int32)  : Met l yX9_end wsX9_end RM_X9_end (zPc (dC, dI) [(cI, .int)] N (wM a cI) σ sz [.ref (a 0), .int x1]) (zQi (dC, dI) [(cI, .int)] (wM a cI) (va_A (wM a cI σ) sz) (fun (r : Int32) (σ1 : Cn) => ∃ n1 : Int32, σ1 = (upC σ 0 (upd (σ 0) 1 n1)) ∧ ((0 ≤ x1.toInt ∧ x1.toInt ≤ (σ 0 1).toInt ∧ (r : Int32) = σ 0 1 ∧ n1 = x1) ∨ (¬ (0 ≤ x1.toInt ∧ x1.toInt ≤ (σ 0 1).toInt) ∧ (r : Int32) = -1 ∧ n1 = σ 0 1)))) 0 0 (va_A (wM a cI σ) sz) := by
  refine Met.ofW (cc := cX9_end) (maxL := 3) (ret := (some .int)) (by decide) rfl ?_
  intro p e s m args below meth c s₁ B hml hv
  obtain ⟨rfl, hsz, hP, hK, hD0, hN⟩ := hv
  have hx := B.exec
  have hb := B.bytes
  have hr := B.returns
  have hts := atoms_spec (ws := wsX9_end) B.pre
  have hown : s.vm.findClass RX9 = some m.cls := findClass_of_methodNamed B.named
  have hlocks := B.notSynchronized
  subst hsz
  have hD := hD0.self (sz := s.heap.size)
  generalize hAe : va_A (wM a cI σ) s.heap.size = A at hD hN ⊢
  have hA : ∀ q : Nat, s.heap.size ≤ q → A q := fun q h => by rw [← hAe]; exact Or.inr h
  clear hAe hD0
  have hS : va_S A s.heap s.heap [] := va_S.rf
  have in9 : ∀ w ∈ u_ws RX9 TX9 28, w ∈ wsX9_end := by decide +kernel
  have k61 := hts (.fieldLink RX9 61 "HouseSortedModel" "taped" "I") (by decide +kernel)
  have hl := lv_entry ([.ref (a 0), .int x1]) (n := 3) (Nat.le_of_ble_eq_true rfl)
  rw [lg_entry_eq]
  generalize (lg_sl ([.ref (a 0), .int x1]) ++ List.replicate (3 - (lg_sl ([.ref (a 0), .int x1])).length) Slot.unset).toArray = ls at hl ⊢
  have hl : lv_has ls 3 [(0, .ref (a 0)), (1, .int x1)] := hl
  suffices main : ∀ (H : Heap) (locs : List Loc), va_P (dC, dI) vwCl (wM a cI σ) H → va_D A (wM a cI σ) → va_S A s.heap H locs → W p l e (headSpec wsX9_end RM_X9_end).room s m ([.ref (a 0), .int x1] : List Value).toArray below meth c H locs 0 0 (MQ below (zQi (dC, dI) [(cI, .int)] (wM a cI) A (fun (r : Int32) (σ1 : Cn) => ∃ n1 : Int32, σ1 = (upC σ 0 (upd (σ 0) 1 n1)) ∧ ((0 ≤ x1.toInt ∧ x1.toInt ≤ (σ 0 1).toInt ∧ (r : Int32) = σ 0 1 ∧ n1 = x1) ∨ (¬ (0 ≤ x1.toInt ∧ x1.toInt ≤ (σ 0 1).toInt) ∧ (r : Int32) = -1 ∧ n1 = σ 0 1)))) ([.ref (a 0), .int x1] : List Value).toArray s 0 0 A) (F0 m 0 ls []) from main s.heap [] hP hD hS
  intro H locs hP hD hS
  refine lv_iload_n hx hb dX9_end_0 rfl (lv_at hl 1 rfl) ?_
  refine lv_i2l hx hb dX9_end_1 rfl ?_
  refine lv_topl (fun v1 ev1 => ?_)
  have tv1 : v1.toInt = x1.toInt := by rw [ev1]; exact zi2l rfl
  refine lv_lconst (v := 0) hx hb dX9_end_2 (by decide) ?_
  refine lv_aload_n hx hb dX9_end_3 rfl (lv_at hl 0 rfl) ?_
  refine va_get (D := (dC, dI)) (ci := 9) (v := .int (σ 0 1)) (C := RX9) (T := TX9) (N := 28) hx hb hts in9 hown hK hP 0 rfl rfl 1 (by decide) k61 (fun _ h9 => h9) rfl dX9_end_4 ?_
  refine lv_i2l hx hb dX9_end_7 rfl ?_
  refine lv_topl (fun v7 ev7 => ?_)
  have tv7 : v7.toInt = (σ 0 1).toInt := by rw [ev7]; exact zi2l rfl
  refine zcalli (va_runS (As := [.long v1, .long 0, .long v7]) (rest := []) ⟨hx, hb, hml, hown, hts⟩ (c_X9_in l dC dI cI a N hok σ H.size (v1) (0) (v7) ) (va_cwS 3 hts gX9_end_X9_in rfl rfl rfl (by decide +kernel) ⟨Nat.le_of_ble_eq_true rfl, Nat.le_of_ble_eq_true rfl⟩) (zpreS (wf := wM a cI) hok hN hS hA hK hP hD) rfl rfl hl.1 rfl (lv_room (Nat.le_of_ble_eq_true rfl)) dX9_end_8 ⟨Nat.zero_le _, Nat.zero_le _⟩) hD hS hA (fun v8 σ1 H locs hv8 hP hD hS => ?_)
  obtain ⟨es9, hv8⟩ := hv8
  subst σ1
  try simp only [show (0 : Int64).toInt = 0 from by decide] at hv8
  refine lv_if_ne (tgt := 16) hx hb dX9_end_11 (by decide) (fun c11 => ?_) (fun c11 => ?_)
  · skip
    have ic11 := zneq (a := v8.toInt) (b := 0) rfl (by decide) c11
    replace hv8 := (hv8.resolve_right (fun q => by omega)).2
    refine lv_aload_n hx hb dX9_end_16 rfl (lv_at hl 0 rfl) ?_
    refine va_get (D := (dC, dI)) (ci := 9) (v := .int (σ 0 1)) (C := RX9) (T := TX9) (N := 28) hx hb hts in9 hown hK hP 0 rfl rfl 1 (by decide) k61 (fun _ h9 => h9) rfl dX9_end_17 ?_
    refine lv_istore_n (lv' := [(2, .int (σ 0 1)), (0, .ref (a 0)), (1, .int x1)]) hx hb dX9_end_20 rfl hl (by decide) rfl (fun ls hl => ?_)
    refine lv_aload_n hx hb dX9_end_21 rfl (lv_at hl 1 rfl) ?_
    refine lv_iload_n hx hb dX9_end_22 rfl (lv_at hl 2 rfl) ?_
    refine va_put (D := (dC, dI)) (ci := 9) (v := .int x1) (ty := .int) (C := RX9) (T := TX9) (N := 28) hx hb hts in9 tyX9 tyX9_ok nmX9 hown hK hP hD hS 0 rfl rfl 1 (by decide) k61 (fun _ h9 => h9) rfl (by decide +kernel) rfl rfl (Nat.le_of_ble_eq_true rfl) dX9_end_23 (fun H locs hP hD hS => ?_)
    have hP : va_P (dC, dI) vwCl (wM a cI (upC σ 0 (upd (σ 0) 1 x1))) H := hP
    have hD : va_D A (wM a cI (upC σ 0 (upd (σ 0) 1 x1))) := hD
    refine lv_iload_n hx hb dX9_end_26 rfl (lv_at hl 0 rfl) ?_
    have heq9 : (upC σ 0 (upd (σ 0) 1 x1)) = (upC σ 0 (upd (σ 0) 1 x1)) := rfl
    have hpost : ∃ n1 : Int32, (upC σ 0 (upd (σ 0) 1 x1)) = (upC σ 0 (upd (σ 0) 1 n1)) ∧ ((0 ≤ x1.toInt ∧ x1.toInt ≤ (σ 0 1).toInt ∧ (σ 0 1 : Int32) = σ 0 1 ∧ n1 = x1) ∨ (¬ (0 ≤ x1.toInt ∧ x1.toInt ≤ (σ 0 1).toInt) ∧ (σ 0 1 : Int32) = -1 ∧ n1 = σ 0 1)) := by refine ⟨(x1), heq9, ?_⟩; first | exact Or.inl ⟨by omega, by omega, rfl, rfl⟩ | exact Or.inr ⟨by omega, rfl, rfl⟩
    exact W.iret (v := σ 0 1) hx hb hr (fun t9 ht hW => ⟨⟨σ 0 1, (upC σ 0 (upd (σ 0) 1 x1)), rfl, hpost, by rw [ht]; exact hP, va_K.moved hW.alike hK, hD⟩, hS.F ht⟩) hS.2.2 dX9_end_27
  · skip
    have ic11 := zeq (a := v8.toInt) (b := 0) rfl (by decide) c11
    replace hv8 := (hv8.resolve_left (fun q => by omega)).2
    refine lv_iconst (v := (-1)) hx hb dX9_end_14 (by decide) ?_
    have heq9 : σ = (upC σ 0 (upd (σ 0) 1 (σ 0 1))) := by
      funext k
      by_cases e0 : k = 0
      · subst e0
        funext i
        by_cases f1 : i = 1
        · subst f1; rfl
        show (σ 0) i = (upd (σ 0) 1 (σ 0 1)) i
        simp only [upd, if_neg f1]
      simp only [upC, if_neg e0]
    have hpost : ∃ n1 : Int32, σ = (upC σ 0 (upd (σ 0) 1 n1)) ∧ ((0 ≤ x1.toInt ∧ x1.toInt ≤ (σ 0 1).toInt ∧ ((-1) : Int32) = σ 0 1 ∧ n1 = x1) ∨ (¬ (0 ≤ x1.toInt ∧ x1.toInt ≤ (σ 0 1).toInt) ∧ ((-1) : Int32) = -1 ∧ n1 = σ 0 1)) := by refine ⟨(σ 0 1), heq9, ?_⟩; first | exact Or.inl ⟨by omega, by omega, rfl, rfl⟩ | exact Or.inr ⟨by omega, rfl, rfl⟩
    exact W.iret (v := (-1)) hx hb hr (fun t9 ht hW => ⟨⟨(-1), σ, rfl, hpost, by rw [ht]; exact hP, va_K.moved hW.alike hK, hD⟩, hS.F ht⟩) hS.2.2 dX9_end_15

abbrev RM_X9_fault : Room := { frames := 0, cells := 0, slots := 0, locals := 0 }
set_option maxHeartbeats 4000000 in
set_option maxRecDepth 100000 in
theorem c_X9_fault (l : Launch) (dC : Nat → ClassId) (dI : Nat → Nat → Nat) (cI : ClassId) (a : Nat → Nat) (N : (Nat → Prop) → State → Prop) (hok : zNok N) (σ : Cn) (sz : Nat)   : Met l yX9_fault wsX9_fault RM_X9_fault (zPc (dC, dI) [(cI, .int)] N (wM a cI) σ sz [.ref (a 0)]) (zQi (dC, dI) [(cI, .int)] (wM a cI) (va_A (wM a cI σ) sz) (fun (r : Int32) (σ1 : Cn) => σ1 = σ ∧ (r : Int32) = σ 0 6)) 0 0 (va_A (wM a cI σ) sz) := by
  refine Met.ofW (cc := cX9_fault) (maxL := 1) (ret := (some .int)) (by decide) rfl ?_
  intro p e s m args below meth c s₁ B hml hv
  obtain ⟨rfl, hsz, hP, hK, hD0, hN⟩ := hv
  have hx := B.exec
  have hb := B.bytes
  have hr := B.returns
  have hts := atoms_spec (ws := wsX9_fault) B.pre
  have hown : s.vm.findClass RX9 = some m.cls := findClass_of_methodNamed B.named
  have hlocks := B.notSynchronized
  subst hsz
  have hD := hD0.self (sz := s.heap.size)
  generalize hAe : va_A (wM a cI σ) s.heap.size = A at hD hN ⊢
  have hA : ∀ q : Nat, s.heap.size ≤ q → A q := fun q h => by rw [← hAe]; exact Or.inr h
  clear hAe hD0
  have hS : va_S A s.heap s.heap [] := va_S.rf
  have in9 : ∀ w ∈ u_ws RX9 TX9 28, w ∈ wsX9_fault := by decide +kernel
  have k71 := hts (.fieldLink RX9 71 "HouseSortedModel" "fault" "I") (by decide +kernel)
  have hl := lv_entry ([.ref (a 0)]) (n := 1) (Nat.le_of_ble_eq_true rfl)
  rw [lg_entry_eq]
  generalize (lg_sl ([.ref (a 0)]) ++ List.replicate (1 - (lg_sl ([.ref (a 0)])).length) Slot.unset).toArray = ls at hl ⊢
  have hl : lv_has ls 1 [(0, .ref (a 0))] := hl
  suffices main : ∀ (H : Heap) (locs : List Loc), va_P (dC, dI) vwCl (wM a cI σ) H → va_D A (wM a cI σ) → va_S A s.heap H locs → W p l e (headSpec wsX9_fault RM_X9_fault).room s m ([.ref (a 0)] : List Value).toArray below meth c H locs 0 0 (MQ below (zQi (dC, dI) [(cI, .int)] (wM a cI) A (fun (r : Int32) (σ1 : Cn) => σ1 = σ ∧ (r : Int32) = σ 0 6)) ([.ref (a 0)] : List Value).toArray s 0 0 A) (F0 m 0 ls []) from main s.heap [] hP hD hS
  intro H locs hP hD hS
  refine lv_aload_n hx hb dX9_fault_0 rfl (lv_at hl 0 rfl) ?_
  refine va_get (D := (dC, dI)) (ci := 9) (v := .int (σ 0 6)) (C := RX9) (T := TX9) (N := 28) hx hb hts in9 hown hK hP 0 rfl rfl 6 (by decide) k71 (fun _ h9 => h9) rfl dX9_fault_1 ?_
  have heq9 : σ = σ := rfl
  have hpost : σ = σ ∧ (σ 0 6 : Int32) = σ 0 6 := by refine ⟨heq9, ?_⟩; rfl
  exact W.iret (v := σ 0 6) hx hb hr (fun t9 ht hW => ⟨⟨σ 0 6, σ, rfl, hpost, by rw [ht]; exact hP, va_K.moved hW.alike hK, hD⟩, hS.F ht⟩) hS.2.2 dX9_fault_4

abbrev RM_X9_fails : Room := { frames := 0, cells := 0, slots := 0, locals := 0 }
set_option maxHeartbeats 4000000 in
set_option maxRecDepth 100000 in
theorem c_X9_fails (l : Launch) (dC : Nat → ClassId) (dI : Nat → Nat → Nat) (cI : ClassId) (a : Nat → Nat) (N : (Nat → Prop) → State → Prop) (hok : zNok N) (σ : Cn) (sz : Nat) (x1 : Int32)  : Met l yX9_fails wsX9_fails RM_X9_fails (zPc (dC, dI) [(cI, .int)] N (wM a cI) σ sz [.ref (a 0), .int x1]) (zQv (dC, dI) [(cI, .int)] (wM a cI) (va_A (wM a cI σ) sz) (fun (σ1 : Cn) => ∃ n6 : Int32, ∃ n7 : Int32, σ1 = (upC σ 0 (upd (upd (σ 0) 6 n6) 7 n7)) ∧ (((σ 0 6).toInt = 0 ∧ n6 = x1) ∨ (¬ (σ 0 6).toInt = 0 ∧ n6 = σ 0 6)))) 0 0 (va_A (wM a cI σ) sz) := by
  refine Met.ofW (cc := cX9_fails) (maxL := 2) (ret := none) (by decide) rfl ?_
  intro p e s m args below meth c s₁ B hml hv
  obtain ⟨rfl, hsz, hP, hK, hD0, hN⟩ := hv
  have hx := B.exec
  have hb := B.bytes
  have hr := B.returns
  have hts := atoms_spec (ws := wsX9_fails) B.pre
  have hown : s.vm.findClass RX9 = some m.cls := findClass_of_methodNamed B.named
  have hlocks := B.notSynchronized
  subst hsz
  have hD := hD0.self (sz := s.heap.size)
  generalize hAe : va_A (wM a cI σ) s.heap.size = A at hD hN ⊢
  have hA : ∀ q : Nat, s.heap.size ≤ q → A q := fun q h => by rw [← hAe]; exact Or.inr h
  clear hAe hD0
  have hS : va_S A s.heap s.heap [] := va_S.rf
  have in9 : ∀ w ∈ u_ws RX9 TX9 28, w ∈ wsX9_fails := by decide +kernel
  have k71 := hts (.fieldLink RX9 71 "HouseSortedModel" "fault" "I") (by decide +kernel)
  have k74 := hts (.fieldLink RX9 74 "HouseSortedModel" "from" "I") (by decide +kernel)
  have k77 := hts (.fieldLink RX9 77 "HouseSortedModel" "wrongAt" "I") (by decide +kernel)
  have hl := lv_entry ([.ref (a 0), .int x1]) (n := 2) (Nat.le_of_ble_eq_true rfl)
  rw [lg_entry_eq]
  generalize (lg_sl ([.ref (a 0), .int x1]) ++ List.replicate (2 - (lg_sl ([.ref (a 0), .int x1])).length) Slot.unset).toArray = ls at hl ⊢
  have hl : lv_has ls 2 [(0, .ref (a 0)), (1, .int x1)] := hl
  suffices main : ∀ (H : Heap) (locs : List Loc), va_P (dC, dI) vwCl (wM a cI σ) H → va_D A (wM a cI σ) → va_S A s.heap H locs → W p l e (headSpec wsX9_fails RM_X9_fails).room s m ([.ref (a 0), .int x1] : List Value).toArray below meth c H locs 0 0 (MQ below (zQv (dC, dI) [(cI, .int)] (wM a cI) A (fun (σ1 : Cn) => ∃ n6 : Int32, ∃ n7 : Int32, σ1 = (upC σ 0 (upd (upd (σ 0) 6 n6) 7 n7)) ∧ (((σ 0 6).toInt = 0 ∧ n6 = x1) ∨ (¬ (σ 0 6).toInt = 0 ∧ n6 = σ 0 6)))) ([.ref (a 0), .int x1] : List Value).toArray s 0 0 A) (F0 m 0 ls []) from main s.heap [] hP hD hS
  intro H locs hP hD hS
  refine lv_aload_n hx hb dX9_fails_0 rfl (lv_at hl 0 rfl) ?_
  refine va_get (D := (dC, dI)) (ci := 9) (v := .int (σ 0 6)) (C := RX9) (T := TX9) (N := 28) hx hb hts in9 hown hK hP 0 rfl rfl 6 (by decide) k71 (fun _ h9 => h9) rfl dX9_fails_1 ?_
  refine lv_if_ne (tgt := 20) hx hb dX9_fails_4 (by decide) (fun c4 => ?_) (fun c4 => ?_)
  · skip
    have ic4 := zneq (a := (σ 0 6).toInt) (b := 0) rfl (by decide) c4
    have heq9 : σ = (upC σ 0 (upd (upd (σ 0) 6 (σ 0 6)) 7 (σ 0 7))) := by
      funext k
      by_cases e0 : k = 0
      · subst e0
        funext i
        by_cases f6 : i = 6
        · subst f6; rfl
        by_cases f7 : i = 7
        · subst f7; rfl
        show (σ 0) i = (upd (upd (σ 0) 6 (σ 0 6)) 7 (σ 0 7)) i
        simp only [upd, if_neg f6, if_neg f7]
      simp only [upC, if_neg e0]
    have hpost : ∃ n6 : Int32, ∃ n7 : Int32, σ = (upC σ 0 (upd (upd (σ 0) 6 n6) 7 n7)) ∧ (((σ 0 6).toInt = 0 ∧ n6 = x1) ∨ (¬ (σ 0 6).toInt = 0 ∧ n6 = σ 0 6)) := by refine ⟨(σ 0 6), (σ 0 7), heq9, ?_⟩; first | exact Or.inl ⟨by omega, rfl⟩ | exact Or.inr ⟨by omega, rfl⟩
    exact W.vret hx hb hr (fun t9 ht hW => ⟨⟨σ, rfl, hpost, by rw [ht]; exact hP, va_K.moved hW.alike hK, hD⟩, hS.F ht⟩) hS.2.2 dX9_fails_20
  · skip
    have ic4 := zeq (a := (σ 0 6).toInt) (b := 0) rfl (by decide) c4
    refine lv_aload_n hx hb dX9_fails_7 rfl (lv_at hl 0 rfl) ?_
    refine lv_iload_n hx hb dX9_fails_8 rfl (lv_at hl 1 rfl) ?_
    refine va_put (D := (dC, dI)) (ci := 9) (v := .int x1) (ty := .int) (C := RX9) (T := TX9) (N := 28) hx hb hts in9 tyX9 tyX9_ok nmX9 hown hK hP hD hS 0 rfl rfl 6 (by decide) k71 (fun _ h9 => h9) rfl (by decide +kernel) rfl rfl (Nat.le_of_ble_eq_true rfl) dX9_fails_9 (fun H locs hP hD hS => ?_)
    have hP : va_P (dC, dI) vwCl (wM a cI (upC σ 0 (upd (σ 0) 6 x1))) H := hP
    have hD : va_D A (wM a cI (upC σ 0 (upd (σ 0) 6 x1))) := hD
    refine lv_aload_n hx hb dX9_fails_12 rfl (lv_at hl 0 rfl) ?_
    refine lv_aload_n hx hb dX9_fails_13 rfl (lv_at hl 0 rfl) ?_
    refine va_get (D := (dC, dI)) (ci := 9) (v := .int (σ 0 3)) (C := RX9) (T := TX9) (N := 28) hx hb hts in9 hown hK hP 0 rfl rfl 3 (by decide) k74 (fun _ h9 => h9) rfl dX9_fails_14 ?_
    refine va_put (D := (dC, dI)) (ci := 9) (v := .int (σ 0 3)) (ty := .int) (C := RX9) (T := TX9) (N := 28) hx hb hts in9 tyX9 tyX9_ok nmX9 hown hK hP hD hS 0 rfl rfl 7 (by decide) k77 (fun _ h9 => h9) rfl (by decide +kernel) rfl rfl (Nat.le_of_ble_eq_true rfl) dX9_fails_17 (fun H locs hP hD hS => ?_)
    have hP : va_P (dC, dI) vwCl (wM a cI (upC σ 0 (upd (upd (σ 0) 6 x1) 7 (σ 0 3)))) H := hP
    have hD : va_D A (wM a cI (upC σ 0 (upd (upd (σ 0) 6 x1) 7 (σ 0 3)))) := hD
    have heq9 : (upC σ 0 (upd (upd (σ 0) 6 x1) 7 (σ 0 3))) = (upC σ 0 (upd (upd (σ 0) 6 x1) 7 (σ 0 3))) := rfl
    have hpost : ∃ n6 : Int32, ∃ n7 : Int32, (upC σ 0 (upd (upd (σ 0) 6 x1) 7 (σ 0 3))) = (upC σ 0 (upd (upd (σ 0) 6 n6) 7 n7)) ∧ (((σ 0 6).toInt = 0 ∧ n6 = x1) ∨ (¬ (σ 0 6).toInt = 0 ∧ n6 = σ 0 6)) := by refine ⟨(x1), (σ 0 3), heq9, ?_⟩; first | exact Or.inl ⟨by omega, rfl⟩ | exact Or.inr ⟨by omega, rfl⟩
    exact W.vret hx hb hr (fun t9 ht hW => ⟨⟨(upC σ 0 (upd (upd (σ 0) 6 x1) 7 (σ 0 3))), rfl, hpost, by rw [ht]; exact hP, va_K.moved hW.alike hK, hD⟩, hS.F ht⟩) hS.2.2 dX9_fails_20

abbrev RM_X9_byteAt : Room := { frames := 0, cells := 0, slots := 0, locals := 0 }
set_option maxHeartbeats 4000000 in
set_option maxRecDepth 100000 in
theorem c_X9_byteAt (l : Launch) (dC : Nat → ClassId) (dI : Nat → Nat → Nat) (cI : ClassId) (a : Nat → Nat) (N : (Nat → Prop) → State → Prop) (hok : zNok N) (σ : Cn) (sz : Nat) (x1 : Int32) (h3 : 0 ≤ (σ 0 1).toInt ∧ (σ 0 1).toInt ≤ 160) (h1 : 0 ≤ x1.toInt) : Met l yX9_byteAt wsX9_byteAt RM_X9_byteAt (zPc (dC, dI) [(cI, .int)] N (wM a cI) σ sz [.ref (a 0), .int x1]) (zQi (dC, dI) [(cI, .int)] (wM a cI) (va_A (wM a cI σ) sz) (fun (r : Int32) (σ1 : Cn) => σ1 = σ ∧ ((x1.toInt < (σ 0 1).toInt ∧ (r : Int32).toInt = (σ 1 x1.toNatClampNeg).toInt) ∨ ((σ 0 1).toInt ≤ x1.toInt ∧ (r : Int32).toInt = -1)))) 0 0 (va_A (wM a cI σ) sz) := by
  refine Met.ofW (cc := cX9_byteAt) (maxL := 2) (ret := (some .int)) (by decide) rfl ?_
  intro p e s m args below meth c s₁ B hml hv
  obtain ⟨rfl, hsz, hP, hK, hD0, hN⟩ := hv
  have hx := B.exec
  have hb := B.bytes
  have hr := B.returns
  have hts := atoms_spec (ws := wsX9_byteAt) B.pre
  have hown : s.vm.findClass RX9 = some m.cls := findClass_of_methodNamed B.named
  have hlocks := B.notSynchronized
  subst hsz
  have hD := hD0.self (sz := s.heap.size)
  generalize hAe : va_A (wM a cI σ) s.heap.size = A at hD hN ⊢
  have hA : ∀ q : Nat, s.heap.size ≤ q → A q := fun q h => by rw [← hAe]; exact Or.inr h
  clear hAe hD0
  have hS : va_S A s.heap s.heap [] := va_S.rf
  have in9 : ∀ w ∈ u_ws RX9 TX9 28, w ∈ wsX9_byteAt := by decide +kernel
  have k61 := hts (.fieldLink RX9 61 "HouseSortedModel" "taped" "I") (by decide +kernel)
  have k7 := hts (.fieldLink RX9 7 "HouseSortedModel" "tape" "[I") (by decide +kernel)
  have hl := lv_entry ([.ref (a 0), .int x1]) (n := 2) (Nat.le_of_ble_eq_true rfl)
  rw [lg_entry_eq]
  generalize (lg_sl ([.ref (a 0), .int x1]) ++ List.replicate (2 - (lg_sl ([.ref (a 0), .int x1])).length) Slot.unset).toArray = ls at hl ⊢
  have hl : lv_has ls 2 [(0, .ref (a 0)), (1, .int x1)] := hl
  suffices main : ∀ (H : Heap) (locs : List Loc), va_P (dC, dI) vwCl (wM a cI σ) H → va_D A (wM a cI σ) → va_S A s.heap H locs → W p l e (headSpec wsX9_byteAt RM_X9_byteAt).room s m ([.ref (a 0), .int x1] : List Value).toArray below meth c H locs 0 0 (MQ below (zQi (dC, dI) [(cI, .int)] (wM a cI) A (fun (r : Int32) (σ1 : Cn) => σ1 = σ ∧ ((x1.toInt < (σ 0 1).toInt ∧ (r : Int32).toInt = (σ 1 x1.toNatClampNeg).toInt) ∨ ((σ 0 1).toInt ≤ x1.toInt ∧ (r : Int32).toInt = -1)))) ([.ref (a 0), .int x1] : List Value).toArray s 0 0 A) (F0 m 0 ls []) from main s.heap [] hP hD hS
  intro H locs hP hD hS
  refine lv_iload_n hx hb dX9_byteAt_0 rfl (lv_at hl 1 rfl) ?_
  refine lv_aload_n hx hb dX9_byteAt_1 rfl (lv_at hl 0 rfl) ?_
  refine va_get (D := (dC, dI)) (ci := 9) (v := .int (σ 0 1)) (C := RX9) (T := TX9) (N := 28) hx hb hts in9 hown hK hP 0 rfl rfl 1 (by decide) k61 (fun _ h9 => h9) rfl dX9_byteAt_2 ?_
  refine lv_icmp_ge (tgt := 17) hx hb dX9_byteAt_5 (by decide) (fun c5 => ?_) (fun c5 => ?_)
  · skip
    have ic5 := zle (a := (σ 0 1).toInt) (b := x1.toInt) rfl rfl c5
    refine lv_iconst (v := (-1)) hx hb dX9_byteAt_17 (by decide) ?_
    have heq9 : σ = σ := rfl
    have hpost : σ = σ ∧ ((x1.toInt < (σ 0 1).toInt ∧ ((-1) : Int32).toInt = (σ 1 x1.toNatClampNeg).toInt) ∨ ((σ 0 1).toInt ≤ x1.toInt ∧ ((-1) : Int32).toInt = -1)) := by refine ⟨heq9, ?_⟩; first | exact Or.inl ⟨by omega, tv13⟩ | exact Or.inr ⟨by omega, by decide⟩
    exact W.iret (v := (-1)) hx hb hr (fun t9 ht hW => ⟨⟨(-1), σ, rfl, hpost, by rw [ht]; exact hP, va_K.moved hW.alike hK, hD⟩, hS.F ht⟩) hS.2.2 dX9_byteAt_18
  · skip
    have ic5 := znle (a := (σ 0 1).toInt) (b := x1.toInt) rfl rfl c5
    refine lv_aload_n hx hb dX9_byteAt_8 rfl (lv_at hl 0 rfl) ?_
    refine va_get (D := (dC, dI)) (ci := 9) (v := .ref (a 1)) (C := RX9) (T := TX9) (N := 28) hx hb hts in9 hown hK hP 0 rfl rfl 0 (by decide) k7 (fun _ h9 => h9) rfl dX9_byteAt_9 ?_
    refine lv_iload_n hx hb dX9_byteAt_12 rfl (lv_at hl 1 rfl) ?_
    refine va_iald (D := (dC, dI)) (f := σ 1) hx hb hK hP 1 0 rfl rfl (i := x1) (n := 160) (zin (by omega) (by omega)) dX9_byteAt_13 ?_
    refine lv_topi (fun v13 ev13 => ?_)
    have tv13 := congrArg Int32.toInt ev13
    refine lv_goto (tgt := 18) hx hb dX9_byteAt_14 (by decide) ?_
    have heq9 : σ = σ := rfl
    have hpost : σ = σ ∧ ((x1.toInt < (σ 0 1).toInt ∧ (v13 : Int32).toInt = (σ 1 x1.toNatClampNeg).toInt) ∨ ((σ 0 1).toInt ≤ x1.toInt ∧ (v13 : Int32).toInt = -1)) := by refine ⟨heq9, ?_⟩; first | exact Or.inl ⟨by omega, tv13⟩ | exact Or.inr ⟨by omega, by decide⟩
    exact W.iret (v := v13) hx hb hr (fun t9 ht hW => ⟨⟨v13, σ, rfl, hpost, by rw [ht]; exact hP, va_K.moved hW.alike hK, hD⟩, hS.F ht⟩) hS.2.2 dX9_byteAt_18

abbrev RM_X9_lawMany : Room := { frames := 0, cells := 0, slots := 0, locals := 0 }
set_option maxHeartbeats 4000000 in
set_option maxRecDepth 100000 in
theorem c_X9_lawMany (l : Launch) (dC : Nat → ClassId) (dI : Nat → Nat → Nat) (cI : ClassId) (a : Nat → Nat) (N : (Nat → Prop) → State → Prop) (hok : zNok N) (σ : Cn) (sz : Nat)   : Met l yX9_lawMany wsX9_lawMany RM_X9_lawMany (zPc (dC, dI) [(cI, .int)] N (wM a cI) σ sz [.ref (a 0)]) (zQi (dC, dI) [(cI, .int)] (wM a cI) (va_A (wM a cI σ) sz) (fun (r : Int32) (σ1 : Cn) => σ1 = σ ∧ True)) 0 0 (va_A (wM a cI σ) sz) := by
  refine Met.ofW (cc := cX9_lawMany) (maxL := 3) (ret := (some .int)) (by decide) rfl ?_
  intro p e s m args below meth c s₁ B hml hv
  obtain ⟨rfl, hsz, hP, hK, hD0, hN⟩ := hv
  have hx := B.exec
  have hb := B.bytes
  have hr := B.returns
  have hts := atoms_spec (ws := wsX9_lawMany) B.pre
  have hown : s.vm.findClass RX9 = some m.cls := findClass_of_methodNamed B.named
  have hlocks := B.notSynchronized
  subst hsz
  have hD := hD0.self (sz := s.heap.size)
  generalize hAe : va_A (wM a cI σ) s.heap.size = A at hD hN ⊢
  have hA : ∀ q : Nat, s.heap.size ≤ q → A q := fun q h => by rw [← hAe]; exact Or.inr h
  clear hAe hD0
  have hS : va_S A s.heap s.heap [] := va_S.rf
  have in9 : ∀ w ∈ u_ws RX9 TX9 28, w ∈ wsX9_lawMany := by decide +kernel
  have k13 := hts (.fieldLink RX9 13 "HouseSortedModel" "laws" "[I") (by decide +kernel)
  have LP : ∀ n : Nat, (∀ (f : Int32) (j : Int32) (H : Heap) (locs : List Loc) (ls : Array Slot), 0 ≤ j.toInt ∧ j.toInt ≤ 7 → (7 - j.toInt).toNat < n → va_P (dC, dI) vwCl (wM a cI σ) H → va_D A (wM a cI σ) → va_S A s.heap H locs → lv_has ls 3 [(0, .ref (a 0)), (1, .int f), (2, .int j)] → W p l e (headSpec wsX9_lawMany RM_X9_lawMany).room s m ([.ref (a 0)] : List Value).toArray below meth c H locs 0 0 (MQ below (zQi (dC, dI) [(cI, .int)] (wM a cI) A (fun (r : Int32) (σ1 : Cn) => σ1 = σ ∧ True)) ([.ref (a 0)] : List Value).toArray s 0 0 A) (F0 m 4 ls [])) := by
    intro n
    induction n with
    | zero => exact by intros; omega
    | succ n ih =>
      · intro f j H locs ls g1 hmu hP hD hS hl
        refine lv_iload_n hx hb dX9_lawMany_4 rfl (lv_at hl 2 rfl) ?_
        refine lv_bipush (v := 7) hx hb dX9_lawMany_5 (by decide) ?_
        refine lv_icmp_ge (tgt := 35) hx hb dX9_lawMany_7 (by decide) (fun c7 => ?_) (fun c7 => ?_)
        · skip
          have ic7 := zle (a := 7) (b := j.toInt) (by decide) rfl c7
          refine lv_iload_n hx hb dX9_lawMany_35 rfl (lv_at hl 1 rfl) ?_
          have heq9 : σ = σ := rfl
          have hpost : σ = σ ∧ True := by refine ⟨heq9, ?_⟩; trivial
          exact W.iret (v := f) hx hb hr (fun t9 ht hW => ⟨⟨f, σ, rfl, hpost, by rw [ht]; exact hP, va_K.moved hW.alike hK, hD⟩, hS.F ht⟩) hS.2.2 dX9_lawMany_36
        · skip
          have ic7 := znle (a := 7) (b := j.toInt) (by decide) rfl c7
          refine lv_iload_n hx hb dX9_lawMany_10 rfl (lv_at hl 1 rfl) ?_
          refine lv_aload_n hx hb dX9_lawMany_11 rfl (lv_at hl 0 rfl) ?_
          refine va_get (D := (dC, dI)) (ci := 9) (v := .ref (a 2)) (C := RX9) (T := TX9) (N := 28) hx hb hts in9 hown hK hP 0 rfl rfl 8 (by decide) k13 (fun _ h9 => h9) rfl dX9_lawMany_12 ?_
          refine lv_iload_n hx hb dX9_lawMany_15 rfl (lv_at hl 2 rfl) ?_
          refine va_iald (D := (dC, dI)) (f := σ 2) hx hb hK hP 2 0 rfl rfl (i := j) (n := 7) (zin (by omega) (by omega)) dX9_lawMany_16 ?_
          refine lv_topi (fun v16 ev16 => ?_)
          have tv16 := congrArg Int32.toInt ev16
          refine lv_bipush (v := (-4)) hx hb dX9_lawMany_17 (by decide) ?_
          refine lv_icmp_ne (tgt := 26) hx hb dX9_lawMany_19 (by decide) (fun c19 => ?_) (fun c19 => ?_)
          · skip
            have ic19 := zneq (a := v16.toInt) (b := (-4)) rfl (by decide) c19
            refine lv_iconst (v := 1) hx hb dX9_lawMany_26 (by decide) ?_
            refine lv_iadd hx hb dX9_lawMany_27 ?_
            refine lv_topi (fun v27 ev27 => ?_)
            refine lv_istore_n (lv' := [(1, .int v27), (0, .ref (a 0)), (2, .int j)]) hx hb dX9_lawMany_28 rfl hl (by decide) rfl (fun ls hl => ?_)
            obtain ⟨v29, ev29⟩ : ∃ y : Int32, y = j + 1 := ⟨_, rfl⟩
            refine lv_iinc (v := v29) (lv' := [(2, .int v29), (1, .int v27), (0, .ref (a 0))]) hx hb dX9_lawMany_29 hl (k := 2) rfl (by rw [ev29]; rfl) (by decide) rfl (fun ls hl => ?_)
            have tv29 : v29.toInt = j.toInt + 1 := by rw [ev29, zadd, show (1 : Int32).toInt = 1 from by decide]; omega
            refine lv_goto (tgt := 4) hx hb dX9_lawMany_32 (by decide) ?_
            exact ih (v27) (v29)  H locs ls (by omega) (by omega) hP hD hS (lv_sub hl [2, 1, 0] rfl)
          · skip
            have ic19 := zeq (a := v16.toInt) (b := (-4)) rfl (by decide) c19
            refine lv_iconst (v := 0) hx hb dX9_lawMany_22 (by decide) ?_
            refine lv_goto (tgt := 27) hx hb dX9_lawMany_23 (by decide) ?_
            refine lv_iadd hx hb dX9_lawMany_27 ?_
            refine lv_topi (fun v27 ev27 => ?_)
            refine lv_istore_n (lv' := [(1, .int v27), (0, .ref (a 0)), (2, .int j)]) hx hb dX9_lawMany_28 rfl hl (by decide) rfl (fun ls hl => ?_)
            obtain ⟨v29, ev29⟩ : ∃ y : Int32, y = j + 1 := ⟨_, rfl⟩
            refine lv_iinc (v := v29) (lv' := [(2, .int v29), (1, .int v27), (0, .ref (a 0))]) hx hb dX9_lawMany_29 hl (k := 2) rfl (by rw [ev29]; rfl) (by decide) rfl (fun ls hl => ?_)
            have tv29 : v29.toInt = j.toInt + 1 := by rw [ev29, zadd, show (1 : Int32).toInt = 1 from by decide]; omega
            refine lv_goto (tgt := 4) hx hb dX9_lawMany_32 (by decide) ?_
            exact ih (v27) (v29)  H locs ls (by omega) (by omega) hP hD hS (lv_sub hl [2, 1, 0] rfl)
  have hl := lv_entry ([.ref (a 0)]) (n := 3) (Nat.le_of_ble_eq_true rfl)
  rw [lg_entry_eq]
  generalize (lg_sl ([.ref (a 0)]) ++ List.replicate (3 - (lg_sl ([.ref (a 0)])).length) Slot.unset).toArray = ls at hl ⊢
  have hl : lv_has ls 3 [(0, .ref (a 0))] := hl
  suffices main : ∀ (H : Heap) (locs : List Loc), va_P (dC, dI) vwCl (wM a cI σ) H → va_D A (wM a cI σ) → va_S A s.heap H locs → W p l e (headSpec wsX9_lawMany RM_X9_lawMany).room s m ([.ref (a 0)] : List Value).toArray below meth c H locs 0 0 (MQ below (zQi (dC, dI) [(cI, .int)] (wM a cI) A (fun (r : Int32) (σ1 : Cn) => σ1 = σ ∧ True)) ([.ref (a 0)] : List Value).toArray s 0 0 A) (F0 m 0 ls []) from main s.heap [] hP hD hS
  intro H locs hP hD hS
  refine lv_iconst (v := 0) hx hb dX9_lawMany_0 (by decide) ?_
  refine lv_istore_n (lv' := [(1, .int 0), (0, .ref (a 0))]) hx hb dX9_lawMany_1 rfl hl (by decide) rfl (fun ls hl => ?_)
  refine lv_iconst (v := 0) hx hb dX9_lawMany_2 (by decide) ?_
  refine lv_istore_n (lv' := [(2, .int 0), (1, .int 0), (0, .ref (a 0))]) hx hb dX9_lawMany_3 rfl hl (by decide) rfl (fun ls hl => ?_)
  exact (LP _) (0) (0)  H locs ls (by decide) (Nat.lt_succ_self _) hP hD hS (lv_sub hl [2, 1, 0] rfl)

abbrev RM_X9_lawOf : Room := { frames := 0, cells := 0, slots := 0, locals := 0 }
set_option maxHeartbeats 4000000 in
set_option maxRecDepth 100000 in
theorem c_X9_lawOf (l : Launch) (dC : Nat → ClassId) (dI : Nat → Nat → Nat) (cI : ClassId) (a : Nat → Nat) (N : (Nat → Prop) → State → Prop) (hok : zNok N) (σ : Cn) (sz : Nat) (x1 : Int32) (h1 : 0 ≤ x1.toInt ∧ x1.toInt < 7) : Met l yX9_lawOf wsX9_lawOf RM_X9_lawOf (zPc (dC, dI) [(cI, .int)] N (wM a cI) σ sz [.ref (a 0), .int x1]) (zQi (dC, dI) [(cI, .int)] (wM a cI) (va_A (wM a cI σ) sz) (fun (r : Int32) (σ1 : Cn) => σ1 = σ ∧ (r : Int32) = mLaw (σ 2) x1)) 0 0 (va_A (wM a cI σ) sz) := by
  refine Met.ofW (cc := cX9_lawOf) (maxL := 2) (ret := (some .int)) (by decide) rfl ?_
  intro p e s m args below meth c s₁ B hml hv
  obtain ⟨rfl, hsz, hP, hK, hD0, hN⟩ := hv
  have hx := B.exec
  have hb := B.bytes
  have hr := B.returns
  have hts := atoms_spec (ws := wsX9_lawOf) B.pre
  have hown : s.vm.findClass RX9 = some m.cls := findClass_of_methodNamed B.named
  have hlocks := B.notSynchronized
  subst hsz
  have hD := hD0.self (sz := s.heap.size)
  generalize hAe : va_A (wM a cI σ) s.heap.size = A at hD hN ⊢
  have hA : ∀ q : Nat, s.heap.size ≤ q → A q := fun q h => by rw [← hAe]; exact Or.inr h
  clear hAe hD0
  have hS : va_S A s.heap s.heap [] := va_S.rf
  have in9 : ∀ w ∈ u_ws RX9 TX9 28, w ∈ wsX9_lawOf := by decide +kernel
  have k13 := hts (.fieldLink RX9 13 "HouseSortedModel" "laws" "[I") (by decide +kernel)
  have hl := lv_entry ([.ref (a 0), .int x1]) (n := 2) (Nat.le_of_ble_eq_true rfl)
  rw [lg_entry_eq]
  generalize (lg_sl ([.ref (a 0), .int x1]) ++ List.replicate (2 - (lg_sl ([.ref (a 0), .int x1])).length) Slot.unset).toArray = ls at hl ⊢
  have hl : lv_has ls 2 [(0, .ref (a 0)), (1, .int x1)] := hl
  suffices main : ∀ (H : Heap) (locs : List Loc), va_P (dC, dI) vwCl (wM a cI σ) H → va_D A (wM a cI σ) → va_S A s.heap H locs → W p l e (headSpec wsX9_lawOf RM_X9_lawOf).room s m ([.ref (a 0), .int x1] : List Value).toArray below meth c H locs 0 0 (MQ below (zQi (dC, dI) [(cI, .int)] (wM a cI) A (fun (r : Int32) (σ1 : Cn) => σ1 = σ ∧ (r : Int32) = mLaw (σ 2) x1)) ([.ref (a 0), .int x1] : List Value).toArray s 0 0 A) (F0 m 0 ls []) from main s.heap [] hP hD hS
  intro H locs hP hD hS
  refine lv_aload_n hx hb dX9_lawOf_0 rfl (lv_at hl 0 rfl) ?_
  refine va_get (D := (dC, dI)) (ci := 9) (v := .ref (a 2)) (C := RX9) (T := TX9) (N := 28) hx hb hts in9 hown hK hP 0 rfl rfl 8 (by decide) k13 (fun _ h9 => h9) rfl dX9_lawOf_1 ?_
  refine lv_iload_n hx hb dX9_lawOf_4 rfl (lv_at hl 1 rfl) ?_
  refine va_iald (D := (dC, dI)) (f := σ 2) hx hb hK hP 2 0 rfl rfl (i := x1) (n := 7) (zin (by omega) (by omega)) dX9_lawOf_5 ?_
  refine lv_topi (fun v5 ev5 => ?_)
  have tv5 := congrArg Int32.toInt ev5
  refine lv_bipush (v := (-4)) hx hb dX9_lawOf_6 (by decide) ?_
  refine lv_icmp_eq (tgt := 18) hx hb dX9_lawOf_8 (by decide) (fun c8 => ?_) (fun c8 => ?_)
  · skip
    have ic8 := zeq (a := v5.toInt) (b := (-4)) rfl (by decide) c8
    refine lv_iload_n hx hb dX9_lawOf_18 rfl (lv_at hl 1 rfl) ?_
    refine lv_if_ne (tgt := 27) hx hb dX9_lawOf_19 (by decide) (fun c19 => ?_) (fun c19 => ?_)
    · skip
      have ic19 := zneq (a := x1.toInt) (b := 0) rfl (by decide) c19
      refine lv_iload_n hx hb dX9_lawOf_27 rfl (lv_at hl 1 rfl) ?_
      refine lv_iconst (v := 1) hx hb dX9_lawOf_28 (by decide) ?_
      refine lv_icmp_ne (tgt := 38) hx hb dX9_lawOf_29 (by decide) (fun c29 => ?_) (fun c29 => ?_)
      · skip
        have ic29 := zneq (a := x1.toInt) (b := 1) rfl (by decide) c29
        refine lv_iload_n hx hb dX9_lawOf_38 rfl (lv_at hl 1 rfl) ?_
        refine lv_iconst (v := 2) hx hb dX9_lawOf_39 (by decide) ?_
        refine lv_icmp_ne (tgt := 47) hx hb dX9_lawOf_40 (by decide) (fun c40 => ?_) (fun c40 => ?_)
        · skip
          have ic40 := zneq (a := x1.toInt) (b := 2) rfl (by decide) c40
          refine lv_iload_n hx hb dX9_lawOf_47 rfl (lv_at hl 1 rfl) ?_
          refine lv_iconst (v := 3) hx hb dX9_lawOf_48 (by decide) ?_
          refine lv_icmp_ne (tgt := 57) hx hb dX9_lawOf_49 (by decide) (fun c49 => ?_) (fun c49 => ?_)
          · skip
            have ic49 := zneq (a := x1.toInt) (b := 3) rfl (by decide) c49
            refine lv_iload_n hx hb dX9_lawOf_57 rfl (lv_at hl 1 rfl) ?_
            refine lv_iconst (v := 4) hx hb dX9_lawOf_58 (by decide) ?_
            refine lv_icmp_ne (tgt := 67) hx hb dX9_lawOf_59 (by decide) (fun c59 => ?_) (fun c59 => ?_)
            · skip
              have ic59 := zneq (a := x1.toInt) (b := 4) rfl (by decide) c59
              refine lv_iload_n hx hb dX9_lawOf_67 rfl (lv_at hl 1 rfl) ?_
              refine lv_iconst (v := 5) hx hb dX9_lawOf_68 (by decide) ?_
              refine lv_icmp_ne (tgt := 76) hx hb dX9_lawOf_69 (by decide) (fun c69 => ?_) (fun c69 => ?_)
              · skip
                have ic69 := zneq (a := x1.toInt) (b := 5) rfl (by decide) c69
                refine lv_iconst (v := 3) hx hb dX9_lawOf_76 (by decide) ?_
                have heq9 : σ = σ := rfl
                have hpost : σ = σ ∧ (3 : Int32) = mLaw (σ 2) x1 := by refine ⟨heq9, ?_⟩; unfold mLaw; rw [if_pos (by rw [← ev5]; exact c8)]; (repeat (first | rw [if_pos (by assumption)] | rw [if_neg (by assumption)])) <;> (try rfl)
                exact W.iret (v := 3) hx hb hr (fun t9 ht hW => ⟨⟨3, σ, rfl, hpost, by rw [ht]; exact hP, va_K.moved hW.alike hK, hD⟩, hS.F ht⟩) hS.2.2 dX9_lawOf_77
              · skip
                have ic69 := zeq (a := x1.toInt) (b := 5) rfl (by decide) c69
                refine lv_iconst (v := 1) hx hb dX9_lawOf_72 (by decide) ?_
                refine lv_goto (tgt := 77) hx hb dX9_lawOf_73 (by decide) ?_
                have heq9 : σ = σ := rfl
                have hpost : σ = σ ∧ (1 : Int32) = mLaw (σ 2) x1 := by refine ⟨heq9, ?_⟩; unfold mLaw; rw [if_pos (by rw [← ev5]; exact c8)]; (repeat (first | rw [if_pos (by assumption)] | rw [if_neg (by assumption)])) <;> (try rfl)
                exact W.iret (v := 1) hx hb hr (fun t9 ht hW => ⟨⟨1, σ, rfl, hpost, by rw [ht]; exact hP, va_K.moved hW.alike hK, hD⟩, hS.F ht⟩) hS.2.2 dX9_lawOf_77
            · skip
              have ic59 := zeq (a := x1.toInt) (b := 4) rfl (by decide) c59
              refine lv_bipush (v := 20) hx hb dX9_lawOf_62 (by decide) ?_
              refine lv_goto (tgt := 77) hx hb dX9_lawOf_64 (by decide) ?_
              have heq9 : σ = σ := rfl
              have hpost : σ = σ ∧ (20 : Int32) = mLaw (σ 2) x1 := by refine ⟨heq9, ?_⟩; unfold mLaw; rw [if_pos (by rw [← ev5]; exact c8)]; (repeat (first | rw [if_pos (by assumption)] | rw [if_neg (by assumption)])) <;> (try rfl)
              exact W.iret (v := 20) hx hb hr (fun t9 ht hW => ⟨⟨20, σ, rfl, hpost, by rw [ht]; exact hP, va_K.moved hW.alike hK, hD⟩, hS.F ht⟩) hS.2.2 dX9_lawOf_77
          · skip
            have ic49 := zeq (a := x1.toInt) (b := 3) rfl (by decide) c49
            refine lv_bipush (v := 100) hx hb dX9_lawOf_52 (by decide) ?_
            refine lv_goto (tgt := 77) hx hb dX9_lawOf_54 (by decide) ?_
            have heq9 : σ = σ := rfl
            have hpost : σ = σ ∧ (100 : Int32) = mLaw (σ 2) x1 := by refine ⟨heq9, ?_⟩; unfold mLaw; rw [if_pos (by rw [← ev5]; exact c8)]; (repeat (first | rw [if_pos (by assumption)] | rw [if_neg (by assumption)])) <;> (try rfl)
            exact W.iret (v := 100) hx hb hr (fun t9 ht hW => ⟨⟨100, σ, rfl, hpost, by rw [ht]; exact hP, va_K.moved hW.alike hK, hD⟩, hS.F ht⟩) hS.2.2 dX9_lawOf_77
        · skip
          have ic40 := zeq (a := x1.toInt) (b := 2) rfl (by decide) c40
          refine lv_iconst (v := 1) hx hb dX9_lawOf_43 (by decide) ?_
          refine lv_goto (tgt := 77) hx hb dX9_lawOf_44 (by decide) ?_
          have heq9 : σ = σ := rfl
          have hpost : σ = σ ∧ (1 : Int32) = mLaw (σ 2) x1 := by refine ⟨heq9, ?_⟩; unfold mLaw; rw [if_pos (by rw [← ev5]; exact c8)]; (repeat (first | rw [if_pos (by assumption)] | rw [if_neg (by assumption)])) <;> (try rfl)
          exact W.iret (v := 1) hx hb hr (fun t9 ht hW => ⟨⟨1, σ, rfl, hpost, by rw [ht]; exact hP, va_K.moved hW.alike hK, hD⟩, hS.F ht⟩) hS.2.2 dX9_lawOf_77
      · skip
        have ic29 := zeq (a := x1.toInt) (b := 1) rfl (by decide) c29
        refine lv_sipush (v := 200) hx hb dX9_lawOf_32 (by decide) ?_
        refine lv_goto (tgt := 77) hx hb dX9_lawOf_35 (by decide) ?_
        have heq9 : σ = σ := rfl
        have hpost : σ = σ ∧ (200 : Int32) = mLaw (σ 2) x1 := by refine ⟨heq9, ?_⟩; unfold mLaw; rw [if_pos (by rw [← ev5]; exact c8)]; (repeat (first | rw [if_pos (by assumption)] | rw [if_neg (by assumption)])) <;> (try rfl)
        exact W.iret (v := 200) hx hb hr (fun t9 ht hW => ⟨⟨200, σ, rfl, hpost, by rw [ht]; exact hP, va_K.moved hW.alike hK, hD⟩, hS.F ht⟩) hS.2.2 dX9_lawOf_77
    · skip
      have ic19 := zeq (a := x1.toInt) (b := 0) rfl (by decide) c19
      refine lv_bipush (v := 10) hx hb dX9_lawOf_22 (by decide) ?_
      refine lv_goto (tgt := 77) hx hb dX9_lawOf_24 (by decide) ?_
      have heq9 : σ = σ := rfl
      have hpost : σ = σ ∧ (10 : Int32) = mLaw (σ 2) x1 := by refine ⟨heq9, ?_⟩; unfold mLaw; rw [if_pos (by rw [← ev5]; exact c8)]; (repeat (first | rw [if_pos (by assumption)] | rw [if_neg (by assumption)])) <;> (try rfl)
      exact W.iret (v := 10) hx hb hr (fun t9 ht hW => ⟨⟨10, σ, rfl, hpost, by rw [ht]; exact hP, va_K.moved hW.alike hK, hD⟩, hS.F ht⟩) hS.2.2 dX9_lawOf_77
  · skip
    have ic8 := zneq (a := v5.toInt) (b := (-4)) rfl (by decide) c8
    refine lv_aload_n hx hb dX9_lawOf_11 rfl (lv_at hl 0 rfl) ?_
    refine va_get (D := (dC, dI)) (ci := 9) (v := .ref (a 2)) (C := RX9) (T := TX9) (N := 28) hx hb hts in9 hown hK hP 0 rfl rfl 8 (by decide) k13 (fun _ h9 => h9) rfl dX9_lawOf_12 ?_
    refine lv_iload_n hx hb dX9_lawOf_15 rfl (lv_at hl 1 rfl) ?_
    refine va_iald (D := (dC, dI)) (f := σ 2) hx hb hK hP 2 0 rfl rfl (i := x1) (n := 7) (zin (by omega) (by omega)) dX9_lawOf_16 ?_
    refine lv_topi (fun v16 ev16 => ?_)
    have tv16 := congrArg Int32.toInt ev16
    have heq9 : σ = σ := rfl
    have hpost : σ = σ ∧ (v16 : Int32) = mLaw (σ 2) x1 := by refine ⟨heq9, ?_⟩; unfold mLaw; rw [if_neg (by rw [← ev5]; exact c8)]; exact ev16
    exact W.iret (v := v16) hx hb hr (fun t9 ht hW => ⟨⟨v16, σ, rfl, hpost, by rw [ht]; exact hP, va_K.moved hW.alike hK, hD⟩, hS.F ht⟩) hS.2.2 dX9_lawOf_17

abbrev RM_X9_law : Room := { frames := 1, cells := 0, slots := 0, locals := 25 }
set_option maxHeartbeats 4000000 in
set_option maxRecDepth 100000 in
theorem c_X9_law (l : Launch) (dC : Nat → ClassId) (dI : Nat → Nat → Nat) (cI : ClassId) (a : Nat → Nat) (N : (Nat → Prop) → State → Prop) (hok : zNok N) (σ : Cn) (sz : Nat) (x1 : Int32)  : Met l yX9_law wsX9_law RM_X9_law (zPc (dC, dI) [(cI, .int)] N (wM a cI) σ sz [.ref (a 0), .int x1]) (zQi (dC, dI) [(cI, .int)] (wM a cI) (va_A (wM a cI σ) sz) (fun (r : Int32) (σ1 : Cn) => σ1 = σ ∧ True)) 0 0 (va_A (wM a cI σ) sz) := by
  refine Met.ofW (cc := cX9_law) (maxL := 2) (ret := (some .int)) (by decide) rfl ?_
  intro p e s m args below meth c s₁ B hml hv
  obtain ⟨rfl, hsz, hP, hK, hD0, hN⟩ := hv
  have hx := B.exec
  have hb := B.bytes
  have hr := B.returns
  have hts := atoms_spec (ws := wsX9_law) B.pre
  have hown : s.vm.findClass RX9 = some m.cls := findClass_of_methodNamed B.named
  have hlocks := B.notSynchronized
  subst hsz
  have hD := hD0.self (sz := s.heap.size)
  generalize hAe : va_A (wM a cI σ) s.heap.size = A at hD hN ⊢
  have hA : ∀ q : Nat, s.heap.size ≤ q → A q := fun q h => by rw [← hAe]; exact Or.inr h
  clear hAe hD0
  have hS : va_S A s.heap s.heap [] := va_S.rf
  have kq138 := hts (.constantLong RX9 138 (6)) (by decide +kernel)
  have hl := lv_entry ([.ref (a 0), .int x1]) (n := 2) (Nat.le_of_ble_eq_true rfl)
  rw [lg_entry_eq]
  generalize (lg_sl ([.ref (a 0), .int x1]) ++ List.replicate (2 - (lg_sl ([.ref (a 0), .int x1])).length) Slot.unset).toArray = ls at hl ⊢
  have hl : lv_has ls 2 [(0, .ref (a 0)), (1, .int x1)] := hl
  suffices main : ∀ (H : Heap) (locs : List Loc), va_P (dC, dI) vwCl (wM a cI σ) H → va_D A (wM a cI σ) → va_S A s.heap H locs → W p l e (headSpec wsX9_law RM_X9_law).room s m ([.ref (a 0), .int x1] : List Value).toArray below meth c H locs 0 0 (MQ below (zQi (dC, dI) [(cI, .int)] (wM a cI) A (fun (r : Int32) (σ1 : Cn) => σ1 = σ ∧ True)) ([.ref (a 0), .int x1] : List Value).toArray s 0 0 A) (F0 m 0 ls []) from main s.heap [] hP hD hS
  intro H locs hP hD hS
  refine lv_iload_n hx hb dX9_law_0 rfl (lv_at hl 1 rfl) ?_
  refine lv_i2l hx hb dX9_law_1 rfl ?_
  refine lv_topl (fun v1 ev1 => ?_)
  have tv1 : v1.toInt = x1.toInt := by rw [ev1]; exact zi2l rfl
  refine lv_lconst (v := 0) hx hb dX9_law_2 (by decide) ?_
  refine lv_ldc2 hx hb hown kq138 dX9_law_3 ?_
  refine zcalli (va_runS (As := [.long v1, .long 0, .long 6]) (rest := []) ⟨hx, hb, hml, hown, hts⟩ (c_X9_in l dC dI cI a N hok σ H.size (v1) (0) (6) ) (va_cwS 3 hts gX9_law_X9_in rfl rfl rfl (by decide +kernel) ⟨Nat.le_of_ble_eq_true rfl, Nat.le_of_ble_eq_true rfl⟩) (zpreS (wf := wM a cI) hok hN hS hA hK hP hD) rfl rfl hl.1 rfl (lv_room (Nat.le_of_ble_eq_true rfl)) dX9_law_6 ⟨Nat.zero_le _, Nat.zero_le _⟩) hD hS hA (fun v6 σ1 H locs hv6 hP hD hS => ?_)
  obtain ⟨es9, hv6⟩ := hv6
  subst σ1
  try simp only [show (0 : Int64).toInt = 0 from by decide, show (6 : Int64).toInt = 6 from by decide] at hv6
  refine lv_if_eq (tgt := 20) hx hb dX9_law_9 (by decide) (fun c9 => ?_) (fun c9 => ?_)
  · skip
    have ic9 := zeq (a := v6.toInt) (b := 0) rfl (by decide) c9
    replace hv6 := (hv6.resolve_left (fun q => by omega)).2
    refine lv_iconst (v := (-1)) hx hb dX9_law_20 (by decide) ?_
    have heq9 : σ = σ := rfl
    have hpost : σ = σ ∧ True := by refine ⟨heq9, ?_⟩; trivial
    exact W.iret (v := (-1)) hx hb hr (fun t9 ht hW => ⟨⟨(-1), σ, rfl, hpost, by rw [ht]; exact hP, va_K.moved hW.alike hK, hD⟩, hS.F ht⟩) hS.2.2 dX9_law_21
  · skip
    have ic9 := zneq (a := v6.toInt) (b := 0) rfl (by decide) c9
    replace hv6 := (hv6.resolve_right (fun q => by omega)).2
    refine lv_aload_n hx hb dX9_law_12 rfl (lv_at hl 0 rfl) ?_
    refine lv_iload_n hx hb dX9_law_13 rfl (lv_at hl 1 rfl) ?_
    refine zcalli (va_runV (As := [.int x1]) (rest := []) ⟨hx, hb, hml, hown, hts⟩ (c_X9_lawOf l dC dI cI a N hok σ H.size (x1) (by omega)) (cwV 1 hts gX9_law_X9_lawOf rfl rfl rfl (by decide +kernel) ⟨Nat.le_of_ble_eq_true rfl, Nat.le_of_ble_eq_true rfl⟩) (zpreV (wf := wM a cI) (q0 := 0) (ci := 9) hok hN hS hA hK hP hD rfl rfl) rfl rfl hl.1 rfl (lv_room (Nat.le_of_ble_eq_true rfl)) dX9_law_14 ⟨Nat.zero_le _, Nat.zero_le _⟩) hD hS hA (fun v14 σ1 H locs hv14 hP hD hS => ?_)
    obtain ⟨es9, hv14⟩ := hv14
    subst σ1
    refine lv_goto (tgt := 21) hx hb dX9_law_17 (by decide) ?_
    have heq9 : σ = σ := rfl
    have hpost : σ = σ ∧ True := by refine ⟨heq9, ?_⟩; trivial
    exact W.iret (v := v14) hx hb hr (fun t9 ht hW => ⟨⟨v14, σ, rfl, hpost, by rw [ht]; exact hP, va_K.moved hW.alike hK, hD⟩, hS.F ht⟩) hS.2.2 dX9_law_21

abbrev RM_X9_isHeir : Room := { frames := 1, cells := 0, slots := 0, locals := 25 }
set_option maxHeartbeats 4000000 in
set_option maxRecDepth 100000 in
theorem c_X9_isHeir (l : Launch) (dC : Nat → ClassId) (dI : Nat → Nat → Nat) (cI : ClassId) (a : Nat → Nat) (N : (Nat → Prop) → State → Prop) (hok : zNok N) (σ : Cn) (sz : Nat) (x1 : Int32) (h0 : 0 ≤ (σ 0 10).toInt ∧ (σ 0 10).toInt ≤ 4) : Met l yX9_isHeir wsX9_isHeir RM_X9_isHeir (zPc (dC, dI) [(cI, .int)] N (wM a cI) σ sz [.ref (a 0), .int x1]) (zQi (dC, dI) [(cI, .int)] (wM a cI) (va_A (wM a cI σ) sz) (fun (r : Int32) (σ1 : Cn) => σ1 = σ ∧ ((r : Int32).toInt = 1 ∧ 0 ≤ x1.toInt ∧ x1.toInt < (σ 0 10).toInt ∨ (r : Int32).toInt = 0 ∧ ¬ (0 ≤ x1.toInt ∧ x1.toInt < (σ 0 10).toInt)))) 0 0 (va_A (wM a cI σ) sz) := by
  refine Met.ofW (cc := cX9_isHeir) (maxL := 2) (ret := (some .boolean)) (by decide) rfl ?_
  intro p e s m args below meth c s₁ B hml hv
  obtain ⟨rfl, hsz, hP, hK, hD0, hN⟩ := hv
  have hx := B.exec
  have hb := B.bytes
  have hr := B.returns
  have hts := atoms_spec (ws := wsX9_isHeir) B.pre
  have hown : s.vm.findClass RX9 = some m.cls := findClass_of_methodNamed B.named
  have hlocks := B.notSynchronized
  subst hsz
  have hD := hD0.self (sz := s.heap.size)
  generalize hAe : va_A (wM a cI σ) s.heap.size = A at hD hN ⊢
  have hA : ∀ q : Nat, s.heap.size ≤ q → A q := fun q h => by rw [← hAe]; exact Or.inr h
  clear hAe hD0
  have hS : va_S A s.heap s.heap [] := va_S.rf
  have in9 : ∀ w ∈ u_ws RX9 TX9 28, w ∈ wsX9_isHeir := by decide +kernel
  have k143 := hts (.fieldLink RX9 143 "HouseSortedModel" "heirs" "I") (by decide +kernel)
  have hl := lv_entry ([.ref (a 0), .int x1]) (n := 2) (Nat.le_of_ble_eq_true rfl)
  rw [lg_entry_eq]
  generalize (lg_sl ([.ref (a 0), .int x1]) ++ List.replicate (2 - (lg_sl ([.ref (a 0), .int x1])).length) Slot.unset).toArray = ls at hl ⊢
  have hl : lv_has ls 2 [(0, .ref (a 0)), (1, .int x1)] := hl
  suffices main : ∀ (H : Heap) (locs : List Loc), va_P (dC, dI) vwCl (wM a cI σ) H → va_D A (wM a cI σ) → va_S A s.heap H locs → W p l e (headSpec wsX9_isHeir RM_X9_isHeir).room s m ([.ref (a 0), .int x1] : List Value).toArray below meth c H locs 0 0 (MQ below (zQi (dC, dI) [(cI, .int)] (wM a cI) A (fun (r : Int32) (σ1 : Cn) => σ1 = σ ∧ ((r : Int32).toInt = 1 ∧ 0 ≤ x1.toInt ∧ x1.toInt < (σ 0 10).toInt ∨ (r : Int32).toInt = 0 ∧ ¬ (0 ≤ x1.toInt ∧ x1.toInt < (σ 0 10).toInt)))) ([.ref (a 0), .int x1] : List Value).toArray s 0 0 A) (F0 m 0 ls []) from main s.heap [] hP hD hS
  intro H locs hP hD hS
  refine lv_iload_n hx hb dX9_isHeir_0 rfl (lv_at hl 1 rfl) ?_
  refine lv_i2l hx hb dX9_isHeir_1 rfl ?_
  refine lv_topl (fun v1 ev1 => ?_)
  have tv1 : v1.toInt = x1.toInt := by rw [ev1]; exact zi2l rfl
  refine lv_lconst (v := 0) hx hb dX9_isHeir_2 (by decide) ?_
  refine lv_aload_n hx hb dX9_isHeir_3 rfl (lv_at hl 0 rfl) ?_
  refine va_get (D := (dC, dI)) (ci := 9) (v := .int (σ 0 10)) (C := RX9) (T := TX9) (N := 28) hx hb hts in9 hown hK hP 0 rfl rfl 10 (by decide) k143 (fun _ h9 => h9) rfl dX9_isHeir_4 ?_
  refine lv_iconst (v := 1) hx hb dX9_isHeir_7 (by decide) ?_
  refine lv_isub hx hb dX9_isHeir_8 ?_
  refine lv_topi (fun v8 ev8 => ?_)
  have tv8 : v8.toInt = (σ 0 10).toInt - 1 := by rw [ev8, zsub, show (1 : Int32).toInt = 1 from by decide]; omega
  refine lv_i2l hx hb dX9_isHeir_9 rfl ?_
  refine lv_topl (fun v9 ev9 => ?_)
  have tv9 : v9.toInt = v8.toInt := by rw [ev9]; exact zi2l rfl
  refine zcalli (va_runS (As := [.long v1, .long 0, .long v9]) (rest := []) ⟨hx, hb, hml, hown, hts⟩ (c_X9_in l dC dI cI a N hok σ H.size (v1) (0) (v9) ) (va_cwS 3 hts gX9_isHeir_X9_in rfl rfl rfl (by decide +kernel) ⟨Nat.le_of_ble_eq_true rfl, Nat.le_of_ble_eq_true rfl⟩) (zpreS (wf := wM a cI) hok hN hS hA hK hP hD) rfl rfl hl.1 rfl (lv_room (Nat.le_of_ble_eq_true rfl)) dX9_isHeir_10 ⟨Nat.zero_le _, Nat.zero_le _⟩) hD hS hA (fun v10 σ1 H locs hv10 hP hD hS => ?_)
  obtain ⟨es9, hv10⟩ := hv10
  subst σ1
  try simp only [show (0 : Int64).toInt = 0 from by decide] at hv10
  have hpost : σ = σ ∧ ((v10 : Int32).toInt = 1 ∧ 0 ≤ x1.toInt ∧ x1.toInt < (σ 0 10).toInt ∨ (v10 : Int32).toInt = 0 ∧ ¬ (0 ≤ x1.toInt ∧ x1.toInt < (σ 0 10).toInt)) := by refine ⟨rfl, ?_⟩; omega
  exact W.zret (v := v10) hx hb hr (zbool (by omega)) (fun t9 ht hW => ⟨⟨v10, σ, rfl, hpost, by rw [ht]; exact hP, va_K.moved hW.alike hK, hD⟩, hS.F ht⟩) hS.2.2 dX9_isHeir_13

abbrev RM_X9_isThing : Room := { frames := 1, cells := 0, slots := 0, locals := 25 }
set_option maxHeartbeats 4000000 in
set_option maxRecDepth 100000 in
theorem c_X9_isThing (l : Launch) (dC : Nat → ClassId) (dI : Nat → Nat → Nat) (cI : ClassId) (a : Nat → Nat) (N : (Nat → Prop) → State → Prop) (hok : zNok N) (σ : Cn) (sz : Nat) (x1 : Int32) (h2 : 0 ≤ (σ 0 11).toInt ∧ (σ 0 11).toInt ≤ 10) : Met l yX9_isThing wsX9_isThing RM_X9_isThing (zPc (dC, dI) [(cI, .int)] N (wM a cI) σ sz [.ref (a 0), .int x1]) (zQi (dC, dI) [(cI, .int)] (wM a cI) (va_A (wM a cI σ) sz) (fun (r : Int32) (σ1 : Cn) => σ1 = σ ∧ ((r : Int32).toInt = 1 ∧ 0 ≤ x1.toInt ∧ x1.toInt < (σ 0 11).toInt ∨ (r : Int32).toInt = 0 ∧ ¬ (0 ≤ x1.toInt ∧ x1.toInt < (σ 0 11).toInt)))) 0 0 (va_A (wM a cI σ) sz) := by
  refine Met.ofW (cc := cX9_isThing) (maxL := 2) (ret := (some .boolean)) (by decide) rfl ?_
  intro p e s m args below meth c s₁ B hml hv
  obtain ⟨rfl, hsz, hP, hK, hD0, hN⟩ := hv
  have hx := B.exec
  have hb := B.bytes
  have hr := B.returns
  have hts := atoms_spec (ws := wsX9_isThing) B.pre
  have hown : s.vm.findClass RX9 = some m.cls := findClass_of_methodNamed B.named
  have hlocks := B.notSynchronized
  subst hsz
  have hD := hD0.self (sz := s.heap.size)
  generalize hAe : va_A (wM a cI σ) s.heap.size = A at hD hN ⊢
  have hA : ∀ q : Nat, s.heap.size ≤ q → A q := fun q h => by rw [← hAe]; exact Or.inr h
  clear hAe hD0
  have hS : va_S A s.heap s.heap [] := va_S.rf
  have in9 : ∀ w ∈ u_ws RX9 TX9 28, w ∈ wsX9_isThing := by decide +kernel
  have k146 := hts (.fieldLink RX9 146 "HouseSortedModel" "things" "I") (by decide +kernel)
  have hl := lv_entry ([.ref (a 0), .int x1]) (n := 2) (Nat.le_of_ble_eq_true rfl)
  rw [lg_entry_eq]
  generalize (lg_sl ([.ref (a 0), .int x1]) ++ List.replicate (2 - (lg_sl ([.ref (a 0), .int x1])).length) Slot.unset).toArray = ls at hl ⊢
  have hl : lv_has ls 2 [(0, .ref (a 0)), (1, .int x1)] := hl
  suffices main : ∀ (H : Heap) (locs : List Loc), va_P (dC, dI) vwCl (wM a cI σ) H → va_D A (wM a cI σ) → va_S A s.heap H locs → W p l e (headSpec wsX9_isThing RM_X9_isThing).room s m ([.ref (a 0), .int x1] : List Value).toArray below meth c H locs 0 0 (MQ below (zQi (dC, dI) [(cI, .int)] (wM a cI) A (fun (r : Int32) (σ1 : Cn) => σ1 = σ ∧ ((r : Int32).toInt = 1 ∧ 0 ≤ x1.toInt ∧ x1.toInt < (σ 0 11).toInt ∨ (r : Int32).toInt = 0 ∧ ¬ (0 ≤ x1.toInt ∧ x1.toInt < (σ 0 11).toInt)))) ([.ref (a 0), .int x1] : List Value).toArray s 0 0 A) (F0 m 0 ls []) from main s.heap [] hP hD hS
  intro H locs hP hD hS
  refine lv_iload_n hx hb dX9_isThing_0 rfl (lv_at hl 1 rfl) ?_
  refine lv_i2l hx hb dX9_isThing_1 rfl ?_
  refine lv_topl (fun v1 ev1 => ?_)
  have tv1 : v1.toInt = x1.toInt := by rw [ev1]; exact zi2l rfl
  refine lv_lconst (v := 0) hx hb dX9_isThing_2 (by decide) ?_
  refine lv_aload_n hx hb dX9_isThing_3 rfl (lv_at hl 0 rfl) ?_
  refine va_get (D := (dC, dI)) (ci := 9) (v := .int (σ 0 11)) (C := RX9) (T := TX9) (N := 28) hx hb hts in9 hown hK hP 0 rfl rfl 11 (by decide) k146 (fun _ h9 => h9) rfl dX9_isThing_4 ?_
  refine lv_iconst (v := 1) hx hb dX9_isThing_7 (by decide) ?_
  refine lv_isub hx hb dX9_isThing_8 ?_
  refine lv_topi (fun v8 ev8 => ?_)
  have tv8 : v8.toInt = (σ 0 11).toInt - 1 := by rw [ev8, zsub, show (1 : Int32).toInt = 1 from by decide]; omega
  refine lv_i2l hx hb dX9_isThing_9 rfl ?_
  refine lv_topl (fun v9 ev9 => ?_)
  have tv9 : v9.toInt = v8.toInt := by rw [ev9]; exact zi2l rfl
  refine zcalli (va_runS (As := [.long v1, .long 0, .long v9]) (rest := []) ⟨hx, hb, hml, hown, hts⟩ (c_X9_in l dC dI cI a N hok σ H.size (v1) (0) (v9) ) (va_cwS 3 hts gX9_isThing_X9_in rfl rfl rfl (by decide +kernel) ⟨Nat.le_of_ble_eq_true rfl, Nat.le_of_ble_eq_true rfl⟩) (zpreS (wf := wM a cI) hok hN hS hA hK hP hD) rfl rfl hl.1 rfl (lv_room (Nat.le_of_ble_eq_true rfl)) dX9_isThing_10 ⟨Nat.zero_le _, Nat.zero_le _⟩) hD hS hA (fun v10 σ1 H locs hv10 hP hD hS => ?_)
  obtain ⟨es9, hv10⟩ := hv10
  subst σ1
  try simp only [show (0 : Int64).toInt = 0 from by decide] at hv10
  have hpost : σ = σ ∧ ((v10 : Int32).toInt = 1 ∧ 0 ≤ x1.toInt ∧ x1.toInt < (σ 0 11).toInt ∨ (v10 : Int32).toInt = 0 ∧ ¬ (0 ≤ x1.toInt ∧ x1.toInt < (σ 0 11).toInt)) := by refine ⟨rfl, ?_⟩; omega
  exact W.zret (v := v10) hx hb hr (zbool (by omega)) (fun t9 ht hW => ⟨⟨v10, σ, rfl, hpost, by rw [ht]; exact hP, va_K.moved hW.alike hK, hD⟩, hS.F ht⟩) hS.2.2 dX9_isThing_13

abbrev RM_X9_heir : Room := { frames := 0, cells := 0, slots := 0, locals := 0 }
set_option maxHeartbeats 4000000 in
set_option maxRecDepth 100000 in
theorem c_X9_heir (l : Launch) (dC : Nat → ClassId) (dI : Nat → Nat → Nat) (cI : ClassId) (a : Nat → Nat) (N : (Nat → Prop) → State → Prop) (hok : zNok N) (σ : Cn) (sz : Nat)  (h0 : 0 ≤ (σ 0 10).toInt ∧ (σ 0 10).toInt ≤ 4) : Met l yX9_heir wsX9_heir RM_X9_heir (zPc (dC, dI) [(cI, .int)] N (wM a cI) σ sz [.ref (a 0)]) (zQi (dC, dI) [(cI, .int)] (wM a cI) (va_A (wM a cI σ) sz) (fun (r : Int32) (σ1 : Cn) => ∃ n10 : Int32, σ1 = (upC σ 0 (upd (σ 0) 10 n10)) ∧ (((σ 0 10).toInt < 4 ∧ (r : Int32).toInt = (σ 0 10).toInt ∧ n10.toInt = (σ 0 10).toInt + 1) ∨ ((σ 0 10).toInt = 4 ∧ (r : Int32).toInt = -3 ∧ n10 = σ 0 10)))) 0 0 (va_A (wM a cI σ) sz) := by
  refine Met.ofW (cc := cX9_heir) (maxL := 1) (ret := (some .int)) (by decide) rfl ?_
  intro p e s m args below meth c s₁ B hml hv
  obtain ⟨rfl, hsz, hP, hK, hD0, hN⟩ := hv
  have hx := B.exec
  have hb := B.bytes
  have hr := B.returns
  have hts := atoms_spec (ws := wsX9_heir) B.pre
  have hown : s.vm.findClass RX9 = some m.cls := findClass_of_methodNamed B.named
  have hlocks := B.notSynchronized
  subst hsz
  have hD := hD0.self (sz := s.heap.size)
  generalize hAe : va_A (wM a cI σ) s.heap.size = A at hD hN ⊢
  have hA : ∀ q : Nat, s.heap.size ≤ q → A q := fun q h => by rw [← hAe]; exact Or.inr h
  clear hAe hD0
  have hS : va_S A s.heap s.heap [] := va_S.rf
  have in9 : ∀ w ∈ u_ws RX9 TX9 28, w ∈ wsX9_heir := by decide +kernel
  have k143 := hts (.fieldLink RX9 143 "HouseSortedModel" "heirs" "I") (by decide +kernel)
  have hl := lv_entry ([.ref (a 0)]) (n := 1) (Nat.le_of_ble_eq_true rfl)
  rw [lg_entry_eq]
  generalize (lg_sl ([.ref (a 0)]) ++ List.replicate (1 - (lg_sl ([.ref (a 0)])).length) Slot.unset).toArray = ls at hl ⊢
  have hl : lv_has ls 1 [(0, .ref (a 0))] := hl
  suffices main : ∀ (H : Heap) (locs : List Loc), va_P (dC, dI) vwCl (wM a cI σ) H → va_D A (wM a cI σ) → va_S A s.heap H locs → W p l e (headSpec wsX9_heir RM_X9_heir).room s m ([.ref (a 0)] : List Value).toArray below meth c H locs 0 0 (MQ below (zQi (dC, dI) [(cI, .int)] (wM a cI) A (fun (r : Int32) (σ1 : Cn) => ∃ n10 : Int32, σ1 = (upC σ 0 (upd (σ 0) 10 n10)) ∧ (((σ 0 10).toInt < 4 ∧ (r : Int32).toInt = (σ 0 10).toInt ∧ n10.toInt = (σ 0 10).toInt + 1) ∨ ((σ 0 10).toInt = 4 ∧ (r : Int32).toInt = -3 ∧ n10 = σ 0 10)))) ([.ref (a 0)] : List Value).toArray s 0 0 A) (F0 m 0 ls []) from main s.heap [] hP hD hS
  intro H locs hP hD hS
  refine lv_aload_n hx hb dX9_heir_0 rfl (lv_at hl 0 rfl) ?_
  refine va_get (D := (dC, dI)) (ci := 9) (v := .int (σ 0 10)) (C := RX9) (T := TX9) (N := 28) hx hb hts in9 hown hK hP 0 rfl rfl 10 (by decide) k143 (fun _ h9 => h9) rfl dX9_heir_1 ?_
  refine lv_iconst (v := 4) hx hb dX9_heir_4 (by decide) ?_
  refine lv_icmp_ne (tgt := 11) hx hb dX9_heir_5 (by decide) (fun c5 => ?_) (fun c5 => ?_)
  · skip
    have ic5 := zneq (a := (σ 0 10).toInt) (b := 4) rfl (by decide) c5
    refine lv_aload_n hx hb dX9_heir_11 rfl (lv_at hl 0 rfl) ?_
    refine lv_dup hx hb dX9_heir_12 rfl ?_
    refine va_get (D := (dC, dI)) (ci := 9) (v := .int (σ 0 10)) (C := RX9) (T := TX9) (N := 28) hx hb hts in9 hown hK hP 0 rfl rfl 10 (by decide) k143 (fun _ h9 => h9) rfl dX9_heir_13 ?_
    refine lv_iconst (v := 1) hx hb dX9_heir_16 (by decide) ?_
    refine lv_iadd hx hb dX9_heir_17 ?_
    refine lv_topi (fun v17 ev17 => ?_)
    have tv17 : v17.toInt = (σ 0 10).toInt + 1 := by rw [ev17, zadd, show (1 : Int32).toInt = 1 from by decide]; omega
    refine va_put (D := (dC, dI)) (ci := 9) (v := .int v17) (ty := .int) (C := RX9) (T := TX9) (N := 28) hx hb hts in9 tyX9 tyX9_ok nmX9 hown hK hP hD hS 0 rfl rfl 10 (by decide) k143 (fun _ h9 => h9) rfl (by decide +kernel) rfl rfl (Nat.le_of_ble_eq_true rfl) dX9_heir_18 (fun H locs hP hD hS => ?_)
    have hP : va_P (dC, dI) vwCl (wM a cI (upC σ 0 (upd (σ 0) 10 v17))) H := hP
    have hD : va_D A (wM a cI (upC σ 0 (upd (σ 0) 10 v17))) := hD
    refine lv_aload_n hx hb dX9_heir_21 rfl (lv_at hl 0 rfl) ?_
    refine va_get (D := (dC, dI)) (ci := 9) (v := .int v17) (C := RX9) (T := TX9) (N := 28) hx hb hts in9 hown hK hP 0 rfl rfl 10 (by decide) k143 (fun _ h9 => h9) rfl dX9_heir_22 ?_
    refine lv_iconst (v := 1) hx hb dX9_heir_25 (by decide) ?_
    refine lv_isub hx hb dX9_heir_26 ?_
    refine lv_topi (fun v26 ev26 => ?_)
    have tv26 : v26.toInt = v17.toInt - 1 := by rw [ev26, zsub, show (1 : Int32).toInt = 1 from by decide]; omega
    have heq9 : (upC σ 0 (upd (σ 0) 10 v17)) = (upC σ 0 (upd (σ 0) 10 v17)) := rfl
    have hpost : ∃ n10 : Int32, (upC σ 0 (upd (σ 0) 10 v17)) = (upC σ 0 (upd (σ 0) 10 n10)) ∧ (((σ 0 10).toInt < 4 ∧ (v26 : Int32).toInt = (σ 0 10).toInt ∧ n10.toInt = (σ 0 10).toInt + 1) ∨ ((σ 0 10).toInt = 4 ∧ (v26 : Int32).toInt = -3 ∧ n10 = σ 0 10)) := by refine ⟨(v17), heq9, ?_⟩; first | exact Or.inl ⟨by omega, by omega, by omega⟩ | exact Or.inr ⟨by omega, by decide, rfl⟩
    exact W.iret (v := v26) hx hb hr (fun t9 ht hW => ⟨⟨v26, (upC σ 0 (upd (σ 0) 10 v17)), rfl, hpost, by rw [ht]; exact hP, va_K.moved hW.alike hK, hD⟩, hS.F ht⟩) hS.2.2 dX9_heir_27
  · skip
    have ic5 := zeq (a := (σ 0 10).toInt) (b := 4) rfl (by decide) c5
    refine lv_bipush (v := (-3)) hx hb dX9_heir_8 (by decide) ?_
    have heq9 : σ = (upC σ 0 (upd (σ 0) 10 (σ 0 10))) := by
      funext k
      by_cases e0 : k = 0
      · subst e0
        funext i
        by_cases f10 : i = 10
        · subst f10; rfl
        show (σ 0) i = (upd (σ 0) 10 (σ 0 10)) i
        simp only [upd, if_neg f10]
      simp only [upC, if_neg e0]
    have hpost : ∃ n10 : Int32, σ = (upC σ 0 (upd (σ 0) 10 n10)) ∧ (((σ 0 10).toInt < 4 ∧ ((-3) : Int32).toInt = (σ 0 10).toInt ∧ n10.toInt = (σ 0 10).toInt + 1) ∨ ((σ 0 10).toInt = 4 ∧ ((-3) : Int32).toInt = -3 ∧ n10 = σ 0 10)) := by refine ⟨(σ 0 10), heq9, ?_⟩; first | exact Or.inl ⟨by omega, by omega, by omega⟩ | exact Or.inr ⟨by omega, by decide, rfl⟩
    exact W.iret (v := (-3)) hx hb hr (fun t9 ht hW => ⟨⟨(-3), σ, rfl, hpost, by rw [ht]; exact hP, va_K.moved hW.alike hK, hD⟩, hS.F ht⟩) hS.2.2 dX9_heir_10

abbrev RM_X9_gone : Room := { frames := 0, cells := 0, slots := 0, locals := 0 }
set_option maxHeartbeats 4000000 in
set_option maxRecDepth 100000 in
theorem c_X9_gone (l : Launch) (dC : Nat → ClassId) (dI : Nat → Nat → Nat) (cI : ClassId) (a : Nat → Nat) (N : (Nat → Prop) → State → Prop) (hok : zNok N) (σ : Cn) (sz : Nat)  (h2 : 0 ≤ (σ 0 11).toInt ∧ (σ 0 11).toInt ≤ 10) : Met l yX9_gone wsX9_gone RM_X9_gone (zPc (dC, dI) [(cI, .int)] N (wM a cI) σ sz [.ref (a 0)]) (zQi (dC, dI) [(cI, .int)] (wM a cI) (va_A (wM a cI σ) sz) (fun (r : Int32) (σ1 : Cn) => ∃ n11 : Int32, σ1 = (upC σ 0 (upd (σ 0) 11 n11)) ∧ ((0 < (σ 0 11).toInt ∧ (r : Int32).toInt = (σ 0 11).toInt - 1 ∧ n11.toInt = (σ 0 11).toInt - 1) ∨ ((σ 0 11).toInt = 0 ∧ (r : Int32).toInt = -4 ∧ n11 = σ 0 11)))) 0 0 (va_A (wM a cI σ) sz) := by
  refine Met.ofW (cc := cX9_gone) (maxL := 1) (ret := (some .int)) (by decide) rfl ?_
  intro p e s m args below meth c s₁ B hml hv
  obtain ⟨rfl, hsz, hP, hK, hD0, hN⟩ := hv
  have hx := B.exec
  have hb := B.bytes
  have hr := B.returns
  have hts := atoms_spec (ws := wsX9_gone) B.pre
  have hown : s.vm.findClass RX9 = some m.cls := findClass_of_methodNamed B.named
  have hlocks := B.notSynchronized
  subst hsz
  have hD := hD0.self (sz := s.heap.size)
  generalize hAe : va_A (wM a cI σ) s.heap.size = A at hD hN ⊢
  have hA : ∀ q : Nat, s.heap.size ≤ q → A q := fun q h => by rw [← hAe]; exact Or.inr h
  clear hAe hD0
  have hS : va_S A s.heap s.heap [] := va_S.rf
  have in9 : ∀ w ∈ u_ws RX9 TX9 28, w ∈ wsX9_gone := by decide +kernel
  have k146 := hts (.fieldLink RX9 146 "HouseSortedModel" "things" "I") (by decide +kernel)
  have hl := lv_entry ([.ref (a 0)]) (n := 1) (Nat.le_of_ble_eq_true rfl)
  rw [lg_entry_eq]
  generalize (lg_sl ([.ref (a 0)]) ++ List.replicate (1 - (lg_sl ([.ref (a 0)])).length) Slot.unset).toArray = ls at hl ⊢
  have hl : lv_has ls 1 [(0, .ref (a 0))] := hl
  suffices main : ∀ (H : Heap) (locs : List Loc), va_P (dC, dI) vwCl (wM a cI σ) H → va_D A (wM a cI σ) → va_S A s.heap H locs → W p l e (headSpec wsX9_gone RM_X9_gone).room s m ([.ref (a 0)] : List Value).toArray below meth c H locs 0 0 (MQ below (zQi (dC, dI) [(cI, .int)] (wM a cI) A (fun (r : Int32) (σ1 : Cn) => ∃ n11 : Int32, σ1 = (upC σ 0 (upd (σ 0) 11 n11)) ∧ ((0 < (σ 0 11).toInt ∧ (r : Int32).toInt = (σ 0 11).toInt - 1 ∧ n11.toInt = (σ 0 11).toInt - 1) ∨ ((σ 0 11).toInt = 0 ∧ (r : Int32).toInt = -4 ∧ n11 = σ 0 11)))) ([.ref (a 0)] : List Value).toArray s 0 0 A) (F0 m 0 ls []) from main s.heap [] hP hD hS
  intro H locs hP hD hS
  refine lv_aload_n hx hb dX9_gone_0 rfl (lv_at hl 0 rfl) ?_
  refine va_get (D := (dC, dI)) (ci := 9) (v := .int (σ 0 11)) (C := RX9) (T := TX9) (N := 28) hx hb hts in9 hown hK hP 0 rfl rfl 11 (by decide) k146 (fun _ h9 => h9) rfl dX9_gone_1 ?_
  refine lv_if_ne (tgt := 10) hx hb dX9_gone_4 (by decide) (fun c4 => ?_) (fun c4 => ?_)
  · skip
    have ic4 := zneq (a := (σ 0 11).toInt) (b := 0) rfl (by decide) c4
    refine lv_aload_n hx hb dX9_gone_10 rfl (lv_at hl 0 rfl) ?_
    refine lv_dup hx hb dX9_gone_11 rfl ?_
    refine va_get (D := (dC, dI)) (ci := 9) (v := .int (σ 0 11)) (C := RX9) (T := TX9) (N := 28) hx hb hts in9 hown hK hP 0 rfl rfl 11 (by decide) k146 (fun _ h9 => h9) rfl dX9_gone_12 ?_
    refine lv_iconst (v := 1) hx hb dX9_gone_15 (by decide) ?_
    refine lv_isub hx hb dX9_gone_16 ?_
    refine lv_topi (fun v16 ev16 => ?_)
    have tv16 : v16.toInt = (σ 0 11).toInt - 1 := by rw [ev16, zsub, show (1 : Int32).toInt = 1 from by decide]; omega
    refine va_put (D := (dC, dI)) (ci := 9) (v := .int v16) (ty := .int) (C := RX9) (T := TX9) (N := 28) hx hb hts in9 tyX9 tyX9_ok nmX9 hown hK hP hD hS 0 rfl rfl 11 (by decide) k146 (fun _ h9 => h9) rfl (by decide +kernel) rfl rfl (Nat.le_of_ble_eq_true rfl) dX9_gone_17 (fun H locs hP hD hS => ?_)
    have hP : va_P (dC, dI) vwCl (wM a cI (upC σ 0 (upd (σ 0) 11 v16))) H := hP
    have hD : va_D A (wM a cI (upC σ 0 (upd (σ 0) 11 v16))) := hD
    refine lv_aload_n hx hb dX9_gone_20 rfl (lv_at hl 0 rfl) ?_
    refine va_get (D := (dC, dI)) (ci := 9) (v := .int v16) (C := RX9) (T := TX9) (N := 28) hx hb hts in9 hown hK hP 0 rfl rfl 11 (by decide) k146 (fun _ h9 => h9) rfl dX9_gone_21 ?_
    have heq9 : (upC σ 0 (upd (σ 0) 11 v16)) = (upC σ 0 (upd (σ 0) 11 v16)) := rfl
    have hpost : ∃ n11 : Int32, (upC σ 0 (upd (σ 0) 11 v16)) = (upC σ 0 (upd (σ 0) 11 n11)) ∧ ((0 < (σ 0 11).toInt ∧ (v16 : Int32).toInt = (σ 0 11).toInt - 1 ∧ n11.toInt = (σ 0 11).toInt - 1) ∨ ((σ 0 11).toInt = 0 ∧ (v16 : Int32).toInt = -4 ∧ n11 = σ 0 11)) := by refine ⟨(v16), heq9, ?_⟩; first | exact Or.inl ⟨by omega, by omega, by omega⟩ | exact Or.inr ⟨by omega, by decide, rfl⟩
    exact W.iret (v := v16) hx hb hr (fun t9 ht hW => ⟨⟨v16, (upC σ 0 (upd (σ 0) 11 v16)), rfl, hpost, by rw [ht]; exact hP, va_K.moved hW.alike hK, hD⟩, hS.F ht⟩) hS.2.2 dX9_gone_24
  · skip
    have ic4 := zeq (a := (σ 0 11).toInt) (b := 0) rfl (by decide) c4
    refine lv_bipush (v := (-4)) hx hb dX9_gone_7 (by decide) ?_
    have heq9 : σ = (upC σ 0 (upd (σ 0) 11 (σ 0 11))) := by
      funext k
      by_cases e0 : k = 0
      · subst e0
        funext i
        by_cases f11 : i = 11
        · subst f11; rfl
        show (σ 0) i = (upd (σ 0) 11 (σ 0 11)) i
        simp only [upd, if_neg f11]
      simp only [upC, if_neg e0]
    have hpost : ∃ n11 : Int32, σ = (upC σ 0 (upd (σ 0) 11 n11)) ∧ ((0 < (σ 0 11).toInt ∧ ((-4) : Int32).toInt = (σ 0 11).toInt - 1 ∧ n11.toInt = (σ 0 11).toInt - 1) ∨ ((σ 0 11).toInt = 0 ∧ ((-4) : Int32).toInt = -4 ∧ n11 = σ 0 11)) := by refine ⟨(σ 0 11), heq9, ?_⟩; first | exact Or.inl ⟨by omega, by omega, by omega⟩ | exact Or.inr ⟨by omega, by decide, rfl⟩
    exact W.iret (v := (-4)) hx hb hr (fun t9 ht hW => ⟨⟨(-4), σ, rfl, hpost, by rw [ht]; exact hP, va_K.moved hW.alike hK, hD⟩, hS.F ht⟩) hS.2.2 dX9_gone_9

abbrev RM_X9_thing : Room := { frames := 1, cells := 0, slots := 0, locals := 25 }
set_option maxHeartbeats 4000000 in
set_option maxRecDepth 100000 in
theorem c_X9_thing (l : Launch) (dC : Nat → ClassId) (dI : Nat → Nat → Nat) (cI : ClassId) (a : Nat → Nat) (N : (Nat → Prop) → State → Prop) (hok : zNok N) (σ : Cn) (sz : Nat) (x1 : Int32) (x2 : Int32) (x3 : Int32) (x4 : Int32) (x5 : Int32) (h2 : 0 ≤ (σ 0 11).toInt ∧ (σ 0 11).toInt ≤ 10) : Met l yX9_thing wsX9_thing RM_X9_thing (zPc (dC, dI) [(cI, .int)] N (wM a cI) σ sz [.ref (a 0), .int x1, .int x2, .int x3, .int x4, .int x5]) (zQi (dC, dI) [(cI, .int)] (wM a cI) (va_A (wM a cI σ) sz) (fun (r : Int32) (σ1 : Cn) => ∃ n11 : Int32, ∃ u4 : Nat → Int32, ∃ u5 : Nat → Int32, ∃ u6 : Nat → Int32, ∃ u7 : Nat → Int32, ∃ u8 : Nat → Int32, ∃ u9 : Nat → Int32, σ1 = (upC (upC (upC (upC (upC (upC (upC σ 0 (upd (σ 0) 11 n11)) 4 u4) 5 u5) 6 u6) 7 u7) 8 u8) 9 u9) ∧ (((1 ≤ x1.toInt ∧ x1.toInt ≤ 50 ∧ 0 ≤ x2.toInt ∧ x2.toInt ≤ 1000 ∧ x2.toInt ≤ x3.toInt ∧ x3.toInt ≤ 1000 ∧ 0 ≤ x4.toInt ∧ x4.toInt ≤ 99 ∧ 0 ≤ x5.toInt ∧ x5.toInt ≤ 15) ∧ (σ 0 11).toInt < 10 ∧ (r : Int32).toInt = (σ 0 11).toInt ∧ n11.toInt = (σ 0 11).toInt + 1) ∨ ((1 ≤ x1.toInt ∧ x1.toInt ≤ 50 ∧ 0 ≤ x2.toInt ∧ x2.toInt ≤ 1000 ∧ x2.toInt ≤ x3.toInt ∧ x3.toInt ≤ 1000 ∧ 0 ≤ x4.toInt ∧ x4.toInt ≤ 99 ∧ 0 ≤ x5.toInt ∧ x5.toInt ≤ 15) ∧ (σ 0 11).toInt = 10 ∧ (r : Int32).toInt = -3 ∧ n11 = σ 0 11) ∨ (¬ (1 ≤ x1.toInt ∧ x1.toInt ≤ 50 ∧ 0 ≤ x2.toInt ∧ x2.toInt ≤ 1000 ∧ x2.toInt ≤ x3.toInt ∧ x3.toInt ≤ 1000 ∧ 0 ≤ x4.toInt ∧ x4.toInt ≤ 99 ∧ 0 ≤ x5.toInt ∧ x5.toInt ≤ 15) ∧ (r : Int32).toInt = -1 ∧ n11 = σ 0 11)))) 0 0 (va_A (wM a cI σ) sz) := by
  refine Met.ofW (cc := cX9_thing) (maxL := 7) (ret := (some .int)) (by decide) rfl ?_
  intro p e s m args below meth c s₁ B hml hv
  obtain ⟨rfl, hsz, hP, hK, hD0, hN⟩ := hv
  have hx := B.exec
  have hb := B.bytes
  have hr := B.returns
  have hts := atoms_spec (ws := wsX9_thing) B.pre
  have hown : s.vm.findClass RX9 = some m.cls := findClass_of_methodNamed B.named
  have hlocks := B.notSynchronized
  subst hsz
  have hD := hD0.self (sz := s.heap.size)
  generalize hAe : va_A (wM a cI σ) s.heap.size = A at hD hN ⊢
  have hA : ∀ q : Nat, s.heap.size ≤ q → A q := fun q h => by rw [← hAe]; exact Or.inr h
  clear hAe hD0
  have hS : va_S A s.heap s.heap [] := va_S.rf
  have in9 : ∀ w ∈ u_ws RX9 TX9 28, w ∈ wsX9_thing := by decide +kernel
  have k146 := hts (.fieldLink RX9 146 "HouseSortedModel" "things" "I") (by decide +kernel)
  have k19 := hts (.fieldLink RX9 19 "HouseSortedModel" "weights" "[I") (by decide +kernel)
  have k22 := hts (.fieldLink RX9 22 "HouseSortedModel" "lows" "[I") (by decide +kernel)
  have k25 := hts (.fieldLink RX9 25 "HouseSortedModel" "highs" "[I") (by decide +kernel)
  have k28 := hts (.fieldLink RX9 28 "HouseSortedModel" "ages" "[I") (by decide +kernel)
  have k31 := hts (.fieldLink RX9 31 "HouseSortedModel" "marks" "[I") (by decide +kernel)
  have k34 := hts (.fieldLink RX9 34 "HouseSortedModel" "worths" "[I") (by decide +kernel)
  have kq149 := hts (.constantLong RX9 149 (50)) (by decide +kernel)
  have kq151 := hts (.constantLong RX9 151 (1000)) (by decide +kernel)
  have kq153 := hts (.constantLong RX9 153 (99)) (by decide +kernel)
  have kq155 := hts (.constantLong RX9 155 (15)) (by decide +kernel)
  have LP : ∀ n : Nat, (∀ (j : Int32) (w4 : Nat → Int32) (w5 : Nat → Int32) (w6 : Nat → Int32) (w7 : Nat → Int32) (w8 : Nat → Int32) (w9 : Nat → Int32) (H : Heap) (locs : List Loc) (ls : Array Slot), 0 ≤ j.toInt ∧ j.toInt ≤ 4 → (1 ≤ x1.toInt ∧ x1.toInt ≤ 50 ∧ 0 ≤ x2.toInt ∧ x2.toInt ≤ 1000 ∧ x2.toInt ≤ x3.toInt ∧ x3.toInt ≤ 1000 ∧ 0 ≤ x4.toInt ∧ x4.toInt ≤ 99 ∧ 0 ≤ x5.toInt ∧ x5.toInt ≤ 15) → (σ 0 11).toInt < 10 → (4 - j.toInt).toNat < n → va_P (dC, dI) vwCl (wM a cI (upC (upC (upC (upC (upC (upC σ 4 w4) 5 w5) 6 w6) 7 w7) 8 w8) 9 w9)) H → va_D A (wM a cI (upC (upC (upC (upC (upC (upC σ 4 w4) 5 w5) 6 w6) 7 w7) 8 w8) 9 w9)) → va_S A s.heap H locs → lv_has ls 7 [(0, .ref (a 0)), (1, .int x1), (2, .int x2), (3, .int x3), (4, .int x4), (5, .int x5), (6, .int j)] → W p l e (headSpec wsX9_thing RM_X9_thing).room s m ([.ref (a 0), .int x1, .int x2, .int x3, .int x4, .int x5] : List Value).toArray below meth c H locs 0 0 (MQ below (zQi (dC, dI) [(cI, .int)] (wM a cI) A (fun (r : Int32) (σ1 : Cn) => ∃ n11 : Int32, ∃ u4 : Nat → Int32, ∃ u5 : Nat → Int32, ∃ u6 : Nat → Int32, ∃ u7 : Nat → Int32, ∃ u8 : Nat → Int32, ∃ u9 : Nat → Int32, σ1 = (upC (upC (upC (upC (upC (upC (upC σ 0 (upd (σ 0) 11 n11)) 4 u4) 5 u5) 6 u6) 7 u7) 8 u8) 9 u9) ∧ (((1 ≤ x1.toInt ∧ x1.toInt ≤ 50 ∧ 0 ≤ x2.toInt ∧ x2.toInt ≤ 1000 ∧ x2.toInt ≤ x3.toInt ∧ x3.toInt ≤ 1000 ∧ 0 ≤ x4.toInt ∧ x4.toInt ≤ 99 ∧ 0 ≤ x5.toInt ∧ x5.toInt ≤ 15) ∧ (σ 0 11).toInt < 10 ∧ (r : Int32).toInt = (σ 0 11).toInt ∧ n11.toInt = (σ 0 11).toInt + 1) ∨ ((1 ≤ x1.toInt ∧ x1.toInt ≤ 50 ∧ 0 ≤ x2.toInt ∧ x2.toInt ≤ 1000 ∧ x2.toInt ≤ x3.toInt ∧ x3.toInt ≤ 1000 ∧ 0 ≤ x4.toInt ∧ x4.toInt ≤ 99 ∧ 0 ≤ x5.toInt ∧ x5.toInt ≤ 15) ∧ (σ 0 11).toInt = 10 ∧ (r : Int32).toInt = -3 ∧ n11 = σ 0 11) ∨ (¬ (1 ≤ x1.toInt ∧ x1.toInt ≤ 50 ∧ 0 ≤ x2.toInt ∧ x2.toInt ≤ 1000 ∧ x2.toInt ≤ x3.toInt ∧ x3.toInt ≤ 1000 ∧ 0 ≤ x4.toInt ∧ x4.toInt ≤ 99 ∧ 0 ≤ x5.toInt ∧ x5.toInt ≤ 15) ∧ (r : Int32).toInt = -1 ∧ n11 = σ 0 11)))) ([.ref (a 0), .int x1, .int x2, .int x3, .int x4, .int x5] : List Value).toArray s 0 0 A) (F0 m 132 ls [])) := by
    intro n
    induction n with
    | zero => exact by intros; omega
    | succ n ih =>
      · intro j w4 w5 w6 w7 w8 w9 H locs ls g1 g2 g3 hmu hP hD hS hl
        refine lv_iload hx hb dX9_thing_132 (lv_at hl 6 rfl) ?_
        refine lv_iconst (v := 4) hx hb dX9_thing_134 (by decide) ?_
        refine lv_icmp_ge (tgt := 160) hx hb dX9_thing_135 (by decide) (fun c135 => ?_) (fun c135 => ?_)
        · skip
          have ic135 := zle (a := 4) (b := j.toInt) (by decide) rfl c135
          refine lv_aload_n hx hb dX9_thing_160 rfl (lv_at hl 0 rfl) ?_
          refine lv_dup hx hb dX9_thing_161 rfl ?_
          refine va_get (D := (dC, dI)) (ci := 9) (v := .int (σ 0 11)) (C := RX9) (T := TX9) (N := 28) hx hb hts in9 hown hK hP 0 rfl rfl 11 (by decide) k146 (fun _ h9 => h9) rfl dX9_thing_162 ?_
          refine lv_iconst (v := 1) hx hb dX9_thing_165 (by decide) ?_
          refine lv_iadd hx hb dX9_thing_166 ?_
          refine lv_topi (fun v166 ev166 => ?_)
          have tv166 : v166.toInt = (σ 0 11).toInt + 1 := by rw [ev166, zadd, show (1 : Int32).toInt = 1 from by decide]; omega
          refine va_put (D := (dC, dI)) (ci := 9) (v := .int v166) (ty := .int) (C := RX9) (T := TX9) (N := 28) hx hb hts in9 tyX9 tyX9_ok nmX9 hown hK hP hD hS 0 rfl rfl 11 (by decide) k146 (fun _ h9 => h9) rfl (by decide +kernel) rfl rfl (Nat.le_of_ble_eq_true rfl) dX9_thing_167 (fun H locs hP hD hS => ?_)
          have hP : va_P (dC, dI) vwCl (wM a cI (upC (upC (upC (upC (upC (upC (upC σ 0 (upd (σ 0) 11 v166)) 4 w4) 5 w5) 6 w6) 7 w7) 8 w8) 9 w9)) H := hP
          have hD : va_D A (wM a cI (upC (upC (upC (upC (upC (upC (upC σ 0 (upd (σ 0) 11 v166)) 4 w4) 5 w5) 6 w6) 7 w7) 8 w8) 9 w9)) := hD
          refine lv_aload_n hx hb dX9_thing_170 rfl (lv_at hl 0 rfl) ?_
          refine va_get (D := (dC, dI)) (ci := 9) (v := .int v166) (C := RX9) (T := TX9) (N := 28) hx hb hts in9 hown hK hP 0 rfl rfl 11 (by decide) k146 (fun _ h9 => h9) rfl dX9_thing_171 ?_
          refine lv_iconst (v := 1) hx hb dX9_thing_174 (by decide) ?_
          refine lv_isub hx hb dX9_thing_175 ?_
          refine lv_topi (fun v175 ev175 => ?_)
          have tv175 : v175.toInt = v166.toInt - 1 := by rw [ev175, zsub, show (1 : Int32).toInt = 1 from by decide]; omega
          have heq9 : (upC (upC (upC (upC (upC (upC (upC σ 0 (upd (σ 0) 11 v166)) 4 w4) 5 w5) 6 w6) 7 w7) 8 w8) 9 w9) = (upC (upC (upC (upC (upC (upC (upC σ 0 (upd (σ 0) 11 v166)) 4 w4) 5 w5) 6 w6) 7 w7) 8 w8) 9 w9) := rfl
          have hpost : ∃ n11 : Int32, ∃ u4 : Nat → Int32, ∃ u5 : Nat → Int32, ∃ u6 : Nat → Int32, ∃ u7 : Nat → Int32, ∃ u8 : Nat → Int32, ∃ u9 : Nat → Int32, (upC (upC (upC (upC (upC (upC (upC σ 0 (upd (σ 0) 11 v166)) 4 w4) 5 w5) 6 w6) 7 w7) 8 w8) 9 w9) = (upC (upC (upC (upC (upC (upC (upC σ 0 (upd (σ 0) 11 n11)) 4 u4) 5 u5) 6 u6) 7 u7) 8 u8) 9 u9) ∧ (((1 ≤ x1.toInt ∧ x1.toInt ≤ 50 ∧ 0 ≤ x2.toInt ∧ x2.toInt ≤ 1000 ∧ x2.toInt ≤ x3.toInt ∧ x3.toInt ≤ 1000 ∧ 0 ≤ x4.toInt ∧ x4.toInt ≤ 99 ∧ 0 ≤ x5.toInt ∧ x5.toInt ≤ 15) ∧ (σ 0 11).toInt < 10 ∧ (v175 : Int32).toInt = (σ 0 11).toInt ∧ n11.toInt = (σ 0 11).toInt + 1) ∨ ((1 ≤ x1.toInt ∧ x1.toInt ≤ 50 ∧ 0 ≤ x2.toInt ∧ x2.toInt ≤ 1000 ∧ x2.toInt ≤ x3.toInt ∧ x3.toInt ≤ 1000 ∧ 0 ≤ x4.toInt ∧ x4.toInt ≤ 99 ∧ 0 ≤ x5.toInt ∧ x5.toInt ≤ 15) ∧ (σ 0 11).toInt = 10 ∧ (v175 : Int32).toInt = -3 ∧ n11 = σ 0 11) ∨ (¬ (1 ≤ x1.toInt ∧ x1.toInt ≤ 50 ∧ 0 ≤ x2.toInt ∧ x2.toInt ≤ 1000 ∧ x2.toInt ≤ x3.toInt ∧ x3.toInt ≤ 1000 ∧ 0 ≤ x4.toInt ∧ x4.toInt ≤ 99 ∧ 0 ≤ x5.toInt ∧ x5.toInt ≤ 15) ∧ (v175 : Int32).toInt = -1 ∧ n11 = σ 0 11)) := by refine ⟨(v166), (w4), (w5), (w6), (w7), (w8), (w9), heq9, ?_⟩; exact Or.inl ⟨g2, g3, by omega, by omega⟩
          exact W.iret (v := v175) hx hb hr (fun t9 ht hW => ⟨⟨v175, (upC (upC (upC (upC (upC (upC (upC σ 0 (upd (σ 0) 11 v166)) 4 w4) 5 w5) 6 w6) 7 w7) 8 w8) 9 w9), rfl, hpost, by rw [ht]; exact hP, va_K.moved hW.alike hK, hD⟩, hS.F ht⟩) hS.2.2 dX9_thing_176
        · skip
          have ic135 := znle (a := 4) (b := j.toInt) (by decide) rfl c135
          refine lv_aload_n hx hb dX9_thing_138 rfl (lv_at hl 0 rfl) ?_
          refine va_get (D := (dC, dI)) (ci := 9) (v := .ref (a 9)) (C := RX9) (T := TX9) (N := 28) hx hb hts in9 hown hK hP 0 rfl rfl 17 (by decide) k34 (fun _ h9 => h9) rfl dX9_thing_139 ?_
          refine lv_bipush (v := 10) hx hb dX9_thing_142 (by decide) ?_
          refine lv_iload hx hb dX9_thing_144 (lv_at hl 6 rfl) ?_
          refine lv_imul hx hb dX9_thing_146 ?_
          refine lv_topi (fun v146 ev146 => ?_)
          have tv146 : v146.toInt = 10 * j.toInt := by rw [ev146, zmul, show (10 : Int32).toInt = 10 from by decide]; omega
          refine lv_aload_n hx hb dX9_thing_147 rfl (lv_at hl 0 rfl) ?_
          refine va_get (D := (dC, dI)) (ci := 9) (v := .int (σ 0 11)) (C := RX9) (T := TX9) (N := 28) hx hb hts in9 hown hK hP 0 rfl rfl 11 (by decide) k146 (fun _ h9 => h9) rfl dX9_thing_148 ?_
          refine lv_iadd hx hb dX9_thing_151 ?_
          refine lv_topi (fun v151 ev151 => ?_)
          have tv151 : v151.toInt = v146.toInt + (σ 0 11).toInt := by rw [ev151, zadd]; omega
          refine lv_iconst (v := 0) hx hb dX9_thing_152 (by decide) ?_
          refine va_iast (D := (dC, dI)) (f := w9) hx hb hK hP hD hS 9 0 rfl rfl (i := v151) (n := 40) (zin (by omega) (by omega)) dX9_thing_153 (fun H locs hP hD hS => ?_)
          have hP : va_P (dC, dI) vwCl (wM a cI (upC (upC (upC (upC (upC (upC σ 4 w4) 5 w5) 6 w6) 7 w7) 8 w8) 9 (upd (w9) (v151).toNatClampNeg 0))) H := hP
          have hD : va_D A (wM a cI (upC (upC (upC (upC (upC (upC σ 4 w4) 5 w5) 6 w6) 7 w7) 8 w8) 9 (upd (w9) (v151).toNatClampNeg 0))) := hD
          obtain ⟨v154, ev154⟩ : ∃ y : Int32, y = j + 1 := ⟨_, rfl⟩
          refine lv_iinc (v := v154) (lv' := [(6, .int v154), (0, .ref (a 0)), (1, .int x1), (2, .int x2), (3, .int x3), (4, .int x4), (5, .int x5)]) hx hb dX9_thing_154 hl (k := 6) rfl (by rw [ev154]; rfl) (by decide) rfl (fun ls hl => ?_)
          have tv154 : v154.toInt = j.toInt + 1 := by rw [ev154, zadd, show (1 : Int32).toInt = 1 from by decide]; omega
          refine lv_goto (tgt := 132) hx hb dX9_thing_157 (by decide) ?_
          exact ih (v154) (w4) (w5) (w6) (w7) (w8) (upd (w9) (v151).toNatClampNeg 0) H locs ls (by omega) (g2) (g3) (by omega) hP hD hS (lv_sub hl [1, 2, 3, 4, 5, 6, 0] rfl)
  have hl := lv_entry ([.ref (a 0), .int x1, .int x2, .int x3, .int x4, .int x5]) (n := 7) (Nat.le_of_ble_eq_true rfl)
  rw [lg_entry_eq]
  generalize (lg_sl ([.ref (a 0), .int x1, .int x2, .int x3, .int x4, .int x5]) ++ List.replicate (7 - (lg_sl ([.ref (a 0), .int x1, .int x2, .int x3, .int x4, .int x5])).length) Slot.unset).toArray = ls at hl ⊢
  have hl : lv_has ls 7 [(0, .ref (a 0)), (1, .int x1), (2, .int x2), (3, .int x3), (4, .int x4), (5, .int x5)] := hl
  suffices main : ∀ (H : Heap) (locs : List Loc), va_P (dC, dI) vwCl (wM a cI σ) H → va_D A (wM a cI σ) → va_S A s.heap H locs → W p l e (headSpec wsX9_thing RM_X9_thing).room s m ([.ref (a 0), .int x1, .int x2, .int x3, .int x4, .int x5] : List Value).toArray below meth c H locs 0 0 (MQ below (zQi (dC, dI) [(cI, .int)] (wM a cI) A (fun (r : Int32) (σ1 : Cn) => ∃ n11 : Int32, ∃ u4 : Nat → Int32, ∃ u5 : Nat → Int32, ∃ u6 : Nat → Int32, ∃ u7 : Nat → Int32, ∃ u8 : Nat → Int32, ∃ u9 : Nat → Int32, σ1 = (upC (upC (upC (upC (upC (upC (upC σ 0 (upd (σ 0) 11 n11)) 4 u4) 5 u5) 6 u6) 7 u7) 8 u8) 9 u9) ∧ (((1 ≤ x1.toInt ∧ x1.toInt ≤ 50 ∧ 0 ≤ x2.toInt ∧ x2.toInt ≤ 1000 ∧ x2.toInt ≤ x3.toInt ∧ x3.toInt ≤ 1000 ∧ 0 ≤ x4.toInt ∧ x4.toInt ≤ 99 ∧ 0 ≤ x5.toInt ∧ x5.toInt ≤ 15) ∧ (σ 0 11).toInt < 10 ∧ (r : Int32).toInt = (σ 0 11).toInt ∧ n11.toInt = (σ 0 11).toInt + 1) ∨ ((1 ≤ x1.toInt ∧ x1.toInt ≤ 50 ∧ 0 ≤ x2.toInt ∧ x2.toInt ≤ 1000 ∧ x2.toInt ≤ x3.toInt ∧ x3.toInt ≤ 1000 ∧ 0 ≤ x4.toInt ∧ x4.toInt ≤ 99 ∧ 0 ≤ x5.toInt ∧ x5.toInt ≤ 15) ∧ (σ 0 11).toInt = 10 ∧ (r : Int32).toInt = -3 ∧ n11 = σ 0 11) ∨ (¬ (1 ≤ x1.toInt ∧ x1.toInt ≤ 50 ∧ 0 ≤ x2.toInt ∧ x2.toInt ≤ 1000 ∧ x2.toInt ≤ x3.toInt ∧ x3.toInt ≤ 1000 ∧ 0 ≤ x4.toInt ∧ x4.toInt ≤ 99 ∧ 0 ≤ x5.toInt ∧ x5.toInt ≤ 15) ∧ (r : Int32).toInt = -1 ∧ n11 = σ 0 11)))) ([.ref (a 0), .int x1, .int x2, .int x3, .int x4, .int x5] : List Value).toArray s 0 0 A) (F0 m 0 ls []) from main s.heap [] hP hD hS
  intro H locs hP hD hS
  refine lv_iload_n hx hb dX9_thing_0 rfl (lv_at hl 1 rfl) ?_
  refine lv_i2l hx hb dX9_thing_1 rfl ?_
  refine lv_topl (fun v1 ev1 => ?_)
  have tv1 : v1.toInt = x1.toInt := by rw [ev1]; exact zi2l rfl
  refine lv_lconst (v := 1) hx hb dX9_thing_2 (by decide) ?_
  refine lv_ldc2 hx hb hown kq149 dX9_thing_3 ?_
  refine zcalli (va_runS (As := [.long v1, .long 1, .long 50]) (rest := []) ⟨hx, hb, hml, hown, hts⟩ (c_X9_in l dC dI cI a N hok σ H.size (v1) (1) (50) ) (va_cwS 3 hts gX9_thing_X9_in rfl rfl rfl (by decide +kernel) ⟨Nat.le_of_ble_eq_true rfl, Nat.le_of_ble_eq_true rfl⟩) (zpreS (wf := wM a cI) hok hN hS hA hK hP hD) rfl rfl hl.1 rfl (lv_room (Nat.le_of_ble_eq_true rfl)) dX9_thing_6 ⟨Nat.zero_le _, Nat.zero_le _⟩) hD hS hA (fun v6 σ1 H locs hv6 hP hD hS => ?_)
  obtain ⟨es9, hv6⟩ := hv6
  subst σ1
  try simp only [show (1 : Int64).toInt = 1 from by decide, show (50 : Int64).toInt = 50 from by decide] at hv6
  refine lv_if_eq (tgt := 63) hx hb dX9_thing_9 (by decide) (fun c9 => ?_) (fun c9 => ?_)
  · skip
    have ic9 := zeq (a := v6.toInt) (b := 0) rfl (by decide) c9
    replace hv6 := (hv6.resolve_left (fun q => by omega)).2
    refine lv_iconst (v := (-1)) hx hb dX9_thing_63 (by decide) ?_
    have heq9 : σ = (upC (upC (upC (upC (upC (upC (upC σ 0 (upd (σ 0) 11 (σ 0 11))) 4 (σ 4)) 5 (σ 5)) 6 (σ 6)) 7 (σ 7)) 8 (σ 8)) 9 (σ 9)) := by
      funext k
      by_cases e0 : k = 0
      · subst e0
        funext i
        by_cases f11 : i = 11
        · subst f11; rfl
        show (σ 0) i = (upd (σ 0) 11 (σ 0 11)) i
        simp only [upd, if_neg f11]
      by_cases e4 : k = 4
      · subst e4; rfl
      by_cases e5 : k = 5
      · subst e5; rfl
      by_cases e6 : k = 6
      · subst e6; rfl
      by_cases e7 : k = 7
      · subst e7; rfl
      by_cases e8 : k = 8
      · subst e8; rfl
      by_cases e9 : k = 9
      · subst e9; rfl
      simp only [upC, if_neg e0, if_neg e4, if_neg e5, if_neg e6, if_neg e7, if_neg e8, if_neg e9]
    have hpost : ∃ n11 : Int32, ∃ u4 : Nat → Int32, ∃ u5 : Nat → Int32, ∃ u6 : Nat → Int32, ∃ u7 : Nat → Int32, ∃ u8 : Nat → Int32, ∃ u9 : Nat → Int32, σ = (upC (upC (upC (upC (upC (upC (upC σ 0 (upd (σ 0) 11 n11)) 4 u4) 5 u5) 6 u6) 7 u7) 8 u8) 9 u9) ∧ (((1 ≤ x1.toInt ∧ x1.toInt ≤ 50 ∧ 0 ≤ x2.toInt ∧ x2.toInt ≤ 1000 ∧ x2.toInt ≤ x3.toInt ∧ x3.toInt ≤ 1000 ∧ 0 ≤ x4.toInt ∧ x4.toInt ≤ 99 ∧ 0 ≤ x5.toInt ∧ x5.toInt ≤ 15) ∧ (σ 0 11).toInt < 10 ∧ ((-1) : Int32).toInt = (σ 0 11).toInt ∧ n11.toInt = (σ 0 11).toInt + 1) ∨ ((1 ≤ x1.toInt ∧ x1.toInt ≤ 50 ∧ 0 ≤ x2.toInt ∧ x2.toInt ≤ 1000 ∧ x2.toInt ≤ x3.toInt ∧ x3.toInt ≤ 1000 ∧ 0 ≤ x4.toInt ∧ x4.toInt ≤ 99 ∧ 0 ≤ x5.toInt ∧ x5.toInt ≤ 15) ∧ (σ 0 11).toInt = 10 ∧ ((-1) : Int32).toInt = -3 ∧ n11 = σ 0 11) ∨ (¬ (1 ≤ x1.toInt ∧ x1.toInt ≤ 50 ∧ 0 ≤ x2.toInt ∧ x2.toInt ≤ 1000 ∧ x2.toInt ≤ x3.toInt ∧ x3.toInt ≤ 1000 ∧ 0 ≤ x4.toInt ∧ x4.toInt ≤ 99 ∧ 0 ≤ x5.toInt ∧ x5.toInt ≤ 15) ∧ ((-1) : Int32).toInt = -1 ∧ n11 = σ 0 11)) := by refine ⟨(σ 0 11), (σ 4), (σ 5), (σ 6), (σ 7), (σ 8), (σ 9), heq9, ?_⟩; first | exact Or.inr (Or.inr ⟨by omega, by decide, rfl⟩) | exact Or.inr (Or.inl ⟨by omega, by omega, by decide, rfl⟩)
    exact W.iret (v := (-1)) hx hb hr (fun t9 ht hW => ⟨⟨(-1), σ, rfl, hpost, by rw [ht]; exact hP, va_K.moved hW.alike hK, hD⟩, hS.F ht⟩) hS.2.2 dX9_thing_64
  · skip
    have ic9 := zneq (a := v6.toInt) (b := 0) rfl (by decide) c9
    replace hv6 := (hv6.resolve_right (fun q => by omega)).2
    refine lv_iload_n hx hb dX9_thing_12 rfl (lv_at hl 2 rfl) ?_
    refine lv_i2l hx hb dX9_thing_13 rfl ?_
    refine lv_topl (fun v13 ev13 => ?_)
    have tv13 : v13.toInt = x2.toInt := by rw [ev13]; exact zi2l rfl
    refine lv_lconst (v := 0) hx hb dX9_thing_14 (by decide) ?_
    refine lv_ldc2 hx hb hown kq151 dX9_thing_15 ?_
    refine zcalli (va_runS (As := [.long v13, .long 0, .long 1000]) (rest := []) ⟨hx, hb, hml, hown, hts⟩ (c_X9_in l dC dI cI a N hok σ H.size (v13) (0) (1000) ) (va_cwS 3 hts gX9_thing_X9_in rfl rfl rfl (by decide +kernel) ⟨Nat.le_of_ble_eq_true rfl, Nat.le_of_ble_eq_true rfl⟩) (zpreS (wf := wM a cI) hok hN hS hA hK hP hD) rfl rfl hl.1 rfl (lv_room (Nat.le_of_ble_eq_true rfl)) dX9_thing_18 ⟨Nat.zero_le _, Nat.zero_le _⟩) hD hS hA (fun v18 σ1 H locs hv18 hP hD hS => ?_)
    obtain ⟨es9, hv18⟩ := hv18
    subst σ1
    try simp only [show (0 : Int64).toInt = 0 from by decide, show (1000 : Int64).toInt = 1000 from by decide] at hv18
    refine lv_if_eq (tgt := 63) hx hb dX9_thing_21 (by decide) (fun c21 => ?_) (fun c21 => ?_)
    · skip
      have ic21 := zeq (a := v18.toInt) (b := 0) rfl (by decide) c21
      replace hv18 := (hv18.resolve_left (fun q => by omega)).2
      refine lv_iconst (v := (-1)) hx hb dX9_thing_63 (by decide) ?_
      have heq9 : σ = (upC (upC (upC (upC (upC (upC (upC σ 0 (upd (σ 0) 11 (σ 0 11))) 4 (σ 4)) 5 (σ 5)) 6 (σ 6)) 7 (σ 7)) 8 (σ 8)) 9 (σ 9)) := by
        funext k
        by_cases e0 : k = 0
        · subst e0
          funext i
          by_cases f11 : i = 11
          · subst f11; rfl
          show (σ 0) i = (upd (σ 0) 11 (σ 0 11)) i
          simp only [upd, if_neg f11]
        by_cases e4 : k = 4
        · subst e4; rfl
        by_cases e5 : k = 5
        · subst e5; rfl
        by_cases e6 : k = 6
        · subst e6; rfl
        by_cases e7 : k = 7
        · subst e7; rfl
        by_cases e8 : k = 8
        · subst e8; rfl
        by_cases e9 : k = 9
        · subst e9; rfl
        simp only [upC, if_neg e0, if_neg e4, if_neg e5, if_neg e6, if_neg e7, if_neg e8, if_neg e9]
      have hpost : ∃ n11 : Int32, ∃ u4 : Nat → Int32, ∃ u5 : Nat → Int32, ∃ u6 : Nat → Int32, ∃ u7 : Nat → Int32, ∃ u8 : Nat → Int32, ∃ u9 : Nat → Int32, σ = (upC (upC (upC (upC (upC (upC (upC σ 0 (upd (σ 0) 11 n11)) 4 u4) 5 u5) 6 u6) 7 u7) 8 u8) 9 u9) ∧ (((1 ≤ x1.toInt ∧ x1.toInt ≤ 50 ∧ 0 ≤ x2.toInt ∧ x2.toInt ≤ 1000 ∧ x2.toInt ≤ x3.toInt ∧ x3.toInt ≤ 1000 ∧ 0 ≤ x4.toInt ∧ x4.toInt ≤ 99 ∧ 0 ≤ x5.toInt ∧ x5.toInt ≤ 15) ∧ (σ 0 11).toInt < 10 ∧ ((-1) : Int32).toInt = (σ 0 11).toInt ∧ n11.toInt = (σ 0 11).toInt + 1) ∨ ((1 ≤ x1.toInt ∧ x1.toInt ≤ 50 ∧ 0 ≤ x2.toInt ∧ x2.toInt ≤ 1000 ∧ x2.toInt ≤ x3.toInt ∧ x3.toInt ≤ 1000 ∧ 0 ≤ x4.toInt ∧ x4.toInt ≤ 99 ∧ 0 ≤ x5.toInt ∧ x5.toInt ≤ 15) ∧ (σ 0 11).toInt = 10 ∧ ((-1) : Int32).toInt = -3 ∧ n11 = σ 0 11) ∨ (¬ (1 ≤ x1.toInt ∧ x1.toInt ≤ 50 ∧ 0 ≤ x2.toInt ∧ x2.toInt ≤ 1000 ∧ x2.toInt ≤ x3.toInt ∧ x3.toInt ≤ 1000 ∧ 0 ≤ x4.toInt ∧ x4.toInt ≤ 99 ∧ 0 ≤ x5.toInt ∧ x5.toInt ≤ 15) ∧ ((-1) : Int32).toInt = -1 ∧ n11 = σ 0 11)) := by refine ⟨(σ 0 11), (σ 4), (σ 5), (σ 6), (σ 7), (σ 8), (σ 9), heq9, ?_⟩; first | exact Or.inr (Or.inr ⟨by omega, by decide, rfl⟩) | exact Or.inr (Or.inl ⟨by omega, by omega, by decide, rfl⟩)
      exact W.iret (v := (-1)) hx hb hr (fun t9 ht hW => ⟨⟨(-1), σ, rfl, hpost, by rw [ht]; exact hP, va_K.moved hW.alike hK, hD⟩, hS.F ht⟩) hS.2.2 dX9_thing_64
    · skip
      have ic21 := zneq (a := v18.toInt) (b := 0) rfl (by decide) c21
      replace hv18 := (hv18.resolve_right (fun q => by omega)).2
      refine lv_iload_n hx hb dX9_thing_24 rfl (lv_at hl 3 rfl) ?_
      refine lv_i2l hx hb dX9_thing_25 rfl ?_
      refine lv_topl (fun v25 ev25 => ?_)
      have tv25 : v25.toInt = x3.toInt := by rw [ev25]; exact zi2l rfl
      refine lv_iload_n hx hb dX9_thing_26 rfl (lv_at hl 2 rfl) ?_
      refine lv_i2l hx hb dX9_thing_27 rfl ?_
      refine lv_topl (fun v27 ev27 => ?_)
      have tv27 : v27.toInt = x2.toInt := by rw [ev27]; exact zi2l rfl
      refine lv_ldc2 hx hb hown kq151 dX9_thing_28 ?_
      refine zcalli (va_runS (As := [.long v25, .long v27, .long 1000]) (rest := []) ⟨hx, hb, hml, hown, hts⟩ (c_X9_in l dC dI cI a N hok σ H.size (v25) (v27) (1000) ) (va_cwS 3 hts gX9_thing_X9_in rfl rfl rfl (by decide +kernel) ⟨Nat.le_of_ble_eq_true rfl, Nat.le_of_ble_eq_true rfl⟩) (zpreS (wf := wM a cI) hok hN hS hA hK hP hD) rfl rfl hl.1 rfl (lv_room (Nat.le_of_ble_eq_true rfl)) dX9_thing_31 ⟨Nat.zero_le _, Nat.zero_le _⟩) hD hS hA (fun v31 σ1 H locs hv31 hP hD hS => ?_)
      obtain ⟨es9, hv31⟩ := hv31
      subst σ1
      try simp only [show (1000 : Int64).toInt = 1000 from by decide] at hv31
      refine lv_if_eq (tgt := 63) hx hb dX9_thing_34 (by decide) (fun c34 => ?_) (fun c34 => ?_)
      · skip
        have ic34 := zeq (a := v31.toInt) (b := 0) rfl (by decide) c34
        replace hv31 := (hv31.resolve_left (fun q => by omega)).2
        refine lv_iconst (v := (-1)) hx hb dX9_thing_63 (by decide) ?_
        have heq9 : σ = (upC (upC (upC (upC (upC (upC (upC σ 0 (upd (σ 0) 11 (σ 0 11))) 4 (σ 4)) 5 (σ 5)) 6 (σ 6)) 7 (σ 7)) 8 (σ 8)) 9 (σ 9)) := by
          funext k
          by_cases e0 : k = 0
          · subst e0
            funext i
            by_cases f11 : i = 11
            · subst f11; rfl
            show (σ 0) i = (upd (σ 0) 11 (σ 0 11)) i
            simp only [upd, if_neg f11]
          by_cases e4 : k = 4
          · subst e4; rfl
          by_cases e5 : k = 5
          · subst e5; rfl
          by_cases e6 : k = 6
          · subst e6; rfl
          by_cases e7 : k = 7
          · subst e7; rfl
          by_cases e8 : k = 8
          · subst e8; rfl
          by_cases e9 : k = 9
          · subst e9; rfl
          simp only [upC, if_neg e0, if_neg e4, if_neg e5, if_neg e6, if_neg e7, if_neg e8, if_neg e9]
        have hpost : ∃ n11 : Int32, ∃ u4 : Nat → Int32, ∃ u5 : Nat → Int32, ∃ u6 : Nat → Int32, ∃ u7 : Nat → Int32, ∃ u8 : Nat → Int32, ∃ u9 : Nat → Int32, σ = (upC (upC (upC (upC (upC (upC (upC σ 0 (upd (σ 0) 11 n11)) 4 u4) 5 u5) 6 u6) 7 u7) 8 u8) 9 u9) ∧ (((1 ≤ x1.toInt ∧ x1.toInt ≤ 50 ∧ 0 ≤ x2.toInt ∧ x2.toInt ≤ 1000 ∧ x2.toInt ≤ x3.toInt ∧ x3.toInt ≤ 1000 ∧ 0 ≤ x4.toInt ∧ x4.toInt ≤ 99 ∧ 0 ≤ x5.toInt ∧ x5.toInt ≤ 15) ∧ (σ 0 11).toInt < 10 ∧ ((-1) : Int32).toInt = (σ 0 11).toInt ∧ n11.toInt = (σ 0 11).toInt + 1) ∨ ((1 ≤ x1.toInt ∧ x1.toInt ≤ 50 ∧ 0 ≤ x2.toInt ∧ x2.toInt ≤ 1000 ∧ x2.toInt ≤ x3.toInt ∧ x3.toInt ≤ 1000 ∧ 0 ≤ x4.toInt ∧ x4.toInt ≤ 99 ∧ 0 ≤ x5.toInt ∧ x5.toInt ≤ 15) ∧ (σ 0 11).toInt = 10 ∧ ((-1) : Int32).toInt = -3 ∧ n11 = σ 0 11) ∨ (¬ (1 ≤ x1.toInt ∧ x1.toInt ≤ 50 ∧ 0 ≤ x2.toInt ∧ x2.toInt ≤ 1000 ∧ x2.toInt ≤ x3.toInt ∧ x3.toInt ≤ 1000 ∧ 0 ≤ x4.toInt ∧ x4.toInt ≤ 99 ∧ 0 ≤ x5.toInt ∧ x5.toInt ≤ 15) ∧ ((-1) : Int32).toInt = -1 ∧ n11 = σ 0 11)) := by refine ⟨(σ 0 11), (σ 4), (σ 5), (σ 6), (σ 7), (σ 8), (σ 9), heq9, ?_⟩; first | exact Or.inr (Or.inr ⟨by omega, by decide, rfl⟩) | exact Or.inr (Or.inl ⟨by omega, by omega, by decide, rfl⟩)
        exact W.iret (v := (-1)) hx hb hr (fun t9 ht hW => ⟨⟨(-1), σ, rfl, hpost, by rw [ht]; exact hP, va_K.moved hW.alike hK, hD⟩, hS.F ht⟩) hS.2.2 dX9_thing_64
      · skip
        have ic34 := zneq (a := v31.toInt) (b := 0) rfl (by decide) c34
        replace hv31 := (hv31.resolve_right (fun q => by omega)).2
        refine lv_iload hx hb dX9_thing_37 (lv_at hl 4 rfl) ?_
        refine lv_i2l hx hb dX9_thing_39 rfl ?_
        refine lv_topl (fun v39 ev39 => ?_)
        have tv39 : v39.toInt = x4.toInt := by rw [ev39]; exact zi2l rfl
        refine lv_lconst (v := 0) hx hb dX9_thing_40 (by decide) ?_
        refine lv_ldc2 hx hb hown kq153 dX9_thing_41 ?_
        refine zcalli (va_runS (As := [.long v39, .long 0, .long 99]) (rest := []) ⟨hx, hb, hml, hown, hts⟩ (c_X9_in l dC dI cI a N hok σ H.size (v39) (0) (99) ) (va_cwS 3 hts gX9_thing_X9_in rfl rfl rfl (by decide +kernel) ⟨Nat.le_of_ble_eq_true rfl, Nat.le_of_ble_eq_true rfl⟩) (zpreS (wf := wM a cI) hok hN hS hA hK hP hD) rfl rfl hl.1 rfl (lv_room (Nat.le_of_ble_eq_true rfl)) dX9_thing_44 ⟨Nat.zero_le _, Nat.zero_le _⟩) hD hS hA (fun v44 σ1 H locs hv44 hP hD hS => ?_)
        obtain ⟨es9, hv44⟩ := hv44
        subst σ1
        try simp only [show (0 : Int64).toInt = 0 from by decide, show (99 : Int64).toInt = 99 from by decide] at hv44
        refine lv_if_eq (tgt := 63) hx hb dX9_thing_47 (by decide) (fun c47 => ?_) (fun c47 => ?_)
        · skip
          have ic47 := zeq (a := v44.toInt) (b := 0) rfl (by decide) c47
          replace hv44 := (hv44.resolve_left (fun q => by omega)).2
          refine lv_iconst (v := (-1)) hx hb dX9_thing_63 (by decide) ?_
          have heq9 : σ = (upC (upC (upC (upC (upC (upC (upC σ 0 (upd (σ 0) 11 (σ 0 11))) 4 (σ 4)) 5 (σ 5)) 6 (σ 6)) 7 (σ 7)) 8 (σ 8)) 9 (σ 9)) := by
            funext k
            by_cases e0 : k = 0
            · subst e0
              funext i
              by_cases f11 : i = 11
              · subst f11; rfl
              show (σ 0) i = (upd (σ 0) 11 (σ 0 11)) i
              simp only [upd, if_neg f11]
            by_cases e4 : k = 4
            · subst e4; rfl
            by_cases e5 : k = 5
            · subst e5; rfl
            by_cases e6 : k = 6
            · subst e6; rfl
            by_cases e7 : k = 7
            · subst e7; rfl
            by_cases e8 : k = 8
            · subst e8; rfl
            by_cases e9 : k = 9
            · subst e9; rfl
            simp only [upC, if_neg e0, if_neg e4, if_neg e5, if_neg e6, if_neg e7, if_neg e8, if_neg e9]
          have hpost : ∃ n11 : Int32, ∃ u4 : Nat → Int32, ∃ u5 : Nat → Int32, ∃ u6 : Nat → Int32, ∃ u7 : Nat → Int32, ∃ u8 : Nat → Int32, ∃ u9 : Nat → Int32, σ = (upC (upC (upC (upC (upC (upC (upC σ 0 (upd (σ 0) 11 n11)) 4 u4) 5 u5) 6 u6) 7 u7) 8 u8) 9 u9) ∧ (((1 ≤ x1.toInt ∧ x1.toInt ≤ 50 ∧ 0 ≤ x2.toInt ∧ x2.toInt ≤ 1000 ∧ x2.toInt ≤ x3.toInt ∧ x3.toInt ≤ 1000 ∧ 0 ≤ x4.toInt ∧ x4.toInt ≤ 99 ∧ 0 ≤ x5.toInt ∧ x5.toInt ≤ 15) ∧ (σ 0 11).toInt < 10 ∧ ((-1) : Int32).toInt = (σ 0 11).toInt ∧ n11.toInt = (σ 0 11).toInt + 1) ∨ ((1 ≤ x1.toInt ∧ x1.toInt ≤ 50 ∧ 0 ≤ x2.toInt ∧ x2.toInt ≤ 1000 ∧ x2.toInt ≤ x3.toInt ∧ x3.toInt ≤ 1000 ∧ 0 ≤ x4.toInt ∧ x4.toInt ≤ 99 ∧ 0 ≤ x5.toInt ∧ x5.toInt ≤ 15) ∧ (σ 0 11).toInt = 10 ∧ ((-1) : Int32).toInt = -3 ∧ n11 = σ 0 11) ∨ (¬ (1 ≤ x1.toInt ∧ x1.toInt ≤ 50 ∧ 0 ≤ x2.toInt ∧ x2.toInt ≤ 1000 ∧ x2.toInt ≤ x3.toInt ∧ x3.toInt ≤ 1000 ∧ 0 ≤ x4.toInt ∧ x4.toInt ≤ 99 ∧ 0 ≤ x5.toInt ∧ x5.toInt ≤ 15) ∧ ((-1) : Int32).toInt = -1 ∧ n11 = σ 0 11)) := by refine ⟨(σ 0 11), (σ 4), (σ 5), (σ 6), (σ 7), (σ 8), (σ 9), heq9, ?_⟩; first | exact Or.inr (Or.inr ⟨by omega, by decide, rfl⟩) | exact Or.inr (Or.inl ⟨by omega, by omega, by decide, rfl⟩)
          exact W.iret (v := (-1)) hx hb hr (fun t9 ht hW => ⟨⟨(-1), σ, rfl, hpost, by rw [ht]; exact hP, va_K.moved hW.alike hK, hD⟩, hS.F ht⟩) hS.2.2 dX9_thing_64
        · skip
          have ic47 := zneq (a := v44.toInt) (b := 0) rfl (by decide) c47
          replace hv44 := (hv44.resolve_right (fun q => by omega)).2
          refine lv_iload hx hb dX9_thing_50 (lv_at hl 5 rfl) ?_
          refine lv_i2l hx hb dX9_thing_52 rfl ?_
          refine lv_topl (fun v52 ev52 => ?_)
          have tv52 : v52.toInt = x5.toInt := by rw [ev52]; exact zi2l rfl
          refine lv_lconst (v := 0) hx hb dX9_thing_53 (by decide) ?_
          refine lv_ldc2 hx hb hown kq155 dX9_thing_54 ?_
          refine zcalli (va_runS (As := [.long v52, .long 0, .long 15]) (rest := []) ⟨hx, hb, hml, hown, hts⟩ (c_X9_in l dC dI cI a N hok σ H.size (v52) (0) (15) ) (va_cwS 3 hts gX9_thing_X9_in rfl rfl rfl (by decide +kernel) ⟨Nat.le_of_ble_eq_true rfl, Nat.le_of_ble_eq_true rfl⟩) (zpreS (wf := wM a cI) hok hN hS hA hK hP hD) rfl rfl hl.1 rfl (lv_room (Nat.le_of_ble_eq_true rfl)) dX9_thing_57 ⟨Nat.zero_le _, Nat.zero_le _⟩) hD hS hA (fun v57 σ1 H locs hv57 hP hD hS => ?_)
          obtain ⟨es9, hv57⟩ := hv57
          subst σ1
          try simp only [show (0 : Int64).toInt = 0 from by decide, show (15 : Int64).toInt = 15 from by decide] at hv57
          refine lv_if_ne (tgt := 65) hx hb dX9_thing_60 (by decide) (fun c60 => ?_) (fun c60 => ?_)
          · skip
            have ic60 := zneq (a := v57.toInt) (b := 0) rfl (by decide) c60
            replace hv57 := (hv57.resolve_right (fun q => by omega)).2
            refine lv_aload_n hx hb dX9_thing_65 rfl (lv_at hl 0 rfl) ?_
            refine va_get (D := (dC, dI)) (ci := 9) (v := .int (σ 0 11)) (C := RX9) (T := TX9) (N := 28) hx hb hts in9 hown hK hP 0 rfl rfl 11 (by decide) k146 (fun _ h9 => h9) rfl dX9_thing_66 ?_
            refine lv_bipush (v := 10) hx hb dX9_thing_69 (by decide) ?_
            refine lv_icmp_ne (tgt := 77) hx hb dX9_thing_71 (by decide) (fun c71 => ?_) (fun c71 => ?_)
            · skip
              have ic71 := zneq (a := (σ 0 11).toInt) (b := 10) rfl (by decide) c71
              refine lv_aload_n hx hb dX9_thing_77 rfl (lv_at hl 0 rfl) ?_
              refine va_get (D := (dC, dI)) (ci := 9) (v := .ref (a 4)) (C := RX9) (T := TX9) (N := 28) hx hb hts in9 hown hK hP 0 rfl rfl 12 (by decide) k19 (fun _ h9 => h9) rfl dX9_thing_78 ?_
              refine lv_aload_n hx hb dX9_thing_81 rfl (lv_at hl 0 rfl) ?_
              refine va_get (D := (dC, dI)) (ci := 9) (v := .int (σ 0 11)) (C := RX9) (T := TX9) (N := 28) hx hb hts in9 hown hK hP 0 rfl rfl 11 (by decide) k146 (fun _ h9 => h9) rfl dX9_thing_82 ?_
              refine lv_iload_n hx hb dX9_thing_85 rfl (lv_at hl 1 rfl) ?_
              refine va_iast (D := (dC, dI)) (f := σ 4) hx hb hK hP hD hS 4 0 rfl rfl (i := σ 0 11) (n := 10) (zin (by omega) (by omega)) dX9_thing_86 (fun H locs hP hD hS => ?_)
              have hP : va_P (dC, dI) vwCl (wM a cI (upC σ 4 (upd (σ 4) (σ 0 11 : Int32).toNatClampNeg x1))) H := hP
              have hD : va_D A (wM a cI (upC σ 4 (upd (σ 4) (σ 0 11 : Int32).toNatClampNeg x1))) := hD
              refine lv_aload_n hx hb dX9_thing_87 rfl (lv_at hl 0 rfl) ?_
              refine va_get (D := (dC, dI)) (ci := 9) (v := .ref (a 5)) (C := RX9) (T := TX9) (N := 28) hx hb hts in9 hown hK hP 0 rfl rfl 13 (by decide) k22 (fun _ h9 => h9) rfl dX9_thing_88 ?_
              refine lv_aload_n hx hb dX9_thing_91 rfl (lv_at hl 0 rfl) ?_
              refine va_get (D := (dC, dI)) (ci := 9) (v := .int (σ 0 11)) (C := RX9) (T := TX9) (N := 28) hx hb hts in9 hown hK hP 0 rfl rfl 11 (by decide) k146 (fun _ h9 => h9) rfl dX9_thing_92 ?_
              refine lv_iload_n hx hb dX9_thing_95 rfl (lv_at hl 2 rfl) ?_
              refine va_iast (D := (dC, dI)) (f := σ 5) hx hb hK hP hD hS 5 0 rfl rfl (i := σ 0 11) (n := 10) (zin (by omega) (by omega)) dX9_thing_96 (fun H locs hP hD hS => ?_)
              have hP : va_P (dC, dI) vwCl (wM a cI (upC (upC σ 4 (upd (σ 4) (σ 0 11 : Int32).toNatClampNeg x1)) 5 (upd (σ 5) (σ 0 11 : Int32).toNatClampNeg x2))) H := hP
              have hD : va_D A (wM a cI (upC (upC σ 4 (upd (σ 4) (σ 0 11 : Int32).toNatClampNeg x1)) 5 (upd (σ 5) (σ 0 11 : Int32).toNatClampNeg x2))) := hD
              refine lv_aload_n hx hb dX9_thing_97 rfl (lv_at hl 0 rfl) ?_
              refine va_get (D := (dC, dI)) (ci := 9) (v := .ref (a 6)) (C := RX9) (T := TX9) (N := 28) hx hb hts in9 hown hK hP 0 rfl rfl 14 (by decide) k25 (fun _ h9 => h9) rfl dX9_thing_98 ?_
              refine lv_aload_n hx hb dX9_thing_101 rfl (lv_at hl 0 rfl) ?_
              refine va_get (D := (dC, dI)) (ci := 9) (v := .int (σ 0 11)) (C := RX9) (T := TX9) (N := 28) hx hb hts in9 hown hK hP 0 rfl rfl 11 (by decide) k146 (fun _ h9 => h9) rfl dX9_thing_102 ?_
              refine lv_iload_n hx hb dX9_thing_105 rfl (lv_at hl 3 rfl) ?_
              refine va_iast (D := (dC, dI)) (f := σ 6) hx hb hK hP hD hS 6 0 rfl rfl (i := σ 0 11) (n := 10) (zin (by omega) (by omega)) dX9_thing_106 (fun H locs hP hD hS => ?_)
              have hP : va_P (dC, dI) vwCl (wM a cI (upC (upC (upC σ 4 (upd (σ 4) (σ 0 11 : Int32).toNatClampNeg x1)) 5 (upd (σ 5) (σ 0 11 : Int32).toNatClampNeg x2)) 6 (upd (σ 6) (σ 0 11 : Int32).toNatClampNeg x3))) H := hP
              have hD : va_D A (wM a cI (upC (upC (upC σ 4 (upd (σ 4) (σ 0 11 : Int32).toNatClampNeg x1)) 5 (upd (σ 5) (σ 0 11 : Int32).toNatClampNeg x2)) 6 (upd (σ 6) (σ 0 11 : Int32).toNatClampNeg x3))) := hD
              refine lv_aload_n hx hb dX9_thing_107 rfl (lv_at hl 0 rfl) ?_
              refine va_get (D := (dC, dI)) (ci := 9) (v := .ref (a 7)) (C := RX9) (T := TX9) (N := 28) hx hb hts in9 hown hK hP 0 rfl rfl 15 (by decide) k28 (fun _ h9 => h9) rfl dX9_thing_108 ?_
              refine lv_aload_n hx hb dX9_thing_111 rfl (lv_at hl 0 rfl) ?_
              refine va_get (D := (dC, dI)) (ci := 9) (v := .int (σ 0 11)) (C := RX9) (T := TX9) (N := 28) hx hb hts in9 hown hK hP 0 rfl rfl 11 (by decide) k146 (fun _ h9 => h9) rfl dX9_thing_112 ?_
              refine lv_iload hx hb dX9_thing_115 (lv_at hl 4 rfl) ?_
              refine va_iast (D := (dC, dI)) (f := σ 7) hx hb hK hP hD hS 7 0 rfl rfl (i := σ 0 11) (n := 10) (zin (by omega) (by omega)) dX9_thing_117 (fun H locs hP hD hS => ?_)
              have hP : va_P (dC, dI) vwCl (wM a cI (upC (upC (upC (upC σ 4 (upd (σ 4) (σ 0 11 : Int32).toNatClampNeg x1)) 5 (upd (σ 5) (σ 0 11 : Int32).toNatClampNeg x2)) 6 (upd (σ 6) (σ 0 11 : Int32).toNatClampNeg x3)) 7 (upd (σ 7) (σ 0 11 : Int32).toNatClampNeg x4))) H := hP
              have hD : va_D A (wM a cI (upC (upC (upC (upC σ 4 (upd (σ 4) (σ 0 11 : Int32).toNatClampNeg x1)) 5 (upd (σ 5) (σ 0 11 : Int32).toNatClampNeg x2)) 6 (upd (σ 6) (σ 0 11 : Int32).toNatClampNeg x3)) 7 (upd (σ 7) (σ 0 11 : Int32).toNatClampNeg x4))) := hD
              refine lv_aload_n hx hb dX9_thing_118 rfl (lv_at hl 0 rfl) ?_
              refine va_get (D := (dC, dI)) (ci := 9) (v := .ref (a 8)) (C := RX9) (T := TX9) (N := 28) hx hb hts in9 hown hK hP 0 rfl rfl 16 (by decide) k31 (fun _ h9 => h9) rfl dX9_thing_119 ?_
              refine lv_aload_n hx hb dX9_thing_122 rfl (lv_at hl 0 rfl) ?_
              refine va_get (D := (dC, dI)) (ci := 9) (v := .int (σ 0 11)) (C := RX9) (T := TX9) (N := 28) hx hb hts in9 hown hK hP 0 rfl rfl 11 (by decide) k146 (fun _ h9 => h9) rfl dX9_thing_123 ?_
              refine lv_iload hx hb dX9_thing_126 (lv_at hl 5 rfl) ?_
              refine va_iast (D := (dC, dI)) (f := σ 8) hx hb hK hP hD hS 8 0 rfl rfl (i := σ 0 11) (n := 10) (zin (by omega) (by omega)) dX9_thing_128 (fun H locs hP hD hS => ?_)
              have hP : va_P (dC, dI) vwCl (wM a cI (upC (upC (upC (upC (upC σ 4 (upd (σ 4) (σ 0 11 : Int32).toNatClampNeg x1)) 5 (upd (σ 5) (σ 0 11 : Int32).toNatClampNeg x2)) 6 (upd (σ 6) (σ 0 11 : Int32).toNatClampNeg x3)) 7 (upd (σ 7) (σ 0 11 : Int32).toNatClampNeg x4)) 8 (upd (σ 8) (σ 0 11 : Int32).toNatClampNeg x5))) H := hP
              have hD : va_D A (wM a cI (upC (upC (upC (upC (upC σ 4 (upd (σ 4) (σ 0 11 : Int32).toNatClampNeg x1)) 5 (upd (σ 5) (σ 0 11 : Int32).toNatClampNeg x2)) 6 (upd (σ 6) (σ 0 11 : Int32).toNatClampNeg x3)) 7 (upd (σ 7) (σ 0 11 : Int32).toNatClampNeg x4)) 8 (upd (σ 8) (σ 0 11 : Int32).toNatClampNeg x5))) := hD
              refine lv_iconst (v := 0) hx hb dX9_thing_129 (by decide) ?_
              refine lv_istore (lv' := [(6, .int 0), (0, .ref (a 0)), (1, .int x1), (2, .int x2), (3, .int x3), (4, .int x4), (5, .int x5)]) hx hb dX9_thing_130 hl (by decide) rfl (fun ls hl => ?_)
              exact (LP _) (0) (upd (σ 4) (σ 0 11 : Int32).toNatClampNeg x1) (upd (σ 5) (σ 0 11 : Int32).toNatClampNeg x2) (upd (σ 6) (σ 0 11 : Int32).toNatClampNeg x3) (upd (σ 7) (σ 0 11 : Int32).toNatClampNeg x4) (upd (σ 8) (σ 0 11 : Int32).toNatClampNeg x5) (σ 9) H locs ls (by decide) (by omega) (by omega) (Nat.lt_succ_self _) hP hD hS (lv_sub hl [1, 2, 3, 4, 5, 6, 0] rfl)
            · skip
              have ic71 := zeq (a := (σ 0 11).toInt) (b := 10) rfl (by decide) c71
              refine lv_bipush (v := (-3)) hx hb dX9_thing_74 (by decide) ?_
              have heq9 : σ = (upC (upC (upC (upC (upC (upC (upC σ 0 (upd (σ 0) 11 (σ 0 11))) 4 (σ 4)) 5 (σ 5)) 6 (σ 6)) 7 (σ 7)) 8 (σ 8)) 9 (σ 9)) := by
                funext k
                by_cases e0 : k = 0
                · subst e0
                  funext i
                  by_cases f11 : i = 11
                  · subst f11; rfl
                  show (σ 0) i = (upd (σ 0) 11 (σ 0 11)) i
                  simp only [upd, if_neg f11]
                by_cases e4 : k = 4
                · subst e4; rfl
                by_cases e5 : k = 5
                · subst e5; rfl
                by_cases e6 : k = 6
                · subst e6; rfl
                by_cases e7 : k = 7
                · subst e7; rfl
                by_cases e8 : k = 8
                · subst e8; rfl
                by_cases e9 : k = 9
                · subst e9; rfl
                simp only [upC, if_neg e0, if_neg e4, if_neg e5, if_neg e6, if_neg e7, if_neg e8, if_neg e9]
              have hpost : ∃ n11 : Int32, ∃ u4 : Nat → Int32, ∃ u5 : Nat → Int32, ∃ u6 : Nat → Int32, ∃ u7 : Nat → Int32, ∃ u8 : Nat → Int32, ∃ u9 : Nat → Int32, σ = (upC (upC (upC (upC (upC (upC (upC σ 0 (upd (σ 0) 11 n11)) 4 u4) 5 u5) 6 u6) 7 u7) 8 u8) 9 u9) ∧ (((1 ≤ x1.toInt ∧ x1.toInt ≤ 50 ∧ 0 ≤ x2.toInt ∧ x2.toInt ≤ 1000 ∧ x2.toInt ≤ x3.toInt ∧ x3.toInt ≤ 1000 ∧ 0 ≤ x4.toInt ∧ x4.toInt ≤ 99 ∧ 0 ≤ x5.toInt ∧ x5.toInt ≤ 15) ∧ (σ 0 11).toInt < 10 ∧ ((-3) : Int32).toInt = (σ 0 11).toInt ∧ n11.toInt = (σ 0 11).toInt + 1) ∨ ((1 ≤ x1.toInt ∧ x1.toInt ≤ 50 ∧ 0 ≤ x2.toInt ∧ x2.toInt ≤ 1000 ∧ x2.toInt ≤ x3.toInt ∧ x3.toInt ≤ 1000 ∧ 0 ≤ x4.toInt ∧ x4.toInt ≤ 99 ∧ 0 ≤ x5.toInt ∧ x5.toInt ≤ 15) ∧ (σ 0 11).toInt = 10 ∧ ((-3) : Int32).toInt = -3 ∧ n11 = σ 0 11) ∨ (¬ (1 ≤ x1.toInt ∧ x1.toInt ≤ 50 ∧ 0 ≤ x2.toInt ∧ x2.toInt ≤ 1000 ∧ x2.toInt ≤ x3.toInt ∧ x3.toInt ≤ 1000 ∧ 0 ≤ x4.toInt ∧ x4.toInt ≤ 99 ∧ 0 ≤ x5.toInt ∧ x5.toInt ≤ 15) ∧ ((-3) : Int32).toInt = -1 ∧ n11 = σ 0 11)) := by refine ⟨(σ 0 11), (σ 4), (σ 5), (σ 6), (σ 7), (σ 8), (σ 9), heq9, ?_⟩; first | exact Or.inr (Or.inr ⟨by omega, by decide, rfl⟩) | exact Or.inr (Or.inl ⟨by omega, by omega, by decide, rfl⟩)
              exact W.iret (v := (-3)) hx hb hr (fun t9 ht hW => ⟨⟨(-3), σ, rfl, hpost, by rw [ht]; exact hP, va_K.moved hW.alike hK, hD⟩, hS.F ht⟩) hS.2.2 dX9_thing_76
          · skip
            have ic60 := zeq (a := v57.toInt) (b := 0) rfl (by decide) c60
            replace hv57 := (hv57.resolve_left (fun q => by omega)).2
            refine lv_iconst (v := (-1)) hx hb dX9_thing_63 (by decide) ?_
            have heq9 : σ = (upC (upC (upC (upC (upC (upC (upC σ 0 (upd (σ 0) 11 (σ 0 11))) 4 (σ 4)) 5 (σ 5)) 6 (σ 6)) 7 (σ 7)) 8 (σ 8)) 9 (σ 9)) := by
              funext k
              by_cases e0 : k = 0
              · subst e0
                funext i
                by_cases f11 : i = 11
                · subst f11; rfl
                show (σ 0) i = (upd (σ 0) 11 (σ 0 11)) i
                simp only [upd, if_neg f11]
              by_cases e4 : k = 4
              · subst e4; rfl
              by_cases e5 : k = 5
              · subst e5; rfl
              by_cases e6 : k = 6
              · subst e6; rfl
              by_cases e7 : k = 7
              · subst e7; rfl
              by_cases e8 : k = 8
              · subst e8; rfl
              by_cases e9 : k = 9
              · subst e9; rfl
              simp only [upC, if_neg e0, if_neg e4, if_neg e5, if_neg e6, if_neg e7, if_neg e8, if_neg e9]
            have hpost : ∃ n11 : Int32, ∃ u4 : Nat → Int32, ∃ u5 : Nat → Int32, ∃ u6 : Nat → Int32, ∃ u7 : Nat → Int32, ∃ u8 : Nat → Int32, ∃ u9 : Nat → Int32, σ = (upC (upC (upC (upC (upC (upC (upC σ 0 (upd (σ 0) 11 n11)) 4 u4) 5 u5) 6 u6) 7 u7) 8 u8) 9 u9) ∧ (((1 ≤ x1.toInt ∧ x1.toInt ≤ 50 ∧ 0 ≤ x2.toInt ∧ x2.toInt ≤ 1000 ∧ x2.toInt ≤ x3.toInt ∧ x3.toInt ≤ 1000 ∧ 0 ≤ x4.toInt ∧ x4.toInt ≤ 99 ∧ 0 ≤ x5.toInt ∧ x5.toInt ≤ 15) ∧ (σ 0 11).toInt < 10 ∧ ((-1) : Int32).toInt = (σ 0 11).toInt ∧ n11.toInt = (σ 0 11).toInt + 1) ∨ ((1 ≤ x1.toInt ∧ x1.toInt ≤ 50 ∧ 0 ≤ x2.toInt ∧ x2.toInt ≤ 1000 ∧ x2.toInt ≤ x3.toInt ∧ x3.toInt ≤ 1000 ∧ 0 ≤ x4.toInt ∧ x4.toInt ≤ 99 ∧ 0 ≤ x5.toInt ∧ x5.toInt ≤ 15) ∧ (σ 0 11).toInt = 10 ∧ ((-1) : Int32).toInt = -3 ∧ n11 = σ 0 11) ∨ (¬ (1 ≤ x1.toInt ∧ x1.toInt ≤ 50 ∧ 0 ≤ x2.toInt ∧ x2.toInt ≤ 1000 ∧ x2.toInt ≤ x3.toInt ∧ x3.toInt ≤ 1000 ∧ 0 ≤ x4.toInt ∧ x4.toInt ≤ 99 ∧ 0 ≤ x5.toInt ∧ x5.toInt ≤ 15) ∧ ((-1) : Int32).toInt = -1 ∧ n11 = σ 0 11)) := by refine ⟨(σ 0 11), (σ 4), (σ 5), (σ 6), (σ 7), (σ 8), (σ 9), heq9, ?_⟩; first | exact Or.inr (Or.inr ⟨by omega, by decide, rfl⟩) | exact Or.inr (Or.inl ⟨by omega, by omega, by decide, rfl⟩)
            exact W.iret (v := (-1)) hx hb hr (fun t9 ht hW => ⟨⟨(-1), σ, rfl, hpost, by rw [ht]; exact hP, va_K.moved hW.alike hK, hD⟩, hS.F ht⟩) hS.2.2 dX9_thing_64

