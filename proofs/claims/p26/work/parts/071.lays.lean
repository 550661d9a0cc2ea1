abbrev RM_X9_lays : Room := { frames := 1, cells := 0, slots := 0, locals := 21 }
set_option maxHeartbeats 4000000 in
set_option maxRecDepth 100000 in
theorem c_X9_lays (l : Launch) (dC : Nat → ClassId) (dI : Nat → Nat → Nat) (cI : ClassId) (a : Nat → Nat) (N : (Nat → Prop) → State → Prop) (hok : zNok N) (σ : Cn) (sz : Nat) (x1 : Int32) (hw : 0 ≤ (σ 0 21).toInt ∧ (σ 0 21).toInt ≤ 10) (hv : ∀ j : Nat, (j : Int) < (σ 0 21).toInt → 0 ≤ (σ 12 j).toInt ∧ (σ 12 j).toInt < 10) : Met l yX9_lays wsX9_lays RM_X9_lays (zPc (dC, dI) [(cI, .int)] N (wM a cI) σ sz [.ref (a 0), .int x1]) (zQi (dC, dI) [(cI, .int)] (wM a cI) (va_A (wM a cI σ) sz) (fun (r : Int32) (σ1 : Cn) => ∃ u13 : Nat → Int32, ∃ u14 : Nat → Int32, σ1 = (upC (upC σ 13 u13) 14 u14) ∧ ((r : Int32).toInt = 1 ∨ (r : Int32).toInt = 0) ∧ (((σ 0 21).toInt ≤ x1.toInt ∧ ∀ i : Nat, (i : Int) < (σ 0 21).toInt → (σ 4 (σ 12 i).toNatClampNeg).toInt ≤ (mLaw (σ 2) 3).toInt) → (r : Int32).toInt = 1))) 0 0 (va_A (wM a cI σ) sz) := by
  refine Met.ofW (cc := cX9_lays) (maxL := 7) (ret := (some .boolean)) (by decide) rfl ?_
  intro p e s m args below meth c s₁ B hml hv
  obtain ⟨rfl, hsz, hP, hK, hD0, hN⟩ := hv
  have hx := B.exec
  have hb := B.bytes
  have hr := B.returns
  have hts := atoms_spec (ws := wsX9_lays) B.pre
  have hown : s.vm.findClass RX9 = some m.cls := findClass_of_methodNamed B.named
  have hlocks := B.notSynchronized
  subst hsz
  have hD := hD0.self (sz := s.heap.size)
  generalize hAe : va_A (wM a cI σ) s.heap.size = A at hD hN ⊢
  have hA : ∀ q : Nat, s.heap.size ≤ q → A q := fun q h => by rw [← hAe]; exact Or.inr h
  clear hAe hD0
  have hS : va_S A s.heap s.heap [] := va_S.rf
  have in9 : ∀ w ∈ u_ws RX9 TX9 28, w ∈ wsX9_lays := by decide +kernel
  have k19 := hts (.fieldLink RX9 19 "HouseSortedModel" "weights" "[I") (by decide +kernel)
  have k225 := hts (.fieldLink RX9 225 "HouseSortedModel" "goods" "I") (by decide +kernel)
  have k43 := hts (.fieldLink RX9 43 "HouseSortedModel" "good" "[I") (by decide +kernel)
  have k46 := hts (.fieldLink RX9 46 "HouseSortedModel" "placed" "[I") (by decide +kernel)
  have k49 := hts (.fieldLink RX9 49 "HouseSortedModel" "full" "[I") (by decide +kernel)
  have LP : ∀ n : Nat, (∀ (va : Int32) (j : Int32) (w14 : Nat → Int32) (H : Heap) (locs : List Loc) (ls : Array Slot), 0 ≤ j.toInt ∧ j.toInt ≤ 11 → va = mLaw (σ 2) 3 → (∀ q : Nat, (q : Int) < j.toInt → (w14 q).toInt = 0) → (12 ^ 11 * 1000 + 1000 + (11 - j.toInt).toNat) < n → va_P (dC, dI) vwCl (wM a cI (upC σ 14 w14)) H → va_D A (wM a cI (upC σ 14 w14)) → va_S A s.heap H locs → lv_has ls 7 [(0, .ref (a 0)), (1, .int x1), (2, .int va), (3, .int j)] → W p l e (headSpec wsX9_lays RM_X9_lays).room s m ([.ref (a 0), .int x1] : List Value).toArray below meth c H locs 0 0 (MQ below (zQi (dC, dI) [(cI, .int)] (wM a cI) A (fun (r : Int32) (σ1 : Cn) => ∃ u13 : Nat → Int32, ∃ u14 : Nat → Int32, σ1 = (upC (upC σ 13 u13) 14 u14) ∧ ((r : Int32).toInt = 1 ∨ (r : Int32).toInt = 0) ∧ (((σ 0 21).toInt ≤ x1.toInt ∧ ∀ i : Nat, (i : Int) < (σ 0 21).toInt → (σ 4 (σ 12 i).toNatClampNeg).toInt ≤ (mLaw (σ 2) 3).toInt) → (r : Int32).toInt = 1))) ([.ref (a 0), .int x1] : List Value).toArray s 0 0 A) (F0 m 8 ls [])) ∧ (∀ (va : Int32) (j : Int32) (t : Int32) (w13 : Nat → Int32) (w14 : Nat → Int32) (H : Heap) (locs : List Loc) (ls : Array Slot), -1 ≤ j.toInt ∧ j.toInt ≤ (σ 0 21).toInt → 0 ≤ t.toInt ∧ t.toInt ≤ 11 ∧ (0 ≤ j.toInt → t.toInt ≤ j.toInt + 1) → va = mLaw (σ 2) 3 → (∀ i : Nat, (i : Int) < j.toInt → 0 ≤ (w13 i).toInt ∧ (w13 i).toInt ≤ i) → (((σ 0 21).toInt ≤ x1.toInt ∧ ∀ i : Nat, (i : Int) < (σ 0 21).toInt → (σ 4 (σ 12 i).toNatClampNeg).toInt ≤ va.toInt) → 0 ≤ j.toInt ∧ t.toInt = 0 ∧ (∀ q : Nat, q ≤ 10 → (∀ i : Nat, (i : Int) < j.toInt → (w13 i).toInt < q) → (w14 q).toInt = 0)) → (if j.toInt < 0 then 0 else zM w13 j.toInt.toNat t.toInt.toNat * 1000 + (10 - j.toInt.toNat) * 50 + 40) < n → va_P (dC, dI) vwCl (wM a cI (upC (upC σ 13 w13) 14 w14)) H → va_D A (wM a cI (upC (upC σ 13 w13) 14 w14)) → va_S A s.heap H locs → lv_has ls 7 [(0, .ref (a 0)), (1, .int x1), (2, .int va), (3, .int j), (4, .int t)] → W p l e (headSpec wsX9_lays RM_X9_lays).room s m ([.ref (a 0), .int x1] : List Value).toArray below meth c H locs 0 0 (MQ below (zQi (dC, dI) [(cI, .int)] (wM a cI) A (fun (r : Int32) (σ1 : Cn) => ∃ u13 : Nat → Int32, ∃ u14 : Nat → Int32, σ1 = (upC (upC σ 13 u13) 14 u14) ∧ ((r : Int32).toInt = 1 ∨ (r : Int32).toInt = 0) ∧ (((σ 0 21).toInt ≤ x1.toInt ∧ ∀ i : Nat, (i : Int) < (σ 0 21).toInt → (σ 4 (σ 12 i).toNatClampNeg).toInt ≤ (mLaw (σ 2) 3).toInt) → (r : Int32).toInt = 1))) ([.ref (a 0), .int x1] : List Value).toArray s 0 0 A) (F0 m 32 ls [])) ∧ (∀ (va : Int32) (j : Int32) (t : Int32) (u : Int32) (k : Int32) (w13 : Nat → Int32) (w14 : Nat → Int32) (H : Heap) (locs : List Loc) (ls : Array Slot), 0 ≤ j.toInt ∧ j.toInt < (σ 0 21).toInt → 0 ≤ t.toInt ∧ t.toInt ≤ j.toInt + 1 → va = mLaw (σ 2) 3 → (∀ i : Nat, (i : Int) < j.toInt → 0 ≤ (w13 i).toInt ∧ (w13 i).toInt ≤ i) → (((σ 0 21).toInt ≤ x1.toInt ∧ ∀ i : Nat, (i : Int) < (σ 0 21).toInt → (σ 4 (σ 12 i).toNatClampNeg).toInt ≤ va.toInt) → t.toInt = 0 ∧ (∀ q : Nat, q ≤ 10 → (∀ i : Nat, (i : Int) < j.toInt → (w13 i).toInt < q) → (w14 q).toInt = 0)) → 0 ≤ k.toInt ∧ k.toInt ≤ j.toInt ∧ 0 ≤ u.toInt ∧ u.toInt ≤ k.toInt → (∀ i : Nat, (i : Int) < k.toInt → (w13 i).toInt < u.toInt) → (zM w13 j.toInt.toNat t.toInt.toNat * 1000 + (10 - j.toInt.toNat) * 50 + 20 + (10 - k.toInt).toNat) < n → va_P (dC, dI) vwCl (wM a cI (upC (upC σ 13 w13) 14 w14)) H → va_D A (wM a cI (upC (upC σ 13 w13) 14 w14)) → va_S A s.heap H locs → lv_has ls 7 [(0, .ref (a 0)), (1, .int x1), (2, .int va), (3, .int j), (4, .int t), (5, .int u), (6, .int k)] → W p l e (headSpec wsX9_lays RM_X9_lays).room s m ([.ref (a 0), .int x1] : List Value).toArray below meth c H locs 0 0 (MQ below (zQi (dC, dI) [(cI, .int)] (wM a cI) A (fun (r : Int32) (σ1 : Cn) => ∃ u13 : Nat → Int32, ∃ u14 : Nat → Int32, σ1 = (upC (upC σ 13 u13) 14 u14) ∧ ((r : Int32).toInt = 1 ∨ (r : Int32).toInt = 0) ∧ (((σ 0 21).toInt ≤ x1.toInt ∧ ∀ i : Nat, (i : Int) < (σ 0 21).toInt → (σ 4 (σ 12 i).toNatClampNeg).toInt ≤ (mLaw (σ 2) 3).toInt) → (r : Int32).toInt = 1))) ([.ref (a 0), .int x1] : List Value).toArray s 0 0 A) (F0 m 50 ls [])) ∧ (∀ (va : Int32) (j : Int32) (t : Int32) (u : Int32) (w13 : Nat → Int32) (w14 : Nat → Int32) (H : Heap) (locs : List Loc) (ls : Array Slot), 0 ≤ j.toInt ∧ j.toInt < (σ 0 21).toInt → 0 ≤ t.toInt ∧ t.toInt ≤ 11 → va = mLaw (σ 2) 3 → (∀ i : Nat, (i : Int) < j.toInt → 0 ≤ (w13 i).toInt ∧ (w13 i).toInt ≤ i) → (((σ 0 21).toInt ≤ x1.toInt ∧ ∀ i : Nat, (i : Int) < (σ 0 21).toInt → (σ 4 (σ 12 i).toNatClampNeg).toInt ≤ va.toInt) → t.toInt ≤ u.toInt ∧ (∀ q : Nat, q ≤ 10 → (∀ i : Nat, (i : Int) < j.toInt → (w13 i).toInt < q) → (w14 q).toInt = 0)) → 0 ≤ u.toInt ∧ u.toInt ≤ j.toInt → (∀ i : Nat, (i : Int) < j.toInt → (w13 i).toInt < u.toInt) → (zM w13 j.toInt.toNat t.toInt.toNat * 1000 + (10 - j.toInt.toNat) * 50 + (12 - t.toInt).toNat) < n → va_P (dC, dI) vwCl (wM a cI (upC (upC σ 13 w13) 14 w14)) H → va_D A (wM a cI (upC (upC σ 13 w13) 14 w14)) → va_S A s.heap H locs → lv_has ls 7 [(0, .ref (a 0)), (1, .int x1), (2, .int va), (3, .int j), (4, .int t), (5, .int u)] → W p l e (headSpec wsX9_lays RM_X9_lays).room s m ([.ref (a 0), .int x1] : List Value).toArray below meth c H locs 0 0 (MQ below (zQi (dC, dI) [(cI, .int)] (wM a cI) A (fun (r : Int32) (σ1 : Cn) => ∃ u13 : Nat → Int32, ∃ u14 : Nat → Int32, σ1 = (upC (upC σ 13 u13) 14 u14) ∧ ((r : Int32).toInt = 1 ∨ (r : Int32).toInt = 0) ∧ (((σ 0 21).toInt ≤ x1.toInt ∧ ∀ i : Nat, (i : Int) < (σ 0 21).toInt → (σ 4 (σ 12 i).toNatClampNeg).toInt ≤ (mLaw (σ 2) 3).toInt) → (r : Int32).toInt = 1))) ([.ref (a 0), .int x1] : List Value).toArray s 0 0 A) (F0 m 92 ls [])) := by
    intro n
    induction n with
    | zero => exact ⟨(by intros; omega), (by intros; omega), (by intros; omega), (by intros; omega)⟩
    | succ n ih =>
      refine ⟨?_, ?_, ?_, ?_⟩
      · intro va j w14 H locs ls g1 g2 g3 hmu hP hD hS hl
        refine lv_iload_n hx hb dX9_lays_8 rfl (lv_at hl 3 rfl) ?_
        refine lv_bipush (v := 11) hx hb dX9_lays_9 (by decide) ?_
        refine lv_icmp_ge (tgt := 27) hx hb dX9_lays_11 (by decide) (fun c11 => ?_) (fun c11 => ?_)
        · skip
          have ic11 := zle (a := 11) (b := j.toInt) (by decide) rfl c11
          refine lv_iconst (v := 0) hx hb dX9_lays_27 (by decide) ?_
          refine lv_istore_n (lv' := [(3, .int 0), (0, .ref (a 0)), (1, .int x1), (2, .int va)]) hx hb dX9_lays_28 rfl hl (by decide) rfl (fun ls hl => ?_)
          refine lv_iconst (v := 0) hx hb dX9_lays_29 (by decide) ?_
          refine lv_istore (lv' := [(4, .int 0), (3, .int 0), (0, .ref (a 0)), (1, .int x1), (2, .int va)]) hx hb dX9_lays_30 hl (by decide) rfl (fun ls hl => ?_)
          exact ih.2.1 (va) (0) (0) (σ 13) (w14) H locs ls (by first | omega | (rw [show (0 : Int32).toInt = 0 from by decide]; omega)) (by first | omega | (rw [show (0 : Int32).toInt = 0 from by decide]; omega)) (by assumption) (by first | exact g4 | (intro i hi; rw [show (0 : Int32).toInt = 0 from by decide] at hi; omega) | (intro i hi; have q3 := zcl (x := j) (by omega); by_cases q4 : i = j.toNatClampNeg; rw [q4, pk_us]; omega; rw [pk_un q4]; exact g4 i (by omega)) | (intro i hi; exact g4 i (by omega))) (by first | exact (fun _ => ⟨by decide, by decide, fun q hq _ => g3 q (by omega)⟩) | (intro q; exfalso; have q5 := (g5 q).1; have q6 := q.1; omega) | (intro q; have q3 := zcl (x := j) (by omega); refine ⟨by omega, by decide, fun y hy hi => ?_⟩; have q4 := hi j.toNatClampNeg (by omega); rw [pk_us] at q4; rw [pk_un (show y ≠ t.toNatClampNeg from by have q7 := zcl (x := t) (by omega); omega)]; exact (g5 q).2 y hy (fun i hj => by have q8 := hi i (by omega); rw [pk_un (show i ≠ j.toNatClampNeg from by omega)] at q8; exact q8))) (by first | (rw [if_neg (by decide)]; have z1 : zM (σ 13) (0 : Int32).toInt.toNat (0 : Int32).toInt.toNat ≤ 12 ^ 11 := Nat.sub_le _ _; rw [show (10 - (0 : Int32).toInt.toNat) = 10 from by decide]; omega) | (rw [if_pos (by omega)]; omega) | (show (if v176.toInt < 0 then 0 else zM (upd w13 j.toInt.toNat t) v176.toInt.toNat (0 : Int32).toInt.toNat * 1000 + (10 - v176.toInt.toNat) * 50 + 40) < n; rw [if_neg (by omega), show v176.toInt.toNat = j.toInt.toNat + 1 from by omega, show (0 : Int32).toInt.toNat = 0 from by decide, zM_place (by omega)]; omega) | (rw [if_neg (by omega)]; have z2 := zM_back (f := w13) (q := v185.toInt.toNat) (t := t.toInt.toNat) (fun i hi => by have z3 := g4 i (by omega); omega) (by omega) (by omega); rw [show v185.toInt.toNat + 1 = j.toInt.toNat from by omega] at z2; rw [show v224.toInt.toNat = (w13 v185.toInt.toNat).toInt.toNat + 1 from by have z4 : v185.toNatClampNeg = v185.toInt.toNat := rfl; rw [z4] at tv222 hd8; omega]; omega)) hP hD hS (lv_sub hl [2, 3, 4, 1, 0] rfl)
        · skip
          have ic11 := znle (a := 11) (b := j.toInt) (by decide) rfl c11
          refine lv_aload_n hx hb dX9_lays_14 rfl (lv_at hl 0 rfl) ?_
          refine va_get (D := (dC, dI)) (ci := 9) (v := .ref (a 14)) (C := RX9) (T := TX9) (N := 28) hx hb hts in9 hown hK hP 0 rfl rfl 24 (by decide) k49 (fun _ h9 => h9) rfl dX9_lays_15 ?_
          refine lv_iload_n hx hb dX9_lays_18 rfl (lv_at hl 3 rfl) ?_
          refine lv_iconst (v := 0) hx hb dX9_lays_19 (by decide) ?_
          refine va_iast (D := (dC, dI)) (f := w14) hx hb hK hP hD hS 14 0 rfl rfl (i := j) (n := 11) (zin (by omega) (by omega)) dX9_lays_20 (fun H locs hP hD hS => ?_)
          have hP : va_P (dC, dI) vwCl (wM a cI (upC σ 14 (upd (w14) (j).toNatClampNeg 0))) H := hP
          have hD : va_D A (wM a cI (upC σ 14 (upd (w14) (j).toNatClampNeg 0))) := hD
          obtain ⟨v21, ev21⟩ : ∃ y : Int32, y = j + 1 := ⟨_, rfl⟩
          refine lv_iinc (v := v21) (lv' := [(3, .int v21), (0, .ref (a 0)), (1, .int x1), (2, .int va)]) hx hb dX9_lays_21 hl (k := 3) rfl (by rw [ev21]; rfl) (by decide) rfl (fun ls hl => ?_)
          have tv21 : v21.toInt = j.toInt + 1 := by rw [ev21, zadd, show (1 : Int32).toInt = 1 from by decide]; omega
          refine lv_goto (tgt := 8) hx hb dX9_lays_24 (by decide) ?_
          exact ih.1 (va) (v21) (upd (w14) (j).toNatClampNeg 0) H locs ls (by omega) (g2) (by intro q hq; have q3 := zcl (x := j) (by omega); by_cases q4 : q = j.toNatClampNeg; rw [q4, pk_us]; decide; rw [pk_un q4]; exact g3 q (by omega)) (by omega) hP hD hS (lv_sub hl [1, 2, 3, 0] rfl)
      · intro va j t w13 w14 H locs ls g1 g2 g3 g4 g5 hmu hP hD hS hl
        refine lv_iload_n hx hb dX9_lays_32 rfl (lv_at hl 3 rfl) ?_
        refine lv_aload_n hx hb dX9_lays_33 rfl (lv_at hl 0 rfl) ?_
        refine va_get (D := (dC, dI)) (ci := 9) (v := .int (σ 0 21)) (C := RX9) (T := TX9) (N := 28) hx hb hts in9 hown hK hP 0 rfl rfl 21 (by decide) k225 (fun _ h9 => h9) rfl dX9_lays_34 ?_
        refine lv_icmp_ge (tgt := 230) hx hb dX9_lays_37 (by decide) (fun c37 => ?_) (fun c37 => ?_)
        · skip
          have ic37 := zle (a := (σ 0 21).toInt) (b := j.toInt) rfl rfl c37
          refine lv_iload_n hx hb dX9_lays_230 rfl (lv_at hl 3 rfl) ?_
          refine lv_aload_n hx hb dX9_lays_231 rfl (lv_at hl 0 rfl) ?_
          refine va_get (D := (dC, dI)) (ci := 9) (v := .int (σ 0 21)) (C := RX9) (T := TX9) (N := 28) hx hb hts in9 hown hK hP 0 rfl rfl 21 (by decide) k225 (fun _ h9 => h9) rfl dX9_lays_232 ?_
          refine lv_icmp_ne (tgt := 242) hx hb dX9_lays_235 (by decide) (fun c235 => ?_) (fun c235 => ?_)
          · skip
            have ic235 := zneq (a := j.toInt) (b := (σ 0 21).toInt) rfl rfl c235
            refine lv_iconst (v := 0) hx hb dX9_lays_242 (by decide) ?_
            have heq9 : (upC (upC σ 13 w13) 14 w14) = (upC (upC σ 13 w13) 14 w14) := rfl
            have hpost : ∃ u13 : Nat → Int32, ∃ u14 : Nat → Int32, (upC (upC σ 13 w13) 14 w14) = (upC (upC σ 13 u13) 14 u14) ∧ ((0 : Int32).toInt = 1 ∨ (0 : Int32).toInt = 0) ∧ (((σ 0 21).toInt ≤ x1.toInt ∧ ∀ i : Nat, (i : Int) < (σ 0 21).toInt → (σ 4 (σ 12 i).toNatClampNeg).toInt ≤ (mLaw (σ 2) 3).toInt) → (0 : Int32).toInt = 1) := by refine ⟨(w13), (w14), heq9, ?_⟩; first | exact ⟨Or.inl (by decide), fun _ => by decide⟩ | exact ⟨Or.inr (by decide), fun q => by rw [← g3] at q; have z1 := g5 q; omega⟩
            exact W.zret (v := 0) hx hb hr (by decide +kernel) (fun t9 ht hW => ⟨⟨0, (upC (upC σ 13 w13) 14 w14), rfl, hpost, by rw [ht]; exact hP, va_K.moved hW.alike hK, hD⟩, hS.F ht⟩) hS.2.2 dX9_lays_243
          · skip
            have ic235 := zeq (a := j.toInt) (b := (σ 0 21).toInt) rfl rfl c235
            refine lv_iconst (v := 1) hx hb dX9_lays_238 (by decide) ?_
            refine lv_goto (tgt := 243) hx hb dX9_lays_239 (by decide) ?_
            have heq9 : (upC (upC σ 13 w13) 14 w14) = (upC (upC σ 13 w13) 14 w14) := rfl
            have hpost : ∃ u13 : Nat → Int32, ∃ u14 : Nat → Int32, (upC (upC σ 13 w13) 14 w14) = (upC (upC σ 13 u13) 14 u14) ∧ ((1 : Int32).toInt = 1 ∨ (1 : Int32).toInt = 0) ∧ (((σ 0 21).toInt ≤ x1.toInt ∧ ∀ i : Nat, (i : Int) < (σ 0 21).toInt → (σ 4 (σ 12 i).toNatClampNeg).toInt ≤ (mLaw (σ 2) 3).toInt) → (1 : Int32).toInt = 1) := by refine ⟨(w13), (w14), heq9, ?_⟩; first | exact ⟨Or.inl (by decide), fun _ => by decide⟩ | exact ⟨Or.inr (by decide), fun q => by rw [← g3] at q; have z1 := g5 q; omega⟩
            exact W.zret (v := 1) hx hb hr (by decide +kernel) (fun t9 ht hW => ⟨⟨1, (upC (upC σ 13 w13) 14 w14), rfl, hpost, by rw [ht]; exact hP, va_K.moved hW.alike hK, hD⟩, hS.F ht⟩) hS.2.2 dX9_lays_243
        · skip
          have ic37 := znle (a := (σ 0 21).toInt) (b := j.toInt) rfl rfl c37
          refine lv_iload_n hx hb dX9_lays_40 rfl (lv_at hl 3 rfl) ?_
          refine lv_if_lt (tgt := 230) hx hb dX9_lays_41 (by decide) (fun c41 => ?_) (fun c41 => ?_)
          · skip
            have ic41 := zlt (a := j.toInt) (b := 0) rfl (by decide) c41
            refine lv_iload_n hx hb dX9_lays_230 rfl (lv_at hl 3 rfl) ?_
            refine lv_aload_n hx hb dX9_lays_231 rfl (lv_at hl 0 rfl) ?_
            refine va_get (D := (dC, dI)) (ci := 9) (v := .int (σ 0 21)) (C := RX9) (T := TX9) (N := 28) hx hb hts in9 hown hK hP 0 rfl rfl 21 (by decide) k225 (fun _ h9 => h9) rfl dX9_lays_232 ?_
            refine lv_icmp_ne (tgt := 242) hx hb dX9_lays_235 (by decide) (fun c235 => ?_) (fun c235 => ?_)
            · skip
              have ic235 := zneq (a := j.toInt) (b := (σ 0 21).toInt) rfl rfl c235
              refine lv_iconst (v := 0) hx hb dX9_lays_242 (by decide) ?_
              have heq9 : (upC (upC σ 13 w13) 14 w14) = (upC (upC σ 13 w13) 14 w14) := rfl
              have hpost : ∃ u13 : Nat → Int32, ∃ u14 : Nat → Int32, (upC (upC σ 13 w13) 14 w14) = (upC (upC σ 13 u13) 14 u14) ∧ ((0 : Int32).toInt = 1 ∨ (0 : Int32).toInt = 0) ∧ (((σ 0 21).toInt ≤ x1.toInt ∧ ∀ i : Nat, (i : Int) < (σ 0 21).toInt → (σ 4 (σ 12 i).toNatClampNeg).toInt ≤ (mLaw (σ 2) 3).toInt) → (0 : Int32).toInt = 1) := by refine ⟨(w13), (w14), heq9, ?_⟩; first | exact ⟨Or.inl (by decide), fun _ => by decide⟩ | exact ⟨Or.inr (by decide), fun q => by rw [← g3] at q; have z1 := g5 q; omega⟩
              exact W.zret (v := 0) hx hb hr (by decide +kernel) (fun t9 ht hW => ⟨⟨0, (upC (upC σ 13 w13) 14 w14), rfl, hpost, by rw [ht]; exact hP, va_K.moved hW.alike hK, hD⟩, hS.F ht⟩) hS.2.2 dX9_lays_243
            · skip
              have ic235 := zeq (a := j.toInt) (b := (σ 0 21).toInt) rfl rfl c235
              refine lv_iconst (v := 1) hx hb dX9_lays_238 (by decide) ?_
              refine lv_goto (tgt := 243) hx hb dX9_lays_239 (by decide) ?_
              have heq9 : (upC (upC σ 13 w13) 14 w14) = (upC (upC σ 13 w13) 14 w14) := rfl
              have hpost : ∃ u13 : Nat → Int32, ∃ u14 : Nat → Int32, (upC (upC σ 13 w13) 14 w14) = (upC (upC σ 13 u13) 14 u14) ∧ ((1 : Int32).toInt = 1 ∨ (1 : Int32).toInt = 0) ∧ (((σ 0 21).toInt ≤ x1.toInt ∧ ∀ i : Nat, (i : Int) < (σ 0 21).toInt → (σ 4 (σ 12 i).toNatClampNeg).toInt ≤ (mLaw (σ 2) 3).toInt) → (1 : Int32).toInt = 1) := by refine ⟨(w13), (w14), heq9, ?_⟩; first | exact ⟨Or.inl (by decide), fun _ => by decide⟩ | exact ⟨Or.inr (by decide), fun q => by rw [← g3] at q; have z1 := g5 q; omega⟩
              exact W.zret (v := 1) hx hb hr (by decide +kernel) (fun t9 ht hW => ⟨⟨1, (upC (upC σ 13 w13) 14 w14), rfl, hpost, by rw [ht]; exact hP, va_K.moved hW.alike hK, hD⟩, hS.F ht⟩) hS.2.2 dX9_lays_243
          · skip
            have ic41 := znlt (a := j.toInt) (b := 0) rfl (by decide) c41
            refine lv_iconst (v := 0) hx hb dX9_lays_44 (by decide) ?_
            refine lv_istore (lv' := [(5, .int 0), (0, .ref (a 0)), (1, .int x1), (2, .int va), (3, .int j), (4, .int t)]) hx hb dX9_lays_45 hl (by decide) rfl (fun ls hl => ?_)
            refine lv_iconst (v := 0) hx hb dX9_lays_47 (by decide) ?_
            refine lv_istore (lv' := [(6, .int 0), (5, .int 0), (0, .ref (a 0)), (1, .int x1), (2, .int va), (3, .int j), (4, .int t)]) hx hb dX9_lays_48 hl (by decide) rfl (fun ls hl => ?_)
            exact ih.2.2.1 (va) (j) (t) (0) (0) (w13) (w14) H locs ls (by omega) (by omega) (by assumption) (g4) (by first | exact g5 | exact fun q => ⟨(g5 q).2.1, (g5 q).2.2⟩) (by first | omega | (rw [show (0 : Int32).toInt = 0 from by decide]; omega)) (by first | (intro i hi; rw [show (0 : Int32).toInt = 0 from by decide] at hi; omega) | (intro i hi; rcases (show (i : Int) < k.toInt ∨ (i : Int) = k.toInt from by omega) with q | q; have q2 := g7 i q; omega; rw [show i = k.toNatClampNeg from by omega]; omega)) (by first | (rw [if_neg (by omega)] at hmu; rw [show (0 : Int32).toInt = 0 from by decide]; omega) | omega) hP hD hS (lv_sub hl [2, 3, 4, 5, 6, 1, 0] rfl)
      · intro va j t u k w13 w14 H locs ls g1 g2 g3 g4 g5 g6 g7 hmu hP hD hS hl
        refine lv_iload hx hb dX9_lays_50 (lv_at hl 6 rfl) ?_
        refine lv_iload_n hx hb dX9_lays_52 rfl (lv_at hl 3 rfl) ?_
        refine lv_icmp_ge (tgt := 92) hx hb dX9_lays_53 (by decide) (fun c53 => ?_) (fun c53 => ?_)
        · skip
          have ic53 := zle (a := j.toInt) (b := k.toInt) rfl rfl c53
          exact ih.2.2.2 (va) (j) (t) (u) (w13) (w14) H locs ls (by omega) (by omega) (by assumption) (g4) (by first | exact (fun q => ⟨by have z1 := (g5 q).1; omega, (g5 q).2⟩) | (intro q; refine ⟨?_, (g5 q).2⟩; have z1 := (g5 q).1; rcases (show t.toInt < u.toInt ∨ t.toInt = u.toInt from by omega) with z2 | z2; omega; exfalso; have z3 := (g5 q).2 t.toNatClampNeg (by have z4 := zcl (x := t) (by omega); omega) (fun i hi => by have z4 := zcl (x := t) (by omega); have z5 := g7 i hi; omega); have z6 := q.2 j.toNatClampNeg (by have z7 := zcl (x := j) (by omega); omega); have z8 := zrng v122; rw [← ev121] at z6; omega)) (by omega) (by first | exact g7 | exact fun i hi => g7 i (by omega)) (by first | omega | (rw [show v128.toInt.toNat = t.toInt.toNat + 1 from by omega]; have hz9 := zM_mono (f := w13) (p := j.toInt.toNat) (t := t.toInt.toNat) (t2 := t.toInt.toNat + 1) (by omega); omega)) hP hD hS (lv_sub hl [0, 1, 2, 3, 4, 5] rfl)
        · skip
          have ic53 := znle (a := j.toInt) (b := k.toInt) rfl rfl c53
          refine lv_aload_n hx hb dX9_lays_56 rfl (lv_at hl 0 rfl) ?_
          refine va_get (D := (dC, dI)) (ci := 9) (v := .ref (a 13)) (C := RX9) (T := TX9) (N := 28) hx hb hts in9 hown hK hP 0 rfl rfl 23 (by decide) k46 (fun _ h9 => h9) rfl dX9_lays_57 ?_
          refine lv_iload hx hb dX9_lays_60 (lv_at hl 6 rfl) ?_
          refine va_iald (D := (dC, dI)) (f := w13) hx hb hK hP 13 0 rfl rfl (i := k) (n := 10) (zin (by omega) (by omega)) dX9_lays_62 ?_
          refine lv_topi (fun v62 ev62 => ?_)
          have tv62 := congrArg Int32.toInt ev62
          have hd9 := g4 (k.toNatClampNeg) (by have q := zcl (x := k) (by omega); omega)
          have hk9 := zcl (x := k) (by omega)
          refine lv_iconst (v := 1) hx hb dX9_lays_63 (by decide) ?_
          refine lv_iadd hx hb dX9_lays_64 ?_
          refine lv_topi (fun v64 ev64 => ?_)
          have tv64 : v64.toInt = v62.toInt + 1 := by rw [ev64, zadd, show (1 : Int32).toInt = 1 from by decide]; omega
          refine lv_iload hx hb dX9_lays_65 (lv_at hl 5 rfl) ?_
          refine lv_icmp_le (tgt := 82) hx hb dX9_lays_67 (by decide) (fun c67 => ?_) (fun c67 => ?_)
          · skip
            have ic67 := zle (a := v64.toInt) (b := u.toInt) rfl rfl c67
            refine lv_iload hx hb dX9_lays_82 (lv_at hl 5 rfl) ?_
            refine lv_istore (lv' := [(5, .int u), (0, .ref (a 0)), (1, .int x1), (2, .int va), (3, .int j), (4, .int t), (6, .int k)]) hx hb dX9_lays_84 hl (by decide) rfl (fun ls hl => ?_)
            obtain ⟨v86, ev86⟩ : ∃ y : Int32, y = k + 1 := ⟨_, rfl⟩
            refine lv_iinc (v := v86) (lv' := [(6, .int v86), (5, .int u), (0, .ref (a 0)), (1, .int x1), (2, .int va), (3, .int j), (4, .int t)]) hx hb dX9_lays_86 hl (k := 6) rfl (by rw [ev86]; rfl) (by decide) rfl (fun ls hl => ?_)
            have tv86 : v86.toInt = k.toInt + 1 := by rw [ev86, zadd, show (1 : Int32).toInt = 1 from by decide]; omega
            refine lv_goto (tgt := 50) hx hb dX9_lays_89 (by decide) ?_
            exact ih.2.2.1 (va) (j) (t) (u) (v86) (w13) (w14) H locs ls (by omega) (by omega) (by assumption) (g4) (by first | exact g5 | exact fun q => ⟨(g5 q).2.1, (g5 q).2.2⟩) (by first | omega | (rw [show (0 : Int32).toInt = 0 from by decide]; omega)) (by first | (intro i hi; rw [show (0 : Int32).toInt = 0 from by decide] at hi; omega) | (intro i hi; rcases (show (i : Int) < k.toInt ∨ (i : Int) = k.toInt from by omega) with q | q; have q2 := g7 i q; omega; rw [show i = k.toNatClampNeg from by omega]; omega)) (by first | (rw [if_neg (by omega)] at hmu; rw [show (0 : Int32).toInt = 0 from by decide]; omega) | omega) hP hD hS (lv_sub hl [2, 3, 4, 5, 6, 1, 0] rfl)
          · skip
            have ic67 := znle (a := v64.toInt) (b := u.toInt) rfl rfl c67
            refine lv_aload_n hx hb dX9_lays_70 rfl (lv_at hl 0 rfl) ?_
            refine va_get (D := (dC, dI)) (ci := 9) (v := .ref (a 13)) (C := RX9) (T := TX9) (N := 28) hx hb hts in9 hown hK hP 0 rfl rfl 23 (by decide) k46 (fun _ h9 => h9) rfl dX9_lays_71 ?_
            refine lv_iload hx hb dX9_lays_74 (lv_at hl 6 rfl) ?_
            refine va_iald (D := (dC, dI)) (f := w13) hx hb hK hP 13 0 rfl rfl (i := k) (n := 10) (zin (by omega) (by omega)) dX9_lays_76 ?_
            refine lv_topi (fun v76 ev76 => ?_)
            have tv76 := congrArg Int32.toInt ev76
            refine lv_iconst (v := 1) hx hb dX9_lays_77 (by decide) ?_
            refine lv_iadd hx hb dX9_lays_78 ?_
            refine lv_topi (fun v78 ev78 => ?_)
            have tv78 : v78.toInt = v76.toInt + 1 := by rw [ev78, zadd, show (1 : Int32).toInt = 1 from by decide]; omega
            refine lv_goto (tgt := 84) hx hb dX9_lays_79 (by decide) ?_
            refine lv_istore (lv' := [(5, .int v78), (0, .ref (a 0)), (1, .int x1), (2, .int va), (3, .int j), (4, .int t), (6, .int k)]) hx hb dX9_lays_84 hl (by decide) rfl (fun ls hl => ?_)
            obtain ⟨v86, ev86⟩ : ∃ y : Int32, y = k + 1 := ⟨_, rfl⟩
            refine lv_iinc (v := v86) (lv' := [(6, .int v86), (5, .int v78), (0, .ref (a 0)), (1, .int x1), (2, .int va), (3, .int j), (4, .int t)]) hx hb dX9_lays_86 hl (k := 6) rfl (by rw [ev86]; rfl) (by decide) rfl (fun ls hl => ?_)
            have tv86 : v86.toInt = k.toInt + 1 := by rw [ev86, zadd, show (1 : Int32).toInt = 1 from by decide]; omega
            refine lv_goto (tgt := 50) hx hb dX9_lays_89 (by decide) ?_
            exact ih.2.2.1 (va) (j) (t) (v78) (v86) (w13) (w14) H locs ls (by omega) (by omega) (by assumption) (g4) (by first | exact g5 | exact fun q => ⟨(g5 q).2.1, (g5 q).2.2⟩) (by first | omega | (rw [show (0 : Int32).toInt = 0 from by decide]; omega)) (by first | (intro i hi; rw [show (0 : Int32).toInt = 0 from by decide] at hi; omega) | (intro i hi; rcases (show (i : Int) < k.toInt ∨ (i : Int) = k.toInt from by omega) with q | q; have q2 := g7 i q; omega; rw [show i = k.toNatClampNeg from by omega]; omega)) (by first | (rw [if_neg (by omega)] at hmu; rw [show (0 : Int32).toInt = 0 from by decide]; omega) | omega) hP hD hS (lv_sub hl [2, 3, 4, 5, 6, 1, 0] rfl)
      · intro va j t u w13 w14 H locs ls g1 g2 g3 g4 g5 g6 g7 hmu hP hD hS hl
        refine lv_iload hx hb dX9_lays_92 (lv_at hl 4 rfl) ?_
        refine lv_iload hx hb dX9_lays_94 (lv_at hl 5 rfl) ?_
        refine lv_icmp_gt (tgt := 134) hx hb dX9_lays_96 (by decide) (fun c96 => ?_) (fun c96 => ?_)
        · skip
          have ic96 := zlt (a := u.toInt) (b := t.toInt) rfl rfl c96
          refine lv_iload hx hb dX9_lays_134 (lv_at hl 4 rfl) ?_
          refine lv_iload hx hb dX9_lays_136 (lv_at hl 5 rfl) ?_
          refine lv_icmp_gt (tgt := 185) hx hb dX9_lays_138 (by decide) (fun c138 => ?_) (fun c138 => ?_)
          · skip
            have ic138 := zlt (a := u.toInt) (b := t.toInt) rfl rfl c138
            obtain ⟨v185, ev185⟩ : ∃ y : Int32, y = j + (-1) := ⟨_, rfl⟩
            refine lv_iinc (v := v185) (lv' := [(3, .int v185), (0, .ref (a 0)), (1, .int x1), (2, .int va), (4, .int t), (5, .int u)]) hx hb dX9_lays_185 hl (k := 3) rfl (by rw [ev185]; rfl) (by decide) rfl (fun ls hl => ?_)
            have tv185 : v185.toInt = j.toInt + (-1) := by rw [ev185, zadd, show ((-1) : Int32).toInt = (-1) from by decide]; omega
            refine lv_iload_n hx hb dX9_lays_188 rfl (lv_at hl 0 rfl) ?_
            refine lv_if_lt (tgt := 227) hx hb dX9_lays_189 (by decide) (fun c189 => ?_) (fun c189 => ?_)
            · skip
              have ic189 := zlt (a := v185.toInt) (b := 0) rfl (by decide) c189
              refine lv_goto (tgt := 32) hx hb dX9_lays_227 (by decide) ?_
              exact ih.2.1 (va) (v185) (t) (w13) (w14) H locs ls (by first | omega | (rw [show (0 : Int32).toInt = 0 from by decide]; omega)) (by first | omega | (rw [show (0 : Int32).toInt = 0 from by decide]; omega)) (by assumption) (by first | exact g4 | (intro i hi; rw [show (0 : Int32).toInt = 0 from by decide] at hi; omega) | (intro i hi; have q3 := zcl (x := j) (by omega); by_cases q4 : i = j.toNatClampNeg; rw [q4, pk_us]; omega; rw [pk_un q4]; exact g4 i (by omega)) | (intro i hi; exact g4 i (by omega))) (by first | exact (fun _ => ⟨by decide, by decide, fun q hq _ => g3 q (by omega)⟩) | (intro q; exfalso; have q5 := (g5 q).1; have q6 := q.1; omega) | (intro q; have q3 := zcl (x := j) (by omega); refine ⟨by omega, by decide, fun y hy hi => ?_⟩; have q4 := hi j.toNatClampNeg (by omega); rw [pk_us] at q4; rw [pk_un (show y ≠ t.toNatClampNeg from by have q7 := zcl (x := t) (by omega); omega)]; exact (g5 q).2 y hy (fun i hj => by have q8 := hi i (by omega); rw [pk_un (show i ≠ j.toNatClampNeg from by omega)] at q8; exact q8))) (by first | (rw [if_neg (by decide)]; have z1 : zM (σ 13) (0 : Int32).toInt.toNat (0 : Int32).toInt.toNat ≤ 12 ^ 11 := Nat.sub_le _ _; rw [show (10 - (0 : Int32).toInt.toNat) = 10 from by decide]; omega) | (rw [if_pos (by omega)]; omega) | (show (if v176.toInt < 0 then 0 else zM (upd w13 j.toInt.toNat t) v176.toInt.toNat (0 : Int32).toInt.toNat * 1000 + (10 - v176.toInt.toNat) * 50 + 40) < n; rw [if_neg (by omega), show v176.toInt.toNat = j.toInt.toNat + 1 from by omega, show (0 : Int32).toInt.toNat = 0 from by decide, zM_place (by omega)]; omega) | (rw [if_neg (by omega)]; have z2 := zM_back (f := w13) (q := v185.toInt.toNat) (t := t.toInt.toNat) (fun i hi => by have z3 := g4 i (by omega); omega) (by omega) (by omega); rw [show v185.toInt.toNat + 1 = j.toInt.toNat from by omega] at z2; rw [show v224.toInt.toNat = (w13 v185.toInt.toNat).toInt.toNat + 1 from by have z4 : v185.toNatClampNeg = v185.toInt.toNat := rfl; rw [z4] at tv222 hd8; omega]; omega)) hP hD hS (lv_sub hl [1, 2, 3, 0, 4] rfl)
            · skip
              have ic189 := znlt (a := v185.toInt) (b := 0) rfl (by decide) c189
              refine lv_aload_n hx hb dX9_lays_192 rfl (lv_at hl 1 rfl) ?_
              refine va_get (D := (dC, dI)) (ci := 9) (v := .ref (a 14)) (C := RX9) (T := TX9) (N := 28) hx hb hts in9 hown hK hP 0 rfl rfl 24 (by decide) k49 (fun _ h9 => h9) rfl dX9_lays_193 ?_
              refine lv_aload_n hx hb dX9_lays_196 rfl (lv_at hl 1 rfl) ?_
              refine va_get (D := (dC, dI)) (ci := 9) (v := .ref (a 13)) (C := RX9) (T := TX9) (N := 28) hx hb hts in9 hown hK hP 0 rfl rfl 23 (by decide) k46 (fun _ h9 => h9) rfl dX9_lays_197 ?_
              refine lv_iload_n hx hb dX9_lays_200 rfl (lv_at hl 0 rfl) ?_
              refine va_iald (D := (dC, dI)) (f := w13) hx hb hK hP 13 0 rfl rfl (i := v185) (n := 10) (zin (by omega) (by omega)) dX9_lays_201 ?_
              refine lv_topi (fun v201 ev201 => ?_)
              have tv201 := congrArg Int32.toInt ev201
              have hd9 := g4 (v185.toNatClampNeg) (by have q := zcl (x := v185) (by omega); omega)
              have hk9 := zcl (x := v185) (by omega)
              refine lv_dup2_11 hx hb dX9_lays_202 rfl rfl ?_
              refine va_iald (D := (dC, dI)) (f := w14) hx hb hK hP 14 0 rfl rfl (i := v201) (n := 11) (zin (by omega) (by omega)) dX9_lays_203 ?_
              refine lv_topi (fun v203 ev203 => ?_)
              have tv203 := congrArg Int32.toInt ev203
              refine lv_aload_n hx hb dX9_lays_204 rfl (lv_at hl 1 rfl) ?_
              refine va_get (D := (dC, dI)) (ci := 9) (v := .ref (a 4)) (C := RX9) (T := TX9) (N := 28) hx hb hts in9 hown hK hP 0 rfl rfl 12 (by decide) k19 (fun _ h9 => h9) rfl dX9_lays_205 ?_
              refine lv_aload_n hx hb dX9_lays_208 rfl (lv_at hl 1 rfl) ?_
              refine va_get (D := (dC, dI)) (ci := 9) (v := .ref (a 12)) (C := RX9) (T := TX9) (N := 28) hx hb hts in9 hown hK hP 0 rfl rfl 22 (by decide) k43 (fun _ h9 => h9) rfl dX9_lays_209 ?_
              refine lv_iload_n hx hb dX9_lays_212 rfl (lv_at hl 0 rfl) ?_
              refine va_iald (D := (dC, dI)) (f := σ 12) hx hb hK hP 12 0 rfl rfl (i := v185) (n := 10) (zin (by omega) (by omega)) dX9_lays_213 ?_
              refine lv_topi (fun v213 ev213 => ?_)
              have tv213 := congrArg Int32.toInt ev213
              have hb9 := hv ((v185).toNatClampNeg) (by have q := zcl (x := v185) (by omega); omega)
              refine va_iald (D := (dC, dI)) (f := σ 4) hx hb hK hP 4 0 rfl rfl (i := v213) (n := 10) (zin (by omega) (by omega)) dX9_lays_214 ?_
              refine lv_topi (fun v214 ev214 => ?_)
              have tv214 := congrArg Int32.toInt ev214
              refine lv_isub hx hb dX9_lays_215 ?_
              refine lv_topi (fun v215 ev215 => ?_)
              refine va_iast (D := (dC, dI)) (f := w14) hx hb hK hP hD hS 14 0 rfl rfl (i := v201) (n := 11) (zin (by omega) (by omega)) dX9_lays_216 (fun H locs hP hD hS => ?_)
              have hP : va_P (dC, dI) vwCl (wM a cI (upC (upC σ 13 w13) 14 (upd (w14) (v201).toNatClampNeg v215))) H := hP
              have hD : va_D A (wM a cI (upC (upC σ 13 w13) 14 (upd (w14) (v201).toNatClampNeg v215))) := hD
              refine lv_aload_n hx hb dX9_lays_217 rfl (lv_at hl 1 rfl) ?_
              refine va_get (D := (dC, dI)) (ci := 9) (v := .ref (a 13)) (C := RX9) (T := TX9) (N := 28) hx hb hts in9 hown hK hP 0 rfl rfl 23 (by decide) k46 (fun _ h9 => h9) rfl dX9_lays_218 ?_
              refine lv_iload_n hx hb dX9_lays_221 rfl (lv_at hl 0 rfl) ?_
              refine va_iald (D := (dC, dI)) (f := w13) hx hb hK hP 13 0 rfl rfl (i := v185) (n := 10) (zin (by omega) (by omega)) dX9_lays_222 ?_
              refine lv_topi (fun v222 ev222 => ?_)
              have tv222 := congrArg Int32.toInt ev222
              have hd8 := g4 (v185.toNatClampNeg) (by have q := zcl (x := v185) (by omega); omega)
              have hk8 := zcl (x := v185) (by omega)
              refine lv_iconst (v := 1) hx hb dX9_lays_223 (by decide) ?_
              refine lv_iadd hx hb dX9_lays_224 ?_
              refine lv_topi (fun v224 ev224 => ?_)
              have tv224 : v224.toInt = v222.toInt + 1 := by rw [ev224, zadd, show (1 : Int32).toInt = 1 from by decide]; omega
              refine lv_istore (lv' := [(4, .int v224), (3, .int v185), (0, .ref (a 0)), (1, .int x1), (2, .int va), (5, .int u)]) hx hb dX9_lays_225 hl (by decide) rfl (fun ls hl => ?_)
              refine lv_goto (tgt := 32) hx hb dX9_lays_227 (by decide) ?_
              exact ih.2.1 (va) (v185) (v224) (w13) (upd (w14) (v201).toNatClampNeg v215) H locs ls (by first | omega | (rw [show (0 : Int32).toInt = 0 from by decide]; omega)) (by first | omega | (rw [show (0 : Int32).toInt = 0 from by decide]; omega)) (by assumption) (by first | exact g4 | (intro i hi; rw [show (0 : Int32).toInt = 0 from by decide] at hi; omega) | (intro i hi; have q3 := zcl (x := j) (by omega); by_cases q4 : i = j.toNatClampNeg; rw [q4, pk_us]; omega; rw [pk_un q4]; exact g4 i (by omega)) | (intro i hi; exact g4 i (by omega))) (by first | exact (fun _ => ⟨by decide, by decide, fun q hq _ => g3 q (by omega)⟩) | (intro q; exfalso; have q5 := (g5 q).1; have q6 := q.1; omega) | (intro q; have q3 := zcl (x := j) (by omega); refine ⟨by omega, by decide, fun y hy hi => ?_⟩; have q4 := hi j.toNatClampNeg (by omega); rw [pk_us] at q4; rw [pk_un (show y ≠ t.toNatClampNeg from by have q7 := zcl (x := t) (by omega); omega)]; exact (g5 q).2 y hy (fun i hj => by have q8 := hi i (by omega); rw [pk_un (show i ≠ j.toNatClampNeg from by omega)] at q8; exact q8))) (by first | (rw [if_neg (by decide)]; have z1 : zM (σ 13) (0 : Int32).toInt.toNat (0 : Int32).toInt.toNat ≤ 12 ^ 11 := Nat.sub_le _ _; rw [show (10 - (0 : Int32).toInt.toNat) = 10 from by decide]; omega) | (rw [if_pos (by omega)]; omega) | (show (if v176.toInt < 0 then 0 else zM (upd w13 j.toInt.toNat t) v176.toInt.toNat (0 : Int32).toInt.toNat * 1000 + (10 - v176.toInt.toNat) * 50 + 40) < n; rw [if_neg (by omega), show v176.toInt.toNat = j.toInt.toNat + 1 from by omega, show (0 : Int32).toInt.toNat = 0 from by decide, zM_place (by omega)]; omega) | (rw [if_neg (by omega)]; have z2 := zM_back (f := w13) (q := v185.toInt.toNat) (t := t.toInt.toNat) (fun i hi => by have z3 := g4 i (by omega); omega) (by omega) (by omega); rw [show v185.toInt.toNat + 1 = j.toInt.toNat from by omega] at z2; rw [show v224.toInt.toNat = (w13 v185.toInt.toNat).toInt.toNat + 1 from by have z4 : v185.toNatClampNeg = v185.toInt.toNat := rfl; rw [z4] at tv222 hd8; omega]; omega)) hP hD hS (lv_sub hl [2, 3, 4, 1, 0] rfl)
          · skip
            have ic138 := znlt (a := u.toInt) (b := t.toInt) rfl rfl c138
            refine lv_iload hx hb dX9_lays_141 (lv_at hl 4 rfl) ?_
            refine lv_iload_n hx hb dX9_lays_143 rfl (lv_at hl 1 rfl) ?_
            refine lv_icmp_ge (tgt := 185) hx hb dX9_lays_144 (by decide) (fun c144 => ?_) (fun c144 => ?_)
            · skip
              have ic144 := zle (a := x1.toInt) (b := t.toInt) rfl rfl c144
              obtain ⟨v185, ev185⟩ : ∃ y : Int32, y = j + (-1) := ⟨_, rfl⟩
              refine lv_iinc (v := v185) (lv' := [(3, .int v185), (0, .ref (a 0)), (1, .int x1), (2, .int va), (4, .int t), (5, .int u)]) hx hb dX9_lays_185 hl (k := 3) rfl (by rw [ev185]; rfl) (by decide) rfl (fun ls hl => ?_)
              have tv185 : v185.toInt = j.toInt + (-1) := by rw [ev185, zadd, show ((-1) : Int32).toInt = (-1) from by decide]; omega
              refine lv_iload_n hx hb dX9_lays_188 rfl (lv_at hl 0 rfl) ?_
              refine lv_if_lt (tgt := 227) hx hb dX9_lays_189 (by decide) (fun c189 => ?_) (fun c189 => ?_)
              · skip
                have ic189 := zlt (a := v185.toInt) (b := 0) rfl (by decide) c189
                refine lv_goto (tgt := 32) hx hb dX9_lays_227 (by decide) ?_
                exact ih.2.1 (va) (v185) (t) (w13) (w14) H locs ls (by first | omega | (rw [show (0 : Int32).toInt = 0 from by decide]; omega)) (by first | omega | (rw [show (0 : Int32).toInt = 0 from by decide]; omega)) (by assumption) (by first | exact g4 | (intro i hi; rw [show (0 : Int32).toInt = 0 from by decide] at hi; omega) | (intro i hi; have q3 := zcl (x := j) (by omega); by_cases q4 : i = j.toNatClampNeg; rw [q4, pk_us]; omega; rw [pk_un q4]; exact g4 i (by omega)) | (intro i hi; exact g4 i (by omega))) (by first | exact (fun _ => ⟨by decide, by decide, fun q hq _ => g3 q (by omega)⟩) | (intro q; exfalso; have q5 := (g5 q).1; have q6 := q.1; omega) | (intro q; have q3 := zcl (x := j) (by omega); refine ⟨by omega, by decide, fun y hy hi => ?_⟩; have q4 := hi j.toNatClampNeg (by omega); rw [pk_us] at q4; rw [pk_un (show y ≠ t.toNatClampNeg from by have q7 := zcl (x := t) (by omega); omega)]; exact (g5 q).2 y hy (fun i hj => by have q8 := hi i (by omega); rw [pk_un (show i ≠ j.toNatClampNeg from by omega)] at q8; exact q8))) (by first | (rw [if_neg (by decide)]; have z1 : zM (σ 13) (0 : Int32).toInt.toNat (0 : Int32).toInt.toNat ≤ 12 ^ 11 := Nat.sub_le _ _; rw [show (10 - (0 : Int32).toInt.toNat) = 10 from by decide]; omega) | (rw [if_pos (by omega)]; omega) | (show (if v176.toInt < 0 then 0 else zM (upd w13 j.toInt.toNat t) v176.toInt.toNat (0 : Int32).toInt.toNat * 1000 + (10 - v176.toInt.toNat) * 50 + 40) < n; rw [if_neg (by omega), show v176.toInt.toNat = j.toInt.toNat + 1 from by omega, show (0 : Int32).toInt.toNat = 0 from by decide, zM_place (by omega)]; omega) | (rw [if_neg (by omega)]; have z2 := zM_back (f := w13) (q := v185.toInt.toNat) (t := t.toInt.toNat) (fun i hi => by have z3 := g4 i (by omega); omega) (by omega) (by omega); rw [show v185.toInt.toNat + 1 = j.toInt.toNat from by omega] at z2; rw [show v224.toInt.toNat = (w13 v185.toInt.toNat).toInt.toNat + 1 from by have z4 : v185.toNatClampNeg = v185.toInt.toNat := rfl; rw [z4] at tv222 hd8; omega]; omega)) hP hD hS (lv_sub hl [1, 2, 3, 0, 4] rfl)
              · skip
                have ic189 := znlt (a := v185.toInt) (b := 0) rfl (by decide) c189
                refine lv_aload_n hx hb dX9_lays_192 rfl (lv_at hl 1 rfl) ?_
                refine va_get (D := (dC, dI)) (ci := 9) (v := .ref (a 14)) (C := RX9) (T := TX9) (N := 28) hx hb hts in9 hown hK hP 0 rfl rfl 24 (by decide) k49 (fun _ h9 => h9) rfl dX9_lays_193 ?_
                refine lv_aload_n hx hb dX9_lays_196 rfl (lv_at hl 1 rfl) ?_
                refine va_get (D := (dC, dI)) (ci := 9) (v := .ref (a 13)) (C := RX9) (T := TX9) (N := 28) hx hb hts in9 hown hK hP 0 rfl rfl 23 (by decide) k46 (fun _ h9 => h9) rfl dX9_lays_197 ?_
                refine lv_iload_n hx hb dX9_lays_200 rfl (lv_at hl 0 rfl) ?_
                refine va_iald (D := (dC, dI)) (f := w13) hx hb hK hP 13 0 rfl rfl (i := v185) (n := 10) (zin (by omega) (by omega)) dX9_lays_201 ?_
                refine lv_topi (fun v201 ev201 => ?_)
                have tv201 := congrArg Int32.toInt ev201
                have hd9 := g4 (v185.toNatClampNeg) (by have q := zcl (x := v185) (by omega); omega)
                have hk9 := zcl (x := v185) (by omega)
                refine lv_dup2_11 hx hb dX9_lays_202 rfl rfl ?_
                refine va_iald (D := (dC, dI)) (f := w14) hx hb hK hP 14 0 rfl rfl (i := v201) (n := 11) (zin (by omega) (by omega)) dX9_lays_203 ?_
                refine lv_topi (fun v203 ev203 => ?_)
                have tv203 := congrArg Int32.toInt ev203
                refine lv_aload_n hx hb dX9_lays_204 rfl (lv_at hl 1 rfl) ?_
                refine va_get (D := (dC, dI)) (ci := 9) (v := .ref (a 4)) (C := RX9) (T := TX9) (N := 28) hx hb hts in9 hown hK hP 0 rfl rfl 12 (by decide) k19 (fun _ h9 => h9) rfl dX9_lays_205 ?_
                refine lv_aload_n hx hb dX9_lays_208 rfl (lv_at hl 1 rfl) ?_
                refine va_get (D := (dC, dI)) (ci := 9) (v := .ref (a 12)) (C := RX9) (T := TX9) (N := 28) hx hb hts in9 hown hK hP 0 rfl rfl 22 (by decide) k43 (fun _ h9 => h9) rfl dX9_lays_209 ?_
                refine lv_iload_n hx hb dX9_lays_212 rfl (lv_at hl 0 rfl) ?_
                refine va_iald (D := (dC, dI)) (f := σ 12) hx hb hK hP 12 0 rfl rfl (i := v185) (n := 10) (zin (by omega) (by omega)) dX9_lays_213 ?_
                refine lv_topi (fun v213 ev213 => ?_)
                have tv213 := congrArg Int32.toInt ev213
                have hb9 := hv ((v185).toNatClampNeg) (by have q := zcl (x := v185) (by omega); omega)
                refine va_iald (D := (dC, dI)) (f := σ 4) hx hb hK hP 4 0 rfl rfl (i := v213) (n := 10) (zin (by omega) (by omega)) dX9_lays_214 ?_
                refine lv_topi (fun v214 ev214 => ?_)
                have tv214 := congrArg Int32.toInt ev214
                refine lv_isub hx hb dX9_lays_215 ?_
                refine lv_topi (fun v215 ev215 => ?_)
                refine va_iast (D := (dC, dI)) (f := w14) hx hb hK hP hD hS 14 0 rfl rfl (i := v201) (n := 11) (zin (by omega) (by omega)) dX9_lays_216 (fun H locs hP hD hS => ?_)
                have hP : va_P (dC, dI) vwCl (wM a cI (upC (upC σ 13 w13) 14 (upd (w14) (v201).toNatClampNeg v215))) H := hP
                have hD : va_D A (wM a cI (upC (upC σ 13 w13) 14 (upd (w14) (v201).toNatClampNeg v215))) := hD
                refine lv_aload_n hx hb dX9_lays_217 rfl (lv_at hl 1 rfl) ?_
                refine va_get (D := (dC, dI)) (ci := 9) (v := .ref (a 13)) (C := RX9) (T := TX9) (N := 28) hx hb hts in9 hown hK hP 0 rfl rfl 23 (by decide) k46 (fun _ h9 => h9) rfl dX9_lays_218 ?_
                refine lv_iload_n hx hb dX9_lays_221 rfl (lv_at hl 0 rfl) ?_
                refine va_iald (D := (dC, dI)) (f := w13) hx hb hK hP 13 0 rfl rfl (i := v185) (n := 10) (zin (by omega) (by omega)) dX9_lays_222 ?_
                refine lv_topi (fun v222 ev222 => ?_)
                have tv222 := congrArg Int32.toInt ev222
                have hd8 := g4 (v185.toNatClampNeg) (by have q := zcl (x := v185) (by omega); omega)
                have hk8 := zcl (x := v185) (by omega)
                refine lv_iconst (v := 1) hx hb dX9_lays_223 (by decide) ?_
                refine lv_iadd hx hb dX9_lays_224 ?_
                refine lv_topi (fun v224 ev224 => ?_)
                have tv224 : v224.toInt = v222.toInt + 1 := by rw [ev224, zadd, show (1 : Int32).toInt = 1 from by decide]; omega
                refine lv_istore (lv' := [(4, .int v224), (3, .int v185), (0, .ref (a 0)), (1, .int x1), (2, .int va), (5, .int u)]) hx hb dX9_lays_225 hl (by decide) rfl (fun ls hl => ?_)
                refine lv_goto (tgt := 32) hx hb dX9_lays_227 (by decide) ?_
                exact ih.2.1 (va) (v185) (v224) (w13) (upd (w14) (v201).toNatClampNeg v215) H locs ls (by first | omega | (rw [show (0 : Int32).toInt = 0 from by decide]; omega)) (by first | omega | (rw [show (0 : Int32).toInt = 0 from by decide]; omega)) (by assumption) (by first | exact g4 | (intro i hi; rw [show (0 : Int32).toInt = 0 from by decide] at hi; omega) | (intro i hi; have q3 := zcl (x := j) (by omega); by_cases q4 : i = j.toNatClampNeg; rw [q4, pk_us]; omega; rw [pk_un q4]; exact g4 i (by omega)) | (intro i hi; exact g4 i (by omega))) (by first | exact (fun _ => ⟨by decide, by decide, fun q hq _ => g3 q (by omega)⟩) | (intro q; exfalso; have q5 := (g5 q).1; have q6 := q.1; omega) | (intro q; have q3 := zcl (x := j) (by omega); refine ⟨by omega, by decide, fun y hy hi => ?_⟩; have q4 := hi j.toNatClampNeg (by omega); rw [pk_us] at q4; rw [pk_un (show y ≠ t.toNatClampNeg from by have q7 := zcl (x := t) (by omega); omega)]; exact (g5 q).2 y hy (fun i hj => by have q8 := hi i (by omega); rw [pk_un (show i ≠ j.toNatClampNeg from by omega)] at q8; exact q8))) (by first | (rw [if_neg (by decide)]; have z1 : zM (σ 13) (0 : Int32).toInt.toNat (0 : Int32).toInt.toNat ≤ 12 ^ 11 := Nat.sub_le _ _; rw [show (10 - (0 : Int32).toInt.toNat) = 10 from by decide]; omega) | (rw [if_pos (by omega)]; omega) | (show (if v176.toInt < 0 then 0 else zM (upd w13 j.toInt.toNat t) v176.toInt.toNat (0 : Int32).toInt.toNat * 1000 + (10 - v176.toInt.toNat) * 50 + 40) < n; rw [if_neg (by omega), show v176.toInt.toNat = j.toInt.toNat + 1 from by omega, show (0 : Int32).toInt.toNat = 0 from by decide, zM_place (by omega)]; omega) | (rw [if_neg (by omega)]; have z2 := zM_back (f := w13) (q := v185.toInt.toNat) (t := t.toInt.toNat) (fun i hi => by have z3 := g4 i (by omega); omega) (by omega) (by omega); rw [show v185.toInt.toNat + 1 = j.toInt.toNat from by omega] at z2; rw [show v224.toInt.toNat = (w13 v185.toInt.toNat).toInt.toNat + 1 from by have z4 : v185.toNatClampNeg = v185.toInt.toNat := rfl; rw [z4] at tv222 hd8; omega]; omega)) hP hD hS (lv_sub hl [2, 3, 4, 1, 0] rfl)
            · skip
              have ic144 := znle (a := x1.toInt) (b := t.toInt) rfl rfl c144
              refine lv_aload_n hx hb dX9_lays_147 rfl (lv_at hl 0 rfl) ?_
              refine va_get (D := (dC, dI)) (ci := 9) (v := .ref (a 13)) (C := RX9) (T := TX9) (N := 28) hx hb hts in9 hown hK hP 0 rfl rfl 23 (by decide) k46 (fun _ h9 => h9) rfl dX9_lays_148 ?_
              refine lv_iload_n hx hb dX9_lays_151 rfl (lv_at hl 3 rfl) ?_
              refine lv_iload hx hb dX9_lays_152 (lv_at hl 4 rfl) ?_
              refine va_iast (D := (dC, dI)) (f := w13) hx hb hK hP hD hS 13 0 rfl rfl (i := j) (n := 10) (zin (by omega) (by omega)) dX9_lays_154 (fun H locs hP hD hS => ?_)
              have hP : va_P (dC, dI) vwCl (wM a cI (upC (upC σ 13 (upd (w13) (j).toNatClampNeg t)) 14 w14)) H := hP
              have hD : va_D A (wM a cI (upC (upC σ 13 (upd (w13) (j).toNatClampNeg t)) 14 w14)) := hD
              refine lv_aload_n hx hb dX9_lays_155 rfl (lv_at hl 0 rfl) ?_
              refine va_get (D := (dC, dI)) (ci := 9) (v := .ref (a 14)) (C := RX9) (T := TX9) (N := 28) hx hb hts in9 hown hK hP 0 rfl rfl 24 (by decide) k49 (fun _ h9 => h9) rfl dX9_lays_156 ?_
              refine lv_iload hx hb dX9_lays_159 (lv_at hl 4 rfl) ?_
              refine lv_dup2_11 hx hb dX9_lays_161 rfl rfl ?_
              refine va_iald (D := (dC, dI)) (f := w14) hx hb hK hP 14 0 rfl rfl (i := t) (n := 11) (zin (by omega) (by omega)) dX9_lays_162 ?_
              refine lv_topi (fun v162 ev162 => ?_)
              have tv162 := congrArg Int32.toInt ev162
              refine lv_aload_n hx hb dX9_lays_163 rfl (lv_at hl 0 rfl) ?_
              refine va_get (D := (dC, dI)) (ci := 9) (v := .ref (a 4)) (C := RX9) (T := TX9) (N := 28) hx hb hts in9 hown hK hP 0 rfl rfl 12 (by decide) k19 (fun _ h9 => h9) rfl dX9_lays_164 ?_
              refine lv_aload_n hx hb dX9_lays_167 rfl (lv_at hl 0 rfl) ?_
              refine va_get (D := (dC, dI)) (ci := 9) (v := .ref (a 12)) (C := RX9) (T := TX9) (N := 28) hx hb hts in9 hown hK hP 0 rfl rfl 22 (by decide) k43 (fun _ h9 => h9) rfl dX9_lays_168 ?_
              refine lv_iload_n hx hb dX9_lays_171 rfl (lv_at hl 3 rfl) ?_
              refine va_iald (D := (dC, dI)) (f := σ 12) hx hb hK hP 12 0 rfl rfl (i := j) (n := 10) (zin (by omega) (by omega)) dX9_lays_172 ?_
              refine lv_topi (fun v172 ev172 => ?_)
              have tv172 := congrArg Int32.toInt ev172
              have hb9 := hv ((j).toNatClampNeg) (by have q := zcl (x := j) (by omega); omega)
              refine va_iald (D := (dC, dI)) (f := σ 4) hx hb hK hP 4 0 rfl rfl (i := v172) (n := 10) (zin (by omega) (by omega)) dX9_lays_173 ?_
              refine lv_topi (fun v173 ev173 => ?_)
              have tv173 := congrArg Int32.toInt ev173
              refine lv_iadd hx hb dX9_lays_174 ?_
              refine lv_topi (fun v174 ev174 => ?_)
              refine va_iast (D := (dC, dI)) (f := w14) hx hb hK hP hD hS 14 0 rfl rfl (i := t) (n := 11) (zin (by omega) (by omega)) dX9_lays_175 (fun H locs hP hD hS => ?_)
              have hP : va_P (dC, dI) vwCl (wM a cI (upC (upC σ 13 (upd (w13) (j).toNatClampNeg t)) 14 (upd (w14) (t).toNatClampNeg v174))) H := hP
              have hD : va_D A (wM a cI (upC (upC σ 13 (upd (w13) (j).toNatClampNeg t)) 14 (upd (w14) (t).toNatClampNeg v174))) := hD
              obtain ⟨v176, ev176⟩ : ∃ y : Int32, y = j + 1 := ⟨_, rfl⟩
              refine lv_iinc (v := v176) (lv' := [(3, .int v176), (0, .ref (a 0)), (1, .int x1), (2, .int va), (4, .int t), (5, .int u)]) hx hb dX9_lays_176 hl (k := 3) rfl (by rw [ev176]; rfl) (by decide) rfl (fun ls hl => ?_)
              have tv176 : v176.toInt = j.toInt + 1 := by rw [ev176, zadd, show (1 : Int32).toInt = 1 from by decide]; omega
              refine lv_iconst (v := 0) hx hb dX9_lays_179 (by decide) ?_
              refine lv_istore (lv' := [(4, .int 0), (3, .int v176), (0, .ref (a 0)), (1, .int x1), (2, .int va), (5, .int u)]) hx hb dX9_lays_180 hl (by decide) rfl (fun ls hl => ?_)
              refine lv_goto (tgt := 227) hx hb dX9_lays_182 (by decide) ?_
              refine lv_goto (tgt := 32) hx hb dX9_lays_227 (by decide) ?_
              exact ih.2.1 (va) (v176) (0) (upd (w13) (j).toNatClampNeg t) (upd (w14) (t).toNatClampNeg v174) H locs ls (by first | omega | (rw [show (0 : Int32).toInt = 0 from by decide]; omega)) (by first | omega | (rw [show (0 : Int32).toInt = 0 from by decide]; omega)) (by assumption) (by first | exact g4 | (intro i hi; rw [show (0 : Int32).toInt = 0 from by decide] at hi; omega) | (intro i hi; have q3 := zcl (x := j) (by omega); by_cases q4 : i = j.toNatClampNeg; rw [q4, pk_us]; omega; rw [pk_un q4]; exact g4 i (by omega)) | (intro i hi; exact g4 i (by omega))) (by first | exact (fun _ => ⟨by decide, by decide, fun q hq _ => g3 q (by omega)⟩) | (intro q; exfalso; have q5 := (g5 q).1; have q6 := q.1; omega) | (intro q; have q3 := zcl (x := j) (by omega); refine ⟨by omega, by decide, fun y hy hi => ?_⟩; have q4 := hi j.toNatClampNeg (by omega); rw [pk_us] at q4; rw [pk_un (show y ≠ t.toNatClampNeg from by have q7 := zcl (x := t) (by omega); omega)]; exact (g5 q).2 y hy (fun i hj => by have q8 := hi i (by omega); rw [pk_un (show i ≠ j.toNatClampNeg from by omega)] at q8; exact q8))) (by first | (rw [if_neg (by decide)]; have z1 : zM (σ 13) (0 : Int32).toInt.toNat (0 : Int32).toInt.toNat ≤ 12 ^ 11 := Nat.sub_le _ _; rw [show (10 - (0 : Int32).toInt.toNat) = 10 from by decide]; omega) | (rw [if_pos (by omega)]; omega) | (show (if v176.toInt < 0 then 0 else zM (upd w13 j.toInt.toNat t) v176.toInt.toNat (0 : Int32).toInt.toNat * 1000 + (10 - v176.toInt.toNat) * 50 + 40) < n; rw [if_neg (by omega), show v176.toInt.toNat = j.toInt.toNat + 1 from by omega, show (0 : Int32).toInt.toNat = 0 from by decide, zM_place (by omega)]; omega) | (rw [if_neg (by omega)]; have z2 := zM_back (f := w13) (q := v185.toInt.toNat) (t := t.toInt.toNat) (fun i hi => by have z3 := g4 i (by omega); omega) (by omega) (by omega); rw [show v185.toInt.toNat + 1 = j.toInt.toNat from by omega] at z2; rw [show v224.toInt.toNat = (w13 v185.toInt.toNat).toInt.toNat + 1 from by have z4 : v185.toNatClampNeg = v185.toInt.toNat := rfl; rw [z4] at tv222 hd8; omega]; omega)) hP hD hS (lv_sub hl [2, 3, 4, 1, 0] rfl)
        · skip
          have ic96 := znlt (a := u.toInt) (b := t.toInt) rfl rfl c96
          refine lv_iload hx hb dX9_lays_99 (lv_at hl 4 rfl) ?_
          refine lv_iload_n hx hb dX9_lays_101 rfl (lv_at hl 1 rfl) ?_
          refine lv_icmp_ge (tgt := 134) hx hb dX9_lays_102 (by decide) (fun c102 => ?_) (fun c102 => ?_)
          · skip
            have ic102 := zle (a := x1.toInt) (b := t.toInt) rfl rfl c102
            refine lv_iload hx hb dX9_lays_134 (lv_at hl 4 rfl) ?_
            refine lv_iload hx hb dX9_lays_136 (lv_at hl 5 rfl) ?_
            refine lv_icmp_gt (tgt := 185) hx hb dX9_lays_138 (by decide) (fun c138 => ?_) (fun c138 => ?_)
            · skip
              have ic138 := zlt (a := u.toInt) (b := t.toInt) rfl rfl c138
              obtain ⟨v185, ev185⟩ : ∃ y : Int32, y = j + (-1) := ⟨_, rfl⟩
              refine lv_iinc (v := v185) (lv' := [(3, .int v185), (0, .ref (a 0)), (1, .int x1), (2, .int va), (4, .int t), (5, .int u)]) hx hb dX9_lays_185 hl (k := 3) rfl (by rw [ev185]; rfl) (by decide) rfl (fun ls hl => ?_)
              have tv185 : v185.toInt = j.toInt + (-1) := by rw [ev185, zadd, show ((-1) : Int32).toInt = (-1) from by decide]; omega
              refine lv_iload_n hx hb dX9_lays_188 rfl (lv_at hl 0 rfl) ?_
              refine lv_if_lt (tgt := 227) hx hb dX9_lays_189 (by decide) (fun c189 => ?_) (fun c189 => ?_)
              · skip
                have ic189 := zlt (a := v185.toInt) (b := 0) rfl (by decide) c189
                refine lv_goto (tgt := 32) hx hb dX9_lays_227 (by decide) ?_
                exact ih.2.1 (va) (v185) (t) (w13) (w14) H locs ls (by first | omega | (rw [show (0 : Int32).toInt = 0 from by decide]; omega)) (by first | omega | (rw [show (0 : Int32).toInt = 0 from by decide]; omega)) (by assumption) (by first | exact g4 | (intro i hi; rw [show (0 : Int32).toInt = 0 from by decide] at hi; omega) | (intro i hi; have q3 := zcl (x := j) (by omega); by_cases q4 : i = j.toNatClampNeg; rw [q4, pk_us]; omega; rw [pk_un q4]; exact g4 i (by omega)) | (intro i hi; exact g4 i (by omega))) (by first | exact (fun _ => ⟨by decide, by decide, fun q hq _ => g3 q (by omega)⟩) | (intro q; exfalso; have q5 := (g5 q).1; have q6 := q.1; omega) | (intro q; have q3 := zcl (x := j) (by omega); refine ⟨by omega, by decide, fun y hy hi => ?_⟩; have q4 := hi j.toNatClampNeg (by omega); rw [pk_us] at q4; rw [pk_un (show y ≠ t.toNatClampNeg from by have q7 := zcl (x := t) (by omega); omega)]; exact (g5 q).2 y hy (fun i hj => by have q8 := hi i (by omega); rw [pk_un (show i ≠ j.toNatClampNeg from by omega)] at q8; exact q8))) (by first | (rw [if_neg (by decide)]; have z1 : zM (σ 13) (0 : Int32).toInt.toNat (0 : Int32).toInt.toNat ≤ 12 ^ 11 := Nat.sub_le _ _; rw [show (10 - (0 : Int32).toInt.toNat) = 10 from by decide]; omega) | (rw [if_pos (by omega)]; omega) | (show (if v176.toInt < 0 then 0 else zM (upd w13 j.toInt.toNat t) v176.toInt.toNat (0 : Int32).toInt.toNat * 1000 + (10 - v176.toInt.toNat) * 50 + 40) < n; rw [if_neg (by omega), show v176.toInt.toNat = j.toInt.toNat + 1 from by omega, show (0 : Int32).toInt.toNat = 0 from by decide, zM_place (by omega)]; omega) | (rw [if_neg (by omega)]; have z2 := zM_back (f := w13) (q := v185.toInt.toNat) (t := t.toInt.toNat) (fun i hi => by have z3 := g4 i (by omega); omega) (by omega) (by omega); rw [show v185.toInt.toNat + 1 = j.toInt.toNat from by omega] at z2; rw [show v224.toInt.toNat = (w13 v185.toInt.toNat).toInt.toNat + 1 from by have z4 : v185.toNatClampNeg = v185.toInt.toNat := rfl; rw [z4] at tv222 hd8; omega]; omega)) hP hD hS (lv_sub hl [1, 2, 3, 0, 4] rfl)
              · skip
                have ic189 := znlt (a := v185.toInt) (b := 0) rfl (by decide) c189
                refine lv_aload_n hx hb dX9_lays_192 rfl (lv_at hl 1 rfl) ?_
                refine va_get (D := (dC, dI)) (ci := 9) (v := .ref (a 14)) (C := RX9) (T := TX9) (N := 28) hx hb hts in9 hown hK hP 0 rfl rfl 24 (by decide) k49 (fun _ h9 => h9) rfl dX9_lays_193 ?_
                refine lv_aload_n hx hb dX9_lays_196 rfl (lv_at hl 1 rfl) ?_
                refine va_get (D := (dC, dI)) (ci := 9) (v := .ref (a 13)) (C := RX9) (T := TX9) (N := 28) hx hb hts in9 hown hK hP 0 rfl rfl 23 (by decide) k46 (fun _ h9 => h9) rfl dX9_lays_197 ?_
                refine lv_iload_n hx hb dX9_lays_200 rfl (lv_at hl 0 rfl) ?_
                refine va_iald (D := (dC, dI)) (f := w13) hx hb hK hP 13 0 rfl rfl (i := v185) (n := 10) (zin (by omega) (by omega)) dX9_lays_201 ?_
                refine lv_topi (fun v201 ev201 => ?_)
                have tv201 := congrArg Int32.toInt ev201
                have hd9 := g4 (v185.toNatClampNeg) (by have q := zcl (x := v185) (by omega); omega)
                have hk9 := zcl (x := v185) (by omega)
                refine lv_dup2_11 hx hb dX9_lays_202 rfl rfl ?_
                refine va_iald (D := (dC, dI)) (f := w14) hx hb hK hP 14 0 rfl rfl (i := v201) (n := 11) (zin (by omega) (by omega)) dX9_lays_203 ?_
                refine lv_topi (fun v203 ev203 => ?_)
                have tv203 := congrArg Int32.toInt ev203
                refine lv_aload_n hx hb dX9_lays_204 rfl (lv_at hl 1 rfl) ?_
                refine va_get (D := (dC, dI)) (ci := 9) (v := .ref (a 4)) (C := RX9) (T := TX9) (N := 28) hx hb hts in9 hown hK hP 0 rfl rfl 12 (by decide) k19 (fun _ h9 => h9) rfl dX9_lays_205 ?_
                refine lv_aload_n hx hb dX9_lays_208 rfl (lv_at hl 1 rfl) ?_
                refine va_get (D := (dC, dI)) (ci := 9) (v := .ref (a 12)) (C := RX9) (T := TX9) (N := 28) hx hb hts in9 hown hK hP 0 rfl rfl 22 (by decide) k43 (fun _ h9 => h9) rfl dX9_lays_209 ?_
                refine lv_iload_n hx hb dX9_lays_212 rfl (lv_at hl 0 rfl) ?_
                refine va_iald (D := (dC, dI)) (f := σ 12) hx hb hK hP 12 0 rfl rfl (i := v185) (n := 10) (zin (by omega) (by omega)) dX9_lays_213 ?_
                refine lv_topi (fun v213 ev213 => ?_)
                have tv213 := congrArg Int32.toInt ev213
                have hb9 := hv ((v185).toNatClampNeg) (by have q := zcl (x := v185) (by omega); omega)
                refine va_iald (D := (dC, dI)) (f := σ 4) hx hb hK hP 4 0 rfl rfl (i := v213) (n := 10) (zin (by omega) (by omega)) dX9_lays_214 ?_
                refine lv_topi (fun v214 ev214 => ?_)
                have tv214 := congrArg Int32.toInt ev214
                refine lv_isub hx hb dX9_lays_215 ?_
                refine lv_topi (fun v215 ev215 => ?_)
                refine va_iast (D := (dC, dI)) (f := w14) hx hb hK hP hD hS 14 0 rfl rfl (i := v201) (n := 11) (zin (by omega) (by omega)) dX9_lays_216 (fun H locs hP hD hS => ?_)
                have hP : va_P (dC, dI) vwCl (wM a cI (upC (upC σ 13 w13) 14 (upd (w14) (v201).toNatClampNeg v215))) H := hP
                have hD : va_D A (wM a cI (upC (upC σ 13 w13) 14 (upd (w14) (v201).toNatClampNeg v215))) := hD
                refine lv_aload_n hx hb dX9_lays_217 rfl (lv_at hl 1 rfl) ?_
                refine va_get (D := (dC, dI)) (ci := 9) (v := .ref (a 13)) (C := RX9) (T := TX9) (N := 28) hx hb hts in9 hown hK hP 0 rfl rfl 23 (by decide) k46 (fun _ h9 => h9) rfl dX9_lays_218 ?_
                refine lv_iload_n hx hb dX9_lays_221 rfl (lv_at hl 0 rfl) ?_
                refine va_iald (D := (dC, dI)) (f := w13) hx hb hK hP 13 0 rfl rfl (i := v185) (n := 10) (zin (by omega) (by omega)) dX9_lays_222 ?_
                refine lv_topi (fun v222 ev222 => ?_)
                have tv222 := congrArg Int32.toInt ev222
                have hd8 := g4 (v185.toNatClampNeg) (by have q := zcl (x := v185) (by omega); omega)
                have hk8 := zcl (x := v185) (by omega)
                refine lv_iconst (v := 1) hx hb dX9_lays_223 (by decide) ?_
                refine lv_iadd hx hb dX9_lays_224 ?_
                refine lv_topi (fun v224 ev224 => ?_)
                have tv224 : v224.toInt = v222.toInt + 1 := by rw [ev224, zadd, show (1 : Int32).toInt = 1 from by decide]; omega
                refine lv_istore (lv' := [(4, .int v224), (3, .int v185), (0, .ref (a 0)), (1, .int x1), (2, .int va), (5, .int u)]) hx hb dX9_lays_225 hl (by decide) rfl (fun ls hl => ?_)
                refine lv_goto (tgt := 32) hx hb dX9_lays_227 (by decide) ?_
                exact ih.2.1 (va) (v185) (v224) (w13) (upd (w14) (v201).toNatClampNeg v215) H locs ls (by first | omega | (rw [show (0 : Int32).toInt = 0 from by decide]; omega)) (by first | omega | (rw [show (0 : Int32).toInt = 0 from by decide]; omega)) (by assumption) (by first | exact g4 | (intro i hi; rw [show (0 : Int32).toInt = 0 from by decide] at hi; omega) | (intro i hi; have q3 := zcl (x := j) (by omega); by_cases q4 : i = j.toNatClampNeg; rw [q4, pk_us]; omega; rw [pk_un q4]; exact g4 i (by omega)) | (intro i hi; exact g4 i (by omega))) (by first | exact (fun _ => ⟨by decide, by decide, fun q hq _ => g3 q (by omega)⟩) | (intro q; exfalso; have q5 := (g5 q).1; have q6 := q.1; omega) | (intro q; have q3 := zcl (x := j) (by omega); refine ⟨by omega, by decide, fun y hy hi => ?_⟩; have q4 := hi j.toNatClampNeg (by omega); rw [pk_us] at q4; rw [pk_un (show y ≠ t.toNatClampNeg from by have q7 := zcl (x := t) (by omega); omega)]; exact (g5 q).2 y hy (fun i hj => by have q8 := hi i (by omega); rw [pk_un (show i ≠ j.toNatClampNeg from by omega)] at q8; exact q8))) (by first | (rw [if_neg (by decide)]; have z1 : zM (σ 13) (0 : Int32).toInt.toNat (0 : Int32).toInt.toNat ≤ 12 ^ 11 := Nat.sub_le _ _; rw [show (10 - (0 : Int32).toInt.toNat) = 10 from by decide]; omega) | (rw [if_pos (by omega)]; omega) | (show (if v176.toInt < 0 then 0 else zM (upd w13 j.toInt.toNat t) v176.toInt.toNat (0 : Int32).toInt.toNat * 1000 + (10 - v176.toInt.toNat) * 50 + 40) < n; rw [if_neg (by omega), show v176.toInt.toNat = j.toInt.toNat + 1 from by omega, show (0 : Int32).toInt.toNat = 0 from by decide, zM_place (by omega)]; omega) | (rw [if_neg (by omega)]; have z2 := zM_back (f := w13) (q := v185.toInt.toNat) (t := t.toInt.toNat) (fun i hi => by have z3 := g4 i (by omega); omega) (by omega) (by omega); rw [show v185.toInt.toNat + 1 = j.toInt.toNat from by omega] at z2; rw [show v224.toInt.toNat = (w13 v185.toInt.toNat).toInt.toNat + 1 from by have z4 : v185.toNatClampNeg = v185.toInt.toNat := rfl; rw [z4] at tv222 hd8; omega]; omega)) hP hD hS (lv_sub hl [2, 3, 4, 1, 0] rfl)
            · skip
              have ic138 := znlt (a := u.toInt) (b := t.toInt) rfl rfl c138
              refine lv_iload hx hb dX9_lays_141 (lv_at hl 4 rfl) ?_
              refine lv_iload_n hx hb dX9_lays_143 rfl (lv_at hl 1 rfl) ?_
              refine lv_icmp_ge (tgt := 185) hx hb dX9_lays_144 (by decide) (fun c144 => ?_) (fun c144 => ?_)
              · skip
                have ic144 := zle (a := x1.toInt) (b := t.toInt) rfl rfl c144
                obtain ⟨v185, ev185⟩ : ∃ y : Int32, y = j + (-1) := ⟨_, rfl⟩
                refine lv_iinc (v := v185) (lv' := [(3, .int v185), (0, .ref (a 0)), (1, .int x1), (2, .int va), (4, .int t), (5, .int u)]) hx hb dX9_lays_185 hl (k := 3) rfl (by rw [ev185]; rfl) (by decide) rfl (fun ls hl => ?_)
                have tv185 : v185.toInt = j.toInt + (-1) := by rw [ev185, zadd, show ((-1) : Int32).toInt = (-1) from by decide]; omega
                refine lv_iload_n hx hb dX9_lays_188 rfl (lv_at hl 0 rfl) ?_
                refine lv_if_lt (tgt := 227) hx hb dX9_lays_189 (by decide) (fun c189 => ?_) (fun c189 => ?_)
                · skip
                  have ic189 := zlt (a := v185.toInt) (b := 0) rfl (by decide) c189
                  refine lv_goto (tgt := 32) hx hb dX9_lays_227 (by decide) ?_
                  exact ih.2.1 (va) (v185) (t) (w13) (w14) H locs ls (by first | omega | (rw [show (0 : Int32).toInt = 0 from by decide]; omega)) (by first | omega | (rw [show (0 : Int32).toInt = 0 from by decide]; omega)) (by assumption) (by first | exact g4 | (intro i hi; rw [show (0 : Int32).toInt = 0 from by decide] at hi; omega) | (intro i hi; have q3 := zcl (x := j) (by omega); by_cases q4 : i = j.toNatClampNeg; rw [q4, pk_us]; omega; rw [pk_un q4]; exact g4 i (by omega)) | (intro i hi; exact g4 i (by omega))) (by first | exact (fun _ => ⟨by decide, by decide, fun q hq _ => g3 q (by omega)⟩) | (intro q; exfalso; have q5 := (g5 q).1; have q6 := q.1; omega) | (intro q; have q3 := zcl (x := j) (by omega); refine ⟨by omega, by decide, fun y hy hi => ?_⟩; have q4 := hi j.toNatClampNeg (by omega); rw [pk_us] at q4; rw [pk_un (show y ≠ t.toNatClampNeg from by have q7 := zcl (x := t) (by omega); omega)]; exact (g5 q).2 y hy (fun i hj => by have q8 := hi i (by omega); rw [pk_un (show i ≠ j.toNatClampNeg from by omega)] at q8; exact q8))) (by first | (rw [if_neg (by decide)]; have z1 : zM (σ 13) (0 : Int32).toInt.toNat (0 : Int32).toInt.toNat ≤ 12 ^ 11 := Nat.sub_le _ _; rw [show (10 - (0 : Int32).toInt.toNat) = 10 from by decide]; omega) | (rw [if_pos (by omega)]; omega) | (show (if v176.toInt < 0 then 0 else zM (upd w13 j.toInt.toNat t) v176.toInt.toNat (0 : Int32).toInt.toNat * 1000 + (10 - v176.toInt.toNat) * 50 + 40) < n; rw [if_neg (by omega), show v176.toInt.toNat = j.toInt.toNat + 1 from by omega, show (0 : Int32).toInt.toNat = 0 from by decide, zM_place (by omega)]; omega) | (rw [if_neg (by omega)]; have z2 := zM_back (f := w13) (q := v185.toInt.toNat) (t := t.toInt.toNat) (fun i hi => by have z3 := g4 i (by omega); omega) (by omega) (by omega); rw [show v185.toInt.toNat + 1 = j.toInt.toNat from by omega] at z2; rw [show v224.toInt.toNat = (w13 v185.toInt.toNat).toInt.toNat + 1 from by have z4 : v185.toNatClampNeg = v185.toInt.toNat := rfl; rw [z4] at tv222 hd8; omega]; omega)) hP hD hS (lv_sub hl [1, 2, 3, 0, 4] rfl)
                · skip
                  have ic189 := znlt (a := v185.toInt) (b := 0) rfl (by decide) c189
                  refine lv_aload_n hx hb dX9_lays_192 rfl (lv_at hl 1 rfl) ?_
                  refine va_get (D := (dC, dI)) (ci := 9) (v := .ref (a 14)) (C := RX9) (T := TX9) (N := 28) hx hb hts in9 hown hK hP 0 rfl rfl 24 (by decide) k49 (fun _ h9 => h9) rfl dX9_lays_193 ?_
                  refine lv_aload_n hx hb dX9_lays_196 rfl (lv_at hl 1 rfl) ?_
                  refine va_get (D := (dC, dI)) (ci := 9) (v := .ref (a 13)) (C := RX9) (T := TX9) (N := 28) hx hb hts in9 hown hK hP 0 rfl rfl 23 (by decide) k46 (fun _ h9 => h9) rfl dX9_lays_197 ?_
                  refine lv_iload_n hx hb dX9_lays_200 rfl (lv_at hl 0 rfl) ?_
                  refine va_iald (D := (dC, dI)) (f := w13) hx hb hK hP 13 0 rfl rfl (i := v185) (n := 10) (zin (by omega) (by omega)) dX9_lays_201 ?_
                  refine lv_topi (fun v201 ev201 => ?_)
                  have tv201 := congrArg Int32.toInt ev201
                  have hd9 := g4 (v185.toNatClampNeg) (by have q := zcl (x := v185) (by omega); omega)
                  have hk9 := zcl (x := v185) (by omega)
                  refine lv_dup2_11 hx hb dX9_lays_202 rfl rfl ?_
                  refine va_iald (D := (dC, dI)) (f := w14) hx hb hK hP 14 0 rfl rfl (i := v201) (n := 11) (zin (by omega) (by omega)) dX9_lays_203 ?_
                  refine lv_topi (fun v203 ev203 => ?_)
                  have tv203 := congrArg Int32.toInt ev203
                  refine lv_aload_n hx hb dX9_lays_204 rfl (lv_at hl 1 rfl) ?_
                  refine va_get (D := (dC, dI)) (ci := 9) (v := .ref (a 4)) (C := RX9) (T := TX9) (N := 28) hx hb hts in9 hown hK hP 0 rfl rfl 12 (by decide) k19 (fun _ h9 => h9) rfl dX9_lays_205 ?_
                  refine lv_aload_n hx hb dX9_lays_208 rfl (lv_at hl 1 rfl) ?_
                  refine va_get (D := (dC, dI)) (ci := 9) (v := .ref (a 12)) (C := RX9) (T := TX9) (N := 28) hx hb hts in9 hown hK hP 0 rfl rfl 22 (by decide) k43 (fun _ h9 => h9) rfl dX9_lays_209 ?_
                  refine lv_iload_n hx hb dX9_lays_212 rfl (lv_at hl 0 rfl) ?_
                  refine va_iald (D := (dC, dI)) (f := σ 12) hx hb hK hP 12 0 rfl rfl (i := v185) (n := 10) (zin (by omega) (by omega)) dX9_lays_213 ?_
                  refine lv_topi (fun v213 ev213 => ?_)
                  have tv213 := congrArg Int32.toInt ev213
                  have hb9 := hv ((v185).toNatClampNeg) (by have q := zcl (x := v185) (by omega); omega)
                  refine va_iald (D := (dC, dI)) (f := σ 4) hx hb hK hP 4 0 rfl rfl (i := v213) (n := 10) (zin (by omega) (by omega)) dX9_lays_214 ?_
                  refine lv_topi (fun v214 ev214 => ?_)
                  have tv214 := congrArg Int32.toInt ev214
                  refine lv_isub hx hb dX9_lays_215 ?_
                  refine lv_topi (fun v215 ev215 => ?_)
                  refine va_iast (D := (dC, dI)) (f := w14) hx hb hK hP hD hS 14 0 rfl rfl (i := v201) (n := 11) (zin (by omega) (by omega)) dX9_lays_216 (fun H locs hP hD hS => ?_)
                  have hP : va_P (dC, dI) vwCl (wM a cI (upC (upC σ 13 w13) 14 (upd (w14) (v201).toNatClampNeg v215))) H := hP
                  have hD : va_D A (wM a cI (upC (upC σ 13 w13) 14 (upd (w14) (v201).toNatClampNeg v215))) := hD
                  refine lv_aload_n hx hb dX9_lays_217 rfl (lv_at hl 1 rfl) ?_
                  refine va_get (D := (dC, dI)) (ci := 9) (v := .ref (a 13)) (C := RX9) (T := TX9) (N := 28) hx hb hts in9 hown hK hP 0 rfl rfl 23 (by decide) k46 (fun _ h9 => h9) rfl dX9_lays_218 ?_
                  refine lv_iload_n hx hb dX9_lays_221 rfl (lv_at hl 0 rfl) ?_
                  refine va_iald (D := (dC, dI)) (f := w13) hx hb hK hP 13 0 rfl rfl (i := v185) (n := 10) (zin (by omega) (by omega)) dX9_lays_222 ?_
                  refine lv_topi (fun v222 ev222 => ?_)
                  have tv222 := congrArg Int32.toInt ev222
                  have hd8 := g4 (v185.toNatClampNeg) (by have q := zcl (x := v185) (by omega); omega)
                  have hk8 := zcl (x := v185) (by omega)
                  refine lv_iconst (v := 1) hx hb dX9_lays_223 (by decide) ?_
                  refine lv_iadd hx hb dX9_lays_224 ?_
                  refine lv_topi (fun v224 ev224 => ?_)
                  have tv224 : v224.toInt = v222.toInt + 1 := by rw [ev224, zadd, show (1 : Int32).toInt = 1 from by decide]; omega
                  refine lv_istore (lv' := [(4, .int v224), (3, .int v185), (0, .ref (a 0)), (1, .int x1), (2, .int va), (5, .int u)]) hx hb dX9_lays_225 hl (by decide) rfl (fun ls hl => ?_)
                  refine lv_goto (tgt := 32) hx hb dX9_lays_227 (by decide) ?_
                  exact ih.2.1 (va) (v185) (v224) (w13) (upd (w14) (v201).toNatClampNeg v215) H locs ls (by first | omega | (rw [show (0 : Int32).toInt = 0 from by decide]; omega)) (by first | omega | (rw [show (0 : Int32).toInt = 0 from by decide]; omega)) (by assumption) (by first | exact g4 | (intro i hi; rw [show (0 : Int32).toInt = 0 from by decide] at hi; omega) | (intro i hi; have q3 := zcl (x := j) (by omega); by_cases q4 : i = j.toNatClampNeg; rw [q4, pk_us]; omega; rw [pk_un q4]; exact g4 i (by omega)) | (intro i hi; exact g4 i (by omega))) (by first | exact (fun _ => ⟨by decide, by decide, fun q hq _ => g3 q (by omega)⟩) | (intro q; exfalso; have q5 := (g5 q).1; have q6 := q.1; omega) | (intro q; have q3 := zcl (x := j) (by omega); refine ⟨by omega, by decide, fun y hy hi => ?_⟩; have q4 := hi j.toNatClampNeg (by omega); rw [pk_us] at q4; rw [pk_un (show y ≠ t.toNatClampNeg from by have q7 := zcl (x := t) (by omega); omega)]; exact (g5 q).2 y hy (fun i hj => by have q8 := hi i (by omega); rw [pk_un (show i ≠ j.toNatClampNeg from by omega)] at q8; exact q8))) (by first | (rw [if_neg (by decide)]; have z1 : zM (σ 13) (0 : Int32).toInt.toNat (0 : Int32).toInt.toNat ≤ 12 ^ 11 := Nat.sub_le _ _; rw [show (10 - (0 : Int32).toInt.toNat) = 10 from by decide]; omega) | (rw [if_pos (by omega)]; omega) | (show (if v176.toInt < 0 then 0 else zM (upd w13 j.toInt.toNat t) v176.toInt.toNat (0 : Int32).toInt.toNat * 1000 + (10 - v176.toInt.toNat) * 50 + 40) < n; rw [if_neg (by omega), show v176.toInt.toNat = j.toInt.toNat + 1 from by omega, show (0 : Int32).toInt.toNat = 0 from by decide, zM_place (by omega)]; omega) | (rw [if_neg (by omega)]; have z2 := zM_back (f := w13) (q := v185.toInt.toNat) (t := t.toInt.toNat) (fun i hi => by have z3 := g4 i (by omega); omega) (by omega) (by omega); rw [show v185.toInt.toNat + 1 = j.toInt.toNat from by omega] at z2; rw [show v224.toInt.toNat = (w13 v185.toInt.toNat).toInt.toNat + 1 from by have z4 : v185.toNatClampNeg = v185.toInt.toNat := rfl; rw [z4] at tv222 hd8; omega]; omega)) hP hD hS (lv_sub hl [2, 3, 4, 1, 0] rfl)
              · skip
                have ic144 := znle (a := x1.toInt) (b := t.toInt) rfl rfl c144
                refine lv_aload_n hx hb dX9_lays_147 rfl (lv_at hl 0 rfl) ?_
                refine va_get (D := (dC, dI)) (ci := 9) (v := .ref (a 13)) (C := RX9) (T := TX9) (N := 28) hx hb hts in9 hown hK hP 0 rfl rfl 23 (by decide) k46 (fun _ h9 => h9) rfl dX9_lays_148 ?_
                refine lv_iload_n hx hb dX9_lays_151 rfl (lv_at hl 3 rfl) ?_
                refine lv_iload hx hb dX9_lays_152 (lv_at hl 4 rfl) ?_
                refine va_iast (D := (dC, dI)) (f := w13) hx hb hK hP hD hS 13 0 rfl rfl (i := j) (n := 10) (zin (by omega) (by omega)) dX9_lays_154 (fun H locs hP hD hS => ?_)
                have hP : va_P (dC, dI) vwCl (wM a cI (upC (upC σ 13 (upd (w13) (j).toNatClampNeg t)) 14 w14)) H := hP
                have hD : va_D A (wM a cI (upC (upC σ 13 (upd (w13) (j).toNatClampNeg t)) 14 w14)) := hD
                refine lv_aload_n hx hb dX9_lays_155 rfl (lv_at hl 0 rfl) ?_
                refine va_get (D := (dC, dI)) (ci := 9) (v := .ref (a 14)) (C := RX9) (T := TX9) (N := 28) hx hb hts in9 hown hK hP 0 rfl rfl 24 (by decide) k49 (fun _ h9 => h9) rfl dX9_lays_156 ?_
                refine lv_iload hx hb dX9_lays_159 (lv_at hl 4 rfl) ?_
                refine lv_dup2_11 hx hb dX9_lays_161 rfl rfl ?_
                refine va_iald (D := (dC, dI)) (f := w14) hx hb hK hP 14 0 rfl rfl (i := t) (n := 11) (zin (by omega) (by omega)) dX9_lays_162 ?_
                refine lv_topi (fun v162 ev162 => ?_)
                have tv162 := congrArg Int32.toInt ev162
                refine lv_aload_n hx hb dX9_lays_163 rfl (lv_at hl 0 rfl) ?_
                refine va_get (D := (dC, dI)) (ci := 9) (v := .ref (a 4)) (C := RX9) (T := TX9) (N := 28) hx hb hts in9 hown hK hP 0 rfl rfl 12 (by decide) k19 (fun _ h9 => h9) rfl dX9_lays_164 ?_
                refine lv_aload_n hx hb dX9_lays_167 rfl (lv_at hl 0 rfl) ?_
                refine va_get (D := (dC, dI)) (ci := 9) (v := .ref (a 12)) (C := RX9) (T := TX9) (N := 28) hx hb hts in9 hown hK hP 0 rfl rfl 22 (by decide) k43 (fun _ h9 => h9) rfl dX9_lays_168 ?_
                refine lv_iload_n hx hb dX9_lays_171 rfl (lv_at hl 3 rfl) ?_
                refine va_iald (D := (dC, dI)) (f := σ 12) hx hb hK hP 12 0 rfl rfl (i := j) (n := 10) (zin (by omega) (by omega)) dX9_lays_172 ?_
                refine lv_topi (fun v172 ev172 => ?_)
                have tv172 := congrArg Int32.toInt ev172
                have hb9 := hv ((j).toNatClampNeg) (by have q := zcl (x := j) (by omega); omega)
                refine va_iald (D := (dC, dI)) (f := σ 4) hx hb hK hP 4 0 rfl rfl (i := v172) (n := 10) (zin (by omega) (by omega)) dX9_lays_173 ?_
                refine lv_topi (fun v173 ev173 => ?_)
                have tv173 := congrArg Int32.toInt ev173
                refine lv_iadd hx hb dX9_lays_174 ?_
                refine lv_topi (fun v174 ev174 => ?_)
                refine va_iast (D := (dC, dI)) (f := w14) hx hb hK hP hD hS 14 0 rfl rfl (i := t) (n := 11) (zin (by omega) (by omega)) dX9_lays_175 (fun H locs hP hD hS => ?_)
                have hP : va_P (dC, dI) vwCl (wM a cI (upC (upC σ 13 (upd (w13) (j).toNatClampNeg t)) 14 (upd (w14) (t).toNatClampNeg v174))) H := hP
                have hD : va_D A (wM a cI (upC (upC σ 13 (upd (w13) (j).toNatClampNeg t)) 14 (upd (w14) (t).toNatClampNeg v174))) := hD
                obtain ⟨v176, ev176⟩ : ∃ y : Int32, y = j + 1 := ⟨_, rfl⟩
                refine lv_iinc (v := v176) (lv' := [(3, .int v176), (0, .ref (a 0)), (1, .int x1), (2, .int va), (4, .int t), (5, .int u)]) hx hb dX9_lays_176 hl (k := 3) rfl (by rw [ev176]; rfl) (by decide) rfl (fun ls hl => ?_)
                have tv176 : v176.toInt = j.toInt + 1 := by rw [ev176, zadd, show (1 : Int32).toInt = 1 from by decide]; omega
                refine lv_iconst (v := 0) hx hb dX9_lays_179 (by decide) ?_
                refine lv_istore (lv' := [(4, .int 0), (3, .int v176), (0, .ref (a 0)), (1, .int x1), (2, .int va), (5, .int u)]) hx hb dX9_lays_180 hl (by decide) rfl (fun ls hl => ?_)
                refine lv_goto (tgt := 227) hx hb dX9_lays_182 (by decide) ?_
                refine lv_goto (tgt := 32) hx hb dX9_lays_227 (by decide) ?_
                exact ih.2.1 (va) (v176) (0) (upd (w13) (j).toNatClampNeg t) (upd (w14) (t).toNatClampNeg v174) H locs ls (by first | omega | (rw [show (0 : Int32).toInt = 0 from by decide]; omega)) (by first | omega | (rw [show (0 : Int32).toInt = 0 from by decide]; omega)) (by assumption) (by first | exact g4 | (intro i hi; rw [show (0 : Int32).toInt = 0 from by decide] at hi; omega) | (intro i hi; have q3 := zcl (x := j) (by omega); by_cases q4 : i = j.toNatClampNeg; rw [q4, pk_us]; omega; rw [pk_un q4]; exact g4 i (by omega)) | (intro i hi; exact g4 i (by omega))) (by first | exact (fun _ => ⟨by decide, by decide, fun q hq _ => g3 q (by omega)⟩) | (intro q; exfalso; have q5 := (g5 q).1; have q6 := q.1; omega) | (intro q; have q3 := zcl (x := j) (by omega); refine ⟨by omega, by decide, fun y hy hi => ?_⟩; have q4 := hi j.toNatClampNeg (by omega); rw [pk_us] at q4; rw [pk_un (show y ≠ t.toNatClampNeg from by have q7 := zcl (x := t) (by omega); omega)]; exact (g5 q).2 y hy (fun i hj => by have q8 := hi i (by omega); rw [pk_un (show i ≠ j.toNatClampNeg from by omega)] at q8; exact q8))) (by first | (rw [if_neg (by decide)]; have z1 : zM (σ 13) (0 : Int32).toInt.toNat (0 : Int32).toInt.toNat ≤ 12 ^ 11 := Nat.sub_le _ _; rw [show (10 - (0 : Int32).toInt.toNat) = 10 from by decide]; omega) | (rw [if_pos (by omega)]; omega) | (show (if v176.toInt < 0 then 0 else zM (upd w13 j.toInt.toNat t) v176.toInt.toNat (0 : Int32).toInt.toNat * 1000 + (10 - v176.toInt.toNat) * 50 + 40) < n; rw [if_neg (by omega), show v176.toInt.toNat = j.toInt.toNat + 1 from by omega, show (0 : Int32).toInt.toNat = 0 from by decide, zM_place (by omega)]; omega) | (rw [if_neg (by omega)]; have z2 := zM_back (f := w13) (q := v185.toInt.toNat) (t := t.toInt.toNat) (fun i hi => by have z3 := g4 i (by omega); omega) (by omega) (by omega); rw [show v185.toInt.toNat + 1 = j.toInt.toNat from by omega] at z2; rw [show v224.toInt.toNat = (w13 v185.toInt.toNat).toInt.toNat + 1 from by have z4 : v185.toNatClampNeg = v185.toInt.toNat := rfl; rw [z4] at tv222 hd8; omega]; omega)) hP hD hS (lv_sub hl [2, 3, 4, 1, 0] rfl)
          · skip
            have ic102 := znle (a := x1.toInt) (b := t.toInt) rfl rfl c102
            refine lv_aload_n hx hb dX9_lays_105 rfl (lv_at hl 0 rfl) ?_
            refine va_get (D := (dC, dI)) (ci := 9) (v := .ref (a 14)) (C := RX9) (T := TX9) (N := 28) hx hb hts in9 hown hK hP 0 rfl rfl 24 (by decide) k49 (fun _ h9 => h9) rfl dX9_lays_106 ?_
            refine lv_iload hx hb dX9_lays_109 (lv_at hl 4 rfl) ?_
            refine va_iald (D := (dC, dI)) (f := w14) hx hb hK hP 14 0 rfl rfl (i := t) (n := 11) (zin (by omega) (by omega)) dX9_lays_111 ?_
            refine lv_topi (fun v111 ev111 => ?_)
            have tv111 := congrArg Int32.toInt ev111
            refine lv_aload_n hx hb dX9_lays_112 rfl (lv_at hl 0 rfl) ?_
            refine va_get (D := (dC, dI)) (ci := 9) (v := .ref (a 4)) (C := RX9) (T := TX9) (N := 28) hx hb hts in9 hown hK hP 0 rfl rfl 12 (by decide) k19 (fun _ h9 => h9) rfl dX9_lays_113 ?_
            refine lv_aload_n hx hb dX9_lays_116 rfl (lv_at hl 0 rfl) ?_
            refine va_get (D := (dC, dI)) (ci := 9) (v := .ref (a 12)) (C := RX9) (T := TX9) (N := 28) hx hb hts in9 hown hK hP 0 rfl rfl 22 (by decide) k43 (fun _ h9 => h9) rfl dX9_lays_117 ?_
            refine lv_iload_n hx hb dX9_lays_120 rfl (lv_at hl 3 rfl) ?_
            refine va_iald (D := (dC, dI)) (f := σ 12) hx hb hK hP 12 0 rfl rfl (i := j) (n := 10) (zin (by omega) (by omega)) dX9_lays_121 ?_
            refine lv_topi (fun v121 ev121 => ?_)
            have tv121 := congrArg Int32.toInt ev121
            have hb9 := hv ((j).toNatClampNeg) (by have q := zcl (x := j) (by omega); omega)
            refine va_iald (D := (dC, dI)) (f := σ 4) hx hb hK hP 4 0 rfl rfl (i := v121) (n := 10) (zin (by omega) (by omega)) dX9_lays_122 ?_
            refine lv_topi (fun v122 ev122 => ?_)
            have tv122 := congrArg Int32.toInt ev122
            refine lv_iadd hx hb dX9_lays_123 ?_
            refine lv_topi (fun v123 ev123 => ?_)
            have tv123 : v123.toInt = (v111.toInt + v122.toInt + 2147483648) % 4294967296 - 2147483648 := by rw [ev123, zadd]
            refine lv_iload_n hx hb dX9_lays_124 rfl (lv_at hl 2 rfl) ?_
            refine lv_icmp_le (tgt := 134) hx hb dX9_lays_125 (by decide) (fun c125 => ?_) (fun c125 => ?_)
            · skip
              have ic125 := zle (a := v123.toInt) (b := va.toInt) rfl rfl c125
              refine lv_iload hx hb dX9_lays_134 (lv_at hl 4 rfl) ?_
              refine lv_iload hx hb dX9_lays_136 (lv_at hl 5 rfl) ?_
              refine lv_icmp_gt (tgt := 185) hx hb dX9_lays_138 (by decide) (fun c138 => ?_) (fun c138 => ?_)
              · skip
                have ic138 := zlt (a := u.toInt) (b := t.toInt) rfl rfl c138
                obtain ⟨v185, ev185⟩ : ∃ y : Int32, y = j + (-1) := ⟨_, rfl⟩
                refine lv_iinc (v := v185) (lv' := [(3, .int v185), (0, .ref (a 0)), (1, .int x1), (2, .int va), (4, .int t), (5, .int u)]) hx hb dX9_lays_185 hl (k := 3) rfl (by rw [ev185]; rfl) (by decide) rfl (fun ls hl => ?_)
                have tv185 : v185.toInt = j.toInt + (-1) := by rw [ev185, zadd, show ((-1) : Int32).toInt = (-1) from by decide]; omega
                refine lv_iload_n hx hb dX9_lays_188 rfl (lv_at hl 0 rfl) ?_
                refine lv_if_lt (tgt := 227) hx hb dX9_lays_189 (by decide) (fun c189 => ?_) (fun c189 => ?_)
                · skip
                  have ic189 := zlt (a := v185.toInt) (b := 0) rfl (by decide) c189
                  refine lv_goto (tgt := 32) hx hb dX9_lays_227 (by decide) ?_
                  exact ih.2.1 (va) (v185) (t) (w13) (w14) H locs ls (by first | omega | (rw [show (0 : Int32).toInt = 0 from by decide]; omega)) (by first | omega | (rw [show (0 : Int32).toInt = 0 from by decide]; omega)) (by assumption) (by first | exact g4 | (intro i hi; rw [show (0 : Int32).toInt = 0 from by decide] at hi; omega) | (intro i hi; have q3 := zcl (x := j) (by omega); by_cases q4 : i = j.toNatClampNeg; rw [q4, pk_us]; omega; rw [pk_un q4]; exact g4 i (by omega)) | (intro i hi; exact g4 i (by omega))) (by first | exact (fun _ => ⟨by decide, by decide, fun q hq _ => g3 q (by omega)⟩) | (intro q; exfalso; have q5 := (g5 q).1; have q6 := q.1; omega) | (intro q; have q3 := zcl (x := j) (by omega); refine ⟨by omega, by decide, fun y hy hi => ?_⟩; have q4 := hi j.toNatClampNeg (by omega); rw [pk_us] at q4; rw [pk_un (show y ≠ t.toNatClampNeg from by have q7 := zcl (x := t) (by omega); omega)]; exact (g5 q).2 y hy (fun i hj => by have q8 := hi i (by omega); rw [pk_un (show i ≠ j.toNatClampNeg from by omega)] at q8; exact q8))) (by first | (rw [if_neg (by decide)]; have z1 : zM (σ 13) (0 : Int32).toInt.toNat (0 : Int32).toInt.toNat ≤ 12 ^ 11 := Nat.sub_le _ _; rw [show (10 - (0 : Int32).toInt.toNat) = 10 from by decide]; omega) | (rw [if_pos (by omega)]; omega) | (show (if v176.toInt < 0 then 0 else zM (upd w13 j.toInt.toNat t) v176.toInt.toNat (0 : Int32).toInt.toNat * 1000 + (10 - v176.toInt.toNat) * 50 + 40) < n; rw [if_neg (by omega), show v176.toInt.toNat = j.toInt.toNat + 1 from by omega, show (0 : Int32).toInt.toNat = 0 from by decide, zM_place (by omega)]; omega) | (rw [if_neg (by omega)]; have z2 := zM_back (f := w13) (q := v185.toInt.toNat) (t := t.toInt.toNat) (fun i hi => by have z3 := g4 i (by omega); omega) (by omega) (by omega); rw [show v185.toInt.toNat + 1 = j.toInt.toNat from by omega] at z2; rw [show v224.toInt.toNat = (w13 v185.toInt.toNat).toInt.toNat + 1 from by have z4 : v185.toNatClampNeg = v185.toInt.toNat := rfl; rw [z4] at tv222 hd8; omega]; omega)) hP hD hS (lv_sub hl [1, 2, 3, 0, 4] rfl)
                · skip
                  have ic189 := znlt (a := v185.toInt) (b := 0) rfl (by decide) c189
                  refine lv_aload_n hx hb dX9_lays_192 rfl (lv_at hl 1 rfl) ?_
                  refine va_get (D := (dC, dI)) (ci := 9) (v := .ref (a 14)) (C := RX9) (T := TX9) (N := 28) hx hb hts in9 hown hK hP 0 rfl rfl 24 (by decide) k49 (fun _ h9 => h9) rfl dX9_lays_193 ?_
                  refine lv_aload_n hx hb dX9_lays_196 rfl (lv_at hl 1 rfl) ?_
                  refine va_get (D := (dC, dI)) (ci := 9) (v := .ref (a 13)) (C := RX9) (T := TX9) (N := 28) hx hb hts in9 hown hK hP 0 rfl rfl 23 (by decide) k46 (fun _ h9 => h9) rfl dX9_lays_197 ?_
                  refine lv_iload_n hx hb dX9_lays_200 rfl (lv_at hl 0 rfl) ?_
                  refine va_iald (D := (dC, dI)) (f := w13) hx hb hK hP 13 0 rfl rfl (i := v185) (n := 10) (zin (by omega) (by omega)) dX9_lays_201 ?_
                  refine lv_topi (fun v201 ev201 => ?_)
                  have tv201 := congrArg Int32.toInt ev201
                  have hd9 := g4 (v185.toNatClampNeg) (by have q := zcl (x := v185) (by omega); omega)
                  have hk9 := zcl (x := v185) (by omega)
                  refine lv_dup2_11 hx hb dX9_lays_202 rfl rfl ?_
                  refine va_iald (D := (dC, dI)) (f := w14) hx hb hK hP 14 0 rfl rfl (i := v201) (n := 11) (zin (by omega) (by omega)) dX9_lays_203 ?_
                  refine lv_topi (fun v203 ev203 => ?_)
                  have tv203 := congrArg Int32.toInt ev203
                  refine lv_aload_n hx hb dX9_lays_204 rfl (lv_at hl 1 rfl) ?_
                  refine va_get (D := (dC, dI)) (ci := 9) (v := .ref (a 4)) (C := RX9) (T := TX9) (N := 28) hx hb hts in9 hown hK hP 0 rfl rfl 12 (by decide) k19 (fun _ h9 => h9) rfl dX9_lays_205 ?_
                  refine lv_aload_n hx hb dX9_lays_208 rfl (lv_at hl 1 rfl) ?_
                  refine va_get (D := (dC, dI)) (ci := 9) (v := .ref (a 12)) (C := RX9) (T := TX9) (N := 28) hx hb hts in9 hown hK hP 0 rfl rfl 22 (by decide) k43 (fun _ h9 => h9) rfl dX9_lays_209 ?_
                  refine lv_iload_n hx hb dX9_lays_212 rfl (lv_at hl 0 rfl) ?_
                  refine va_iald (D := (dC, dI)) (f := σ 12) hx hb hK hP 12 0 rfl rfl (i := v185) (n := 10) (zin (by omega) (by omega)) dX9_lays_213 ?_
                  refine lv_topi (fun v213 ev213 => ?_)
                  have tv213 := congrArg Int32.toInt ev213
                  have hb9 := hv ((v185).toNatClampNeg) (by have q := zcl (x := v185) (by omega); omega)
                  refine va_iald (D := (dC, dI)) (f := σ 4) hx hb hK hP 4 0 rfl rfl (i := v213) (n := 10) (zin (by omega) (by omega)) dX9_lays_214 ?_
                  refine lv_topi (fun v214 ev214 => ?_)
                  have tv214 := congrArg Int32.toInt ev214
                  refine lv_isub hx hb dX9_lays_215 ?_
                  refine lv_topi (fun v215 ev215 => ?_)
                  refine va_iast (D := (dC, dI)) (f := w14) hx hb hK hP hD hS 14 0 rfl rfl (i := v201) (n := 11) (zin (by omega) (by omega)) dX9_lays_216 (fun H locs hP hD hS => ?_)
                  have hP : va_P (dC, dI) vwCl (wM a cI (upC (upC σ 13 w13) 14 (upd (w14) (v201).toNatClampNeg v215))) H := hP
                  have hD : va_D A (wM a cI (upC (upC σ 13 w13) 14 (upd (w14) (v201).toNatClampNeg v215))) := hD
                  refine lv_aload_n hx hb dX9_lays_217 rfl (lv_at hl 1 rfl) ?_
                  refine va_get (D := (dC, dI)) (ci := 9) (v := .ref (a 13)) (C := RX9) (T := TX9) (N := 28) hx hb hts in9 hown hK hP 0 rfl rfl 23 (by decide) k46 (fun _ h9 => h9) rfl dX9_lays_218 ?_
                  refine lv_iload_n hx hb dX9_lays_221 rfl (lv_at hl 0 rfl) ?_
                  refine va_iald (D := (dC, dI)) (f := w13) hx hb hK hP 13 0 rfl rfl (i := v185) (n := 10) (zin (by omega) (by omega)) dX9_lays_222 ?_
                  refine lv_topi (fun v222 ev222 => ?_)
                  have tv222 := congrArg Int32.toInt ev222
                  have hd8 := g4 (v185.toNatClampNeg) (by have q := zcl (x := v185) (by omega); omega)
                  have hk8 := zcl (x := v185) (by omega)
                  refine lv_iconst (v := 1) hx hb dX9_lays_223 (by decide) ?_
                  refine lv_iadd hx hb dX9_lays_224 ?_
                  refine lv_topi (fun v224 ev224 => ?_)
                  have tv224 : v224.toInt = v222.toInt + 1 := by rw [ev224, zadd, show (1 : Int32).toInt = 1 from by decide]; omega
                  refine lv_istore (lv' := [(4, .int v224), (3, .int v185), (0, .ref (a 0)), (1, .int x1), (2, .int va), (5, .int u)]) hx hb dX9_lays_225 hl (by decide) rfl (fun ls hl => ?_)
                  refine lv_goto (tgt := 32) hx hb dX9_lays_227 (by decide) ?_
                  exact ih.2.1 (va) (v185) (v224) (w13) (upd (w14) (v201).toNatClampNeg v215) H locs ls (by first | omega | (rw [show (0 : Int32).toInt = 0 from by decide]; omega)) (by first | omega | (rw [show (0 : Int32).toInt = 0 from by decide]; omega)) (by assumption) (by first | exact g4 | (intro i hi; rw [show (0 : Int32).toInt = 0 from by decide] at hi; omega) | (intro i hi; have q3 := zcl (x := j) (by omega); by_cases q4 : i = j.toNatClampNeg; rw [q4, pk_us]; omega; rw [pk_un q4]; exact g4 i (by omega)) | (intro i hi; exact g4 i (by omega))) (by first | exact (fun _ => ⟨by decide, by decide, fun q hq _ => g3 q (by omega)⟩) | (intro q; exfalso; have q5 := (g5 q).1; have q6 := q.1; omega) | (intro q; have q3 := zcl (x := j) (by omega); refine ⟨by omega, by decide, fun y hy hi => ?_⟩; have q4 := hi j.toNatClampNeg (by omega); rw [pk_us] at q4; rw [pk_un (show y ≠ t.toNatClampNeg from by have q7 := zcl (x := t) (by omega); omega)]; exact (g5 q).2 y hy (fun i hj => by have q8 := hi i (by omega); rw [pk_un (show i ≠ j.toNatClampNeg from by omega)] at q8; exact q8))) (by first | (rw [if_neg (by decide)]; have z1 : zM (σ 13) (0 : Int32).toInt.toNat (0 : Int32).toInt.toNat ≤ 12 ^ 11 := Nat.sub_le _ _; rw [show (10 - (0 : Int32).toInt.toNat) = 10 from by decide]; omega) | (rw [if_pos (by omega)]; omega) | (show (if v176.toInt < 0 then 0 else zM (upd w13 j.toInt.toNat t) v176.toInt.toNat (0 : Int32).toInt.toNat * 1000 + (10 - v176.toInt.toNat) * 50 + 40) < n; rw [if_neg (by omega), show v176.toInt.toNat = j.toInt.toNat + 1 from by omega, show (0 : Int32).toInt.toNat = 0 from by decide, zM_place (by omega)]; omega) | (rw [if_neg (by omega)]; have z2 := zM_back (f := w13) (q := v185.toInt.toNat) (t := t.toInt.toNat) (fun i hi => by have z3 := g4 i (by omega); omega) (by omega) (by omega); rw [show v185.toInt.toNat + 1 = j.toInt.toNat from by omega] at z2; rw [show v224.toInt.toNat = (w13 v185.toInt.toNat).toInt.toNat + 1 from by have z4 : v185.toNatClampNeg = v185.toInt.toNat := rfl; rw [z4] at tv222 hd8; omega]; omega)) hP hD hS (lv_sub hl [2, 3, 4, 1, 0] rfl)
              · skip
                have ic138 := znlt (a := u.toInt) (b := t.toInt) rfl rfl c138
                refine lv_iload hx hb dX9_lays_141 (lv_at hl 4 rfl) ?_
                refine lv_iload_n hx hb dX9_lays_143 rfl (lv_at hl 1 rfl) ?_
                refine lv_icmp_ge (tgt := 185) hx hb dX9_lays_144 (by decide) (fun c144 => ?_) (fun c144 => ?_)
                · skip
                  have ic144 := zle (a := x1.toInt) (b := t.toInt) rfl rfl c144
                  obtain ⟨v185, ev185⟩ : ∃ y : Int32, y = j + (-1) := ⟨_, rfl⟩
                  refine lv_iinc (v := v185) (lv' := [(3, .int v185), (0, .ref (a 0)), (1, .int x1), (2, .int va), (4, .int t), (5, .int u)]) hx hb dX9_lays_185 hl (k := 3) rfl (by rw [ev185]; rfl) (by decide) rfl (fun ls hl => ?_)
                  have tv185 : v185.toInt = j.toInt + (-1) := by rw [ev185, zadd, show ((-1) : Int32).toInt = (-1) from by decide]; omega
                  refine lv_iload_n hx hb dX9_lays_188 rfl (lv_at hl 0 rfl) ?_
                  refine lv_if_lt (tgt := 227) hx hb dX9_lays_189 (by decide) (fun c189 => ?_) (fun c189 => ?_)
                  · skip
                    have ic189 := zlt (a := v185.toInt) (b := 0) rfl (by decide) c189
                    refine lv_goto (tgt := 32) hx hb dX9_lays_227 (by decide) ?_
                    exact ih.2.1 (va) (v185) (t) (w13) (w14) H locs ls (by first | omega | (rw [show (0 : Int32).toInt = 0 from by decide]; omega)) (by first | omega | (rw [show (0 : Int32).toInt = 0 from by decide]; omega)) (by assumption) (by first | exact g4 | (intro i hi; rw [show (0 : Int32).toInt = 0 from by decide] at hi; omega) | (intro i hi; have q3 := zcl (x := j) (by omega); by_cases q4 : i = j.toNatClampNeg; rw [q4, pk_us]; omega; rw [pk_un q4]; exact g4 i (by omega)) | (intro i hi; exact g4 i (by omega))) (by first | exact (fun _ => ⟨by decide, by decide, fun q hq _ => g3 q (by omega)⟩) | (intro q; exfalso; have q5 := (g5 q).1; have q6 := q.1; omega) | (intro q; have q3 := zcl (x := j) (by omega); refine ⟨by omega, by decide, fun y hy hi => ?_⟩; have q4 := hi j.toNatClampNeg (by omega); rw [pk_us] at q4; rw [pk_un (show y ≠ t.toNatClampNeg from by have q7 := zcl (x := t) (by omega); omega)]; exact (g5 q).2 y hy (fun i hj => by have q8 := hi i (by omega); rw [pk_un (show i ≠ j.toNatClampNeg from by omega)] at q8; exact q8))) (by first | (rw [if_neg (by decide)]; have z1 : zM (σ 13) (0 : Int32).toInt.toNat (0 : Int32).toInt.toNat ≤ 12 ^ 11 := Nat.sub_le _ _; rw [show (10 - (0 : Int32).toInt.toNat) = 10 from by decide]; omega) | (rw [if_pos (by omega)]; omega) | (show (if v176.toInt < 0 then 0 else zM (upd w13 j.toInt.toNat t) v176.toInt.toNat (0 : Int32).toInt.toNat * 1000 + (10 - v176.toInt.toNat) * 50 + 40) < n; rw [if_neg (by omega), show v176.toInt.toNat = j.toInt.toNat + 1 from by omega, show (0 : Int32).toInt.toNat = 0 from by decide, zM_place (by omega)]; omega) | (rw [if_neg (by omega)]; have z2 := zM_back (f := w13) (q := v185.toInt.toNat) (t := t.toInt.toNat) (fun i hi => by have z3 := g4 i (by omega); omega) (by omega) (by omega); rw [show v185.toInt.toNat + 1 = j.toInt.toNat from by omega] at z2; rw [show v224.toInt.toNat = (w13 v185.toInt.toNat).toInt.toNat + 1 from by have z4 : v185.toNatClampNeg = v185.toInt.toNat := rfl; rw [z4] at tv222 hd8; omega]; omega)) hP hD hS (lv_sub hl [1, 2, 3, 0, 4] rfl)
                  · skip
                    have ic189 := znlt (a := v185.toInt) (b := 0) rfl (by decide) c189
                    refine lv_aload_n hx hb dX9_lays_192 rfl (lv_at hl 1 rfl) ?_
                    refine va_get (D := (dC, dI)) (ci := 9) (v := .ref (a 14)) (C := RX9) (T := TX9) (N := 28) hx hb hts in9 hown hK hP 0 rfl rfl 24 (by decide) k49 (fun _ h9 => h9) rfl dX9_lays_193 ?_
                    refine lv_aload_n hx hb dX9_lays_196 rfl (lv_at hl 1 rfl) ?_
                    refine va_get (D := (dC, dI)) (ci := 9) (v := .ref (a 13)) (C := RX9) (T := TX9) (N := 28) hx hb hts in9 hown hK hP 0 rfl rfl 23 (by decide) k46 (fun _ h9 => h9) rfl dX9_lays_197 ?_
                    refine lv_iload_n hx hb dX9_lays_200 rfl (lv_at hl 0 rfl) ?_
                    refine va_iald (D := (dC, dI)) (f := w13) hx hb hK hP 13 0 rfl rfl (i := v185) (n := 10) (zin (by omega) (by omega)) dX9_lays_201 ?_
                    refine lv_topi (fun v201 ev201 => ?_)
                    have tv201 := congrArg Int32.toInt ev201
                    have hd9 := g4 (v185.toNatClampNeg) (by have q := zcl (x := v185) (by omega); omega)
                    have hk9 := zcl (x := v185) (by omega)
                    refine lv_dup2_11 hx hb dX9_lays_202 rfl rfl ?_
                    refine va_iald (D := (dC, dI)) (f := w14) hx hb hK hP 14 0 rfl rfl (i := v201) (n := 11) (zin (by omega) (by omega)) dX9_lays_203 ?_
                    refine lv_topi (fun v203 ev203 => ?_)
                    have tv203 := congrArg Int32.toInt ev203
                    refine lv_aload_n hx hb dX9_lays_204 rfl (lv_at hl 1 rfl) ?_
                    refine va_get (D := (dC, dI)) (ci := 9) (v := .ref (a 4)) (C := RX9) (T := TX9) (N := 28) hx hb hts in9 hown hK hP 0 rfl rfl 12 (by decide) k19 (fun _ h9 => h9) rfl dX9_lays_205 ?_
                    refine lv_aload_n hx hb dX9_lays_208 rfl (lv_at hl 1 rfl) ?_
                    refine va_get (D := (dC, dI)) (ci := 9) (v := .ref (a 12)) (C := RX9) (T := TX9) (N := 28) hx hb hts in9 hown hK hP 0 rfl rfl 22 (by decide) k43 (fun _ h9 => h9) rfl dX9_lays_209 ?_
                    refine lv_iload_n hx hb dX9_lays_212 rfl (lv_at hl 0 rfl) ?_
                    refine va_iald (D := (dC, dI)) (f := σ 12) hx hb hK hP 12 0 rfl rfl (i := v185) (n := 10) (zin (by omega) (by omega)) dX9_lays_213 ?_
                    refine lv_topi (fun v213 ev213 => ?_)
                    have tv213 := congrArg Int32.toInt ev213
                    have hb9 := hv ((v185).toNatClampNeg) (by have q := zcl (x := v185) (by omega); omega)
                    refine va_iald (D := (dC, dI)) (f := σ 4) hx hb hK hP 4 0 rfl rfl (i := v213) (n := 10) (zin (by omega) (by omega)) dX9_lays_214 ?_
                    refine lv_topi (fun v214 ev214 => ?_)
                    have tv214 := congrArg Int32.toInt ev214
                    refine lv_isub hx hb dX9_lays_215 ?_
                    refine lv_topi (fun v215 ev215 => ?_)
                    refine va_iast (D := (dC, dI)) (f := w14) hx hb hK hP hD hS 14 0 rfl rfl (i := v201) (n := 11) (zin (by omega) (by omega)) dX9_lays_216 (fun H locs hP hD hS => ?_)
                    have hP : va_P (dC, dI) vwCl (wM a cI (upC (upC σ 13 w13) 14 (upd (w14) (v201).toNatClampNeg v215))) H := hP
                    have hD : va_D A (wM a cI (upC (upC σ 13 w13) 14 (upd (w14) (v201).toNatClampNeg v215))) := hD
                    refine lv_aload_n hx hb dX9_lays_217 rfl (lv_at hl 1 rfl) ?_
                    refine va_get (D := (dC, dI)) (ci := 9) (v := .ref (a 13)) (C := RX9) (T := TX9) (N := 28) hx hb hts in9 hown hK hP 0 rfl rfl 23 (by decide) k46 (fun _ h9 => h9) rfl dX9_lays_218 ?_
                    refine lv_iload_n hx hb dX9_lays_221 rfl (lv_at hl 0 rfl) ?_
                    refine va_iald (D := (dC, dI)) (f := w13) hx hb hK hP 13 0 rfl rfl (i := v185) (n := 10) (zin (by omega) (by omega)) dX9_lays_222 ?_
                    refine lv_topi (fun v222 ev222 => ?_)
                    have tv222 := congrArg Int32.toInt ev222
                    have hd8 := g4 (v185.toNatClampNeg) (by have q := zcl (x := v185) (by omega); omega)
                    have hk8 := zcl (x := v185) (by omega)
                    refine lv_iconst (v := 1) hx hb dX9_lays_223 (by decide) ?_
                    refine lv_iadd hx hb dX9_lays_224 ?_
                    refine lv_topi (fun v224 ev224 => ?_)
                    have tv224 : v224.toInt = v222.toInt + 1 := by rw [ev224, zadd, show (1 : Int32).toInt = 1 from by decide]; omega
                    refine lv_istore (lv' := [(4, .int v224), (3, .int v185), (0, .ref (a 0)), (1, .int x1), (2, .int va), (5, .int u)]) hx hb dX9_lays_225 hl (by decide) rfl (fun ls hl => ?_)
                    refine lv_goto (tgt := 32) hx hb dX9_lays_227 (by decide) ?_
                    exact ih.2.1 (va) (v185) (v224) (w13) (upd (w14) (v201).toNatClampNeg v215) H locs ls (by first | omega | (rw [show (0 : Int32).toInt = 0 from by decide]; omega)) (by first | omega | (rw [show (0 : Int32).toInt = 0 from by decide]; omega)) (by assumption) (by first | exact g4 | (intro i hi; rw [show (0 : Int32).toInt = 0 from by decide] at hi; omega) | (intro i hi; have q3 := zcl (x := j) (by omega); by_cases q4 : i = j.toNatClampNeg; rw [q4, pk_us]; omega; rw [pk_un q4]; exact g4 i (by omega)) | (intro i hi; exact g4 i (by omega))) (by first | exact (fun _ => ⟨by decide, by decide, fun q hq _ => g3 q (by omega)⟩) | (intro q; exfalso; have q5 := (g5 q).1; have q6 := q.1; omega) | (intro q; have q3 := zcl (x := j) (by omega); refine ⟨by omega, by decide, fun y hy hi => ?_⟩; have q4 := hi j.toNatClampNeg (by omega); rw [pk_us] at q4; rw [pk_un (show y ≠ t.toNatClampNeg from by have q7 := zcl (x := t) (by omega); omega)]; exact (g5 q).2 y hy (fun i hj => by have q8 := hi i (by omega); rw [pk_un (show i ≠ j.toNatClampNeg from by omega)] at q8; exact q8))) (by first | (rw [if_neg (by decide)]; have z1 : zM (σ 13) (0 : Int32).toInt.toNat (0 : Int32).toInt.toNat ≤ 12 ^ 11 := Nat.sub_le _ _; rw [show (10 - (0 : Int32).toInt.toNat) = 10 from by decide]; omega) | (rw [if_pos (by omega)]; omega) | (show (if v176.toInt < 0 then 0 else zM (upd w13 j.toInt.toNat t) v176.toInt.toNat (0 : Int32).toInt.toNat * 1000 + (10 - v176.toInt.toNat) * 50 + 40) < n; rw [if_neg (by omega), show v176.toInt.toNat = j.toInt.toNat + 1 from by omega, show (0 : Int32).toInt.toNat = 0 from by decide, zM_place (by omega)]; omega) | (rw [if_neg (by omega)]; have z2 := zM_back (f := w13) (q := v185.toInt.toNat) (t := t.toInt.toNat) (fun i hi => by have z3 := g4 i (by omega); omega) (by omega) (by omega); rw [show v185.toInt.toNat + 1 = j.toInt.toNat from by omega] at z2; rw [show v224.toInt.toNat = (w13 v185.toInt.toNat).toInt.toNat + 1 from by have z4 : v185.toNatClampNeg = v185.toInt.toNat := rfl; rw [z4] at tv222 hd8; omega]; omega)) hP hD hS (lv_sub hl [2, 3, 4, 1, 0] rfl)
                · skip
                  have ic144 := znle (a := x1.toInt) (b := t.toInt) rfl rfl c144
                  refine lv_aload_n hx hb dX9_lays_147 rfl (lv_at hl 0 rfl) ?_
                  refine va_get (D := (dC, dI)) (ci := 9) (v := .ref (a 13)) (C := RX9) (T := TX9) (N := 28) hx hb hts in9 hown hK hP 0 rfl rfl 23 (by decide) k46 (fun _ h9 => h9) rfl dX9_lays_148 ?_
                  refine lv_iload_n hx hb dX9_lays_151 rfl (lv_at hl 3 rfl) ?_
                  refine lv_iload hx hb dX9_lays_152 (lv_at hl 4 rfl) ?_
                  refine va_iast (D := (dC, dI)) (f := w13) hx hb hK hP hD hS 13 0 rfl rfl (i := j) (n := 10) (zin (by omega) (by omega)) dX9_lays_154 (fun H locs hP hD hS => ?_)
                  have hP : va_P (dC, dI) vwCl (wM a cI (upC (upC σ 13 (upd (w13) (j).toNatClampNeg t)) 14 w14)) H := hP
                  have hD : va_D A (wM a cI (upC (upC σ 13 (upd (w13) (j).toNatClampNeg t)) 14 w14)) := hD
                  refine lv_aload_n hx hb dX9_lays_155 rfl (lv_at hl 0 rfl) ?_
                  refine va_get (D := (dC, dI)) (ci := 9) (v := .ref (a 14)) (C := RX9) (T := TX9) (N := 28) hx hb hts in9 hown hK hP 0 rfl rfl 24 (by decide) k49 (fun _ h9 => h9) rfl dX9_lays_156 ?_
                  refine lv_iload hx hb dX9_lays_159 (lv_at hl 4 rfl) ?_
                  refine lv_dup2_11 hx hb dX9_lays_161 rfl rfl ?_
                  refine va_iald (D := (dC, dI)) (f := w14) hx hb hK hP 14 0 rfl rfl (i := t) (n := 11) (zin (by omega) (by omega)) dX9_lays_162 ?_
                  refine lv_topi (fun v162 ev162 => ?_)
                  have tv162 := congrArg Int32.toInt ev162
                  refine lv_aload_n hx hb dX9_lays_163 rfl (lv_at hl 0 rfl) ?_
                  refine va_get (D := (dC, dI)) (ci := 9) (v := .ref (a 4)) (C := RX9) (T := TX9) (N := 28) hx hb hts in9 hown hK hP 0 rfl rfl 12 (by decide) k19 (fun _ h9 => h9) rfl dX9_lays_164 ?_
                  refine lv_aload_n hx hb dX9_lays_167 rfl (lv_at hl 0 rfl) ?_
                  refine va_get (D := (dC, dI)) (ci := 9) (v := .ref (a 12)) (C := RX9) (T := TX9) (N := 28) hx hb hts in9 hown hK hP 0 rfl rfl 22 (by decide) k43 (fun _ h9 => h9) rfl dX9_lays_168 ?_
                  refine lv_iload_n hx hb dX9_lays_171 rfl (lv_at hl 3 rfl) ?_
                  refine va_iald (D := (dC, dI)) (f := σ 12) hx hb hK hP 12 0 rfl rfl (i := j) (n := 10) (zin (by omega) (by omega)) dX9_lays_172 ?_
                  refine lv_topi (fun v172 ev172 => ?_)
                  have tv172 := congrArg Int32.toInt ev172
                  have hb9 := hv ((j).toNatClampNeg) (by have q := zcl (x := j) (by omega); omega)
                  refine va_iald (D := (dC, dI)) (f := σ 4) hx hb hK hP 4 0 rfl rfl (i := v172) (n := 10) (zin (by omega) (by omega)) dX9_lays_173 ?_
                  refine lv_topi (fun v173 ev173 => ?_)
                  have tv173 := congrArg Int32.toInt ev173
                  refine lv_iadd hx hb dX9_lays_174 ?_
                  refine lv_topi (fun v174 ev174 => ?_)
                  refine va_iast (D := (dC, dI)) (f := w14) hx hb hK hP hD hS 14 0 rfl rfl (i := t) (n := 11) (zin (by omega) (by omega)) dX9_lays_175 (fun H locs hP hD hS => ?_)
                  have hP : va_P (dC, dI) vwCl (wM a cI (upC (upC σ 13 (upd (w13) (j).toNatClampNeg t)) 14 (upd (w14) (t).toNatClampNeg v174))) H := hP
                  have hD : va_D A (wM a cI (upC (upC σ 13 (upd (w13) (j).toNatClampNeg t)) 14 (upd (w14) (t).toNatClampNeg v174))) := hD
                  obtain ⟨v176, ev176⟩ : ∃ y : Int32, y = j + 1 := ⟨_, rfl⟩
                  refine lv_iinc (v := v176) (lv' := [(3, .int v176), (0, .ref (a 0)), (1, .int x1), (2, .int va), (4, .int t), (5, .int u)]) hx hb dX9_lays_176 hl (k := 3) rfl (by rw [ev176]; rfl) (by decide) rfl (fun ls hl => ?_)
                  have tv176 : v176.toInt = j.toInt + 1 := by rw [ev176, zadd, show (1 : Int32).toInt = 1 from by decide]; omega
                  refine lv_iconst (v := 0) hx hb dX9_lays_179 (by decide) ?_
                  refine lv_istore (lv' := [(4, .int 0), (3, .int v176), (0, .ref (a 0)), (1, .int x1), (2, .int va), (5, .int u)]) hx hb dX9_lays_180 hl (by decide) rfl (fun ls hl => ?_)
                  refine lv_goto (tgt := 227) hx hb dX9_lays_182 (by decide) ?_
                  refine lv_goto (tgt := 32) hx hb dX9_lays_227 (by decide) ?_
                  exact ih.2.1 (va) (v176) (0) (upd (w13) (j).toNatClampNeg t) (upd (w14) (t).toNatClampNeg v174) H locs ls (by first | omega | (rw [show (0 : Int32).toInt = 0 from by decide]; omega)) (by first | omega | (rw [show (0 : Int32).toInt = 0 from by decide]; omega)) (by assumption) (by first | exact g4 | (intro i hi; rw [show (0 : Int32).toInt = 0 from by decide] at hi; omega) | (intro i hi; have q3 := zcl (x := j) (by omega); by_cases q4 : i = j.toNatClampNeg; rw [q4, pk_us]; omega; rw [pk_un q4]; exact g4 i (by omega)) | (intro i hi; exact g4 i (by omega))) (by first | exact (fun _ => ⟨by decide, by decide, fun q hq _ => g3 q (by omega)⟩) | (intro q; exfalso; have q5 := (g5 q).1; have q6 := q.1; omega) | (intro q; have q3 := zcl (x := j) (by omega); refine ⟨by omega, by decide, fun y hy hi => ?_⟩; have q4 := hi j.toNatClampNeg (by omega); rw [pk_us] at q4; rw [pk_un (show y ≠ t.toNatClampNeg from by have q7 := zcl (x := t) (by omega); omega)]; exact (g5 q).2 y hy (fun i hj => by have q8 := hi i (by omega); rw [pk_un (show i ≠ j.toNatClampNeg from by omega)] at q8; exact q8))) (by first | (rw [if_neg (by decide)]; have z1 : zM (σ 13) (0 : Int32).toInt.toNat (0 : Int32).toInt.toNat ≤ 12 ^ 11 := Nat.sub_le _ _; rw [show (10 - (0 : Int32).toInt.toNat) = 10 from by decide]; omega) | (rw [if_pos (by omega)]; omega) | (show (if v176.toInt < 0 then 0 else zM (upd w13 j.toInt.toNat t) v176.toInt.toNat (0 : Int32).toInt.toNat * 1000 + (10 - v176.toInt.toNat) * 50 + 40) < n; rw [if_neg (by omega), show v176.toInt.toNat = j.toInt.toNat + 1 from by omega, show (0 : Int32).toInt.toNat = 0 from by decide, zM_place (by omega)]; omega) | (rw [if_neg (by omega)]; have z2 := zM_back (f := w13) (q := v185.toInt.toNat) (t := t.toInt.toNat) (fun i hi => by have z3 := g4 i (by omega); omega) (by omega) (by omega); rw [show v185.toInt.toNat + 1 = j.toInt.toNat from by omega] at z2; rw [show v224.toInt.toNat = (w13 v185.toInt.toNat).toInt.toNat + 1 from by have z4 : v185.toNatClampNeg = v185.toInt.toNat := rfl; rw [z4] at tv222 hd8; omega]; omega)) hP hD hS (lv_sub hl [2, 3, 4, 1, 0] rfl)
            · skip
              have ic125 := znle (a := v123.toInt) (b := va.toInt) rfl rfl c125
              obtain ⟨v128, ev128⟩ : ∃ y : Int32, y = t + 1 := ⟨_, rfl⟩
              refine lv_iinc (v := v128) (lv' := [(4, .int v128), (0, .ref (a 0)), (1, .int x1), (2, .int va), (3, .int j), (5, .int u)]) hx hb dX9_lays_128 hl (k := 4) rfl (by rw [ev128]; rfl) (by decide) rfl (fun ls hl => ?_)
              have tv128 : v128.toInt = t.toInt + 1 := by rw [ev128, zadd, show (1 : Int32).toInt = 1 from by decide]; omega
              refine lv_goto (tgt := 92) hx hb dX9_lays_131 (by decide) ?_
              exact ih.2.2.2 (va) (j) (v128) (u) (w13) (w14) H locs ls (by omega) (by omega) (by assumption) (g4) (by first | exact (fun q => ⟨by have z1 := (g5 q).1; omega, (g5 q).2⟩) | (intro q; refine ⟨?_, (g5 q).2⟩; have z1 := (g5 q).1; rcases (show t.toInt < u.toInt ∨ t.toInt = u.toInt from by omega) with z2 | z2; omega; exfalso; have z3 := (g5 q).2 t.toNatClampNeg (by have z4 := zcl (x := t) (by omega); omega) (fun i hi => by have z4 := zcl (x := t) (by omega); have z5 := g7 i hi; omega); have z6 := q.2 j.toNatClampNeg (by have z7 := zcl (x := j) (by omega); omega); have z8 := zrng v122; rw [← ev121] at z6; omega)) (by omega) (by first | exact g7 | exact fun i hi => g7 i (by omega)) (by first | omega | (rw [show v128.toInt.toNat = t.toInt.toNat + 1 from by omega]; have hz9 := zM_mono (f := w13) (p := j.toInt.toNat) (t := t.toInt.toNat) (t2 := t.toInt.toNat + 1) (by omega); omega)) hP hD hS (lv_sub hl [1, 2, 3, 4, 0, 5] rfl)
  have hl := lv_entry ([.ref (a 0), .int x1]) (n := 7) (Nat.le_of_ble_eq_true rfl)
  rw [lg_entry_eq]
  generalize (lg_sl ([.ref (a 0), .int x1]) ++ List.replicate (7 - (lg_sl ([.ref (a 0), .int x1])).length) Slot.unset).toArray = ls at hl ⊢
  have hl : lv_has ls 7 [(0, .ref (a 0)), (1, .int x1)] := hl
  suffices main : ∀ (H : Heap) (locs : List Loc), va_P (dC, dI) vwCl (wM a cI σ) H → va_D A (wM a cI σ) → va_S A s.heap H locs → W p l e (headSpec wsX9_lays RM_X9_lays).room s m ([.ref (a 0), .int x1] : List Value).toArray below meth c H locs 0 0 (MQ below (zQi (dC, dI) [(cI, .int)] (wM a cI) A (fun (r : Int32) (σ1 : Cn) => ∃ u13 : Nat → Int32, ∃ u14 : Nat → Int32, σ1 = (upC (upC σ 13 u13) 14 u14) ∧ ((r : Int32).toInt = 1 ∨ (r : Int32).toInt = 0) ∧ (((σ 0 21).toInt ≤ x1.toInt ∧ ∀ i : Nat, (i : Int) < (σ 0 21).toInt → (σ 4 (σ 12 i).toNatClampNeg).toInt ≤ (mLaw (σ 2) 3).toInt) → (r : Int32).toInt = 1))) ([.ref (a 0), .int x1] : List Value).toArray s 0 0 A) (F0 m 0 ls []) from main s.heap [] hP hD hS
  intro H locs hP hD hS
  refine lv_aload_n hx hb dX9_lays_0 rfl (lv_at hl 0 rfl) ?_
  refine lv_iconst (v := 3) hx hb dX9_lays_1 (by decide) ?_
  refine zcalli (va_runV (As := [.int 3]) (rest := []) ⟨hx, hb, hml, hown, hts⟩ (c_X9_lawOf l dC dI cI a N hok σ H.size (3) (by decide)) (cwV 1 hts gX9_lays_X9_lawOf rfl rfl rfl (by decide +kernel) ⟨Nat.le_of_ble_eq_true rfl, Nat.le_of_ble_eq_true rfl⟩) (zpreV (wf := wM a cI) (q0 := 0) (ci := 9) hok hN hS hA hK hP hD rfl rfl) rfl rfl hl.1 rfl (lv_room (Nat.le_of_ble_eq_true rfl)) dX9_lays_2 ⟨Nat.zero_le _, Nat.zero_le _⟩) hD hS hA (fun v2 σ1 H locs hv2 hP hD hS => ?_)
  obtain ⟨es9, hv2⟩ := hv2
  subst σ1
  try simp only [show (3 : Int32).toInt = 3 from by decide] at hv2
  refine lv_istore_n (lv' := [(2, .int v2), (0, .ref (a 0)), (1, .int x1)]) hx hb dX9_lays_5 rfl hl (by decide) rfl (fun ls hl => ?_)
  refine lv_iconst (v := 0) hx hb dX9_lays_6 (by decide) ?_
  refine lv_istore_n (lv' := [(3, .int 0), (2, .int v2), (0, .ref (a 0)), (1, .int x1)]) hx hb dX9_lays_7 rfl hl (by decide) rfl (fun ls hl => ?_)
  exact (LP _).1 (v2) (0) (σ 14) H locs ls (by decide) (hv2) (by intro q hq; rw [show (0 : Int32).toInt = 0 from by decide] at hq; omega) (Nat.lt_succ_self _) hP hD hS (lv_sub hl [2, 3, 1, 0] rfl)

