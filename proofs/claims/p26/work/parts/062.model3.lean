/-! how many of the first n are taken -/
def zc (f : Nat → Int32) : Nat → Nat
  | 0 => 0
  | n + 1 => zc f n + (if f n = -4 then 0 else 1)
theorem zc_none {f : Nat → Int32} : ∀ {n : Nat}, (∀ j, j < n → f j = -4) → zc f n = 0
  | 0, _ => rfl
  | n + 1, h => by rw [zc, zc_none (fun j hj => h j (Nat.lt_succ_of_lt hj)), h n (Nat.lt_succ_self n)]; rfl
theorem zc_all {f : Nat → Int32} : ∀ {n : Nat}, (∀ j, j < n → ¬ f j = -4) → zc f n = n
  | 0, _ => rfl
  | n + 1, h => by rw [zc, zc_all (fun j hj => h j (Nat.lt_succ_of_lt hj)), if_neg (h n (Nat.lt_succ_self n))]
theorem zc_out {f : Nat → Int32} {k : Nat} {v : Int32} : ∀ {n : Nat}, n ≤ k → zc (upd f k v) n = zc f n
  | 0, _ => rfl
  | n + 1, h => by rw [zc, zc, zc_out (Nat.le_of_succ_le h), pk_un (by omega)]
theorem zc_upd {f : Nat → Int32} {k : Nat} {v : Int32} (hf : f k = -4) (hv : ¬ v = -4) : ∀ {n : Nat}, k < n → zc (upd f k v) n = zc f n + 1
  | 0, h => absurd h (Nat.not_lt_zero k)
  | n + 1, h => by
    rw [zc, zc]
    rcases Nat.lt_or_ge k n with q | q
    · rw [zc_upd hf hv q, pk_un (by omega)]; omega
    · have e : k = n := by omega
      subst e
      rw [zc_out (Nat.le_refl k), pk_us, if_neg hv, if_pos hf]

abbrev RM_X9_takes : Room := { frames := 1, cells := 0, slots := 0, locals := 25 }
set_option maxHeartbeats 4000000 in
set_option maxRecDepth 100000 in
theorem c_X9_takes (l : Launch) (dC : Nat → ClassId) (dI : Nat → Nat → Nat) (cI : ClassId) (a : Nat → Nat) (N : (Nat → Prop) → State → Prop) (hok : zNok N) (σ : Cn) (sz : Nat) (x1 : Int32) (x2 : Int32) (x3 : Int32) (x4 : Int32) (hp : 1 ≤ (σ 0 10).toInt ∧ (σ 0 10).toInt ≤ 4) (hs : 0 ≤ (σ 0 18).toInt ∧ (σ 0 18).toInt ≤ 10) (hq : ∀ j : Nat, (j : Int) < (σ 0 18).toInt → 0 ≤ (σ 10 j).toInt ∧ (σ 10 j).toInt < 10) : Met l yX9_takes wsX9_takes RM_X9_takes (zPc (dC, dI) [(cI, .int)] N (wM a cI) σ sz [.ref (a 0), .int x1, .int x2, .int x3, .int x4]) (zQv (dC, dI) [(cI, .int)] (wM a cI) (va_A (wM a cI σ) sz) (fun (σ1 : Cn) => ∃ u11 : Nat → Int32, σ1 = (upC σ 11 u11) ∧ True)) 0 0 (va_A (wM a cI σ) sz) := by
  refine Met.ofW (cc := cX9_takes) (maxL := 10) (ret := none) (by decide) rfl ?_
  intro p e s m args below meth c s₁ B hml hv
  obtain ⟨rfl, hsz, hP, hK, hD0, hN⟩ := hv
  have hx := B.exec
  have hb := B.bytes
  have hr := B.returns
  have hts := atoms_spec (ws := wsX9_takes) B.pre
  have hown : s.vm.findClass RX9 = some m.cls := findClass_of_methodNamed B.named
  have hlocks := B.notSynchronized
  subst hsz
  have hD := hD0.self (sz := s.heap.size)
  generalize hAe : va_A (wM a cI σ) s.heap.size = A at hD hN ⊢
  have hA : ∀ q : Nat, s.heap.size ≤ q → A q := fun q h => by rw [← hAe]; exact Or.inr h
  clear hAe hD0
  have hS : va_S A s.heap s.heap [] := va_S.rf
  have in9 : ∀ w ∈ u_ws RX9 TX9 28, w ∈ wsX9_takes := by decide +kernel
  have k143 := hts (.fieldLink RX9 143 "HouseSortedModel" "heirs" "I") (by decide +kernel)
  have k182 := hts (.fieldLink RX9 182 "HouseSortedModel" "shared" "I") (by decide +kernel)
  have k40 := hts (.fieldLink RX9 40 "HouseSortedModel" "gets" "[I") (by decide +kernel)
  have LP : ∀ n : Nat, (∀ (j : Int32) (w11 : Nat → Int32) (H : Heap) (locs : List Loc) (ls : Array Slot), 0 ≤ j.toInt ∧ j.toInt ≤ 10 → (∀ i : Nat, (i : Int) < j.toInt → w11 i = -4) → (3000 + (10 - j.toInt).toNat) < n → va_P (dC, dI) vwCl (wM a cI (upC σ 11 w11)) H → va_D A (wM a cI (upC σ 11 w11)) → va_S A s.heap H locs → lv_has ls 10 [(0, .ref (a 0)), (1, .int x1), (2, .int x2), (3, .int x3), (4, .int x4), (5, .int j)] → W p l e (headSpec wsX9_takes RM_X9_takes).room s m ([.ref (a 0), .int x1, .int x2, .int x3, .int x4] : List Value).toArray below meth c H locs 0 0 (MQ below (zQv (dC, dI) [(cI, .int)] (wM a cI) A (fun (σ1 : Cn) => ∃ u11 : Nat → Int32, σ1 = (upC σ 11 u11) ∧ True)) ([.ref (a 0), .int x1, .int x2, .int x3, .int x4] : List Value).toArray s 0 0 A) (F0 m 3 ls [])) ∧ (∀ (j : Int32) (w11 : Nat → Int32) (H : Heap) (locs : List Loc) (ls : Array Slot), 0 ≤ j.toInt ∧ j.toInt ≤ 10 → zc w11 (σ 0 18).toInt.toNat = j.toInt.toNat → ((10 - j.toInt).toNat * 20) < n → va_P (dC, dI) vwCl (wM a cI (upC σ 11 w11)) H → va_D A (wM a cI (upC σ 11 w11)) → va_S A s.heap H locs → lv_has ls 10 [(0, .ref (a 0)), (1, .int x1), (2, .int x2), (3, .int x3), (4, .int x4), (5, .int j)] → W p l e (headSpec wsX9_takes RM_X9_takes).room s m ([.ref (a 0), .int x1, .int x2, .int x3, .int x4] : List Value).toArray below meth c H locs 0 0 (MQ below (zQv (dC, dI) [(cI, .int)] (wM a cI) A (fun (σ1 : Cn) => ∃ u11 : Nat → Int32, σ1 = (upC σ 11 u11) ∧ True)) ([.ref (a 0), .int x1, .int x2, .int x3, .int x4] : List Value).toArray s 0 0 A) (F0 m 30 ls [])) ∧ (∀ (j : Int32) (hr : Int32) (b : Int32) (k : Int32) (w11 : Nat → Int32) (H : Heap) (locs : List Loc) (ls : Array Slot), 0 ≤ j.toInt ∧ j.toInt < (σ 0 18).toInt → 0 ≤ hr.toInt ∧ hr.toInt < 4 → zc w11 (σ 0 18).toInt.toNat = j.toInt.toNat → 0 ≤ k.toInt ∧ k.toInt ≤ 10 → (b.toInt = -4 → ∀ i : Nat, (i : Int) < k.toInt → ¬ w11 i = -4) → (¬ b.toInt = -4 → 0 ≤ b.toInt ∧ b.toInt < (σ 0 18).toInt ∧ w11 b.toNatClampNeg = -4) → ((9 - j.toInt).toNat * 20 + (10 - k.toInt).toNat + 1) < n → va_P (dC, dI) vwCl (wM a cI (upC σ 11 w11)) H → va_D A (wM a cI (upC σ 11 w11)) → va_S A s.heap H locs → lv_has ls 10 [(0, .ref (a 0)), (1, .int x1), (2, .int x2), (3, .int x3), (4, .int x4), (5, .int j), (7, .int hr), (8, .int b), (9, .int k)] → W p l e (headSpec wsX9_takes RM_X9_takes).room s m ([.ref (a 0), .int x1, .int x2, .int x3, .int x4] : List Value).toArray below meth c H locs 0 0 (MQ below (zQv (dC, dI) [(cI, .int)] (wM a cI) A (fun (σ1 : Cn) => ∃ u11 : Nat → Int32, σ1 = (upC σ 11 u11) ∧ True)) ([.ref (a 0), .int x1, .int x2, .int x3, .int x4] : List Value).toArray s 0 0 A) (F0 m 94 ls [])) := by
    intro n
    induction n with
    | zero => exact ⟨(by intros; omega), (by intros; omega), (by intros; omega)⟩
    | succ n ih =>
      refine ⟨?_, ?_, ?_⟩
      · intro j w11 H locs ls g1 g2 hmu hP hD hS hl
        refine lv_iload hx hb dX9_takes_3 (lv_at hl 5 rfl) ?_
        refine lv_aload_n hx hb dX9_takes_5 rfl (lv_at hl 0 rfl) ?_
        refine va_get (D := (dC, dI)) (ci := 9) (v := .int (σ 0 18)) (C := RX9) (T := TX9) (N := 28) hx hb hts in9 hown hK hP 0 rfl rfl 18 (by decide) k182 (fun _ h9 => h9) rfl dX9_takes_6 ?_
        refine lv_icmp_ge (tgt := 27) hx hb dX9_takes_9 (by decide) (fun c9 => ?_) (fun c9 => ?_)
        · skip
          have ic9 := zle (a := (σ 0 18).toInt) (b := j.toInt) rfl rfl c9
          refine lv_iconst (v := 0) hx hb dX9_takes_27 (by decide) ?_
          refine lv_istore (lv' := [(5, .int 0), (0, .ref (a 0)), (1, .int x1), (2, .int x2), (3, .int x3), (4, .int x4)]) hx hb dX9_takes_28 hl (by decide) rfl (fun ls hl => ?_)
          exact ih.2.1 (0) (w11) H locs ls (by first | omega | decide) (by first | (rw [show (0 : Int32).toInt = 0 from by decide]; exact zc_none (fun i hi => g2 i (by omega))) | (rw [zc_upd hbb.2.2 (fun q => by have := zeq (a := hr.toInt) (b := -4) rfl (by decide) q; omega) (by have q3 := zcl (x := b) (by omega); omega), g3]; omega)) (by first | omega | (rw [show (0 : Int32).toInt = 0 from by decide]; omega)) hP hD hS (lv_sub hl [1, 2, 3, 4, 5, 0] rfl)
        · skip
          have ic9 := znle (a := (σ 0 18).toInt) (b := j.toInt) rfl rfl c9
          refine lv_aload_n hx hb dX9_takes_12 rfl (lv_at hl 0 rfl) ?_
          refine va_get (D := (dC, dI)) (ci := 9) (v := .ref (a 11)) (C := RX9) (T := TX9) (N := 28) hx hb hts in9 hown hK hP 0 rfl rfl 20 (by decide) k40 (fun _ h9 => h9) rfl dX9_takes_13 ?_
          refine lv_iload hx hb dX9_takes_16 (lv_at hl 5 rfl) ?_
          refine lv_bipush (v := (-4)) hx hb dX9_takes_18 (by decide) ?_
          refine va_iast (D := (dC, dI)) (f := w11) hx hb hK hP hD hS 11 0 rfl rfl (i := j) (n := 10) (zin (by omega) (by omega)) dX9_takes_20 (fun H locs hP hD hS => ?_)
          have hP : va_P (dC, dI) vwCl (wM a cI (upC σ 11 (upd (w11) (j).toNatClampNeg (-4)))) H := hP
          have hD : va_D A (wM a cI (upC σ 11 (upd (w11) (j).toNatClampNeg (-4)))) := hD
          obtain ⟨v21, ev21⟩ : ∃ y : Int32, y = j + 1 := ⟨_, rfl⟩
          refine lv_iinc (v := v21) (lv' := [(5, .int v21), (0, .ref (a 0)), (1, .int x1), (2, .int x2), (3, .int x3), (4, .int x4)]) hx hb dX9_takes_21 hl (k := 5) rfl (by rw [ev21]; rfl) (by decide) rfl (fun ls hl => ?_)
          have tv21 : v21.toInt = j.toInt + 1 := by rw [ev21, zadd, show (1 : Int32).toInt = 1 from by decide]; omega
          refine lv_goto (tgt := 3) hx hb dX9_takes_24 (by decide) ?_
          exact ih.1 (v21) (upd (w11) (j).toNatClampNeg (-4)) H locs ls (by omega) (by intro i hi; have q3 := zcl (x := j) (by omega); by_cases q : i = j.toNatClampNeg; rw [q, pk_us]; rw [pk_un q]; exact g2 i (by omega)) (by omega) hP hD hS (lv_sub hl [1, 2, 3, 4, 5, 0] rfl)
      · intro j w11 H locs ls g1 g2 hmu hP hD hS hl
        refine lv_iload hx hb dX9_takes_30 (lv_at hl 5 rfl) ?_
        refine lv_aload_n hx hb dX9_takes_32 rfl (lv_at hl 0 rfl) ?_
        refine va_get (D := (dC, dI)) (ci := 9) (v := .int (σ 0 18)) (C := RX9) (T := TX9) (N := 28) hx hb hts in9 hown hK hP 0 rfl rfl 18 (by decide) k182 (fun _ h9 => h9) rfl dX9_takes_33 ?_
        refine lv_icmp_ge (tgt := 174) hx hb dX9_takes_36 (by decide) (fun c36 => ?_) (fun c36 => ?_)
        · skip
          have ic36 := zle (a := (σ 0 18).toInt) (b := j.toInt) rfl rfl c36
          have heq9 : (upC σ 11 w11) = (upC σ 11 w11) := rfl
          have hpost : ∃ u11 : Nat → Int32, (upC σ 11 w11) = (upC σ 11 u11) ∧ True := by refine ⟨(w11), heq9, ?_⟩; trivial
          exact W.vret hx hb hr (fun t9 ht hW => ⟨⟨(upC σ 11 w11), rfl, hpost, by rw [ht]; exact hP, va_K.moved hW.alike hK, hD⟩, hS.F ht⟩) hS.2.2 dX9_takes_174
        · skip
          have ic36 := znle (a := (σ 0 18).toInt) (b := j.toInt) rfl rfl c36
          refine lv_iload hx hb dX9_takes_39 (lv_at hl 5 rfl) ?_
          refine lv_aload_n hx hb dX9_takes_41 rfl (lv_at hl 0 rfl) ?_
          refine va_get (D := (dC, dI)) (ci := 9) (v := .int (σ 0 10)) (C := RX9) (T := TX9) (N := 28) hx hb hts in9 hown hK hP 0 rfl rfl 10 (by decide) k143 (fun _ h9 => h9) rfl dX9_takes_42 ?_
          refine lv_idiv hx hb dX9_takes_45 (fun h0 => by have h1 := zeq (a := (σ 0 10).toInt) (b := 0) rfl (by decide) h0; omega) ?_
          refine lv_topi (fun v45 ev45 => ?_)
          have tv45 := zdiv (x := j) (y := σ 0 10) (by omega) (by omega) ev45
          refine lv_istore (lv' := [(6, .int v45), (0, .ref (a 0)), (1, .int x1), (2, .int x2), (3, .int x3), (4, .int x4), (5, .int j)]) hx hb dX9_takes_46 hl (by decide) rfl (fun ls hl => ?_)
          refine lv_iload_n hx hb dX9_takes_48 rfl (lv_at hl 2 rfl) ?_
          refine lv_iconst (v := 1) hx hb dX9_takes_49 (by decide) ?_
          refine lv_icmp_ne (tgt := 78) hx hb dX9_takes_50 (by decide) (fun c50 => ?_) (fun c50 => ?_)
          · skip
            have ic50 := zneq (a := x1.toInt) (b := 1) rfl (by decide) c50
            refine lv_iload hx hb dX9_takes_78 (lv_at hl 6 rfl) ?_
            refine lv_aload_n hx hb dX9_takes_80 rfl (lv_at hl 1 rfl) ?_
            refine va_get (D := (dC, dI)) (ci := 9) (v := .int (σ 0 10)) (C := RX9) (T := TX9) (N := 28) hx hb hts in9 hown hK hP 0 rfl rfl 10 (by decide) k143 (fun _ h9 => h9) rfl dX9_takes_81 ?_
            refine lv_irem hx hb dX9_takes_84 (fun h0 => by have h1 := zeq (a := (σ 0 10).toInt) (b := 0) rfl (by decide) h0; omega) ?_
            refine lv_topi (fun v84 ev84 => ?_)
            have tv84 := zrem (x := j) (y := σ 0 10) (by omega) (by omega) ev84
            refine lv_istore (lv' := [(7, .int v84), (6, .int v45), (0, .ref (a 0)), (1, .int x1), (2, .int x2), (3, .int x3), (4, .int x4), (5, .int j)]) hx hb dX9_takes_85 hl (by decide) rfl (fun ls hl => ?_)
            refine lv_bipush (v := (-4)) hx hb dX9_takes_87 (by decide) ?_
            refine lv_istore (lv' := [(8, .int (-4)), (7, .int v84), (6, .int v45), (0, .ref (a 0)), (1, .int x1), (2, .int x2), (3, .int x3), (4, .int x4), (5, .int j)]) hx hb dX9_takes_89 hl (by decide) rfl (fun ls hl => ?_)
            refine lv_iconst (v := 0) hx hb dX9_takes_91 (by decide) ?_
            refine lv_istore (lv' := [(9, .int 0), (8, .int (-4)), (7, .int v84), (6, .int v45), (0, .ref (a 0)), (1, .int x1), (2, .int x2), (3, .int x3), (4, .int x4), (5, .int j)]) hx hb dX9_takes_92 hl (by decide) rfl (fun ls hl => ?_)
            exact ih.2.2 (j) (v84) ((-4)) (0) (w11) H locs ls (by omega) (by omega) (by assumption) (by first | omega | decide) (by first | exact fun q => absurd q ic119 | exact fun q => absurd q (by omega) | (intro q i hi; rcases (show (i : Int) < k.toInt ∨ (i : Int) = k.toInt from by omega) with q2 | q2; exact g5 q i q2; have q3 := zcl (x := k) (by omega); rw [show i = k.toNatClampNeg from by omega, ← ev109]; exact c112) | (intro q i hi; rw [show (0 : Int32).toInt = 0 from by decide] at hi; omega)) (by first | exact g6 | exact fun _ => ⟨by omega, by omega, by rw [← ev109]; exact c112⟩ | exact fun q => absurd (by decide) q) (by first | omega | (rw [show (0 : Int32).toInt = 0 from by decide]; omega)) hP hD hS (lv_sub hl [4, 5, 6, 7, 8, 9, 2, 1, 0] rfl)
          · skip
            have ic50 := zeq (a := x1.toInt) (b := 1) rfl (by decide) c50
            refine lv_iload hx hb dX9_takes_53 (lv_at hl 0 rfl) ?_
            refine lv_iconst (v := 2) hx hb dX9_takes_55 (by decide) ?_
            refine lv_irem hx hb dX9_takes_56 (fun h0 => by have h1 := zeq (a := 2) (b := 0) (by decide) (by decide) h0; omega) ?_
            refine lv_topi (fun v56 ev56 => ?_)
            have tv56 := zrem (x := v45) (y := 2) (by omega) (by decide) ev56
            refine lv_iconst (v := 1) hx hb dX9_takes_57 (by decide) ?_
            refine lv_icmp_ne (tgt := 78) hx hb dX9_takes_58 (by decide) (fun c58 => ?_) (fun c58 => ?_)
            · skip
              have ic58 := zneq (a := v56.toInt) (b := 1) rfl (by decide) c58
              refine lv_iload hx hb dX9_takes_78 (lv_at hl 6 rfl) ?_
              refine lv_aload_n hx hb dX9_takes_80 rfl (lv_at hl 1 rfl) ?_
              refine va_get (D := (dC, dI)) (ci := 9) (v := .int (σ 0 10)) (C := RX9) (T := TX9) (N := 28) hx hb hts in9 hown hK hP 0 rfl rfl 10 (by decide) k143 (fun _ h9 => h9) rfl dX9_takes_81 ?_
              refine lv_irem hx hb dX9_takes_84 (fun h0 => by have h1 := zeq (a := (σ 0 10).toInt) (b := 0) rfl (by decide) h0; omega) ?_
              refine lv_topi (fun v84 ev84 => ?_)
              have tv84 := zrem (x := j) (y := σ 0 10) (by omega) (by omega) ev84
              refine lv_istore (lv' := [(7, .int v84), (6, .int v45), (0, .ref (a 0)), (1, .int x1), (2, .int x2), (3, .int x3), (4, .int x4), (5, .int j)]) hx hb dX9_takes_85 hl (by decide) rfl (fun ls hl => ?_)
              refine lv_bipush (v := (-4)) hx hb dX9_takes_87 (by decide) ?_
              refine lv_istore (lv' := [(8, .int (-4)), (7, .int v84), (6, .int v45), (0, .ref (a 0)), (1, .int x1), (2, .int x2), (3, .int x3), (4, .int x4), (5, .int j)]) hx hb dX9_takes_89 hl (by decide) rfl (fun ls hl => ?_)
              refine lv_iconst (v := 0) hx hb dX9_takes_91 (by decide) ?_
              refine lv_istore (lv' := [(9, .int 0), (8, .int (-4)), (7, .int v84), (6, .int v45), (0, .ref (a 0)), (1, .int x1), (2, .int x2), (3, .int x3), (4, .int x4), (5, .int j)]) hx hb dX9_takes_92 hl (by decide) rfl (fun ls hl => ?_)
              exact ih.2.2 (j) (v84) ((-4)) (0) (w11) H locs ls (by omega) (by omega) (by assumption) (by first | omega | decide) (by first | exact fun q => absurd q ic119 | exact fun q => absurd q (by omega) | (intro q i hi; rcases (show (i : Int) < k.toInt ∨ (i : Int) = k.toInt from by omega) with q2 | q2; exact g5 q i q2; have q3 := zcl (x := k) (by omega); rw [show i = k.toNatClampNeg from by omega, ← ev109]; exact c112) | (intro q i hi; rw [show (0 : Int32).toInt = 0 from by decide] at hi; omega)) (by first | exact g6 | exact fun _ => ⟨by omega, by omega, by rw [← ev109]; exact c112⟩ | exact fun q => absurd (by decide) q) (by first | omega | (rw [show (0 : Int32).toInt = 0 from by decide]; omega)) hP hD hS (lv_sub hl [4, 5, 6, 7, 8, 9, 2, 1, 0] rfl)
            · skip
              have ic58 := zeq (a := v56.toInt) (b := 1) rfl (by decide) c58
              refine lv_aload_n hx hb dX9_takes_61 rfl (lv_at hl 1 rfl) ?_
              refine va_get (D := (dC, dI)) (ci := 9) (v := .int (σ 0 10)) (C := RX9) (T := TX9) (N := 28) hx hb hts in9 hown hK hP 0 rfl rfl 10 (by decide) k143 (fun _ h9 => h9) rfl dX9_takes_62 ?_
              refine lv_iconst (v := 1) hx hb dX9_takes_65 (by decide) ?_
              refine lv_isub hx hb dX9_takes_66 ?_
              refine lv_topi (fun v66 ev66 => ?_)
              have tv66 : v66.toInt = (σ 0 10).toInt - 1 := by rw [ev66, zsub, show (1 : Int32).toInt = 1 from by decide]; omega
              refine lv_iload hx hb dX9_takes_67 (lv_at hl 6 rfl) ?_
              refine lv_aload_n hx hb dX9_takes_69 rfl (lv_at hl 1 rfl) ?_
              refine va_get (D := (dC, dI)) (ci := 9) (v := .int (σ 0 10)) (C := RX9) (T := TX9) (N := 28) hx hb hts in9 hown hK hP 0 rfl rfl 10 (by decide) k143 (fun _ h9 => h9) rfl dX9_takes_70 ?_
              refine lv_irem hx hb dX9_takes_73 (fun h0 => by have h1 := zeq (a := (σ 0 10).toInt) (b := 0) rfl (by decide) h0; omega) ?_
              refine lv_topi (fun v73 ev73 => ?_)
              have tv73 := zrem (x := j) (y := σ 0 10) (by omega) (by omega) ev73
              refine lv_isub hx hb dX9_takes_74 ?_
              refine lv_topi (fun v74 ev74 => ?_)
              have tv74 : v74.toInt = v66.toInt - v73.toInt := by rw [ev74, zsub]; omega
              refine lv_goto (tgt := 85) hx hb dX9_takes_75 (by decide) ?_
              refine lv_istore (lv' := [(7, .int v74), (6, .int v45), (0, .ref (a 0)), (1, .int x1), (2, .int x2), (3, .int x3), (4, .int x4), (5, .int j)]) hx hb dX9_takes_85 hl (by decide) rfl (fun ls hl => ?_)
              refine lv_bipush (v := (-4)) hx hb dX9_takes_87 (by decide) ?_
              refine lv_istore (lv' := [(8, .int (-4)), (7, .int v74), (6, .int v45), (0, .ref (a 0)), (1, .int x1), (2, .int x2), (3, .int x3), (4, .int x4), (5, .int j)]) hx hb dX9_takes_89 hl (by decide) rfl (fun ls hl => ?_)
              refine lv_iconst (v := 0) hx hb dX9_takes_91 (by decide) ?_
              refine lv_istore (lv' := [(9, .int 0), (8, .int (-4)), (7, .int v74), (6, .int v45), (0, .ref (a 0)), (1, .int x1), (2, .int x2), (3, .int x3), (4, .int x4), (5, .int j)]) hx hb dX9_takes_92 hl (by decide) rfl (fun ls hl => ?_)
              exact ih.2.2 (j) (v74) ((-4)) (0) (w11) H locs ls (by omega) (by omega) (by assumption) (by first | omega | decide) (by first | exact fun q => absurd q ic119 | exact fun q => absurd q (by omega) | (intro q i hi; rcases (show (i : Int) < k.toInt ∨ (i : Int) = k.toInt from by omega) with q2 | q2; exact g5 q i q2; have q3 := zcl (x := k) (by omega); rw [show i = k.toNatClampNeg from by omega, ← ev109]; exact c112) | (intro q i hi; rw [show (0 : Int32).toInt = 0 from by decide] at hi; omega)) (by first | exact g6 | exact fun _ => ⟨by omega, by omega, by rw [← ev109]; exact c112⟩ | exact fun q => absurd (by decide) q) (by first | omega | (rw [show (0 : Int32).toInt = 0 from by decide]; omega)) hP hD hS (lv_sub hl [4, 5, 6, 7, 8, 9, 2, 1, 0] rfl)
      · intro j hr b k w11 H locs ls g1 g2 g3 g4 g5 g6 hmu hP hD hS hl
        refine lv_iload hx hb dX9_takes_94 (lv_at hl 8 rfl) ?_
        refine lv_aload_n hx hb dX9_takes_96 rfl (lv_at hl 0 rfl) ?_
        refine va_get (D := (dC, dI)) (ci := 9) (v := .int (σ 0 18)) (C := RX9) (T := TX9) (N := 28) hx hb hts in9 hown hK hP 0 rfl rfl 18 (by decide) k182 (fun _ h9 => h9) rfl dX9_takes_97 ?_
        refine lv_icmp_ge (tgt := 159) hx hb dX9_takes_100 (by decide) (fun c100 => ?_) (fun c100 => ?_)
        · skip
          have ic100 := zle (a := (σ 0 18).toInt) (b := k.toInt) rfl rfl c100
          have hbn : ¬ b.toInt = -4 := fun q => by have q1 := zc_all (f := w11) (n := (σ 0 18).toInt.toNat) (fun i hi => g5 q i (by omega)); omega
          have hbb := g6 hbn
          refine lv_aload_n hx hb dX9_takes_159 rfl (lv_at hl 0 rfl) ?_
          refine va_get (D := (dC, dI)) (ci := 9) (v := .ref (a 11)) (C := RX9) (T := TX9) (N := 28) hx hb hts in9 hown hK hP 0 rfl rfl 20 (by decide) k40 (fun _ h9 => h9) rfl dX9_takes_160 ?_
          refine lv_iload hx hb dX9_takes_163 (lv_at hl 7 rfl) ?_
          refine lv_iload hx hb dX9_takes_165 (lv_at hl 6 rfl) ?_
          refine va_iast (D := (dC, dI)) (f := w11) hx hb hK hP hD hS 11 0 rfl rfl (i := b) (n := 10) (zin (by omega) (by omega)) dX9_takes_167 (fun H locs hP hD hS => ?_)
          have hP : va_P (dC, dI) vwCl (wM a cI (upC σ 11 (upd (w11) (b).toNatClampNeg hr))) H := hP
          have hD : va_D A (wM a cI (upC σ 11 (upd (w11) (b).toNatClampNeg hr))) := hD
          obtain ⟨v168, ev168⟩ : ∃ y : Int32, y = j + 1 := ⟨_, rfl⟩
          refine lv_iinc (v := v168) (lv' := [(5, .int v168), (0, .ref (a 0)), (1, .int x1), (2, .int x2), (3, .int x3), (4, .int x4), (7, .int hr), (8, .int b), (9, .int k)]) hx hb dX9_takes_168 hl (k := 5) rfl (by rw [ev168]; rfl) (by decide) rfl (fun ls hl => ?_)
          have tv168 : v168.toInt = j.toInt + 1 := by rw [ev168, zadd, show (1 : Int32).toInt = 1 from by decide]; omega
          refine lv_goto (tgt := 30) hx hb dX9_takes_171 (by decide) ?_
          exact ih.2.1 (v168) (upd (w11) (b).toNatClampNeg hr) H locs ls (by first | omega | decide) (by first | (rw [show (0 : Int32).toInt = 0 from by decide]; exact zc_none (fun i hi => g2 i (by omega))) | (rw [zc_upd hbb.2.2 (fun q => by have := zeq (a := hr.toInt) (b := -4) rfl (by decide) q; omega) (by have q3 := zcl (x := b) (by omega); omega), g3]; omega)) (by first | omega | (rw [show (0 : Int32).toInt = 0 from by decide]; omega)) hP hD hS (lv_sub hl [1, 2, 3, 4, 5, 0] rfl)
        · skip
          have ic100 := znle (a := (σ 0 18).toInt) (b := k.toInt) rfl rfl c100
          refine lv_aload_n hx hb dX9_takes_103 rfl (lv_at hl 0 rfl) ?_
          refine va_get (D := (dC, dI)) (ci := 9) (v := .ref (a 11)) (C := RX9) (T := TX9) (N := 28) hx hb hts in9 hown hK hP 0 rfl rfl 20 (by decide) k40 (fun _ h9 => h9) rfl dX9_takes_104 ?_
          refine lv_iload hx hb dX9_takes_107 (lv_at hl 8 rfl) ?_
          refine va_iald (D := (dC, dI)) (f := w11) hx hb hK hP 11 0 rfl rfl (i := k) (n := 10) (zin (by omega) (by omega)) dX9_takes_109 ?_
          refine lv_topi (fun v109 ev109 => ?_)
          have tv109 := congrArg Int32.toInt ev109
          refine lv_bipush (v := (-4)) hx hb dX9_takes_110 (by decide) ?_
          refine lv_icmp_ne (tgt := 153) hx hb dX9_takes_112 (by decide) (fun c112 => ?_) (fun c112 => ?_)
          · skip
            have ic112 := zneq (a := v109.toInt) (b := (-4)) rfl (by decide) c112
            obtain ⟨v153, ev153⟩ : ∃ y : Int32, y = k + 1 := ⟨_, rfl⟩
            refine lv_iinc (v := v153) (lv' := [(9, .int v153), (0, .ref (a 0)), (1, .int x1), (2, .int x2), (3, .int x3), (4, .int x4), (5, .int j), (7, .int hr), (8, .int b)]) hx hb dX9_takes_153 hl (k := 8) rfl (by rw [ev153]; rfl) (by decide) rfl (fun ls hl => ?_)
            have tv153 : v153.toInt = k.toInt + 1 := by rw [ev153, zadd, show (1 : Int32).toInt = 1 from by decide]; omega
            refine lv_goto (tgt := 94) hx hb dX9_takes_156 (by decide) ?_
            exact ih.2.2 (j) (hr) (b) (v153) (w11) H locs ls (by omega) (by omega) (by assumption) (by first | omega | decide) (by first | exact fun q => absurd q ic119 | exact fun q => absurd q (by omega) | (intro q i hi; rcases (show (i : Int) < k.toInt ∨ (i : Int) = k.toInt from by omega) with q2 | q2; exact g5 q i q2; have q3 := zcl (x := k) (by omega); rw [show i = k.toNatClampNeg from by omega, ← ev109]; exact c112) | (intro q i hi; rw [show (0 : Int32).toInt = 0 from by decide] at hi; omega)) (by first | exact g6 | exact fun _ => ⟨by omega, by omega, by rw [← ev109]; exact c112⟩ | exact fun q => absurd (by decide) q) (by first | omega | (rw [show (0 : Int32).toInt = 0 from by decide]; omega)) hP hD hS (lv_sub hl [1, 2, 3, 4, 5, 6, 7, 8, 0] rfl)
          · skip
            have ic112 := zeq (a := v109.toInt) (b := (-4)) rfl (by decide) c112
            refine lv_iload hx hb dX9_takes_115 (lv_at hl 7 rfl) ?_
            refine lv_bipush (v := (-4)) hx hb dX9_takes_117 (by decide) ?_
            refine lv_icmp_eq (tgt := 149) hx hb dX9_takes_119 (by decide) (fun c119 => ?_) (fun c119 => ?_)
            · skip
              have ic119 := zeq (a := b.toInt) (b := (-4)) rfl (by decide) c119
              refine lv_iload hx hb dX9_takes_149 (lv_at hl 8 rfl) ?_
              refine lv_istore (lv' := [(8, .int k), (0, .ref (a 0)), (1, .int x1), (2, .int x2), (3, .int x3), (4, .int x4), (5, .int j), (7, .int hr), (9, .int k)]) hx hb dX9_takes_151 hl (by decide) rfl (fun ls hl => ?_)
              obtain ⟨v153, ev153⟩ : ∃ y : Int32, y = k + 1 := ⟨_, rfl⟩
              refine lv_iinc (v := v153) (lv' := [(9, .int v153), (8, .int k), (0, .ref (a 0)), (1, .int x1), (2, .int x2), (3, .int x3), (4, .int x4), (5, .int j), (7, .int hr)]) hx hb dX9_takes_153 hl (k := 8) rfl (by rw [ev153]; rfl) (by decide) rfl (fun ls hl => ?_)
              have tv153 : v153.toInt = k.toInt + 1 := by rw [ev153, zadd, show (1 : Int32).toInt = 1 from by decide]; omega
              refine lv_goto (tgt := 94) hx hb dX9_takes_156 (by decide) ?_
              exact ih.2.2 (j) (hr) (k) (v153) (w11) H locs ls (by omega) (by omega) (by assumption) (by first | omega | decide) (by first | exact fun q => absurd q ic119 | exact fun q => absurd q (by omega) | (intro q i hi; rcases (show (i : Int) < k.toInt ∨ (i : Int) = k.toInt from by omega) with q2 | q2; exact g5 q i q2; have q3 := zcl (x := k) (by omega); rw [show i = k.toNatClampNeg from by omega, ← ev109]; exact c112) | (intro q i hi; rw [show (0 : Int32).toInt = 0 from by decide] at hi; omega)) (by first | exact g6 | exact fun _ => ⟨by omega, by omega, by rw [← ev109]; exact c112⟩ | exact fun q => absurd (by decide) q) (by first | omega | (rw [show (0 : Int32).toInt = 0 from by decide]; omega)) hP hD hS (lv_sub hl [2, 3, 4, 5, 6, 7, 8, 1, 0] rfl)
            · skip
              have ic119 := zneq (a := b.toInt) (b := (-4)) rfl (by decide) c119
              refine lv_aload_n hx hb dX9_takes_122 rfl (lv_at hl 0 rfl) ?_
              refine lv_iload hx hb dX9_takes_123 (lv_at hl 6 rfl) ?_
              refine lv_iload hx hb dX9_takes_125 (lv_at hl 8 rfl) ?_
              refine lv_iload_n hx hb dX9_takes_127 rfl (lv_at hl 2 rfl) ?_
              refine lv_iload_n hx hb dX9_takes_128 rfl (lv_at hl 3 rfl) ?_
              refine lv_iload hx hb dX9_takes_129 (lv_at hl 4 rfl) ?_
              refine zcalli (va_runV (As := [.int hr, .int k, .int x2, .int x3, .int x4]) (rest := []) ⟨hx, hb, hml, hown, hts⟩ (c_X9_worthNow l dC dI cI a N hok (upC σ 11 w11) H.size (hr) (k) (x2) (x3) (x4) (by omega) (by show 0 ≤ k.toInt ∧ k.toInt < (σ 0 18).toInt; omega) hs hq) (cwV 5 hts gX9_takes_X9_worthNow rfl rfl rfl (by decide +kernel) ⟨Nat.le_of_ble_eq_true rfl, Nat.le_of_ble_eq_true rfl⟩) (zpreV (wf := wM a cI) (q0 := 0) (ci := 9) hok hN hS hA hK hP hD rfl rfl) rfl rfl hl.1 rfl (lv_room (Nat.le_of_ble_eq_true rfl)) dX9_takes_131 ⟨Nat.zero_le _, Nat.zero_le _⟩) hD hS hA (fun v131 σ1 H locs hv131 hP hD hS => ?_)
              obtain ⟨es9, hv131⟩ := hv131
              subst σ1
              refine lv_aload_n hx hb dX9_takes_134 rfl (lv_at hl 0 rfl) ?_
              refine lv_iload hx hb dX9_takes_135 (lv_at hl 6 rfl) ?_
              refine lv_iload hx hb dX9_takes_137 (lv_at hl 7 rfl) ?_
              refine lv_iload_n hx hb dX9_takes_139 rfl (lv_at hl 2 rfl) ?_
              refine lv_iload_n hx hb dX9_takes_140 rfl (lv_at hl 3 rfl) ?_
              refine lv_iload hx hb dX9_takes_141 (lv_at hl 4 rfl) ?_
              refine zcalli (va_runV (As := [.int hr, .int b, .int x2, .int x3, .int x4]) (rest := [.int v131]) ⟨hx, hb, hml, hown, hts⟩ (c_X9_worthNow l dC dI cI a N hok (upC σ 11 w11) H.size (hr) (b) (x2) (x3) (x4) (by omega) (by show 0 ≤ b.toInt ∧ b.toInt < (σ 0 18).toInt; have q9 := g6 ic119; omega) hs hq) (cwV 5 hts gX9_takes_X9_worthNow rfl rfl rfl (by decide +kernel) ⟨Nat.le_of_ble_eq_true rfl, Nat.le_of_ble_eq_true rfl⟩) (zpreV (wf := wM a cI) (q0 := 0) (ci := 9) hok hN hS hA hK hP hD rfl rfl) rfl rfl hl.1 rfl (lv_room (Nat.le_of_ble_eq_true rfl)) dX9_takes_143 ⟨Nat.zero_le _, Nat.zero_le _⟩) hD hS hA (fun v143 σ1 H locs hv143 hP hD hS => ?_)
              obtain ⟨es9, hv143⟩ := hv143
              subst σ1
              refine lv_icmp_le (tgt := 153) hx hb dX9_takes_146 (by decide) (fun c146 => ?_) (fun c146 => ?_)
              · skip
                have ic146 := zle (a := v131.toInt) (b := v143.toInt) rfl rfl c146
                obtain ⟨v153, ev153⟩ : ∃ y : Int32, y = k + 1 := ⟨_, rfl⟩
                refine lv_iinc (v := v153) (lv' := [(9, .int v153), (0, .ref (a 0)), (1, .int x1), (2, .int x2), (3, .int x3), (4, .int x4), (5, .int j), (7, .int hr), (8, .int b)]) hx hb dX9_takes_153 hl (k := 8) rfl (by rw [ev153]; rfl) (by decide) rfl (fun ls hl => ?_)
                have tv153 : v153.toInt = k.toInt + 1 := by rw [ev153, zadd, show (1 : Int32).toInt = 1 from by decide]; omega
                refine lv_goto (tgt := 94) hx hb dX9_takes_156 (by decide) ?_
                exact ih.2.2 (j) (hr) (b) (v153) (w11) H locs ls (by omega) (by omega) (by assumption) (by first | omega | decide) (by first | exact fun q => absurd q ic119 | exact fun q => absurd q (by omega) | (intro q i hi; rcases (show (i : Int) < k.toInt ∨ (i : Int) = k.toInt from by omega) with q2 | q2; exact g5 q i q2; have q3 := zcl (x := k) (by omega); rw [show i = k.toNatClampNeg from by omega, ← ev109]; exact c112) | (intro q i hi; rw [show (0 : Int32).toInt = 0 from by decide] at hi; omega)) (by first | exact g6 | exact fun _ => ⟨by omega, by omega, by rw [← ev109]; exact c112⟩ | exact fun q => absurd (by decide) q) (by first | omega | (rw [show (0 : Int32).toInt = 0 from by decide]; omega)) hP hD hS (lv_sub hl [1, 2, 3, 4, 5, 6, 7, 8, 0] rfl)
              · skip
                have ic146 := znle (a := v131.toInt) (b := v143.toInt) rfl rfl c146
                refine lv_iload hx hb dX9_takes_149 (lv_at hl 8 rfl) ?_
                refine lv_istore (lv' := [(8, .int k), (0, .ref (a 0)), (1, .int x1), (2, .int x2), (3, .int x3), (4, .int x4), (5, .int j), (7, .int hr), (9, .int k)]) hx hb dX9_takes_151 hl (by decide) rfl (fun ls hl => ?_)
                obtain ⟨v153, ev153⟩ : ∃ y : Int32, y = k + 1 := ⟨_, rfl⟩
                refine lv_iinc (v := v153) (lv' := [(9, .int v153), (8, .int k), (0, .ref (a 0)), (1, .int x1), (2, .int x2), (3, .int x3), (4, .int x4), (5, .int j), (7, .int hr)]) hx hb dX9_takes_153 hl (k := 8) rfl (by rw [ev153]; rfl) (by decide) rfl (fun ls hl => ?_)
                have tv153 : v153.toInt = k.toInt + 1 := by rw [ev153, zadd, show (1 : Int32).toInt = 1 from by decide]; omega
                refine lv_goto (tgt := 94) hx hb dX9_takes_156 (by decide) ?_
                exact ih.2.2 (j) (hr) (k) (v153) (w11) H locs ls (by omega) (by omega) (by assumption) (by first | omega | decide) (by first | exact fun q => absurd q ic119 | exact fun q => absurd q (by omega) | (intro q i hi; rcases (show (i : Int) < k.toInt ∨ (i : Int) = k.toInt from by omega) with q2 | q2; exact g5 q i q2; have q3 := zcl (x := k) (by omega); rw [show i = k.toNatClampNeg from by omega, ← ev109]; exact c112) | (intro q i hi; rw [show (0 : Int32).toInt = 0 from by decide] at hi; omega)) (by first | exact g6 | exact fun _ => ⟨by omega, by omega, by rw [← ev109]; exact c112⟩ | exact fun q => absurd (by decide) q) (by first | omega | (rw [show (0 : Int32).toInt = 0 from by decide]; omega)) hP hD hS (lv_sub hl [2, 3, 4, 5, 6, 7, 8, 1, 0] rfl)
  have hl := lv_entry ([.ref (a 0), .int x1, .int x2, .int x3, .int x4]) (n := 10) (Nat.le_of_ble_eq_true rfl)
  rw [lg_entry_eq]
  generalize (lg_sl ([.ref (a 0), .int x1, .int x2, .int x3, .int x4]) ++ List.replicate (10 - (lg_sl ([.ref (a 0), .int x1, .int x2, .int x3, .int x4])).length) Slot.unset).toArray = ls at hl ⊢
  have hl : lv_has ls 10 [(0, .ref (a 0)), (1, .int x1), (2, .int x2), (3, .int x3), (4, .int x4)] := hl
  suffices main : ∀ (H : Heap) (locs : List Loc), va_P (dC, dI) vwCl (wM a cI σ) H → va_D A (wM a cI σ) → va_S A s.heap H locs → W p l e (headSpec wsX9_takes RM_X9_takes).room s m ([.ref (a 0), .int x1, .int x2, .int x3, .int x4] : List Value).toArray below meth c H locs 0 0 (MQ below (zQv (dC, dI) [(cI, .int)] (wM a cI) A (fun (σ1 : Cn) => ∃ u11 : Nat → Int32, σ1 = (upC σ 11 u11) ∧ True)) ([.ref (a 0), .int x1, .int x2, .int x3, .int x4] : List Value).toArray s 0 0 A) (F0 m 0 ls []) from main s.heap [] hP hD hS
  intro H locs hP hD hS
  refine lv_iconst (v := 0) hx hb dX9_takes_0 (by decide) ?_
  refine lv_istore (lv' := [(5, .int 0), (0, .ref (a 0)), (1, .int x1), (2, .int x2), (3, .int x3), (4, .int x4)]) hx hb dX9_takes_1 hl (by decide) rfl (fun ls hl => ?_)
  exact (LP _).1 (0) (σ 11) H locs ls (by decide) (by intro i hi; rw [show (0 : Int32).toInt = 0 from by decide] at hi; omega) (Nat.lt_succ_self _) hP hD hS (lv_sub hl [1, 2, 3, 4, 5, 0] rfl)

abbrev RM_X9_turns : Room := { frames := 4, cells := 0, slots := 0, locals := 88 }
set_option maxHeartbeats 4000000 in
set_option maxRecDepth 100000 in
theorem c_X9_turns (l : Launch) (dC : Nat → ClassId) (dI : Nat → Nat → Nat) (cI : ClassId) (a : Nat → Nat) (N : (Nat → Prop) → State → Prop) (hok : zNok N) (σ : Cn) (sz : Nat) (x1 : Int32) (h0 : 0 ≤ (σ 0 10).toInt ∧ (σ 0 10).toInt ≤ 4) (h2 : 0 ≤ (σ 0 11).toInt ∧ (σ 0 11).toInt ≤ 10) : Met l yX9_turns wsX9_turns RM_X9_turns (zPc (dC, dI) [(cI, .int)] N (wM a cI) σ sz [.ref (a 0), .int x1]) (zQi (dC, dI) [(cI, .int)] (wM a cI) (va_A (wM a cI σ) sz) (fun (r : Int32) (σ1 : Cn) => ∃ n18 : Int32, ∃ u10 : Nat → Int32, ∃ u11 : Nat → Int32, σ1 = (upC (upC (upC σ 0 (upd (σ 0) 18 n18)) 10 u10) 11 u11) ∧ True)) 0 0 (va_A (wM a cI σ) sz) := by
  refine Met.ofW (cc := cX9_turns) (maxL := 2) (ret := (some .int)) (by decide) rfl ?_
  intro p e s m args below meth c s₁ B hml hv
  obtain ⟨rfl, hsz, hP, hK, hD0, hN⟩ := hv
  have hx := B.exec
  have hb := B.bytes
  have hr := B.returns
  have hts := atoms_spec (ws := wsX9_turns) B.pre
  have hown : s.vm.findClass RX9 = some m.cls := findClass_of_methodNamed B.named
  have hlocks := B.notSynchronized
  subst hsz
  have hD := hD0.self (sz := s.heap.size)
  generalize hAe : va_A (wM a cI σ) s.heap.size = A at hD hN ⊢
  have hA : ∀ q : Nat, s.heap.size ≤ q → A q := fun q h => by rw [← hAe]; exact Or.inr h
  clear hAe hD0
  have hS : va_S A s.heap s.heap [] := va_S.rf
  have in9 : ∀ w ∈ u_ws RX9 TX9 28, w ∈ wsX9_turns := by decide +kernel
  have k143 := hts (.fieldLink RX9 143 "HouseSortedModel" "heirs" "I") (by decide +kernel)
  have hl := lv_entry ([.ref (a 0), .int x1]) (n := 2) (Nat.le_of_ble_eq_true rfl)
  rw [lg_entry_eq]
  generalize (lg_sl ([.ref (a 0), .int x1]) ++ List.replicate (2 - (lg_sl ([.ref (a 0), .int x1])).length) Slot.unset).toArray = ls at hl ⊢
  have hl : lv_has ls 2 [(0, .ref (a 0)), (1, .int x1)] := hl
  suffices main : ∀ (H : Heap) (locs : List Loc), va_P (dC, dI) vwCl (wM a cI σ) H → va_D A (wM a cI σ) → va_S A s.heap H locs → W p l e (headSpec wsX9_turns RM_X9_turns).room s m ([.ref (a 0), .int x1] : List Value).toArray below meth c H locs 0 0 (MQ below (zQi (dC, dI) [(cI, .int)] (wM a cI) A (fun (r : Int32) (σ1 : Cn) => ∃ n18 : Int32, ∃ u10 : Nat → Int32, ∃ u11 : Nat → Int32, σ1 = (upC (upC (upC σ 0 (upd (σ 0) 18 n18)) 10 u10) 11 u11) ∧ True)) ([.ref (a 0), .int x1] : List Value).toArray s 0 0 A) (F0 m 0 ls []) from main s.heap [] hP hD hS
  intro H locs hP hD hS
  refine lv_iload_n hx hb dX9_turns_0 rfl (lv_at hl 1 rfl) ?_
  refine lv_i2l hx hb dX9_turns_1 rfl ?_
  refine lv_topl (fun v1 ev1 => ?_)
  have tv1 : v1.toInt = x1.toInt := by rw [ev1]; exact zi2l rfl
  refine lv_lconst (v := 0) hx hb dX9_turns_2 (by decide) ?_
  refine lv_lconst (v := 1) hx hb dX9_turns_3 (by decide) ?_
  refine zcalli (va_runS (As := [.long v1, .long 0, .long 1]) (rest := []) ⟨hx, hb, hml, hown, hts⟩ (c_X9_in l dC dI cI a N hok σ H.size (v1) (0) (1) ) (va_cwS 3 hts gX9_turns_X9_in rfl rfl rfl (by decide +kernel) ⟨Nat.le_of_ble_eq_true rfl, Nat.le_of_ble_eq_true rfl⟩) (zpreS (wf := wM a cI) hok hN hS hA hK hP hD) rfl rfl hl.1 rfl (lv_room (Nat.le_of_ble_eq_true rfl)) dX9_turns_4 ⟨Nat.zero_le _, Nat.zero_le _⟩) hD hS hA (fun v4 σ1 H locs hv4 hP hD hS => ?_)
  obtain ⟨es9, hv4⟩ := hv4
  subst σ1
  try simp only [show (0 : Int64).toInt = 0 from by decide, show (1 : Int64).toInt = 1 from by decide] at hv4
  refine lv_if_ne (tgt := 12) hx hb dX9_turns_7 (by decide) (fun c7 => ?_) (fun c7 => ?_)
  · skip
    have ic7 := zneq (a := v4.toInt) (b := 0) rfl (by decide) c7
    refine lv_aload_n hx hb dX9_turns_12 rfl (lv_at hl 0 rfl) ?_
    refine va_get (D := (dC, dI)) (ci := 9) (v := .int (σ 0 10)) (C := RX9) (T := TX9) (N := 28) hx hb hts in9 hown hK hP 0 rfl rfl 10 (by decide) k143 (fun _ h9 => h9) rfl dX9_turns_13 ?_
    refine lv_if_ne (tgt := 22) hx hb dX9_turns_16 (by decide) (fun c16 => ?_) (fun c16 => ?_)
    · skip
      have ic16 := zneq (a := (σ 0 10).toInt) (b := 0) rfl (by decide) c16
      refine lv_aload_n hx hb dX9_turns_22 rfl (lv_at hl 0 rfl) ?_
      refine zcallv (va_runV (As := []) (rest := []) ⟨hx, hb, hml, hown, hts⟩ (c_X9_findShared l dC dI cI a N hok σ H.size  h0 h2) (cwV 0 hts gX9_turns_X9_findShared rfl rfl rfl (by decide +kernel) ⟨Nat.le_of_ble_eq_true rfl, Nat.le_of_ble_eq_true rfl⟩) (zpreV (wf := wM a cI) (q0 := 0) (ci := 9) hok hN hS hA hK hP hD rfl rfl) rfl rfl hl.1 rfl (lv_room (Nat.le_of_ble_eq_true rfl)) dX9_turns_23 ⟨Nat.zero_le _, Nat.zero_le _⟩) hD hS hA (fun σ1 H locs hv23 hP hD hS => ?_)
      obtain ⟨n18_23, u10_23, es9, hv23⟩ := hv23
      subst σ1
      have hP : va_P (dC, dI) vwCl (wM a cI (upC (upC σ 0 (upd (σ 0) 18 n18_23)) 10 u10_23)) H := hP
      have hD : va_D A (wM a cI (upC (upC σ 0 (upd (σ 0) 18 n18_23)) 10 u10_23)) := hD
      have hs : 0 ≤ n18_23.toInt ∧ n18_23.toInt ≤ 10 := by omega
      have hq : ∀ j : Nat, (j : Int) < n18_23.toInt → 0 ≤ (u10_23 j).toInt ∧ (u10_23 j).toInt < 10 := fun j hj => by have q := hv23.2 j hj; omega
      have hp : 1 ≤ (σ 0 10).toInt ∧ (σ 0 10).toInt ≤ 4 := by omega
      refine lv_aload_n hx hb dX9_turns_26 rfl (lv_at hl 0 rfl) ?_
      refine lv_iload_n hx hb dX9_turns_27 rfl (lv_at hl 1 rfl) ?_
      refine lv_bipush (v := (-4)) hx hb dX9_turns_28 (by decide) ?_
      refine lv_bipush (v := (-4)) hx hb dX9_turns_30 (by decide) ?_
      refine lv_iconst (v := 0) hx hb dX9_turns_32 (by decide) ?_
      refine zcallv (va_runV (As := [.int x1, .int (-4), .int (-4), .int 0]) (rest := []) ⟨hx, hb, hml, hown, hts⟩ (c_X9_takes l dC dI cI a N hok (upC (upC σ 0 (upd (σ 0) 18 n18_23)) 10 u10_23) H.size (x1) ((-4)) ((-4)) (0) hp hs hq) (cwV 4 hts gX9_turns_X9_takes rfl rfl rfl (by decide +kernel) ⟨Nat.le_of_ble_eq_true rfl, Nat.le_of_ble_eq_true rfl⟩) (zpreV (wf := wM a cI) (q0 := 0) (ci := 9) hok hN hS hA hK hP hD rfl rfl) rfl rfl hl.1 rfl (lv_room (Nat.le_of_ble_eq_true rfl)) dX9_turns_33 ⟨Nat.zero_le _, Nat.zero_le _⟩) hD hS hA (fun σ1 H locs hv33 hP hD hS => ?_)
      obtain ⟨u11_33, es9, hv33⟩ := hv33
      subst σ1
      have hP : va_P (dC, dI) vwCl (wM a cI (upC (upC (upC σ 0 (upd (σ 0) 18 n18_23)) 10 u10_23) 11 u11_33)) H := hP
      have hD : va_D A (wM a cI (upC (upC (upC σ 0 (upd (σ 0) 18 n18_23)) 10 u10_23) 11 u11_33)) := hD
      try simp only [show ((-4) : Int32).toInt = (-4) from by decide, show (0 : Int32).toInt = 0 from by decide] at hv33
      refine lv_aload_n hx hb dX9_turns_36 rfl (lv_at hl 0 rfl) ?_
      refine zcalli (va_runV (As := []) (rest := []) ⟨hx, hb, hml, hown, hts⟩ (c_X9_number l dC dI cI a N hok (upC (upC (upC σ 0 (upd (σ 0) 18 n18_23)) 10 u10_23) 11 u11_33) H.size  hs) (cwV 0 hts gX9_turns_X9_number rfl rfl rfl (by decide +kernel) ⟨Nat.le_of_ble_eq_true rfl, Nat.le_of_ble_eq_true rfl⟩) (zpreV (wf := wM a cI) (q0 := 0) (ci := 9) hok hN hS hA hK hP hD rfl rfl) rfl rfl hl.1 rfl (lv_room (Nat.le_of_ble_eq_true rfl)) dX9_turns_37 ⟨Nat.zero_le _, Nat.zero_le _⟩) hD hS hA (fun v37 σ1 H locs hv37 hP hD hS => ?_)
      obtain ⟨es9, hv37⟩ := hv37
      subst σ1
      have heq9 : (upC (upC (upC σ 0 (upd (σ 0) 18 n18_23)) 10 u10_23) 11 u11_33) = (upC (upC (upC σ 0 (upd (σ 0) 18 n18_23)) 10 u10_23) 11 u11_33) := rfl
      have hpost : ∃ n18 : Int32, ∃ u10 : Nat → Int32, ∃ u11 : Nat → Int32, (upC (upC (upC σ 0 (upd (σ 0) 18 n18_23)) 10 u10_23) 11 u11_33) = (upC (upC (upC σ 0 (upd (σ 0) 18 n18)) 10 u10) 11 u11) ∧ True := by refine ⟨(n18_23), (u10_23), (u11_33), heq9, ?_⟩; trivial
      exact W.iret (v := v37) hx hb hr (fun t9 ht hW => ⟨⟨v37, (upC (upC (upC σ 0 (upd (σ 0) 18 n18_23)) 10 u10_23) 11 u11_33), rfl, hpost, by rw [ht]; exact hP, va_K.moved hW.alike hK, hD⟩, hS.F ht⟩) hS.2.2 dX9_turns_40
    · skip
      have ic16 := zeq (a := (σ 0 10).toInt) (b := 0) rfl (by decide) c16
      refine lv_bipush (v := (-2)) hx hb dX9_turns_19 (by decide) ?_
      have heq9 : σ = (upC (upC (upC σ 0 (upd (σ 0) 18 (σ 0 18))) 10 (σ 10)) 11 (σ 11)) := by
        funext k
        by_cases e0 : k = 0
        · subst e0
          funext i
          by_cases f18 : i = 18
          · subst f18; rfl
          show (σ 0) i = (upd (σ 0) 18 (σ 0 18)) i
          simp only [upd, if_neg f18]
        by_cases e10 : k = 10
        · subst e10; rfl
        by_cases e11 : k = 11
        · subst e11; rfl
        simp only [upC, if_neg e0, if_neg e10, if_neg e11]
      have hpost : ∃ n18 : Int32, ∃ u10 : Nat → Int32, ∃ u11 : Nat → Int32, σ = (upC (upC (upC σ 0 (upd (σ 0) 18 n18)) 10 u10) 11 u11) ∧ True := by refine ⟨(σ 0 18), (σ 10), (σ 11), heq9, ?_⟩; trivial
      exact W.iret (v := (-2)) hx hb hr (fun t9 ht hW => ⟨⟨(-2), σ, rfl, hpost, by rw [ht]; exact hP, va_K.moved hW.alike hK, hD⟩, hS.F ht⟩) hS.2.2 dX9_turns_21
  · skip
    have ic7 := zeq (a := v4.toInt) (b := 0) rfl (by decide) c7
    refine lv_iconst (v := (-1)) hx hb dX9_turns_10 (by decide) ?_
    have heq9 : σ = (upC (upC (upC σ 0 (upd (σ 0) 18 (σ 0 18))) 10 (σ 10)) 11 (σ 11)) := by
      funext k
      by_cases e0 : k = 0
      · subst e0
        funext i
        by_cases f18 : i = 18
        · subst f18; rfl
        show (σ 0) i = (upd (σ 0) 18 (σ 0 18)) i
        simp only [upd, if_neg f18]
      by_cases e10 : k = 10
      · subst e10; rfl
      by_cases e11 : k = 11
      · subst e11; rfl
      simp only [upC, if_neg e0, if_neg e10, if_neg e11]
    have hpost : ∃ n18 : Int32, ∃ u10 : Nat → Int32, ∃ u11 : Nat → Int32, σ = (upC (upC (upC σ 0 (upd (σ 0) 18 n18)) 10 u10) 11 u11) ∧ True := by refine ⟨(σ 0 18), (σ 10), (σ 11), heq9, ?_⟩; trivial
    exact W.iret (v := (-1)) hx hb hr (fun t9 ht hW => ⟨⟨(-1), σ, rfl, hpost, by rw [ht]; exact hP, va_K.moved hW.alike hK, hD⟩, hS.F ht⟩) hS.2.2 dX9_turns_11

abbrev RM_X9_lie : Room := { frames := 4, cells := 0, slots := 0, locals := 88 }
set_option maxHeartbeats 4000000 in
set_option maxRecDepth 100000 in
theorem c_X9_lie (l : Launch) (dC : Nat → ClassId) (dI : Nat → Nat → Nat) (cI : ClassId) (a : Nat → Nat) (N : (Nat → Prop) → State → Prop) (hok : zNok N) (σ : Cn) (sz : Nat) (x1 : Int32) (x2 : Int32) (x3 : Int32) (x4 : Int32) (h0 : 0 ≤ (σ 0 10).toInt ∧ (σ 0 10).toInt ≤ 4) (h2 : 0 ≤ (σ 0 11).toInt ∧ (σ 0 11).toInt ≤ 10) : Met l yX9_lie wsX9_lie RM_X9_lie (zPc (dC, dI) [(cI, .int)] N (wM a cI) σ sz [.ref (a 0), .int x1, .int x2, .int x3, .int x4]) (zQi (dC, dI) [(cI, .int)] (wM a cI) (va_A (wM a cI σ) sz) (fun (r : Int32) (σ1 : Cn) => ∃ n18 : Int32, ∃ u10 : Nat → Int32, ∃ u11 : Nat → Int32, σ1 = (upC (upC (upC σ 0 (upd (σ 0) 18 n18)) 10 u10) 11 u11) ∧ True)) 0 0 (va_A (wM a cI σ) sz) := by
  refine Met.ofW (cc := cX9_lie) (maxL := 5) (ret := (some .int)) (by decide) rfl ?_
  intro p e s m args below meth c s₁ B hml hv
  obtain ⟨rfl, hsz, hP, hK, hD0, hN⟩ := hv
  have hx := B.exec
  have hb := B.bytes
  have hr := B.returns
  have hts := atoms_spec (ws := wsX9_lie) B.pre
  have hown : s.vm.findClass RX9 = some m.cls := findClass_of_methodNamed B.named
  have hlocks := B.notSynchronized
  subst hsz
  have hD := hD0.self (sz := s.heap.size)
  generalize hAe : va_A (wM a cI σ) s.heap.size = A at hD hN ⊢
  have hA : ∀ q : Nat, s.heap.size ≤ q → A q := fun q h => by rw [← hAe]; exact Or.inr h
  clear hAe hD0
  have hS : va_S A s.heap s.heap [] := va_S.rf
  have kq164 := hts (.constantLong RX9 164 (100)) (by decide +kernel)
  have hl := lv_entry ([.ref (a 0), .int x1, .int x2, .int x3, .int x4]) (n := 5) (Nat.le_of_ble_eq_true rfl)
  rw [lg_entry_eq]
  generalize (lg_sl ([.ref (a 0), .int x1, .int x2, .int x3, .int x4]) ++ List.replicate (5 - (lg_sl ([.ref (a 0), .int x1, .int x2, .int x3, .int x4])).length) Slot.unset).toArray = ls at hl ⊢
  have hl : lv_has ls 5 [(0, .ref (a 0)), (1, .int x1), (2, .int x2), (3, .int x3), (4, .int x4)] := hl
  suffices main : ∀ (H : Heap) (locs : List Loc), va_P (dC, dI) vwCl (wM a cI σ) H → va_D A (wM a cI σ) → va_S A s.heap H locs → W p l e (headSpec wsX9_lie RM_X9_lie).room s m ([.ref (a 0), .int x1, .int x2, .int x3, .int x4] : List Value).toArray below meth c H locs 0 0 (MQ below (zQi (dC, dI) [(cI, .int)] (wM a cI) A (fun (r : Int32) (σ1 : Cn) => ∃ n18 : Int32, ∃ u10 : Nat → Int32, ∃ u11 : Nat → Int32, σ1 = (upC (upC (upC σ 0 (upd (σ 0) 18 n18)) 10 u10) 11 u11) ∧ True)) ([.ref (a 0), .int x1, .int x2, .int x3, .int x4] : List Value).toArray s 0 0 A) (F0 m 0 ls []) from main s.heap [] hP hD hS
  intro H locs hP hD hS
  refine lv_iload_n hx hb dX9_lie_0 rfl (lv_at hl 1 rfl) ?_
  refine lv_i2l hx hb dX9_lie_1 rfl ?_
  refine lv_topl (fun v1 ev1 => ?_)
  have tv1 : v1.toInt = x1.toInt := by rw [ev1]; exact zi2l rfl
  refine lv_lconst (v := 0) hx hb dX9_lie_2 (by decide) ?_
  refine lv_lconst (v := 1) hx hb dX9_lie_3 (by decide) ?_
  refine zcalli (va_runS (As := [.long v1, .long 0, .long 1]) (rest := []) ⟨hx, hb, hml, hown, hts⟩ (c_X9_in l dC dI cI a N hok σ H.size (v1) (0) (1) ) (va_cwS 3 hts gX9_lie_X9_in rfl rfl rfl (by decide +kernel) ⟨Nat.le_of_ble_eq_true rfl, Nat.le_of_ble_eq_true rfl⟩) (zpreS (wf := wM a cI) hok hN hS hA hK hP hD) rfl rfl hl.1 rfl (lv_room (Nat.le_of_ble_eq_true rfl)) dX9_lie_4 ⟨Nat.zero_le _, Nat.zero_le _⟩) hD hS hA (fun v4 σ1 H locs hv4 hP hD hS => ?_)
  obtain ⟨es9, hv4⟩ := hv4
  subst σ1
  try simp only [show (0 : Int64).toInt = 0 from by decide, show (1 : Int64).toInt = 1 from by decide] at hv4
  refine lv_if_eq (tgt := 39) hx hb dX9_lie_7 (by decide) (fun c7 => ?_) (fun c7 => ?_)
  · skip
    have ic7 := zeq (a := v4.toInt) (b := 0) rfl (by decide) c7
    refine lv_iconst (v := (-1)) hx hb dX9_lie_39 (by decide) ?_
    have heq9 : σ = (upC (upC (upC σ 0 (upd (σ 0) 18 (σ 0 18))) 10 (σ 10)) 11 (σ 11)) := by
      funext k
      by_cases e0 : k = 0
      · subst e0
        funext i
        by_cases f18 : i = 18
        · subst f18; rfl
        show (σ 0) i = (upd (σ 0) 18 (σ 0 18)) i
        simp only [upd, if_neg f18]
      by_cases e10 : k = 10
      · subst e10; rfl
      by_cases e11 : k = 11
      · subst e11; rfl
      simp only [upC, if_neg e0, if_neg e10, if_neg e11]
    have hpost : ∃ n18 : Int32, ∃ u10 : Nat → Int32, ∃ u11 : Nat → Int32, σ = (upC (upC (upC σ 0 (upd (σ 0) 18 n18)) 10 u10) 11 u11) ∧ True := by refine ⟨(σ 0 18), (σ 10), (σ 11), heq9, ?_⟩; trivial
    exact W.iret (v := (-1)) hx hb hr (fun t9 ht hW => ⟨⟨(-1), σ, rfl, hpost, by rw [ht]; exact hP, va_K.moved hW.alike hK, hD⟩, hS.F ht⟩) hS.2.2 dX9_lie_40
  · skip
    have ic7 := zneq (a := v4.toInt) (b := 0) rfl (by decide) c7
    refine lv_aload_n hx hb dX9_lie_10 rfl (lv_at hl 0 rfl) ?_
    refine lv_iload_n hx hb dX9_lie_11 rfl (lv_at hl 2 rfl) ?_
    refine zcalli (va_runV (As := [.int x2]) (rest := []) ⟨hx, hb, hml, hown, hts⟩ (c_X9_isHeir l dC dI cI a N hok σ H.size (x2) h0) (cwV 1 hts gX9_lie_X9_isHeir rfl rfl rfl (by decide +kernel) ⟨Nat.le_of_ble_eq_true rfl, Nat.le_of_ble_eq_true rfl⟩) (zpreV (wf := wM a cI) (q0 := 0) (ci := 9) hok hN hS hA hK hP hD rfl rfl) rfl rfl hl.1 rfl (lv_room (Nat.le_of_ble_eq_true rfl)) dX9_lie_12 ⟨Nat.zero_le _, Nat.zero_le _⟩) hD hS hA (fun v12 σ1 H locs hv12 hP hD hS => ?_)
    obtain ⟨es9, hv12⟩ := hv12
    subst σ1
    refine lv_if_eq (tgt := 39) hx hb dX9_lie_15 (by decide) (fun c15 => ?_) (fun c15 => ?_)
    · skip
      have ic15 := zeq (a := v12.toInt) (b := 0) rfl (by decide) c15
      replace hv12 := (hv12.resolve_left (fun q => by omega)).2
      refine lv_iconst (v := (-1)) hx hb dX9_lie_39 (by decide) ?_
      have heq9 : σ = (upC (upC (upC σ 0 (upd (σ 0) 18 (σ 0 18))) 10 (σ 10)) 11 (σ 11)) := by
        funext k
        by_cases e0 : k = 0
        · subst e0
          funext i
          by_cases f18 : i = 18
          · subst f18; rfl
          show (σ 0) i = (upd (σ 0) 18 (σ 0 18)) i
          simp only [upd, if_neg f18]
        by_cases e10 : k = 10
        · subst e10; rfl
        by_cases e11 : k = 11
        · subst e11; rfl
        simp only [upC, if_neg e0, if_neg e10, if_neg e11]
      have hpost : ∃ n18 : Int32, ∃ u10 : Nat → Int32, ∃ u11 : Nat → Int32, σ = (upC (upC (upC σ 0 (upd (σ 0) 18 n18)) 10 u10) 11 u11) ∧ True := by refine ⟨(σ 0 18), (σ 10), (σ 11), heq9, ?_⟩; trivial
      exact W.iret (v := (-1)) hx hb hr (fun t9 ht hW => ⟨⟨(-1), σ, rfl, hpost, by rw [ht]; exact hP, va_K.moved hW.alike hK, hD⟩, hS.F ht⟩) hS.2.2 dX9_lie_40
    · skip
      have ic15 := zneq (a := v12.toInt) (b := 0) rfl (by decide) c15
      replace hv12 := (hv12.resolve_right (fun q => by omega)).2
      refine lv_aload_n hx hb dX9_lie_18 rfl (lv_at hl 0 rfl) ?_
      refine lv_iload_n hx hb dX9_lie_19 rfl (lv_at hl 3 rfl) ?_
      refine zcalli (va_runV (As := [.int x3]) (rest := []) ⟨hx, hb, hml, hown, hts⟩ (c_X9_isThing l dC dI cI a N hok σ H.size (x3) h2) (cwV 1 hts gX9_lie_X9_isThing rfl rfl rfl (by decide +kernel) ⟨Nat.le_of_ble_eq_true rfl, Nat.le_of_ble_eq_true rfl⟩) (zpreV (wf := wM a cI) (q0 := 0) (ci := 9) hok hN hS hA hK hP hD rfl rfl) rfl rfl hl.1 rfl (lv_room (Nat.le_of_ble_eq_true rfl)) dX9_lie_20 ⟨Nat.zero_le _, Nat.zero_le _⟩) hD hS hA (fun v20 σ1 H locs hv20 hP hD hS => ?_)
      obtain ⟨es9, hv20⟩ := hv20
      subst σ1
      refine lv_if_eq (tgt := 39) hx hb dX9_lie_23 (by decide) (fun c23 => ?_) (fun c23 => ?_)
      · skip
        have ic23 := zeq (a := v20.toInt) (b := 0) rfl (by decide) c23
        refine lv_iconst (v := (-1)) hx hb dX9_lie_39 (by decide) ?_
        have heq9 : σ = (upC (upC (upC σ 0 (upd (σ 0) 18 (σ 0 18))) 10 (σ 10)) 11 (σ 11)) := by
          funext k
          by_cases e0 : k = 0
          · subst e0
            funext i
            by_cases f18 : i = 18
            · subst f18; rfl
            show (σ 0) i = (upd (σ 0) 18 (σ 0 18)) i
            simp only [upd, if_neg f18]
          by_cases e10 : k = 10
          · subst e10; rfl
          by_cases e11 : k = 11
          · subst e11; rfl
          simp only [upC, if_neg e0, if_neg e10, if_neg e11]
        have hpost : ∃ n18 : Int32, ∃ u10 : Nat → Int32, ∃ u11 : Nat → Int32, σ = (upC (upC (upC σ 0 (upd (σ 0) 18 n18)) 10 u10) 11 u11) ∧ True := by refine ⟨(σ 0 18), (σ 10), (σ 11), heq9, ?_⟩; trivial
        exact W.iret (v := (-1)) hx hb hr (fun t9 ht hW => ⟨⟨(-1), σ, rfl, hpost, by rw [ht]; exact hP, va_K.moved hW.alike hK, hD⟩, hS.F ht⟩) hS.2.2 dX9_lie_40
      · skip
        have ic23 := zneq (a := v20.toInt) (b := 0) rfl (by decide) c23
        refine lv_iload hx hb dX9_lie_26 (lv_at hl 4 rfl) ?_
        refine lv_i2l hx hb dX9_lie_28 rfl ?_
        refine lv_topl (fun v28 ev28 => ?_)
        have tv28 : v28.toInt = x4.toInt := by rw [ev28]; exact zi2l rfl
        refine lv_lconst (v := 0) hx hb dX9_lie_29 (by decide) ?_
        refine lv_ldc2 hx hb hown kq164 dX9_lie_30 ?_
        refine zcalli (va_runS (As := [.long v28, .long 0, .long 100]) (rest := []) ⟨hx, hb, hml, hown, hts⟩ (c_X9_in l dC dI cI a N hok σ H.size (v28) (0) (100) ) (va_cwS 3 hts gX9_lie_X9_in rfl rfl rfl (by decide +kernel) ⟨Nat.le_of_ble_eq_true rfl, Nat.le_of_ble_eq_true rfl⟩) (zpreS (wf := wM a cI) hok hN hS hA hK hP hD) rfl rfl hl.1 rfl (lv_room (Nat.le_of_ble_eq_true rfl)) dX9_lie_33 ⟨Nat.zero_le _, Nat.zero_le _⟩) hD hS hA (fun v33 σ1 H locs hv33 hP hD hS => ?_)
        obtain ⟨es9, hv33⟩ := hv33
        subst σ1
        try simp only [show (0 : Int64).toInt = 0 from by decide, show (100 : Int64).toInt = 100 from by decide] at hv33
        refine lv_if_ne (tgt := 41) hx hb dX9_lie_36 (by decide) (fun c36 => ?_) (fun c36 => ?_)
        · skip
          have ic36 := zneq (a := v33.toInt) (b := 0) rfl (by decide) c36
          refine lv_aload_n hx hb dX9_lie_41 rfl (lv_at hl 0 rfl) ?_
          refine zcallv (va_runV (As := []) (rest := []) ⟨hx, hb, hml, hown, hts⟩ (c_X9_findShared l dC dI cI a N hok σ H.size  h0 h2) (cwV 0 hts gX9_lie_X9_findShared rfl rfl rfl (by decide +kernel) ⟨Nat.le_of_ble_eq_true rfl, Nat.le_of_ble_eq_true rfl⟩) (zpreV (wf := wM a cI) (q0 := 0) (ci := 9) hok hN hS hA hK hP hD rfl rfl) rfl rfl hl.1 rfl (lv_room (Nat.le_of_ble_eq_true rfl)) dX9_lie_42 ⟨Nat.zero_le _, Nat.zero_le _⟩) hD hS hA (fun σ1 H locs hv42 hP hD hS => ?_)
          obtain ⟨n18_42, u10_42, es9, hv42⟩ := hv42
          subst σ1
          have hP : va_P (dC, dI) vwCl (wM a cI (upC (upC σ 0 (upd (σ 0) 18 n18_42)) 10 u10_42)) H := hP
          have hD : va_D A (wM a cI (upC (upC σ 0 (upd (σ 0) 18 n18_42)) 10 u10_42)) := hD
          have hs : 0 ≤ n18_42.toInt ∧ n18_42.toInt ≤ 10 := by omega
          have hq : ∀ j : Nat, (j : Int) < n18_42.toInt → 0 ≤ (u10_42 j).toInt ∧ (u10_42 j).toInt < 10 := fun j hj => by have q := hv42.2 j hj; omega
          have hp : 1 ≤ (σ 0 10).toInt ∧ (σ 0 10).toInt ≤ 4 := by omega
          refine lv_aload_n hx hb dX9_lie_45 rfl (lv_at hl 0 rfl) ?_
          refine lv_iload_n hx hb dX9_lie_46 rfl (lv_at hl 1 rfl) ?_
          refine lv_iload_n hx hb dX9_lie_47 rfl (lv_at hl 2 rfl) ?_
          refine lv_iload_n hx hb dX9_lie_48 rfl (lv_at hl 3 rfl) ?_
          refine lv_iload hx hb dX9_lie_49 (lv_at hl 4 rfl) ?_
          refine zcallv (va_runV (As := [.int x1, .int x2, .int x3, .int x4]) (rest := []) ⟨hx, hb, hml, hown, hts⟩ (c_X9_takes l dC dI cI a N hok (upC (upC σ 0 (upd (σ 0) 18 n18_42)) 10 u10_42) H.size (x1) (x2) (x3) (x4) hp hs hq) (cwV 4 hts gX9_lie_X9_takes rfl rfl rfl (by decide +kernel) ⟨Nat.le_of_ble_eq_true rfl, Nat.le_of_ble_eq_true rfl⟩) (zpreV (wf := wM a cI) (q0 := 0) (ci := 9) hok hN hS hA hK hP hD rfl rfl) rfl rfl hl.1 rfl (lv_room (Nat.le_of_ble_eq_true rfl)) dX9_lie_51 ⟨Nat.zero_le _, Nat.zero_le _⟩) hD hS hA (fun σ1 H locs hv51 hP hD hS => ?_)
          obtain ⟨u11_51, es9, hv51⟩ := hv51
          subst σ1
          have hP : va_P (dC, dI) vwCl (wM a cI (upC (upC (upC σ 0 (upd (σ 0) 18 n18_42)) 10 u10_42) 11 u11_51)) H := hP
          have hD : va_D A (wM a cI (upC (upC (upC σ 0 (upd (σ 0) 18 n18_42)) 10 u10_42) 11 u11_51)) := hD
          refine lv_aload_n hx hb dX9_lie_54 rfl (lv_at hl 0 rfl) ?_
          refine zcalli (va_runV (As := []) (rest := []) ⟨hx, hb, hml, hown, hts⟩ (c_X9_number l dC dI cI a N hok (upC (upC (upC σ 0 (upd (σ 0) 18 n18_42)) 10 u10_42) 11 u11_51) H.size  hs) (cwV 0 hts gX9_lie_X9_number rfl rfl rfl (by decide +kernel) ⟨Nat.le_of_ble_eq_true rfl, Nat.le_of_ble_eq_true rfl⟩) (zpreV (wf := wM a cI) (q0 := 0) (ci := 9) hok hN hS hA hK hP hD rfl rfl) rfl rfl hl.1 rfl (lv_room (Nat.le_of_ble_eq_true rfl)) dX9_lie_55 ⟨Nat.zero_le _, Nat.zero_le _⟩) hD hS hA (fun v55 σ1 H locs hv55 hP hD hS => ?_)
          obtain ⟨es9, hv55⟩ := hv55
          subst σ1
          have heq9 : (upC (upC (upC σ 0 (upd (σ 0) 18 n18_42)) 10 u10_42) 11 u11_51) = (upC (upC (upC σ 0 (upd (σ 0) 18 n18_42)) 10 u10_42) 11 u11_51) := rfl
          have hpost : ∃ n18 : Int32, ∃ u10 : Nat → Int32, ∃ u11 : Nat → Int32, (upC (upC (upC σ 0 (upd (σ 0) 18 n18_42)) 10 u10_42) 11 u11_51) = (upC (upC (upC σ 0 (upd (σ 0) 18 n18)) 10 u10) 11 u11) ∧ True := by refine ⟨(n18_42), (u10_42), (u11_51), heq9, ?_⟩; trivial
          exact W.iret (v := v55) hx hb hr (fun t9 ht hW => ⟨⟨v55, (upC (upC (upC σ 0 (upd (σ 0) 18 n18_42)) 10 u10_42) 11 u11_51), rfl, hpost, by rw [ht]; exact hP, va_K.moved hW.alike hK, hD⟩, hS.F ht⟩) hS.2.2 dX9_lie_58
        · skip
          have ic36 := zeq (a := v33.toInt) (b := 0) rfl (by decide) c36
          refine lv_iconst (v := (-1)) hx hb dX9_lie_39 (by decide) ?_
          have heq9 : σ = (upC (upC (upC σ 0 (upd (σ 0) 18 (σ 0 18))) 10 (σ 10)) 11 (σ 11)) := by
            funext k
            by_cases e0 : k = 0
            · subst e0
              funext i
              by_cases f18 : i = 18
              · subst f18; rfl
              show (σ 0) i = (upd (σ 0) 18 (σ 0 18)) i
              simp only [upd, if_neg f18]
            by_cases e10 : k = 10
            · subst e10; rfl
            by_cases e11 : k = 11
            · subst e11; rfl
            simp only [upC, if_neg e0, if_neg e10, if_neg e11]
          have hpost : ∃ n18 : Int32, ∃ u10 : Nat → Int32, ∃ u11 : Nat → Int32, σ = (upC (upC (upC σ 0 (upd (σ 0) 18 n18)) 10 u10) 11 u11) ∧ True := by refine ⟨(σ 0 18), (σ 10), (σ 11), heq9, ?_⟩; trivial
          exact W.iret (v := (-1)) hx hb hr (fun t9 ht hW => ⟨⟨(-1), σ, rfl, hpost, by rw [ht]; exact hP, va_K.moved hW.alike hK, hD⟩, hS.F ht⟩) hS.2.2 dX9_lie_40

abbrev RM_X9_gain : Room := { frames := 4, cells := 0, slots := 0, locals := 88 }
set_option maxHeartbeats 4000000 in
set_option maxRecDepth 100000 in
theorem c_X9_gain (l : Launch) (dC : Nat → ClassId) (dI : Nat → Nat → Nat) (cI : ClassId) (a : Nat → Nat) (N : (Nat → Prop) → State → Prop) (hok : zNok N) (σ : Cn) (sz : Nat) (x1 : Int32) (x2 : Int32) (h0 : 0 ≤ (σ 0 10).toInt ∧ (σ 0 10).toInt ≤ 4) (h2 : 0 ≤ (σ 0 11).toInt ∧ (σ 0 11).toInt ≤ 10) : Met l yX9_gain wsX9_gain RM_X9_gain (zPc (dC, dI) [(cI, .int)] N (wM a cI) σ sz [.ref (a 0), .int x1, .int x2]) (zQi (dC, dI) [(cI, .int)] (wM a cI) (va_A (wM a cI σ) sz) (fun (r : Int32) (σ1 : Cn) => ∃ n18 : Int32, ∃ u10 : Nat → Int32, ∃ u11 : Nat → Int32, σ1 = (upC (upC (upC σ 0 (upd (σ 0) 18 n18)) 10 u10) 11 u11) ∧ True)) 0 0 (va_A (wM a cI σ) sz) := by
  refine Met.ofW (cc := cX9_gain) (maxL := 8) (ret := (some .int)) (by decide) rfl ?_
  intro p e s m args below meth c s₁ B hml hv
  obtain ⟨rfl, hsz, hP, hK, hD0, hN⟩ := hv
  have hx := B.exec
  have hb := B.bytes
  have hr := B.returns
  have hts := atoms_spec (ws := wsX9_gain) B.pre
  have hown : s.vm.findClass RX9 = some m.cls := findClass_of_methodNamed B.named
  have hlocks := B.notSynchronized
  subst hsz
  have hD := hD0.self (sz := s.heap.size)
  generalize hAe : va_A (wM a cI σ) s.heap.size = A at hD hN ⊢
  have hA : ∀ q : Nat, s.heap.size ≤ q → A q := fun q h => by rw [← hAe]; exact Or.inr h
  clear hAe hD0
  have hS : va_S A s.heap s.heap [] := va_S.rf
  have in9 : ∀ w ∈ u_ws RX9 TX9 28, w ∈ wsX9_gain := by decide +kernel
  have k182 := hts (.fieldLink RX9 182 "HouseSortedModel" "shared" "I") (by decide +kernel)
  have k37 := hts (.fieldLink RX9 37 "HouseSortedModel" "which" "[I") (by decide +kernel)
  have LP : ∀ n : Nat, (∀ (ba : Int32) (mo : Int32) (j : Int32) (m18 : Int32) (w10 : Nat → Int32) (w11 : Nat → Int32) (H : Heap) (locs : List Loc) (ls : Array Slot), 0 ≤ j.toInt ∧ j.toInt ≤ 10 → 0 ≤ m18.toInt ∧ m18.toInt ≤ 10 → (∀ j : Nat, (j : Int) < m18.toInt → 0 ≤ (w10 j).toInt ∧ (w10 j).toInt < 10) → 0 ≤ x2.toInt ∧ x2.toInt < (σ 0 10).toInt → ((10 - j.toInt).toNat * 200) < n → va_P (dC, dI) vwCl (wM a cI (upC (upC (upC σ 0 (upd (σ 0) 18 m18)) 10 w10) 11 w11)) H → va_D A (wM a cI (upC (upC (upC σ 0 (upd (σ 0) 18 m18)) 10 w10) 11 w11)) → va_S A s.heap H locs → lv_has ls 8 [(0, .ref (a 0)), (1, .int x1), (2, .int x2), (3, .int ba), (4, .int mo), (5, .int j)] → W p l e (headSpec wsX9_gain RM_X9_gain).room s m ([.ref (a 0), .int x1, .int x2] : List Value).toArray below meth c H locs 0 0 (MQ below (zQi (dC, dI) [(cI, .int)] (wM a cI) A (fun (r : Int32) (σ1 : Cn) => ∃ n18 : Int32, ∃ u10 : Nat → Int32, ∃ u11 : Nat → Int32, σ1 = (upC (upC (upC σ 0 (upd (σ 0) 18 n18)) 10 u10) 11 u11) ∧ True)) ([.ref (a 0), .int x1, .int x2] : List Value).toArray s 0 0 A) (F0 m 47 ls [])) ∧ (∀ (ba : Int32) (mo : Int32) (j : Int32) (k : Int32) (m18 : Int32) (w10 : Nat → Int32) (w11 : Nat → Int32) (H : Heap) (locs : List Loc) (ls : Array Slot), 0 ≤ j.toInt ∧ j.toInt < m18.toInt → 0 ≤ m18.toInt ∧ m18.toInt ≤ 10 → (∀ j : Nat, (j : Int) < m18.toInt → 0 ≤ (w10 j).toInt ∧ (w10 j).toInt < 10) → 0 ≤ x2.toInt ∧ x2.toInt < (σ 0 10).toInt → 0 ≤ k.toInt ∧ k.toInt ≤ 101 → ((9 - j.toInt).toNat * 200 + (101 - k.toInt).toNat + 1) < n → va_P (dC, dI) vwCl (wM a cI (upC (upC (upC σ 0 (upd (σ 0) 18 m18)) 10 w10) 11 w11)) H → va_D A (wM a cI (upC (upC (upC σ 0 (upd (σ 0) 18 m18)) 10 w10) 11 w11)) → va_S A s.heap H locs → lv_has ls 8 [(0, .ref (a 0)), (1, .int x1), (2, .int x2), (3, .int ba), (4, .int mo), (5, .int j), (6, .int k)] → W p l e (headSpec wsX9_gain RM_X9_gain).room s m ([.ref (a 0), .int x1, .int x2] : List Value).toArray below meth c H locs 0 0 (MQ below (zQi (dC, dI) [(cI, .int)] (wM a cI) A (fun (r : Int32) (σ1 : Cn) => ∃ n18 : Int32, ∃ u10 : Nat → Int32, ∃ u11 : Nat → Int32, σ1 = (upC (upC (upC σ 0 (upd (σ 0) 18 n18)) 10 u10) 11 u11) ∧ True)) ([.ref (a 0), .int x1, .int x2] : List Value).toArray s 0 0 A) (F0 m 59 ls [])) := by
    intro n
    induction n with
    | zero => exact ⟨(by intros; omega), (by intros; omega)⟩
    | succ n ih =>
      refine ⟨?_, ?_⟩
      · intro ba mo j m18 w10 w11 H locs ls g1 g2 g3 g4 hmu hP hD hS hl
        have hs := g2
        have hq := g3
        have hp : 1 ≤ (σ 0 10).toInt ∧ (σ 0 10).toInt ≤ 4 := by omega
        refine lv_iload hx hb dX9_gain_47 (lv_at hl 5 rfl) ?_
        refine lv_aload_n hx hb dX9_gain_49 rfl (lv_at hl 0 rfl) ?_
        refine va_get (D := (dC, dI)) (ci := 9) (v := .int m18) (C := RX9) (T := TX9) (N := 28) hx hb hts in9 hown hK hP 0 rfl rfl 18 (by decide) k182 (fun _ h9 => h9) rfl dX9_gain_50 ?_
        refine lv_icmp_ge (tgt := 119) hx hb dX9_gain_53 (by decide) (fun c53 => ?_) (fun c53 => ?_)
        · skip
          have ic53 := zle (a := m18.toInt) (b := j.toInt) rfl rfl c53
          refine lv_iload hx hb dX9_gain_119 (lv_at hl 4 rfl) ?_
          have heq9 : (upC (upC (upC σ 0 (upd (σ 0) 18 m18)) 10 w10) 11 w11) = (upC (upC (upC σ 0 (upd (σ 0) 18 m18)) 10 w10) 11 w11) := rfl
          have hpost : ∃ n18 : Int32, ∃ u10 : Nat → Int32, ∃ u11 : Nat → Int32, (upC (upC (upC σ 0 (upd (σ 0) 18 m18)) 10 w10) 11 w11) = (upC (upC (upC σ 0 (upd (σ 0) 18 n18)) 10 u10) 11 u11) ∧ True := by refine ⟨(m18), (w10), (w11), heq9, ?_⟩; trivial
          exact W.iret (v := mo) hx hb hr (fun t9 ht hW => ⟨⟨mo, (upC (upC (upC σ 0 (upd (σ 0) 18 m18)) 10 w10) 11 w11), rfl, hpost, by rw [ht]; exact hP, va_K.moved hW.alike hK, hD⟩, hS.F ht⟩) hS.2.2 dX9_gain_121
        · skip
          have ic53 := znle (a := m18.toInt) (b := j.toInt) rfl rfl c53
          refine lv_iconst (v := 0) hx hb dX9_gain_56 (by decide) ?_
          refine lv_istore (lv' := [(6, .int 0), (0, .ref (a 0)), (1, .int x1), (2, .int x2), (3, .int ba), (4, .int mo), (5, .int j)]) hx hb dX9_gain_57 hl (by decide) rfl (fun ls hl => ?_)
          exact ih.2 (ba) (mo) (j) (0) (m18) (w10) (w11) H locs ls (by omega) (hs) (hq) (by omega) (by first | omega | decide) (by first | omega | (rw [show (0 : Int32).toInt = 0 from by decide]; omega)) hP hD hS (lv_sub hl [1, 2, 3, 4, 5, 6, 0] rfl)
      · intro ba mo j k m18 w10 w11 H locs ls g1 g2 g3 g4 g5 hmu hP hD hS hl
        have hs := g2
        have hq := g3
        have hp : 1 ≤ (σ 0 10).toInt ∧ (σ 0 10).toInt ≤ 4 := by omega
        refine lv_iload hx hb dX9_gain_59 (lv_at hl 6 rfl) ?_
        refine lv_bipush (v := 101) hx hb dX9_gain_61 (by decide) ?_
        refine lv_icmp_ge (tgt := 113) hx hb dX9_gain_63 (by decide) (fun c63 => ?_) (fun c63 => ?_)
        · skip
          have ic63 := zle (a := 101) (b := k.toInt) (by decide) rfl c63
          obtain ⟨v113, ev113⟩ : ∃ y : Int32, y = j + 1 := ⟨_, rfl⟩
          refine lv_iinc (v := v113) (lv' := [(5, .int v113), (0, .ref (a 0)), (1, .int x1), (2, .int x2), (3, .int ba), (4, .int mo), (6, .int k)]) hx hb dX9_gain_113 hl (k := 5) rfl (by rw [ev113]; rfl) (by decide) rfl (fun ls hl => ?_)
          have tv113 : v113.toInt = j.toInt + 1 := by rw [ev113, zadd, show (1 : Int32).toInt = 1 from by decide]; omega
          refine lv_goto (tgt := 47) hx hb dX9_gain_116 (by decide) ?_
          exact ih.1 (ba) (mo) (v113) (m18) (w10) (w11) H locs ls (by first | omega | decide) (hs) (hq) (by omega) (by omega) hP hD hS (lv_sub hl [1, 2, 3, 4, 5, 0] rfl)
        · skip
          have ic63 := znle (a := 101) (b := k.toInt) (by decide) rfl c63
          refine lv_aload_n hx hb dX9_gain_66 rfl (lv_at hl 0 rfl) ?_
          refine lv_iload_n hx hb dX9_gain_67 rfl (lv_at hl 1 rfl) ?_
          refine lv_iload_n hx hb dX9_gain_68 rfl (lv_at hl 2 rfl) ?_
          refine lv_aload_n hx hb dX9_gain_69 rfl (lv_at hl 0 rfl) ?_
          refine va_get (D := (dC, dI)) (ci := 9) (v := .ref (a 10)) (C := RX9) (T := TX9) (N := 28) hx hb hts in9 hown hK hP 0 rfl rfl 19 (by decide) k37 (fun _ h9 => h9) rfl dX9_gain_70 ?_
          refine lv_iload hx hb dX9_gain_73 (lv_at hl 5 rfl) ?_
          refine va_iald (D := (dC, dI)) (f := w10) hx hb hK hP 10 0 rfl rfl (i := j) (n := 10) (zin (by omega) (by omega)) dX9_gain_75 ?_
          refine lv_topi (fun v75 ev75 => ?_)
          have tv75 := congrArg Int32.toInt ev75
          refine lv_iload hx hb dX9_gain_76 (lv_at hl 6 rfl) ?_
          refine zcallv (va_runV (As := [.int x1, .int x2, .int v75, .int k]) (rest := []) ⟨hx, hb, hml, hown, hts⟩ (c_X9_takes l dC dI cI a N hok (upC (upC (upC σ 0 (upd (σ 0) 18 m18)) 10 w10) 11 w11) H.size (x1) (x2) (v75) (k) hp hs hq) (cwV 4 hts gX9_gain_X9_takes rfl rfl rfl (by decide +kernel) ⟨Nat.le_of_ble_eq_true rfl, Nat.le_of_ble_eq_true rfl⟩) (zpreV (wf := wM a cI) (q0 := 0) (ci := 9) hok hN hS hA hK hP hD rfl rfl) rfl rfl hl.1 rfl (lv_room (Nat.le_of_ble_eq_true rfl)) dX9_gain_78 ⟨Nat.zero_le _, Nat.zero_le _⟩) hD hS hA (fun σ1 H locs hv78 hP hD hS => ?_)
          obtain ⟨u11_78, es9, hv78⟩ := hv78
          subst σ1
          have hP : va_P (dC, dI) vwCl (wM a cI (upC (upC (upC σ 0 (upd (σ 0) 18 m18)) 10 w10) 11 u11_78)) H := hP
          have hD : va_D A (wM a cI (upC (upC (upC σ 0 (upd (σ 0) 18 m18)) 10 w10) 11 u11_78)) := hD
          refine lv_aload_n hx hb dX9_gain_81 rfl (lv_at hl 0 rfl) ?_
          refine lv_iload_n hx hb dX9_gain_82 rfl (lv_at hl 2 rfl) ?_
          refine lv_iload_n hx hb dX9_gain_83 rfl (lv_at hl 2 rfl) ?_
          refine zcalli (va_runV (As := [.int x2, .int x2]) (rest := []) ⟨hx, hb, hml, hown, hts⟩ (c_X9_sumOf l dC dI cI a N hok (upC (upC (upC σ 0 (upd (σ 0) 18 m18)) 10 w10) 11 u11_78) H.size (x2) (x2) (by omega) hs hq) (cwV 2 hts gX9_gain_X9_sumOf rfl rfl rfl (by decide +kernel) ⟨Nat.le_of_ble_eq_true rfl, Nat.le_of_ble_eq_true rfl⟩) (zpreV (wf := wM a cI) (q0 := 0) (ci := 9) hok hN hS hA hK hP hD rfl rfl) rfl rfl hl.1 rfl (lv_room (Nat.le_of_ble_eq_true rfl)) dX9_gain_84 ⟨Nat.zero_le _, Nat.zero_le _⟩) hD hS hA (fun v84 σ1 H locs hv84 hP hD hS => ?_)
          obtain ⟨es9, hv84⟩ := hv84
          subst σ1
          refine lv_iload_n hx hb dX9_gain_87 rfl (lv_at hl 3 rfl) ?_
          refine lv_isub hx hb dX9_gain_88 ?_
          refine lv_topi (fun v88 ev88 => ?_)
          refine lv_istore (lv' := [(7, .int v88), (0, .ref (a 0)), (1, .int x1), (2, .int x2), (3, .int ba), (4, .int mo), (5, .int j), (6, .int k)]) hx hb dX9_gain_89 hl (by decide) rfl (fun ls hl => ?_)
          refine lv_iload hx hb dX9_gain_91 (lv_at hl 0 rfl) ?_
          refine lv_iload hx hb dX9_gain_93 (lv_at hl 5 rfl) ?_
          refine lv_icmp_le (tgt := 103) hx hb dX9_gain_95 (by decide) (fun c95 => ?_) (fun c95 => ?_)
          · skip
            have ic95 := zle (a := v88.toInt) (b := mo.toInt) rfl rfl c95
            refine lv_iload hx hb dX9_gain_103 (lv_at hl 5 rfl) ?_
            refine lv_istore (lv' := [(4, .int mo), (7, .int v88), (0, .ref (a 0)), (1, .int x1), (2, .int x2), (3, .int ba), (5, .int j), (6, .int k)]) hx hb dX9_gain_105 hl (by decide) rfl (fun ls hl => ?_)
            obtain ⟨v107, ev107⟩ : ∃ y : Int32, y = k + 1 := ⟨_, rfl⟩
            refine lv_iinc (v := v107) (lv' := [(6, .int v107), (4, .int mo), (7, .int v88), (0, .ref (a 0)), (1, .int x1), (2, .int x2), (3, .int ba), (5, .int j)]) hx hb dX9_gain_107 hl (k := 7) rfl (by rw [ev107]; rfl) (by decide) rfl (fun ls hl => ?_)
            have tv107 : v107.toInt = k.toInt + 1 := by rw [ev107, zadd, show (1 : Int32).toInt = 1 from by decide]; omega
            refine lv_goto (tgt := 59) hx hb dX9_gain_110 (by decide) ?_
            exact ih.2 (ba) (mo) (j) (v107) (m18) (w10) (u11_78) H locs ls (by omega) (hs) (hq) (by omega) (by first | omega | decide) (by first | omega | (rw [show (0 : Int32).toInt = 0 from by decide]; omega)) hP hD hS (lv_sub hl [3, 4, 5, 6, 1, 7, 0] rfl)
          · skip
            have ic95 := znle (a := v88.toInt) (b := mo.toInt) rfl rfl c95
            refine lv_iload hx hb dX9_gain_98 (lv_at hl 0 rfl) ?_
            refine lv_goto (tgt := 105) hx hb dX9_gain_100 (by decide) ?_
            refine lv_istore (lv' := [(4, .int v88), (7, .int v88), (0, .ref (a 0)), (1, .int x1), (2, .int x2), (3, .int ba), (5, .int j), (6, .int k)]) hx hb dX9_gain_105 hl (by decide) rfl (fun ls hl => ?_)
            obtain ⟨v107, ev107⟩ : ∃ y : Int32, y = k + 1 := ⟨_, rfl⟩
            refine lv_iinc (v := v107) (lv' := [(6, .int v107), (4, .int v88), (7, .int v88), (0, .ref (a 0)), (1, .int x1), (2, .int x2), (3, .int ba), (5, .int j)]) hx hb dX9_gain_107 hl (k := 7) rfl (by rw [ev107]; rfl) (by decide) rfl (fun ls hl => ?_)
            have tv107 : v107.toInt = k.toInt + 1 := by rw [ev107, zadd, show (1 : Int32).toInt = 1 from by decide]; omega
            refine lv_goto (tgt := 59) hx hb dX9_gain_110 (by decide) ?_
            exact ih.2 (ba) (v88) (j) (v107) (m18) (w10) (u11_78) H locs ls (by omega) (hs) (hq) (by omega) (by first | omega | decide) (by first | omega | (rw [show (0 : Int32).toInt = 0 from by decide]; omega)) hP hD hS (lv_sub hl [3, 4, 5, 6, 1, 7, 0] rfl)
  have hl := lv_entry ([.ref (a 0), .int x1, .int x2]) (n := 8) (Nat.le_of_ble_eq_true rfl)
  rw [lg_entry_eq]
  generalize (lg_sl ([.ref (a 0), .int x1, .int x2]) ++ List.replicate (8 - (lg_sl ([.ref (a 0), .int x1, .int x2])).length) Slot.unset).toArray = ls at hl ⊢
  have hl : lv_has ls 8 [(0, .ref (a 0)), (1, .int x1), (2, .int x2)] := hl
  suffices main : ∀ (H : Heap) (locs : List Loc), va_P (dC, dI) vwCl (wM a cI σ) H → va_D A (wM a cI σ) → va_S A s.heap H locs → W p l e (headSpec wsX9_gain RM_X9_gain).room s m ([.ref (a 0), .int x1, .int x2] : List Value).toArray below meth c H locs 0 0 (MQ below (zQi (dC, dI) [(cI, .int)] (wM a cI) A (fun (r : Int32) (σ1 : Cn) => ∃ n18 : Int32, ∃ u10 : Nat → Int32, ∃ u11 : Nat → Int32, σ1 = (upC (upC (upC σ 0 (upd (σ 0) 18 n18)) 10 u10) 11 u11) ∧ True)) ([.ref (a 0), .int x1, .int x2] : List Value).toArray s 0 0 A) (F0 m 0 ls []) from main s.heap [] hP hD hS
  intro H locs hP hD hS
  refine lv_iload_n hx hb dX9_gain_0 rfl (lv_at hl 1 rfl) ?_
  refine lv_i2l hx hb dX9_gain_1 rfl ?_
  refine lv_topl (fun v1 ev1 => ?_)
  have tv1 : v1.toInt = x1.toInt := by rw [ev1]; exact zi2l rfl
  refine lv_lconst (v := 0) hx hb dX9_gain_2 (by decide) ?_
  refine lv_lconst (v := 1) hx hb dX9_gain_3 (by decide) ?_
  refine zcalli (va_runS (As := [.long v1, .long 0, .long 1]) (rest := []) ⟨hx, hb, hml, hown, hts⟩ (c_X9_in l dC dI cI a N hok σ H.size (v1) (0) (1) ) (va_cwS 3 hts gX9_gain_X9_in rfl rfl rfl (by decide +kernel) ⟨Nat.le_of_ble_eq_true rfl, Nat.le_of_ble_eq_true rfl⟩) (zpreS (wf := wM a cI) hok hN hS hA hK hP hD) rfl rfl hl.1 rfl (lv_room (Nat.le_of_ble_eq_true rfl)) dX9_gain_4 ⟨Nat.zero_le _, Nat.zero_le _⟩) hD hS hA (fun v4 σ1 H locs hv4 hP hD hS => ?_)
  obtain ⟨es9, hv4⟩ := hv4
  subst σ1
  try simp only [show (0 : Int64).toInt = 0 from by decide, show (1 : Int64).toInt = 1 from by decide] at hv4
  refine lv_if_eq (tgt := 18) hx hb dX9_gain_7 (by decide) (fun c7 => ?_) (fun c7 => ?_)
  · skip
    have ic7 := zeq (a := v4.toInt) (b := 0) rfl (by decide) c7
    refine lv_iconst (v := (-1)) hx hb dX9_gain_18 (by decide) ?_
    have heq9 : σ = (upC (upC (upC σ 0 (upd (σ 0) 18 (σ 0 18))) 10 (σ 10)) 11 (σ 11)) := by
      funext k
      by_cases e0 : k = 0
      · subst e0
        funext i
        by_cases f18 : i = 18
        · subst f18; rfl
        show (σ 0) i = (upd (σ 0) 18 (σ 0 18)) i
        simp only [upd, if_neg f18]
      by_cases e10 : k = 10
      · subst e10; rfl
      by_cases e11 : k = 11
      · subst e11; rfl
      simp only [upC, if_neg e0, if_neg e10, if_neg e11]
    have hpost : ∃ n18 : Int32, ∃ u10 : Nat → Int32, ∃ u11 : Nat → Int32, σ = (upC (upC (upC σ 0 (upd (σ 0) 18 n18)) 10 u10) 11 u11) ∧ True := by refine ⟨(σ 0 18), (σ 10), (σ 11), heq9, ?_⟩; trivial
    exact W.iret (v := (-1)) hx hb hr (fun t9 ht hW => ⟨⟨(-1), σ, rfl, hpost, by rw [ht]; exact hP, va_K.moved hW.alike hK, hD⟩, hS.F ht⟩) hS.2.2 dX9_gain_19
  · skip
    have ic7 := zneq (a := v4.toInt) (b := 0) rfl (by decide) c7
    refine lv_aload_n hx hb dX9_gain_10 rfl (lv_at hl 0 rfl) ?_
    refine lv_iload_n hx hb dX9_gain_11 rfl (lv_at hl 2 rfl) ?_
    refine zcalli (va_runV (As := [.int x2]) (rest := []) ⟨hx, hb, hml, hown, hts⟩ (c_X9_isHeir l dC dI cI a N hok σ H.size (x2) h0) (cwV 1 hts gX9_gain_X9_isHeir rfl rfl rfl (by decide +kernel) ⟨Nat.le_of_ble_eq_true rfl, Nat.le_of_ble_eq_true rfl⟩) (zpreV (wf := wM a cI) (q0 := 0) (ci := 9) hok hN hS hA hK hP hD rfl rfl) rfl rfl hl.1 rfl (lv_room (Nat.le_of_ble_eq_true rfl)) dX9_gain_12 ⟨Nat.zero_le _, Nat.zero_le _⟩) hD hS hA (fun v12 σ1 H locs hv12 hP hD hS => ?_)
    obtain ⟨es9, hv12⟩ := hv12
    subst σ1
    refine lv_if_ne (tgt := 20) hx hb dX9_gain_15 (by decide) (fun c15 => ?_) (fun c15 => ?_)
    · skip
      have ic15 := zneq (a := v12.toInt) (b := 0) rfl (by decide) c15
      replace hv12 := (hv12.resolve_right (fun q => by omega)).2
      refine lv_aload_n hx hb dX9_gain_20 rfl (lv_at hl 0 rfl) ?_
      refine zcallv (va_runV (As := []) (rest := []) ⟨hx, hb, hml, hown, hts⟩ (c_X9_findShared l dC dI cI a N hok σ H.size  h0 h2) (cwV 0 hts gX9_gain_X9_findShared rfl rfl rfl (by decide +kernel) ⟨Nat.le_of_ble_eq_true rfl, Nat.le_of_ble_eq_true rfl⟩) (zpreV (wf := wM a cI) (q0 := 0) (ci := 9) hok hN hS hA hK hP hD rfl rfl) rfl rfl hl.1 rfl (lv_room (Nat.le_of_ble_eq_true rfl)) dX9_gain_21 ⟨Nat.zero_le _, Nat.zero_le _⟩) hD hS hA (fun σ1 H locs hv21 hP hD hS => ?_)
      obtain ⟨n18_21, u10_21, es9, hv21⟩ := hv21
      subst σ1
      have hP : va_P (dC, dI) vwCl (wM a cI (upC (upC σ 0 (upd (σ 0) 18 n18_21)) 10 u10_21)) H := hP
      have hD : va_D A (wM a cI (upC (upC σ 0 (upd (σ 0) 18 n18_21)) 10 u10_21)) := hD
      have hs : 0 ≤ n18_21.toInt ∧ n18_21.toInt ≤ 10 := by omega
      have hq : ∀ j : Nat, (j : Int) < n18_21.toInt → 0 ≤ (u10_21 j).toInt ∧ (u10_21 j).toInt < 10 := fun j hj => by have q := hv21.2 j hj; omega
      have hp : 1 ≤ (σ 0 10).toInt ∧ (σ 0 10).toInt ≤ 4 := by omega
      refine lv_aload_n hx hb dX9_gain_24 rfl (lv_at hl 0 rfl) ?_
      refine lv_iload_n hx hb dX9_gain_25 rfl (lv_at hl 1 rfl) ?_
      refine lv_bipush (v := (-4)) hx hb dX9_gain_26 (by decide) ?_
      refine lv_bipush (v := (-4)) hx hb dX9_gain_28 (by decide) ?_
      refine lv_iconst (v := 0) hx hb dX9_gain_30 (by decide) ?_
      refine zcallv (va_runV (As := [.int x1, .int (-4), .int (-4), .int 0]) (rest := []) ⟨hx, hb, hml, hown, hts⟩ (c_X9_takes l dC dI cI a N hok (upC (upC σ 0 (upd (σ 0) 18 n18_21)) 10 u10_21) H.size (x1) ((-4)) ((-4)) (0) hp hs hq) (cwV 4 hts gX9_gain_X9_takes rfl rfl rfl (by decide +kernel) ⟨Nat.le_of_ble_eq_true rfl, Nat.le_of_ble_eq_true rfl⟩) (zpreV (wf := wM a cI) (q0 := 0) (ci := 9) hok hN hS hA hK hP hD rfl rfl) rfl rfl hl.1 rfl (lv_room (Nat.le_of_ble_eq_true rfl)) dX9_gain_31 ⟨Nat.zero_le _, Nat.zero_le _⟩) hD hS hA (fun σ1 H locs hv31 hP hD hS => ?_)
      obtain ⟨u11_31, es9, hv31⟩ := hv31
      subst σ1
      have hP : va_P (dC, dI) vwCl (wM a cI (upC (upC (upC σ 0 (upd (σ 0) 18 n18_21)) 10 u10_21) 11 u11_31)) H := hP
      have hD : va_D A (wM a cI (upC (upC (upC σ 0 (upd (σ 0) 18 n18_21)) 10 u10_21) 11 u11_31)) := hD
      try simp only [show ((-4) : Int32).toInt = (-4) from by decide, show (0 : Int32).toInt = 0 from by decide] at hv31
      refine lv_aload_n hx hb dX9_gain_34 rfl (lv_at hl 0 rfl) ?_
      refine lv_iload_n hx hb dX9_gain_35 rfl (lv_at hl 2 rfl) ?_
      refine lv_iload_n hx hb dX9_gain_36 rfl (lv_at hl 2 rfl) ?_
      refine zcalli (va_runV (As := [.int x2, .int x2]) (rest := []) ⟨hx, hb, hml, hown, hts⟩ (c_X9_sumOf l dC dI cI a N hok (upC (upC (upC σ 0 (upd (σ 0) 18 n18_21)) 10 u10_21) 11 u11_31) H.size (x2) (x2) (by omega) hs hq) (cwV 2 hts gX9_gain_X9_sumOf rfl rfl rfl (by decide +kernel) ⟨Nat.le_of_ble_eq_true rfl, Nat.le_of_ble_eq_true rfl⟩) (zpreV (wf := wM a cI) (q0 := 0) (ci := 9) hok hN hS hA hK hP hD rfl rfl) rfl rfl hl.1 rfl (lv_room (Nat.le_of_ble_eq_true rfl)) dX9_gain_37 ⟨Nat.zero_le _, Nat.zero_le _⟩) hD hS hA (fun v37 σ1 H locs hv37 hP hD hS => ?_)
      obtain ⟨es9, hv37⟩ := hv37
      subst σ1
      refine lv_istore_n (lv' := [(3, .int v37), (0, .ref (a 0)), (1, .int x1), (2, .int x2)]) hx hb dX9_gain_40 rfl hl (by decide) rfl (fun ls hl => ?_)
      refine lv_iconst (v := 0) hx hb dX9_gain_41 (by decide) ?_
      refine lv_istore (lv' := [(4, .int 0), (3, .int v37), (0, .ref (a 0)), (1, .int x1), (2, .int x2)]) hx hb dX9_gain_42 hl (by decide) rfl (fun ls hl => ?_)
      refine lv_iconst (v := 0) hx hb dX9_gain_44 (by decide) ?_
      refine lv_istore (lv' := [(5, .int 0), (4, .int 0), (3, .int v37), (0, .ref (a 0)), (1, .int x1), (2, .int x2)]) hx hb dX9_gain_45 hl (by decide) rfl (fun ls hl => ?_)
      exact (LP _).1 (v37) (0) (0) (n18_21) (u10_21) (u11_31) H locs ls (by decide) (hs) (hq) (by omega) (Nat.lt_succ_self _) hP hD hS (lv_sub hl [3, 4, 5, 2, 1, 0] rfl)
    · skip
      have ic15 := zeq (a := v12.toInt) (b := 0) rfl (by decide) c15
      replace hv12 := (hv12.resolve_left (fun q => by omega)).2
      refine lv_iconst (v := (-1)) hx hb dX9_gain_18 (by decide) ?_
      have heq9 : σ = (upC (upC (upC σ 0 (upd (σ 0) 18 (σ 0 18))) 10 (σ 10)) 11 (σ 11)) := by
        funext k
        by_cases e0 : k = 0
        · subst e0
          funext i
          by_cases f18 : i = 18
          · subst f18; rfl
          show (σ 0) i = (upd (σ 0) 18 (σ 0 18)) i
          simp only [upd, if_neg f18]
        by_cases e10 : k = 10
        · subst e10; rfl
        by_cases e11 : k = 11
        · subst e11; rfl
        simp only [upC, if_neg e0, if_neg e10, if_neg e11]
      have hpost : ∃ n18 : Int32, ∃ u10 : Nat → Int32, ∃ u11 : Nat → Int32, σ = (upC (upC (upC σ 0 (upd (σ 0) 18 n18)) 10 u10) 11 u11) ∧ True := by refine ⟨(σ 0 18), (σ 10), (σ 11), heq9, ?_⟩; trivial
      exact W.iret (v := (-1)) hx hb hr (fun t9 ht hW => ⟨⟨(-1), σ, rfl, hpost, by rw [ht]; exact hP, va_K.moved hW.alike hK, hD⟩, hS.F ht⟩) hS.2.2 dX9_gain_19

