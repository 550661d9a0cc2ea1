/-! A start that the Statement allows, at which the law ends with a throw: as zbad, but clone has the two instructions aload_0, athrow -/
def zthrC : Class := { start1.cArr "[W" 20 .int with methods := #[Lib.HandJ.method "clone" "()Ljava/lang/Object;" [] (some (.object "java/lang/Object")) 0x1 1 ⟨#[0x2a, 0xbf]⟩] }
def zthr : State := { start1.about with vm := { start1.about.vm with classes := start1.about.vm.classes.push zthrC }, heap := start1.about.heap.setIfInBounds 5 { cls := 26, slots := #[.int (10), .int (200), .int (1), .int (100), .int (20), .int (1), .int (3)], vm := .none } }
theorem zthr_size : start1.about.vm.classes.size = 26 := by decide +kernel
/-- the throw of USUAL's cell stands over the listener's frame alone -/
def ztop (t : State) : Bool := match t.frames with
  | [.throwing a, .native ⟨m, as, st, sv, aw, an, lk, w⟩] => decide (a = 5) && decide (m = ⟨0, 0⟩) && decide (as = #[]) && decide (st = 0) && decide (sv = #[]) && decide (aw = false) && an.isNone && lk.isNone && decide (w = 0)
  | _ => false
theorem ztop_is {t : State} (h : ztop t = true) : t.frames = .throwing 5 :: Lib.HandBits.below0 := by
  unfold ztop at h
  split at h
  · rename_i hf
    simp only [Bool.and_eq_true, decide_eq_true_eq, Option.isNone_iff_eq_none] at h
    obtain ⟨⟨⟨⟨⟨⟨⟨⟨h1, h2⟩, h3⟩, h4⟩, h5⟩, h6⟩, h7⟩, h8⟩, h9⟩ := h
    subst h1 h2 h3 h4 h5 h6 h7 h8 h9
    exact hf
  · cases h
set_option maxRecDepth 16384 in
theorem zthr_runs : (stepsAlone start1.p0.tables start1.e0 38 zthr).status = .running := by decide +kernel
set_option maxRecDepth 16384 in
theorem zthr_top : ztop (stepsAlone start1.p0.tables start1.e0 38 zthr) = true := by decide +kernel
theorem zthr_ends : (stepsAlone start1.p0.tables start1.e0 38 zthr).frames = .throwing 5 :: Lib.HandBits.below0 := ztop_is zthr_top
