theorem zthr_own : (Cond.code x code maxLocals ret).before start1.args0 zthr = true := zthr_code rfl (by decide +kernel) start1.word_code
theorem zthr_words : ∀ c ∈ (Cond.code x code maxLocals ret :: tables_1), c.before start1.args0 zthr = true := by
  intro c hc
  rcases List.mem_cons.mp hc with h | h
  · rw [h]; exact zthr_own
  · have h1 : c ∈ tables_1_1 ++ (tables_1_2 ++ (tables_1_3 ++ (tables_1_4 ++ (tables_1_5)))) := h
    simp only [List.mem_append] at h1
    rcases h1 with h1 | h1 | h1 | h1 | h1
    · exact ztw1 c h1
    · exact ztw2 c h1
    · exact ztw3 c h1
    · exact ztw4 c h1
    · exact ztw5 c h1
set_option maxRecDepth 16384 in
/-- zthr is a start that the Statement allows -/
theorem zthr_start : AtStart classFile x code maxLocals ret World_1 tables_1 room_1 Calls_1 rest_1 Pre_1 launch0 start1.p0 start1.e0 zthr ⟨0, 0⟩ start1.args0 Lib.HandBits.below0 :=
  ⟨lists_1, trivial, launch0.admits_env _ _ _, launch0.least_env, fairChoices_fair.cas, fairChoices_fair.clock, rfl, by decide +kernel, by decide +kernel,
    (Spec.applies_iff rfl).mpr ⟨rfl, rfl, rfl, by decide +kernel, by decide +kernel, by decide +kernel, launch0.hasRoom_least _ room_1 (by decide +kernel) (by decide +kernel) (by decide +kernel) (by decide +kernel) (by decide +kernel) (by decide +kernel), atoms_intro zthr_words⟩,
    trivial, (show rest_1_c.before start1.args0 zthr = true by decide +kernel), (show (Cond.and given_1 narrow_1).before start1.args0 zthr = true by decide +kernel)⟩
/-- the frames' last is the listener's -/
def zlow : List Frame → Bool
  | [] => false
  | [.native ⟨m, as, st, sv, aw, an, lk, w⟩] => decide (m = ⟨0, 0⟩) && decide (as = #[]) && decide (st = 0) && decide (sv = #[]) && decide (aw = false) && an.isNone && lk.isNone && decide (w = 0)
  | _ :: r => zlow r
theorem zlow_is : ∀ (fs : List Frame), zlow fs = true → ∃ above, fs = above ++ Lib.HandBits.below0
  | [], h => by cases h
  | x :: r, h => by
    unfold zlow at h
    split at h
    · cases h
    · rename_i hf
      simp only [Bool.and_eq_true, decide_eq_true_eq, Option.isNone_iff_eq_none] at h
      obtain ⟨⟨⟨⟨⟨⟨⟨h2, h3⟩, h4⟩, h5⟩, h6⟩, h7⟩, h8⟩, h9⟩ := h
      subst h2 h3 h4 h5 h6 h7 h8 h9
      exact ⟨[], hf⟩
    · rename_i y r' _ hf
      injection hf with h1 h2
      subst h1 h2
      obtain ⟨a, ha⟩ := zlow_is _ h
      exact ⟨_ :: a, by rw [ha]; rfl⟩
def zwin (t : State) : Bool := zlow t.frames && decide (1 < t.frames.length) && !(match t.frames with | [.throwing _, _] => true | _ => false)
theorem zwin_is {t : State} (h : zwin t = true) : Within t Lib.HandBits.below0 := by
  simp only [zwin, Bool.and_eq_true, decide_eq_true_eq] at h
  obtain ⟨⟨h1, h2⟩, h3⟩ := h
  obtain ⟨a, ha⟩ := zlow_is _ h1
  refine ⟨a, ha, ?_, ?_⟩
  · intro h4; rw [ha, h4] at h2; exact absurd h2 (by decide)
  · intro b h4; rw [ha, h4] at h3; exact absurd h3 (by simp [Lib.HandBits.below0])
set_option maxRecDepth 16384 in
theorem zthr_win : (List.range 38).all (fun k => zwin (stepsAlone start1.p0.tables start1.e0 k zthr)) = true := by decide +kernel
theorem zthr_within (k : Nat) (h : k < 38) : Within (stepsAlone start1.p0.tables start1.e0 k zthr) Lib.HandBits.below0 := zwin_is (List.all_eq_true.mp zthr_win k (List.mem_range.mpr h))
/-- THE STATEMENT'S OWN FORM OF A REFUTATION -/
theorem refuted_as_printed : RefutedClaimed_1_1 :=
  ⟨launch0, start1.p0, start1.e0, zthr, ⟨0, 0⟩, start1.args0, Lib.HandBits.below0, rfl, zthr_start, 38, .threw 5, zthr_within, zthr_runs, zthr_ends,
    fun hp => by have h4 := hp.1; simp [postC, limb_1_1, Cond.after, Cond.holds, Cond.value] at h4⟩
