theorem zbad_own : (Cond.code x code maxLocals ret).before start1.args0 zbad = true := zbad_code rfl (by decide +kernel) start1.word_code
theorem zbad_words : ∀ c ∈ (Cond.code x code maxLocals ret :: tables_1), c.before start1.args0 zbad = true := by
  intro c hc
  rcases List.mem_cons.mp hc with h | h
  · rw [h]; exact zbad_own
  · have h1 : c ∈ tables_1_1 ++ (tables_1_2 ++ (tables_1_3 ++ (tables_1_4 ++ (tables_1_5)))) := h
    simp only [List.mem_append] at h1
    rcases h1 with h1 | h1 | h1 | h1 | h1
    · exact zbw1 c h1
    · exact zbw2 c h1
    · exact zbw3 c h1
    · exact zbw4 c h1
    · exact zbw5 c h1
set_option maxRecDepth 16384 in
/-- zbad is a start that the Statement allows -/
theorem zbad_start : AtStart classFile x code maxLocals ret World_1 tables_1 room_1 Calls_1 rest_1 Pre_1 launch0 start1.p0 start1.e0 zbad ⟨0, 0⟩ start1.args0 Lib.HandBits.below0 :=
  ⟨lists_1, trivial, launch0.admits_env _ _ _, launch0.least_env, fairChoices_fair.cas, fairChoices_fair.clock, rfl, by decide +kernel, by decide +kernel,
    (Spec.applies_iff rfl).mpr ⟨rfl, rfl, rfl, by decide +kernel, by decide +kernel, by decide +kernel, launch0.hasRoom_least _ room_1 (by decide +kernel) (by decide +kernel) (by decide +kernel) (by decide +kernel) (by decide +kernel) (by decide +kernel), atoms_intro zbad_words⟩,
    trivial, (show rest_1_c.before start1.args0 zbad = true by decide +kernel), (show (Cond.and given_1 narrow_1).before start1.args0 zbad = true by decide +kernel)⟩
theorem zEnded {t : State} {v : Option Value} (h : Ended t Lib.HandBits.below0 (.returned v)) : t.frames.length = 1 := by
  have h2 : t.frames = _ := h
  rw [h2]
  rfl
theorem zgo_no {tb : Tables} {e : Env} : ∀ (N : Nat) (s : State), zgo tb e 1 N s = true → ∀ (n : Nat) (v : Option Value), (stepsAlone tb e n s).status = .running → ¬ Ended (stepsAlone tb e n s) Lib.HandBits.below0 (.returned v) := by
  intro N
  induction N with
  | zero => intro s h; cases h
  | succ N ih =>
    intro s h n v hr hE
    have hst : ∀ k : Nat, s.status = .running → s.curStatus? = some .runnable → s.alone = true → stepsAlone tb e (k + 1) s = stepsAlone tb e k (stepThread tb e s).1 := fun k h1 h2 h3 => by
      rw [stepsAlone, h1, h2, h3]
    have hno : s.status ≠ .running → ∀ k : Nat, stepsAlone tb e k s = s := fun h1 k => by
      cases k with
      | zero => rfl
      | succ k =>
        rw [stepsAlone]
        split
        · rename_i q _ _; exact absurd q h1
        · rfl
    rw [zgo] at h
    split at h
    · rename_i h1 h2 h3
      obtain ⟨h4, h5⟩ := Bool.and_eq_true_iff.mp h
      cases n with
      | zero =>
        have h6 : s.frames.length = 1 := zEnded hE
        have h7 : 1 < s.frames.length := of_decide_eq_true h4
        omega
      | succ n =>
        rw [hst n h1 h2 h3] at hr hE
        exact ih _ h5 n v hr hE
    · cases h
    · rename_i h1 h2
      have hs : s.status ≠ .running := fun q => by
        first
        | exact h1 q
        | exact h2 q
        | exact h1 _ _ q rfl rfl
        | exact h2 _ _ q rfl rfl
      rw [hno hs n] at hr
      exact hs hr
/-- THE CLAIM IS FALSE AS IT IS WRITTEN -/
theorem refuted_1_1 : ¬ Claimed_1_1 := by
  intro h
  obtain ⟨hL, hW, ha, -, hc, hk, hf, hfit, hheap, happ, h1, h2, h3⟩ := zbad_start
  obtain ⟨n, o, -, hr, hE, hp⟩ := h launch0 rfl hL hW start1.p0 start1.e0 ha hc hk zbad ⟨0, 0⟩ start1.args0 Lib.HandBits.below0 hf hfit hheap happ ⟨h1, h2, h3⟩
  cases o with
  | threw a => have h4 := hp.1; simp [postC, limb_1_1, Cond.after, Cond.holds, Cond.value] at h4
  | returned v => exact zgo_no 200 zbad zbad_halts n v hr hE
theorem refuted : ¬ (Claimed_1_1 ∧ Claimed_1_2) := fun h => refuted_1_1 h.1
