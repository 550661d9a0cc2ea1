/-- a method that the start has is there under the same number -/
def ztm : Cond → Bool
  | .code x _ _ _ => decide (zthr.methodNamed? x = start1.about.methodNamed? x) && (start1.about.methodNamed? x).all (fun m => decide (m.cls < 26))
  | _ => true
theorem zthr_cls {k : Nat} (h : k < 26) : zthr.vm.classes[k]? = start1.about.vm.classes[k]? := by
  show (start1.about.vm.classes.push zthrC)[k]? = _
  rw [Array.getElem?_push, if_neg (by rw [zthr_size]; omega)]
theorem zthr_meth {m : MethodId} (h : m.cls < 26) : zthr.vm.method? m = start1.about.vm.method? m := by
  unfold Vm.method?
  rw [zthr_cls h]
theorem zthr_code {c : Cond} (hc : su_isCode c = true) (hs : ztm c = true) (h : c.before start1.args0 start1.about = true) : c.before start1.args0 zthr = true := by
  cases c with
  | code x bytes maxL ret =>
    simp only [ztm, Bool.and_eq_true, decide_eq_true_eq] at hs
    simp only [Cond.before, Cond.holds, Cond.value] at h ⊢
    rw [hs.1]
    cases hm : start1.about.methodNamed? x with
    | none => rw [hm] at h; simpa using h
    | some m =>
      rw [hm] at h hs
      simp only [Option.bind_some] at h ⊢
      rw [zthr_meth (by simpa using hs.2)]
      exact h
  | _ => simp [su_isCode] at hc
