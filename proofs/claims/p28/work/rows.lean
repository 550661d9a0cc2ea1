section
/-! A start that the Statement allows, at which the law does not end: USUAL's array is of a class of arrays of int that isn't the one called [I, and that class has a method clone of its own -/
def zbadC : Class := { start1.cArr "[W" 20 .int with methods := #[Lib.HandJ.method "clone" "()Ljava/lang/Object;" [] (some (.object "java/lang/Object")) 0x1 1 ⟨#[]⟩] }
def zbad : State := { start1.about with vm := { start1.about.vm with classes := start1.about.vm.classes.push zbadC }, heap := start1.about.heap.setIfInBounds 5 { cls := 26, slots := #[.int (10), .int (200), .int (1), .int (100), .int (20), .int (1), .int (3)], vm := .none } }
/-- the machine goes on, the law's frames stay, until it halts -/
def zgo (tb : Tables) (e : Env) (k : Nat) : Nat → State → Bool
  | 0, _ => false
  | n + 1, s => match s.status, s.curStatus?, s.alone with
    | .running, some .runnable, true => decide (k < s.frames.length) && zgo tb e k n (stepThread tb e s).1
    | .running, _, _ => false
    | _, _, _ => true
theorem zbad_size : start1.about.vm.classes.size = 26 := by decide +kernel
set_option maxRecDepth 16384 in
theorem zbad_halts : zgo start1.p0.tables start1.e0 1 200 zbad = true := by decide +kernel
end
section
/-- a method that the start has is there under the same number -/
def zsm : Cond → Bool
  | .code x _ _ _ => decide (zbad.methodNamed? x = start1.about.methodNamed? x) && (start1.about.methodNamed? x).all (fun m => decide (m.cls < 26))
  | _ => true
theorem zbad_cls {k : Nat} (h : k < 26) : zbad.vm.classes[k]? = start1.about.vm.classes[k]? := by
  show (start1.about.vm.classes.push zbadC)[k]? = _
  rw [Array.getElem?_push, if_neg (by rw [zbad_size]; omega)]
theorem zbad_meth {m : MethodId} (h : m.cls < 26) : zbad.vm.method? m = start1.about.vm.method? m := by
  unfold Vm.method?
  rw [zbad_cls h]
theorem zbad_code {c : Cond} (hc : su_isCode c = true) (hs : zsm c = true) (h : c.before start1.args0 start1.about = true) : c.before start1.args0 zbad = true := by
  cases c with
  | code x bytes maxL ret =>
    simp only [zsm, Bool.and_eq_true, decide_eq_true_eq] at hs
    simp only [Cond.before, Cond.holds, Cond.value] at h ⊢
    rw [hs.1]
    cases hm : start1.about.methodNamed? x with
    | none => rw [hm] at h; simpa using h
    | some m =>
      rw [hm] at h hs
      simp only [Option.bind_some] at h ⊢
      rw [zbad_meth (by simpa using hs.2)]
      exact h
  | _ => simp [su_isCode] at hc
end
section
set_option maxRecDepth 16384 in
theorem zb1_0 : (tables_1_1.take 20).all (fun c => su_isCode c || c.before start1.args0 zbad) = true := by decide +kernel
set_option maxRecDepth 16384 in
theorem zb1_1 : ((tables_1_1.drop 20).take 20).all (fun c => su_isCode c || c.before start1.args0 zbad) = true := by decide +kernel
set_option maxRecDepth 16384 in
theorem zb1_2 : ((tables_1_1.drop 40).take 20).all (fun c => su_isCode c || c.before start1.args0 zbad) = true := by decide +kernel
set_option maxRecDepth 16384 in
theorem zb1_3 : ((tables_1_1.drop 60).take 20).all (fun c => su_isCode c || c.before start1.args0 zbad) = true := by decide +kernel
set_option maxRecDepth 16384 in
theorem zb1_4 : ((tables_1_1.drop 80).take 20).all (fun c => su_isCode c || c.before start1.args0 zbad) = true := by decide +kernel
set_option maxRecDepth 16384 in
theorem zb1_5 : ((tables_1_1.drop 100).take 20).all (fun c => su_isCode c || c.before start1.args0 zbad) = true := by decide +kernel
set_option maxRecDepth 16384 in
theorem zb1_6 : ((tables_1_1.drop 120).take 20).all (fun c => su_isCode c || c.before start1.args0 zbad) = true := by decide +kernel
set_option maxRecDepth 16384 in
theorem zb1_7 : ((tables_1_1.drop 140).take 20).all (fun c => su_isCode c || c.before start1.args0 zbad) = true := by decide +kernel
set_option maxRecDepth 16384 in
theorem zb1_8 : ((tables_1_1.drop 160).take 20).all (fun c => su_isCode c || c.before start1.args0 zbad) = true := by decide +kernel
set_option maxRecDepth 16384 in
theorem zb1_9 : ((tables_1_1.drop 180).take 20).all (fun c => su_isCode c || c.before start1.args0 zbad) = true := by decide +kernel
set_option maxRecDepth 16384 in
theorem zb1_10 : ((tables_1_1.drop 200).take 20).all (fun c => su_isCode c || c.before start1.args0 zbad) = true := by decide +kernel
set_option maxRecDepth 16384 in
theorem zb1_11 : ((tables_1_1.drop 220).take 20).all (fun c => su_isCode c || c.before start1.args0 zbad) = true := by decide +kernel
theorem zbc1 : (tables_1_1.filter su_isCode).all zsm = true := by decide +kernel
theorem zb1_all : tables_1_1.all (fun c => su_isCode c || c.before start1.args0 zbad) = true := by
  refine start1.su_all_split _ 20 _ zb1_0 ?_
  try simp only [List.drop_drop]
  refine start1.su_all_split _ 20 _ (by first | exact zb1_1 | (rw [List.drop_drop]; exact zb1_1) | (simp only [List.drop_drop]; exact zb1_1)) ?_
  try simp only [List.drop_drop]
  refine start1.su_all_split _ 20 _ (by first | exact zb1_2 | (rw [List.drop_drop]; exact zb1_2) | (simp only [List.drop_drop]; exact zb1_2)) ?_
  try simp only [List.drop_drop]
  refine start1.su_all_split _ 20 _ (by first | exact zb1_3 | (rw [List.drop_drop]; exact zb1_3) | (simp only [List.drop_drop]; exact zb1_3)) ?_
  try simp only [List.drop_drop]
  refine start1.su_all_split _ 20 _ (by first | exact zb1_4 | (rw [List.drop_drop]; exact zb1_4) | (simp only [List.drop_drop]; exact zb1_4)) ?_
  try simp only [List.drop_drop]
  refine start1.su_all_split _ 20 _ (by first | exact zb1_5 | (rw [List.drop_drop]; exact zb1_5) | (simp only [List.drop_drop]; exact zb1_5)) ?_
  try simp only [List.drop_drop]
  refine start1.su_all_split _ 20 _ (by first | exact zb1_6 | (rw [List.drop_drop]; exact zb1_6) | (simp only [List.drop_drop]; exact zb1_6)) ?_
  try simp only [List.drop_drop]
  refine start1.su_all_split _ 20 _ (by first | exact zb1_7 | (rw [List.drop_drop]; exact zb1_7) | (simp only [List.drop_drop]; exact zb1_7)) ?_
  try simp only [List.drop_drop]
  refine start1.su_all_split _ 20 _ (by first | exact zb1_8 | (rw [List.drop_drop]; exact zb1_8) | (simp only [List.drop_drop]; exact zb1_8)) ?_
  try simp only [List.drop_drop]
  refine start1.su_all_split _ 20 _ (by first | exact zb1_9 | (rw [List.drop_drop]; exact zb1_9) | (simp only [List.drop_drop]; exact zb1_9)) ?_
  try simp only [List.drop_drop]
  refine start1.su_all_split _ 20 _ (by first | exact zb1_10 | (rw [List.drop_drop]; exact zb1_10) | (simp only [List.drop_drop]; exact zb1_10)) ?_
  try simp only [List.drop_drop]
  refine start1.su_all_split _ 20 _ (by first | exact zb1_11 | (rw [List.drop_drop]; exact zb1_11) | (simp only [List.drop_drop]; exact zb1_11)) ?_
  try simp only [List.drop_drop]
  decide +kernel
theorem zbw1 : ∀ c ∈ tables_1_1, c.before start1.args0 zbad = true := fun c h => su_words zb1_all (fun c hc => zbad_code (List.mem_filter.mp hc).2 (List.all_eq_true.mp zbc1 c hc) (start1.codes_hold_1 c hc)) c h
end
section
set_option maxRecDepth 16384 in
theorem zb2_0 : (tables_1_2.take 20).all (fun c => su_isCode c || c.before start1.args0 zbad) = true := by decide +kernel
set_option maxRecDepth 16384 in
theorem zb2_1 : ((tables_1_2.drop 20).take 20).all (fun c => su_isCode c || c.before start1.args0 zbad) = true := by decide +kernel
set_option maxRecDepth 16384 in
theorem zb2_2 : ((tables_1_2.drop 40).take 20).all (fun c => su_isCode c || c.before start1.args0 zbad) = true := by decide +kernel
set_option maxRecDepth 16384 in
theorem zb2_3 : ((tables_1_2.drop 60).take 20).all (fun c => su_isCode c || c.before start1.args0 zbad) = true := by decide +kernel
set_option maxRecDepth 16384 in
theorem zb2_4 : ((tables_1_2.drop 80).take 20).all (fun c => su_isCode c || c.before start1.args0 zbad) = true := by decide +kernel
set_option maxRecDepth 16384 in
theorem zb2_5 : ((tables_1_2.drop 100).take 20).all (fun c => su_isCode c || c.before start1.args0 zbad) = true := by decide +kernel
set_option maxRecDepth 16384 in
theorem zb2_6 : ((tables_1_2.drop 120).take 20).all (fun c => su_isCode c || c.before start1.args0 zbad) = true := by decide +kernel
set_option maxRecDepth 16384 in
theorem zb2_7 : ((tables_1_2.drop 140).take 20).all (fun c => su_isCode c || c.before start1.args0 zbad) = true := by decide +kernel
set_option maxRecDepth 16384 in
theorem zb2_8 : ((tables_1_2.drop 160).take 20).all (fun c => su_isCode c || c.before start1.args0 zbad) = true := by decide +kernel
set_option maxRecDepth 16384 in
theorem zb2_9 : ((tables_1_2.drop 180).take 20).all (fun c => su_isCode c || c.before start1.args0 zbad) = true := by decide +kernel
set_option maxRecDepth 16384 in
theorem zb2_10 : ((tables_1_2.drop 200).take 20).all (fun c => su_isCode c || c.before start1.args0 zbad) = true := by decide +kernel
set_option maxRecDepth 16384 in
theorem zb2_11 : ((tables_1_2.drop 220).take 20).all (fun c => su_isCode c || c.before start1.args0 zbad) = true := by decide +kernel
theorem zbc2 : (tables_1_2.filter su_isCode).all zsm = true := by decide +kernel
theorem zb2_all : tables_1_2.all (fun c => su_isCode c || c.before start1.args0 zbad) = true := by
  refine start1.su_all_split _ 20 _ zb2_0 ?_
  try simp only [List.drop_drop]
  refine start1.su_all_split _ 20 _ (by first | exact zb2_1 | (rw [List.drop_drop]; exact zb2_1) | (simp only [List.drop_drop]; exact zb2_1)) ?_
  try simp only [List.drop_drop]
  refine start1.su_all_split _ 20 _ (by first | exact zb2_2 | (rw [List.drop_drop]; exact zb2_2) | (simp only [List.drop_drop]; exact zb2_2)) ?_
  try simp only [List.drop_drop]
  refine start1.su_all_split _ 20 _ (by first | exact zb2_3 | (rw [List.drop_drop]; exact zb2_3) | (simp only [List.drop_drop]; exact zb2_3)) ?_
  try simp only [List.drop_drop]
  refine start1.su_all_split _ 20 _ (by first | exact zb2_4 | (rw [List.drop_drop]; exact zb2_4) | (simp only [List.drop_drop]; exact zb2_4)) ?_
  try simp only [List.drop_drop]
  refine start1.su_all_split _ 20 _ (by first | exact zb2_5 | (rw [List.drop_drop]; exact zb2_5) | (simp only [List.drop_drop]; exact zb2_5)) ?_
  try simp only [List.drop_drop]
  refine start1.su_all_split _ 20 _ (by first | exact zb2_6 | (rw [List.drop_drop]; exact zb2_6) | (simp only [List.drop_drop]; exact zb2_6)) ?_
  try simp only [List.drop_drop]
  refine start1.su_all_split _ 20 _ (by first | exact zb2_7 | (rw [List.drop_drop]; exact zb2_7) | (simp only [List.drop_drop]; exact zb2_7)) ?_
  try simp only [List.drop_drop]
  refine start1.su_all_split _ 20 _ (by first | exact zb2_8 | (rw [List.drop_drop]; exact zb2_8) | (simp only [List.drop_drop]; exact zb2_8)) ?_
  try simp only [List.drop_drop]
  refine start1.su_all_split _ 20 _ (by first | exact zb2_9 | (rw [List.drop_drop]; exact zb2_9) | (simp only [List.drop_drop]; exact zb2_9)) ?_
  try simp only [List.drop_drop]
  refine start1.su_all_split _ 20 _ (by first | exact zb2_10 | (rw [List.drop_drop]; exact zb2_10) | (simp only [List.drop_drop]; exact zb2_10)) ?_
  try simp only [List.drop_drop]
  refine start1.su_all_split _ 20 _ (by first | exact zb2_11 | (rw [List.drop_drop]; exact zb2_11) | (simp only [List.drop_drop]; exact zb2_11)) ?_
  try simp only [List.drop_drop]
  decide +kernel
theorem zbw2 : ∀ c ∈ tables_1_2, c.before start1.args0 zbad = true := fun c h => su_words zb2_all (fun c hc => zbad_code (List.mem_filter.mp hc).2 (List.all_eq_true.mp zbc2 c hc) (start1.codes_hold_2 c hc)) c h
end
section
set_option maxRecDepth 16384 in
theorem zb3_0 : (tables_1_3.take 20).all (fun c => su_isCode c || c.before start1.args0 zbad) = true := by decide +kernel
set_option maxRecDepth 16384 in
theorem zb3_1 : ((tables_1_3.drop 20).take 20).all (fun c => su_isCode c || c.before start1.args0 zbad) = true := by decide +kernel
set_option maxRecDepth 16384 in
theorem zb3_2 : ((tables_1_3.drop 40).take 20).all (fun c => su_isCode c || c.before start1.args0 zbad) = true := by decide +kernel
set_option maxRecDepth 16384 in
theorem zb3_3 : ((tables_1_3.drop 60).take 20).all (fun c => su_isCode c || c.before start1.args0 zbad) = true := by decide +kernel
set_option maxRecDepth 16384 in
theorem zb3_4 : ((tables_1_3.drop 80).take 20).all (fun c => su_isCode c || c.before start1.args0 zbad) = true := by decide +kernel
set_option maxRecDepth 16384 in
theorem zb3_5 : ((tables_1_3.drop 100).take 20).all (fun c => su_isCode c || c.before start1.args0 zbad) = true := by decide +kernel
set_option maxRecDepth 16384 in
theorem zb3_6 : ((tables_1_3.drop 120).take 20).all (fun c => su_isCode c || c.before start1.args0 zbad) = true := by decide +kernel
set_option maxRecDepth 16384 in
theorem zb3_7 : ((tables_1_3.drop 140).take 20).all (fun c => su_isCode c || c.before start1.args0 zbad) = true := by decide +kernel
set_option maxRecDepth 16384 in
theorem zb3_8 : ((tables_1_3.drop 160).take 20).all (fun c => su_isCode c || c.before start1.args0 zbad) = true := by decide +kernel
set_option maxRecDepth 16384 in
theorem zb3_9 : ((tables_1_3.drop 180).take 20).all (fun c => su_isCode c || c.before start1.args0 zbad) = true := by decide +kernel
set_option maxRecDepth 16384 in
theorem zb3_10 : ((tables_1_3.drop 200).take 20).all (fun c => su_isCode c || c.before start1.args0 zbad) = true := by decide +kernel
set_option maxRecDepth 16384 in
theorem zb3_11 : ((tables_1_3.drop 220).take 20).all (fun c => su_isCode c || c.before start1.args0 zbad) = true := by decide +kernel
theorem zbc3 : (tables_1_3.filter su_isCode).all zsm = true := by decide +kernel
theorem zb3_all : tables_1_3.all (fun c => su_isCode c || c.before start1.args0 zbad) = true := by
  refine start1.su_all_split _ 20 _ zb3_0 ?_
  try simp only [List.drop_drop]
  refine start1.su_all_split _ 20 _ (by first | exact zb3_1 | (rw [List.drop_drop]; exact zb3_1) | (simp only [List.drop_drop]; exact zb3_1)) ?_
  try simp only [List.drop_drop]
  refine start1.su_all_split _ 20 _ (by first | exact zb3_2 | (rw [List.drop_drop]; exact zb3_2) | (simp only [List.drop_drop]; exact zb3_2)) ?_
  try simp only [List.drop_drop]
  refine start1.su_all_split _ 20 _ (by first | exact zb3_3 | (rw [List.drop_drop]; exact zb3_3) | (simp only [List.drop_drop]; exact zb3_3)) ?_
  try simp only [List.drop_drop]
  refine start1.su_all_split _ 20 _ (by first | exact zb3_4 | (rw [List.drop_drop]; exact zb3_4) | (simp only [List.drop_drop]; exact zb3_4)) ?_
  try simp only [List.drop_drop]
  refine start1.su_all_split _ 20 _ (by first | exact zb3_5 | (rw [List.drop_drop]; exact zb3_5) | (simp only [List.drop_drop]; exact zb3_5)) ?_
  try simp only [List.drop_drop]
  refine start1.su_all_split _ 20 _ (by first | exact zb3_6 | (rw [List.drop_drop]; exact zb3_6) | (simp only [List.drop_drop]; exact zb3_6)) ?_
  try simp only [List.drop_drop]
  refine start1.su_all_split _ 20 _ (by first | exact zb3_7 | (rw [List.drop_drop]; exact zb3_7) | (simp only [List.drop_drop]; exact zb3_7)) ?_
  try simp only [List.drop_drop]
  refine start1.su_all_split _ 20 _ (by first | exact zb3_8 | (rw [List.drop_drop]; exact zb3_8) | (simp only [List.drop_drop]; exact zb3_8)) ?_
  try simp only [List.drop_drop]
  refine start1.su_all_split _ 20 _ (by first | exact zb3_9 | (rw [List.drop_drop]; exact zb3_9) | (simp only [List.drop_drop]; exact zb3_9)) ?_
  try simp only [List.drop_drop]
  refine start1.su_all_split _ 20 _ (by first | exact zb3_10 | (rw [List.drop_drop]; exact zb3_10) | (simp only [List.drop_drop]; exact zb3_10)) ?_
  try simp only [List.drop_drop]
  refine start1.su_all_split _ 20 _ (by first | exact zb3_11 | (rw [List.drop_drop]; exact zb3_11) | (simp only [List.drop_drop]; exact zb3_11)) ?_
  try simp only [List.drop_drop]
  decide +kernel
theorem zbw3 : ∀ c ∈ tables_1_3, c.before start1.args0 zbad = true := fun c h => su_words zb3_all (fun c hc => zbad_code (List.mem_filter.mp hc).2 (List.all_eq_true.mp zbc3 c hc) (start1.codes_hold_3 c hc)) c h
end
section
set_option maxRecDepth 16384 in
theorem zb4_0 : (tables_1_4.take 20).all (fun c => su_isCode c || c.before start1.args0 zbad) = true := by decide +kernel
set_option maxRecDepth 16384 in
theorem zb4_1 : ((tables_1_4.drop 20).take 20).all (fun c => su_isCode c || c.before start1.args0 zbad) = true := by decide +kernel
set_option maxRecDepth 16384 in
theorem zb4_2 : ((tables_1_4.drop 40).take 20).all (fun c => su_isCode c || c.before start1.args0 zbad) = true := by decide +kernel
set_option maxRecDepth 16384 in
theorem zb4_3 : ((tables_1_4.drop 60).take 20).all (fun c => su_isCode c || c.before start1.args0 zbad) = true := by decide +kernel
set_option maxRecDepth 16384 in
theorem zb4_4 : ((tables_1_4.drop 80).take 20).all (fun c => su_isCode c || c.before start1.args0 zbad) = true := by decide +kernel
set_option maxRecDepth 16384 in
theorem zb4_5 : ((tables_1_4.drop 100).take 20).all (fun c => su_isCode c || c.before start1.args0 zbad) = true := by decide +kernel
set_option maxRecDepth 16384 in
theorem zb4_6 : ((tables_1_4.drop 120).take 20).all (fun c => su_isCode c || c.before start1.args0 zbad) = true := by decide +kernel
set_option maxRecDepth 16384 in
theorem zb4_7 : ((tables_1_4.drop 140).take 20).all (fun c => su_isCode c || c.before start1.args0 zbad) = true := by decide +kernel
set_option maxRecDepth 16384 in
theorem zb4_8 : ((tables_1_4.drop 160).take 20).all (fun c => su_isCode c || c.before start1.args0 zbad) = true := by decide +kernel
set_option maxRecDepth 16384 in
theorem zb4_9 : ((tables_1_4.drop 180).take 20).all (fun c => su_isCode c || c.before start1.args0 zbad) = true := by decide +kernel
set_option maxRecDepth 16384 in
theorem zb4_10 : ((tables_1_4.drop 200).take 20).all (fun c => su_isCode c || c.before start1.args0 zbad) = true := by decide +kernel
set_option maxRecDepth 16384 in
theorem zb4_11 : ((tables_1_4.drop 220).take 20).all (fun c => su_isCode c || c.before start1.args0 zbad) = true := by decide +kernel
theorem zbc4 : (tables_1_4.filter su_isCode).all zsm = true := by decide +kernel
theorem zb4_all : tables_1_4.all (fun c => su_isCode c || c.before start1.args0 zbad) = true := by
  refine start1.su_all_split _ 20 _ zb4_0 ?_
  try simp only [List.drop_drop]
  refine start1.su_all_split _ 20 _ (by first | exact zb4_1 | (rw [List.drop_drop]; exact zb4_1) | (simp only [List.drop_drop]; exact zb4_1)) ?_
  try simp only [List.drop_drop]
  refine start1.su_all_split _ 20 _ (by first | exact zb4_2 | (rw [List.drop_drop]; exact zb4_2) | (simp only [List.drop_drop]; exact zb4_2)) ?_
  try simp only [List.drop_drop]
  refine start1.su_all_split _ 20 _ (by first | exact zb4_3 | (rw [List.drop_drop]; exact zb4_3) | (simp only [List.drop_drop]; exact zb4_3)) ?_
  try simp only [List.drop_drop]
  refine start1.su_all_split _ 20 _ (by first | exact zb4_4 | (rw [List.drop_drop]; exact zb4_4) | (simp only [List.drop_drop]; exact zb4_4)) ?_
  try simp only [List.drop_drop]
  refine start1.su_all_split _ 20 _ (by first | exact zb4_5 | (rw [List.drop_drop]; exact zb4_5) | (simp only [List.drop_drop]; exact zb4_5)) ?_
  try simp only [List.drop_drop]
  refine start1.su_all_split _ 20 _ (by first | exact zb4_6 | (rw [List.drop_drop]; exact zb4_6) | (simp only [List.drop_drop]; exact zb4_6)) ?_
  try simp only [List.drop_drop]
  refine start1.su_all_split _ 20 _ (by first | exact zb4_7 | (rw [List.drop_drop]; exact zb4_7) | (simp only [List.drop_drop]; exact zb4_7)) ?_
  try simp only [List.drop_drop]
  refine start1.su_all_split _ 20 _ (by first | exact zb4_8 | (rw [List.drop_drop]; exact zb4_8) | (simp only [List.drop_drop]; exact zb4_8)) ?_
  try simp only [List.drop_drop]
  refine start1.su_all_split _ 20 _ (by first | exact zb4_9 | (rw [List.drop_drop]; exact zb4_9) | (simp only [List.drop_drop]; exact zb4_9)) ?_
  try simp only [List.drop_drop]
  refine start1.su_all_split _ 20 _ (by first | exact zb4_10 | (rw [List.drop_drop]; exact zb4_10) | (simp only [List.drop_drop]; exact zb4_10)) ?_
  try simp only [List.drop_drop]
  refine start1.su_all_split _ 20 _ (by first | exact zb4_11 | (rw [List.drop_drop]; exact zb4_11) | (simp only [List.drop_drop]; exact zb4_11)) ?_
  try simp only [List.drop_drop]
  decide +kernel
theorem zbw4 : ∀ c ∈ tables_1_4, c.before start1.args0 zbad = true := fun c h => su_words zb4_all (fun c hc => zbad_code (List.mem_filter.mp hc).2 (List.all_eq_true.mp zbc4 c hc) (start1.codes_hold_4 c hc)) c h
end
section
set_option maxRecDepth 16384 in
theorem zb5_0 : (tables_1_5.take 20).all (fun c => su_isCode c || c.before start1.args0 zbad) = true := by decide +kernel
set_option maxRecDepth 16384 in
theorem zb5_1 : ((tables_1_5.drop 20).take 20).all (fun c => su_isCode c || c.before start1.args0 zbad) = true := by decide +kernel
set_option maxRecDepth 16384 in
theorem zb5_2 : ((tables_1_5.drop 40).take 20).all (fun c => su_isCode c || c.before start1.args0 zbad) = true := by decide +kernel
set_option maxRecDepth 16384 in
theorem zb5_3 : ((tables_1_5.drop 60).take 20).all (fun c => su_isCode c || c.before start1.args0 zbad) = true := by decide +kernel
set_option maxRecDepth 16384 in
theorem zb5_4 : ((tables_1_5.drop 80).take 20).all (fun c => su_isCode c || c.before start1.args0 zbad) = true := by decide +kernel
theorem zbc5 : (tables_1_5.filter su_isCode).all zsm = true := by decide +kernel
theorem zb5_all : tables_1_5.all (fun c => su_isCode c || c.before start1.args0 zbad) = true := by
  refine start1.su_all_split _ 20 _ zb5_0 ?_
  try simp only [List.drop_drop]
  refine start1.su_all_split _ 20 _ (by first | exact zb5_1 | (rw [List.drop_drop]; exact zb5_1) | (simp only [List.drop_drop]; exact zb5_1)) ?_
  try simp only [List.drop_drop]
  refine start1.su_all_split _ 20 _ (by first | exact zb5_2 | (rw [List.drop_drop]; exact zb5_2) | (simp only [List.drop_drop]; exact zb5_2)) ?_
  try simp only [List.drop_drop]
  refine start1.su_all_split _ 20 _ (by first | exact zb5_3 | (rw [List.drop_drop]; exact zb5_3) | (simp only [List.drop_drop]; exact zb5_3)) ?_
  try simp only [List.drop_drop]
  refine start1.su_all_split _ 20 _ (by first | exact zb5_4 | (rw [List.drop_drop]; exact zb5_4) | (simp only [List.drop_drop]; exact zb5_4)) ?_
  try simp only [List.drop_drop]
  decide +kernel
theorem zbw5 : ∀ c ∈ tables_1_5, c.before start1.args0 zbad = true := fun c h => su_words zb5_all (fun c hc => zbad_code (List.mem_filter.mp hc).2 (List.all_eq_true.mp zbc5 c hc) (start1.codes_hold_5 c hc)) c h
end
section
theorem zbad_own : (Cond.code x code maxLocals ret).before start1.args0 zbad = true := zbad_code rfl (by decide +kernel) start1.word_code
theorem zbad_words : ∀ c ∈ (Cond.code x code maxLocals ret :: tables_1), c.before start1.args0 zbad = true := by
  intro c hc
  rcases List.mem_cons.mp hc with h | h
  · rw [h]; exact zbad_own
  · have h1 : c ∈ tables_1_1 ++ (tables_1_2 ++ (tables_1_3 ++ (tables_1_4 ++ (tables_1_5)))) := h
    simp only [List.mem_append] at h1
    rcases h1 with h1 | h1 | h1 | h1 | h1
    · exact zbw1 c h1
    · exact zbw2 c h1
    · exact zbw3 c h1
    · exact zbw4 c h1
    · exact zbw5 c h1
set_option maxRecDepth 16384 in
/-- zbad is a start that the Statement allows -/
theorem zbad_start : AtStart classFile x code maxLocals ret World_1 tables_1 room_1 Calls_1 rest_1 Pre_1 launch0 start1.p0 start1.e0 zbad ⟨0, 0⟩ start1.args0 Lib.HandBits.below0 :=
  ⟨lists_1, trivial, launch0.admits_env _ _ _, launch0.least_env, fairChoices_fair.cas, fairChoices_fair.clock, rfl, by decide +kernel, by decide +kernel,
    (Spec.applies_iff rfl).mpr ⟨rfl, rfl, rfl, by decide +kernel, by decide +kernel, by decide +kernel, launch0.hasRoom_least _ room_1 (by decide +kernel) (by decide +kernel) (by decide +kernel) (by decide +kernel) (by decide +kernel) (by decide +kernel), atoms_intro zbad_words⟩,
    trivial, (show rest_1_c.before start1.args0 zbad = true by decide +kernel), (show (Cond.and given_1 narrow_1).before start1.args0 zbad = true by decide +kernel)⟩
theorem zEnded {t : State} {v : Option Value} (h : Ended t Lib.HandBits.below0 (.returned v)) : t.frames.length = 1 := by
  have h2 : t.frames = _ := h
  rw [h2]
  rfl
theorem zgo_no {tb : Tables} {e : Env} : ∀ (N : Nat) (s : State), zgo tb e 1 N s = true → ∀ (n : Nat) (v : Option Value), (stepsAlone tb e n s).status = .running → ¬ Ended (stepsAlone tb e n s) Lib.HandBits.below0 (.returned v) := by
  intro N
  induction N with
  | zero => intro s h; cases h
  | succ N ih =>
    intro s h n v hr hE
    have hst : ∀ k : Nat, s.status = .running → s.curStatus? = some .runnable → s.alone = true → stepsAlone tb e (k + 1) s = stepsAlone tb e k (stepThread tb e s).1 := fun k h1 h2 h3 => by
      rw [stepsAlone, h1, h2, h3]
    have hno : s.status ≠ .running → ∀ k : Nat, stepsAlone tb e k s = s := fun h1 k => by
      cases k with
      | zero => rfl
      | succ k =>
        rw [stepsAlone]
        split
        · rename_i q _ _; exact absurd q h1
        · rfl
    rw [zgo] at h
    split at h
    · rename_i h1 h2 h3
      obtain ⟨h4, h5⟩ := Bool.and_eq_true_iff.mp h
      cases n with
      | zero =>
        have h6 : s.frames.length = 1 := zEnded hE
        have h7 : 1 < s.frames.length := of_decide_eq_true h4
        omega
      | succ n =>
        rw [hst n h1 h2 h3] at hr hE
        exact ih _ h5 n v hr hE
    · cases h
    · rename_i h1 h2
      have hs : s.status ≠ .running := fun q => by
        first
        | exact h1 q
        | exact h2 q
        | exact h1 _ _ q rfl rfl
        | exact h2 _ _ q rfl rfl
      rw [hno hs n] at hr
      exact hs hr
/-- THE CLAIM IS FALSE AS IT IS WRITTEN -/
theorem refuted_1_1 : ¬ Claimed_1_1 := by
  intro h
  obtain ⟨hL, hW, ha, -, hc, hk, hf, hfit, hheap, happ, h1, h2, h3⟩ := zbad_start
  obtain ⟨n, o, -, hr, hE, hp⟩ := h launch0 rfl hL hW start1.p0 start1.e0 ha hc hk zbad ⟨0, 0⟩ start1.args0 Lib.HandBits.below0 hf hfit hheap happ ⟨h1, h2, h3⟩
  cases o with
  | threw a => have h4 := hp.1; simp [postC, limb_1_1, Cond.after, Cond.holds, Cond.value] at h4
  | returned v => exact zgo_no 200 zbad zbad_halts n v hr hE
theorem refuted : ¬ (Claimed_1_1 ∧ Claimed_1_2) := fun h => refuted_1_1 h.1
end
section
/-! A start that the Statement allows, at which the law ends with a throw: as zbad, but clone has the two instructions aload_0, athrow -/
def zthrC : Class := { start1.cArr "[W" 20 .int with methods := #[Lib.HandJ.method "clone" "()Ljava/lang/Object;" [] (some (.object "java/lang/Object")) 0x1 1 ⟨#[0x2a, 0xbf]⟩] }
def zthr : State := { start1.about with vm := { start1.about.vm with classes := start1.about.vm.classes.push zthrC }, heap := start1.about.heap.setIfInBounds 5 { cls := 26, slots := #[.int (10), .int (200), .int (1), .int (100), .int (20), .int (1), .int (3)], vm := .none } }
theorem zthr_size : start1.about.vm.classes.size = 26 := by decide +kernel
/-- the throw of USUAL's cell stands over the listener's frame alone -/
def ztop (t : State) : Bool := match t.frames with
  | [.throwing a, .native ⟨m, as, st, sv, aw, an, lk, w⟩] => decide (a = 5) && decide (m = ⟨0, 0⟩) && decide (as = #[]) && decide (st = 0) && decide (sv = #[]) && decide (aw = false) && an.isNone && lk.isNone && decide (w = 0)
  | _ => false
theorem ztop_is {t : State} (h : ztop t = true) : t.frames = .throwing 5 :: Lib.HandBits.below0 := by
  unfold ztop at h
  split at h
  · rename_i hf
    simp only [Bool.and_eq_true, decide_eq_true_eq, Option.isNone_iff_eq_none] at h
    obtain ⟨⟨⟨⟨⟨⟨⟨⟨h1, h2⟩, h3⟩, h4⟩, h5⟩, h6⟩, h7⟩, h8⟩, h9⟩ := h
    subst h1 h2 h3 h4 h5 h6 h7 h8 h9
    exact hf
  · cases h
set_option maxRecDepth 16384 in
theorem zthr_runs : (stepsAlone start1.p0.tables start1.e0 38 zthr).status = .running := by decide +kernel
set_option maxRecDepth 16384 in
theorem zthr_top : ztop (stepsAlone start1.p0.tables start1.e0 38 zthr) = true := by decide +kernel
theorem zthr_ends : (stepsAlone start1.p0.tables start1.e0 38 zthr).frames = .throwing 5 :: Lib.HandBits.below0 := ztop_is zthr_top
end
section
/-- a method that the start has is there under the same number -/
def ztm : Cond → Bool
  | .code x _ _ _ => decide (zthr.methodNamed? x = start1.about.methodNamed? x) && (start1.about.methodNamed? x).all (fun m => decide (m.cls < 26))
  | _ => true
theorem zthr_cls {k : Nat} (h : k < 26) : zthr.vm.classes[k]? = start1.about.vm.classes[k]? := by
  show (start1.about.vm.classes.push zthrC)[k]? = _
  rw [Array.getElem?_push, if_neg (by rw [zthr_size]; omega)]
theorem zthr_meth {m : MethodId} (h : m.cls < 26) : zthr.vm.method? m = start1.about.vm.method? m := by
  unfold Vm.method?
  rw [zthr_cls h]
theorem zthr_code {c : Cond} (hc : su_isCode c = true) (hs : ztm c = true) (h : c.before start1.args0 start1.about = true) : c.before start1.args0 zthr = true := by
  cases c with
  | code x bytes maxL ret =>
    simp only [ztm, Bool.and_eq_true, decide_eq_true_eq] at hs
    simp only [Cond.before, Cond.holds, Cond.value] at h ⊢
    rw [hs.1]
    cases hm : start1.about.methodNamed? x with
    | none => rw [hm] at h; simpa using h
    | some m =>
      rw [hm] at h hs
      simp only [Option.bind_some] at h ⊢
      rw [zthr_meth (by simpa using hs.2)]
      exact h
  | _ => simp [su_isCode] at hc
end
section
set_option maxRecDepth 16384 in
theorem zt1_0 : (tables_1_1.take 20).all (fun c => su_isCode c || c.before start1.args0 zthr) = true := by decide +kernel
set_option maxRecDepth 16384 in
theorem zt1_1 : ((tables_1_1.drop 20).take 20).all (fun c => su_isCode c || c.before start1.args0 zthr) = true := by decide +kernel
set_option maxRecDepth 16384 in
theorem zt1_2 : ((tables_1_1.drop 40).take 20).all (fun c => su_isCode c || c.before start1.args0 zthr) = true := by decide +kernel
set_option maxRecDepth 16384 in
theorem zt1_3 : ((tables_1_1.drop 60).take 20).all (fun c => su_isCode c || c.before start1.args0 zthr) = true := by decide +kernel
set_option maxRecDepth 16384 in
theorem zt1_4 : ((tables_1_1.drop 80).take 20).all (fun c => su_isCode c || c.before start1.args0 zthr) = true := by decide +kernel
set_option maxRecDepth 16384 in
theorem zt1_5 : ((tables_1_1.drop 100).take 20).all (fun c => su_isCode c || c.before start1.args0 zthr) = true := by decide +kernel
set_option maxRecDepth 16384 in
theorem zt1_6 : ((tables_1_1.drop 120).take 20).all (fun c => su_isCode c || c.before start1.args0 zthr) = true := by decide +kernel
set_option maxRecDepth 16384 in
theorem zt1_7 : ((tables_1_1.drop 140).take 20).all (fun c => su_isCode c || c.before start1.args0 zthr) = true := by decide +kernel
set_option maxRecDepth 16384 in
theorem zt1_8 : ((tables_1_1.drop 160).take 20).all (fun c => su_isCode c || c.before start1.args0 zthr) = true := by decide +kernel
set_option maxRecDepth 16384 in
theorem zt1_9 : ((tables_1_1.drop 180).take 20).all (fun c => su_isCode c || c.before start1.args0 zthr) = true := by decide +kernel
set_option maxRecDepth 16384 in
theorem zt1_10 : ((tables_1_1.drop 200).take 20).all (fun c => su_isCode c || c.before start1.args0 zthr) = true := by decide +kernel
set_option maxRecDepth 16384 in
theorem zt1_11 : ((tables_1_1.drop 220).take 20).all (fun c => su_isCode c || c.before start1.args0 zthr) = true := by decide +kernel
theorem ztc1 : (tables_1_1.filter su_isCode).all ztm = true := by decide +kernel
theorem zt1_all : tables_1_1.all (fun c => su_isCode c || c.before start1.args0 zthr) = true := by
  refine start1.su_all_split _ 20 _ zt1_0 ?_
  try simp only [List.drop_drop]
  refine start1.su_all_split _ 20 _ (by first | exact zt1_1 | (rw [List.drop_drop]; exact zt1_1) | (simp only [List.drop_drop]; exact zt1_1)) ?_
  try simp only [List.drop_drop]
  refine start1.su_all_split _ 20 _ (by first | exact zt1_2 | (rw [List.drop_drop]; exact zt1_2) | (simp only [List.drop_drop]; exact zt1_2)) ?_
  try simp only [List.drop_drop]
  refine start1.su_all_split _ 20 _ (by first | exact zt1_3 | (rw [List.drop_drop]; exact zt1_3) | (simp only [List.drop_drop]; exact zt1_3)) ?_
  try simp only [List.drop_drop]
  refine start1.su_all_split _ 20 _ (by first | exact zt1_4 | (rw [List.drop_drop]; exact zt1_4) | (simp only [List.drop_drop]; exact zt1_4)) ?_
  try simp only [List.drop_drop]
  refine start1.su_all_split _ 20 _ (by first | exact zt1_5 | (rw [List.drop_drop]; exact zt1_5) | (simp only [List.drop_drop]; exact zt1_5)) ?_
  try simp only [List.drop_drop]
  refine start1.su_all_split _ 20 _ (by first | exact zt1_6 | (rw [List.drop_drop]; exact zt1_6) | (simp only [List.drop_drop]; exact zt1_6)) ?_
  try simp only [List.drop_drop]
  refine start1.su_all_split _ 20 _ (by first | exact zt1_7 | (rw [List.drop_drop]; exact zt1_7) | (simp only [List.drop_drop]; exact zt1_7)) ?_
  try simp only [List.drop_drop]
  refine start1.su_all_split _ 20 _ (by first | exact zt1_8 | (rw [List.drop_drop]; exact zt1_8) | (simp only [List.drop_drop]; exact zt1_8)) ?_
  try simp only [List.drop_drop]
  refine start1.su_all_split _ 20 _ (by first | exact zt1_9 | (rw [List.drop_drop]; exact zt1_9) | (simp only [List.drop_drop]; exact zt1_9)) ?_
  try simp only [List.drop_drop]
  refine start1.su_all_split _ 20 _ (by first | exact zt1_10 | (rw [List.drop_drop]; exact zt1_10) | (simp only [List.drop_drop]; exact zt1_10)) ?_
  try simp only [List.drop_drop]
  refine start1.su_all_split _ 20 _ (by first | exact zt1_11 | (rw [List.drop_drop]; exact zt1_11) | (simp only [List.drop_drop]; exact zt1_11)) ?_
  try simp only [List.drop_drop]
  decide +kernel
theorem ztw1 : ∀ c ∈ tables_1_1, c.before start1.args0 zthr = true := fun c h => su_words zt1_all (fun c hc => zthr_code (List.mem_filter.mp hc).2 (List.all_eq_true.mp ztc1 c hc) (start1.codes_hold_1 c hc)) c h
end
section
set_option maxRecDepth 16384 in
theorem zt2_0 : (tables_1_2.take 20).all (fun c => su_isCode c || c.before start1.args0 zthr) = true := by decide +kernel
set_option maxRecDepth 16384 in
theorem zt2_1 : ((tables_1_2.drop 20).take 20).all (fun c => su_isCode c || c.before start1.args0 zthr) = true := by decide +kernel
set_option maxRecDepth 16384 in
theorem zt2_2 : ((tables_1_2.drop 40).take 20).all (fun c => su_isCode c || c.before start1.args0 zthr) = true := by decide +kernel
set_option maxRecDepth 16384 in
theorem zt2_3 : ((tables_1_2.drop 60).take 20).all (fun c => su_isCode c || c.before start1.args0 zthr) = true := by decide +kernel
set_option maxRecDepth 16384 in
theorem zt2_4 : ((tables_1_2.drop 80).take 20).all (fun c => su_isCode c || c.before start1.args0 zthr) = true := by decide +kernel
set_option maxRecDepth 16384 in
theorem zt2_5 : ((tables_1_2.drop 100).take 20).all (fun c => su_isCode c || c.before start1.args0 zthr) = true := by decide +kernel
set_option maxRecDepth 16384 in
theorem zt2_6 : ((tables_1_2.drop 120).take 20).all (fun c => su_isCode c || c.before start1.args0 zthr) = true := by decide +kernel
set_option maxRecDepth 16384 in
theorem zt2_7 : ((tables_1_2.drop 140).take 20).all (fun c => su_isCode c || c.before start1.args0 zthr) = true := by decide +kernel
set_option maxRecDepth 16384 in
theorem zt2_8 : ((tables_1_2.drop 160).take 20).all (fun c => su_isCode c || c.before start1.args0 zthr) = true := by decide +kernel
set_option maxRecDepth 16384 in
theorem zt2_9 : ((tables_1_2.drop 180).take 20).all (fun c => su_isCode c || c.before start1.args0 zthr) = true := by decide +kernel
set_option maxRecDepth 16384 in
theorem zt2_10 : ((tables_1_2.drop 200).take 20).all (fun c => su_isCode c || c.before start1.args0 zthr) = true := by decide +kernel
set_option maxRecDepth 16384 in
theorem zt2_11 : ((tables_1_2.drop 220).take 20).all (fun c => su_isCode c || c.before start1.args0 zthr) = true := by decide +kernel
theorem ztc2 : (tables_1_2.filter su_isCode).all ztm = true := by decide +kernel
theorem zt2_all : tables_1_2.all (fun c => su_isCode c || c.before start1.args0 zthr) = true := by
  refine start1.su_all_split _ 20 _ zt2_0 ?_
  try simp only [List.drop_drop]
  refine start1.su_all_split _ 20 _ (by first | exact zt2_1 | (rw [List.drop_drop]; exact zt2_1) | (simp only [List.drop_drop]; exact zt2_1)) ?_
  try simp only [List.drop_drop]
  refine start1.su_all_split _ 20 _ (by first | exact zt2_2 | (rw [List.drop_drop]; exact zt2_2) | (simp only [List.drop_drop]; exact zt2_2)) ?_
  try simp only [List.drop_drop]
  refine start1.su_all_split _ 20 _ (by first | exact zt2_3 | (rw [List.drop_drop]; exact zt2_3) | (simp only [List.drop_drop]; exact zt2_3)) ?_
  try simp only [List.drop_drop]
  refine start1.su_all_split _ 20 _ (by first | exact zt2_4 | (rw [List.drop_drop]; exact zt2_4) | (simp only [List.drop_drop]; exact zt2_4)) ?_
  try simp only [List.drop_drop]
  refine start1.su_all_split _ 20 _ (by first | exact zt2_5 | (rw [List.drop_drop]; exact zt2_5) | (simp only [List.drop_drop]; exact zt2_5)) ?_
  try simp only [List.drop_drop]
  refine start1.su_all_split _ 20 _ (by first | exact zt2_6 | (rw [List.drop_drop]; exact zt2_6) | (simp only [List.drop_drop]; exact zt2_6)) ?_
  try simp only [List.drop_drop]
  refine start1.su_all_split _ 20 _ (by first | exact zt2_7 | (rw [List.drop_drop]; exact zt2_7) | (simp only [List.drop_drop]; exact zt2_7)) ?_
  try simp only [List.drop_drop]
  refine start1.su_all_split _ 20 _ (by first | exact zt2_8 | (rw [List.drop_drop]; exact zt2_8) | (simp only [List.drop_drop]; exact zt2_8)) ?_
  try simp only [List.drop_drop]
  refine start1.su_all_split _ 20 _ (by first | exact zt2_9 | (rw [List.drop_drop]; exact zt2_9) | (simp only [List.drop_drop]; exact zt2_9)) ?_
  try simp only [List.drop_drop]
  refine start1.su_all_split _ 20 _ (by first | exact zt2_10 | (rw [List.drop_drop]; exact zt2_10) | (simp only [List.drop_drop]; exact zt2_10)) ?_
  try simp only [List.drop_drop]
  refine start1.su_all_split _ 20 _ (by first | exact zt2_11 | (rw [List.drop_drop]; exact zt2_11) | (simp only [List.drop_drop]; exact zt2_11)) ?_
  try simp only [List.drop_drop]
  decide +kernel
theorem ztw2 : ∀ c ∈ tables_1_2, c.before start1.args0 zthr = true := fun c h => su_words zt2_all (fun c hc => zthr_code (List.mem_filter.mp hc).2 (List.all_eq_true.mp ztc2 c hc) (start1.codes_hold_2 c hc)) c h
end
section
set_option maxRecDepth 16384 in
theorem zt3_0 : (tables_1_3.take 20).all (fun c => su_isCode c || c.before start1.args0 zthr) = true := by decide +kernel
set_option maxRecDepth 16384 in
theorem zt3_1 : ((tables_1_3.drop 20).take 20).all (fun c => su_isCode c || c.before start1.args0 zthr) = true := by decide +kernel
set_option maxRecDepth 16384 in
theorem zt3_2 : ((tables_1_3.drop 40).take 20).all (fun c => su_isCode c || c.before start1.args0 zthr) = true := by decide +kernel
set_option maxRecDepth 16384 in
theorem zt3_3 : ((tables_1_3.drop 60).take 20).all (fun c => su_isCode c || c.before start1.args0 zthr) = true := by decide +kernel
set_option maxRecDepth 16384 in
theorem zt3_4 : ((tables_1_3.drop 80).take 20).all (fun c => su_isCode c || c.before start1.args0 zthr) = true := by decide +kernel
set_option maxRecDepth 16384 in
theorem zt3_5 : ((tables_1_3.drop 100).take 20).all (fun c => su_isCode c || c.before start1.args0 zthr) = true := by decide +kernel
set_option maxRecDepth 16384 in
theorem zt3_6 : ((tables_1_3.drop 120).take 20).all (fun c => su_isCode c || c.before start1.args0 zthr) = true := by decide +kernel
set_option maxRecDepth 16384 in
theorem zt3_7 : ((tables_1_3.drop 140).take 20).all (fun c => su_isCode c || c.before start1.args0 zthr) = true := by decide +kernel
set_option maxRecDepth 16384 in
theorem zt3_8 : ((tables_1_3.drop 160).take 20).all (fun c => su_isCode c || c.before start1.args0 zthr) = true := by decide +kernel
set_option maxRecDepth 16384 in
theorem zt3_9 : ((tables_1_3.drop 180).take 20).all (fun c => su_isCode c || c.before start1.args0 zthr) = true := by decide +kernel
set_option maxRecDepth 16384 in
theorem zt3_10 : ((tables_1_3.drop 200).take 20).all (fun c => su_isCode c || c.before start1.args0 zthr) = true := by decide +kernel
set_option maxRecDepth 16384 in
theorem zt3_11 : ((tables_1_3.drop 220).take 20).all (fun c => su_isCode c || c.before start1.args0 zthr) = true := by decide +kernel
theorem ztc3 : (tables_1_3.filter su_isCode).all ztm = true := by decide +kernel
theorem zt3_all : tables_1_3.all (fun c => su_isCode c || c.before start1.args0 zthr) = true := by
  refine start1.su_all_split _ 20 _ zt3_0 ?_
  try simp only [List.drop_drop]
  refine start1.su_all_split _ 20 _ (by first | exact zt3_1 | (rw [List.drop_drop]; exact zt3_1) | (simp only [List.drop_drop]; exact zt3_1)) ?_
  try simp only [List.drop_drop]
  refine start1.su_all_split _ 20 _ (by first | exact zt3_2 | (rw [List.drop_drop]; exact zt3_2) | (simp only [List.drop_drop]; exact zt3_2)) ?_
  try simp only [List.drop_drop]
  refine start1.su_all_split _ 20 _ (by first | exact zt3_3 | (rw [List.drop_drop]; exact zt3_3) | (simp only [List.drop_drop]; exact zt3_3)) ?_
  try simp only [List.drop_drop]
  refine start1.su_all_split _ 20 _ (by first | exact zt3_4 | (rw [List.drop_drop]; exact zt3_4) | (simp only [List.drop_drop]; exact zt3_4)) ?_
  try simp only [List.drop_drop]
  refine start1.su_all_split _ 20 _ (by first | exact zt3_5 | (rw [List.drop_drop]; exact zt3_5) | (simp only [List.drop_drop]; exact zt3_5)) ?_
  try simp only [List.drop_drop]
  refine start1.su_all_split _ 20 _ (by first | exact zt3_6 | (rw [List.drop_drop]; exact zt3_6) | (simp only [List.drop_drop]; exact zt3_6)) ?_
  try simp only [List.drop_drop]
  refine start1.su_all_split _ 20 _ (by first | exact zt3_7 | (rw [List.drop_drop]; exact zt3_7) | (simp only [List.drop_drop]; exact zt3_7)) ?_
  try simp only [List.drop_drop]
  refine start1.su_all_split _ 20 _ (by first | exact zt3_8 | (rw [List.drop_drop]; exact zt3_8) | (simp only [List.drop_drop]; exact zt3_8)) ?_
  try simp only [List.drop_drop]
  refine start1.su_all_split _ 20 _ (by first | exact zt3_9 | (rw [List.drop_drop]; exact zt3_9) | (simp only [List.drop_drop]; exact zt3_9)) ?_
  try simp only [List.drop_drop]
  refine start1.su_all_split _ 20 _ (by first | exact zt3_10 | (rw [List.drop_drop]; exact zt3_10) | (simp only [List.drop_drop]; exact zt3_10)) ?_
  try simp only [List.drop_drop]
  refine start1.su_all_split _ 20 _ (by first | exact zt3_11 | (rw [List.drop_drop]; exact zt3_11) | (simp only [List.drop_drop]; exact zt3_11)) ?_
  try simp only [List.drop_drop]
  decide +kernel
theorem ztw3 : ∀ c ∈ tables_1_3, c.before start1.args0 zthr = true := fun c h => su_words zt3_all (fun c hc => zthr_code (List.mem_filter.mp hc).2 (List.all_eq_true.mp ztc3 c hc) (start1.codes_hold_3 c hc)) c h
end
section
set_option maxRecDepth 16384 in
theorem zt4_0 : (tables_1_4.take 20).all (fun c => su_isCode c || c.before start1.args0 zthr) = true := by decide +kernel
set_option maxRecDepth 16384 in
theorem zt4_1 : ((tables_1_4.drop 20).take 20).all (fun c => su_isCode c || c.before start1.args0 zthr) = true := by decide +kernel
set_option maxRecDepth 16384 in
theorem zt4_2 : ((tables_1_4.drop 40).take 20).all (fun c => su_isCode c || c.before start1.args0 zthr) = true := by decide +kernel
set_option maxRecDepth 16384 in
theorem zt4_3 : ((tables_1_4.drop 60).take 20).all (fun c => su_isCode c || c.before start1.args0 zthr) = true := by decide +kernel
set_option maxRecDepth 16384 in
theorem zt4_4 : ((tables_1_4.drop 80).take 20).all (fun c => su_isCode c || c.before start1.args0 zthr) = true := by decide +kernel
set_option maxRecDepth 16384 in
theorem zt4_5 : ((tables_1_4.drop 100).take 20).all (fun c => su_isCode c || c.before start1.args0 zthr) = true := by decide +kernel
set_option maxRecDepth 16384 in
theorem zt4_6 : ((tables_1_4.drop 120).take 20).all (fun c => su_isCode c || c.before start1.args0 zthr) = true := by decide +kernel
set_option maxRecDepth 16384 in
theorem zt4_7 : ((tables_1_4.drop 140).take 20).all (fun c => su_isCode c || c.before start1.args0 zthr) = true := by decide +kernel
set_option maxRecDepth 16384 in
theorem zt4_8 : ((tables_1_4.drop 160).take 20).all (fun c => su_isCode c || c.before start1.args0 zthr) = true := by decide +kernel
set_option maxRecDepth 16384 in
theorem zt4_9 : ((tables_1_4.drop 180).take 20).all (fun c => su_isCode c || c.before start1.args0 zthr) = true := by decide +kernel
set_option maxRecDepth 16384 in
theorem zt4_10 : ((tables_1_4.drop 200).take 20).all (fun c => su_isCode c || c.before start1.args0 zthr) = true := by decide +kernel
set_option maxRecDepth 16384 in
theorem zt4_11 : ((tables_1_4.drop 220).take 20).all (fun c => su_isCode c || c.before start1.args0 zthr) = true := by decide +kernel
theorem ztc4 : (tables_1_4.filter su_isCode).all ztm = true := by decide +kernel
theorem zt4_all : tables_1_4.all (fun c => su_isCode c || c.before start1.args0 zthr) = true := by
  refine start1.su_all_split _ 20 _ zt4_0 ?_
  try simp only [List.drop_drop]
  refine start1.su_all_split _ 20 _ (by first | exact zt4_1 | (rw [List.drop_drop]; exact zt4_1) | (simp only [List.drop_drop]; exact zt4_1)) ?_
  try simp only [List.drop_drop]
  refine start1.su_all_split _ 20 _ (by first | exact zt4_2 | (rw [List.drop_drop]; exact zt4_2) | (simp only [List.drop_drop]; exact zt4_2)) ?_
  try simp only [List.drop_drop]
  refine start1.su_all_split _ 20 _ (by first | exact zt4_3 | (rw [List.drop_drop]; exact zt4_3) | (simp only [List.drop_drop]; exact zt4_3)) ?_
  try simp only [List.drop_drop]
  refine start1.su_all_split _ 20 _ (by first | exact zt4_4 | (rw [List.drop_drop]; exact zt4_4) | (simp only [List.drop_drop]; exact zt4_4)) ?_
  try simp only [List.drop_drop]
  refine start1.su_all_split _ 20 _ (by first | exact zt4_5 | (rw [List.drop_drop]; exact zt4_5) | (simp only [List.drop_drop]; exact zt4_5)) ?_
  try simp only [List.drop_drop]
  refine start1.su_all_split _ 20 _ (by first | exact zt4_6 | (rw [List.drop_drop]; exact zt4_6) | (simp only [List.drop_drop]; exact zt4_6)) ?_
  try simp only [List.drop_drop]
  refine start1.su_all_split _ 20 _ (by first | exact zt4_7 | (rw [List.drop_drop]; exact zt4_7) | (simp only [List.drop_drop]; exact zt4_7)) ?_
  try simp only [List.drop_drop]
  refine start1.su_all_split _ 20 _ (by first | exact zt4_8 | (rw [List.drop_drop]; exact zt4_8) | (simp only [List.drop_drop]; exact zt4_8)) ?_
  try simp only [List.drop_drop]
  refine start1.su_all_split _ 20 _ (by first | exact zt4_9 | (rw [List.drop_drop]; exact zt4_9) | (simp only [List.drop_drop]; exact zt4_9)) ?_
  try simp only [List.drop_drop]
  refine start1.su_all_split _ 20 _ (by first | exact zt4_10 | (rw [List.drop_drop]; exact zt4_10) | (simp only [List.drop_drop]; exact zt4_10)) ?_
  try simp only [List.drop_drop]
  refine start1.su_all_split _ 20 _ (by first | exact zt4_11 | (rw [List.drop_drop]; exact zt4_11) | (simp only [List.drop_drop]; exact zt4_11)) ?_
  try simp only [List.drop_drop]
  decide +kernel
theorem ztw4 : ∀ c ∈ tables_1_4, c.before start1.args0 zthr = true := fun c h => su_words zt4_all (fun c hc => zthr_code (List.mem_filter.mp hc).2 (List.all_eq_true.mp ztc4 c hc) (start1.codes_hold_4 c hc)) c h
end
section
set_option maxRecDepth 16384 in
theorem zt5_0 : (tables_1_5.take 20).all (fun c => su_isCode c || c.before start1.args0 zthr) = true := by decide +kernel
set_option maxRecDepth 16384 in
theorem zt5_1 : ((tables_1_5.drop 20).take 20).all (fun c => su_isCode c || c.before start1.args0 zthr) = true := by decide +kernel
set_option maxRecDepth 16384 in
theorem zt5_2 : ((tables_1_5.drop 40).take 20).all (fun c => su_isCode c || c.before start1.args0 zthr) = true := by decide +kernel
set_option maxRecDepth 16384 in
theorem zt5_3 : ((tables_1_5.drop 60).take 20).all (fun c => su_isCode c || c.before start1.args0 zthr) = true := by decide +kernel
set_option maxRecDepth 16384 in
theorem zt5_4 : ((tables_1_5.drop 80).take 20).all (fun c => su_isCode c || c.before start1.args0 zthr) = true := by decide +kernel
theorem ztc5 : (tables_1_5.filter su_isCode).all ztm = true := by decide +kernel
theorem zt5_all : tables_1_5.all (fun c => su_isCode c || c.before start1.args0 zthr) = true := by
  refine start1.su_all_split _ 20 _ zt5_0 ?_
  try simp only [List.drop_drop]
  refine start1.su_all_split _ 20 _ (by first | exact zt5_1 | (rw [List.drop_drop]; exact zt5_1) | (simp only [List.drop_drop]; exact zt5_1)) ?_
  try simp only [List.drop_drop]
  refine start1.su_all_split _ 20 _ (by first | exact zt5_2 | (rw [List.drop_drop]; exact zt5_2) | (simp only [List.drop_drop]; exact zt5_2)) ?_
  try simp only [List.drop_drop]
  refine start1.su_all_split _ 20 _ (by first | exact zt5_3 | (rw [List.drop_drop]; exact zt5_3) | (simp only [List.drop_drop]; exact zt5_3)) ?_
  try simp only [List.drop_drop]
  refine start1.su_all_split _ 20 _ (by first | exact zt5_4 | (rw [List.drop_drop]; exact zt5_4) | (simp only [List.drop_drop]; exact zt5_4)) ?_
  try simp only [List.drop_drop]
  decide +kernel
theorem ztw5 : ∀ c ∈ tables_1_5, c.before start1.args0 zthr = true := fun c h => su_words zt5_all (fun c hc => zthr_code (List.mem_filter.mp hc).2 (List.all_eq_true.mp ztc5 c hc) (start1.codes_hold_5 c hc)) c h
end
section
theorem zthr_own : (Cond.code x code maxLocals ret).before start1.args0 zthr = true := zthr_code rfl (by decide +kernel) start1.word_code
theorem zthr_words : ∀ c ∈ (Cond.code x code maxLocals ret :: tables_1), c.before start1.args0 zthr = true := by
  intro c hc
  rcases List.mem_cons.mp hc with h | h
  · rw [h]; exact zthr_own
  · have h1 : c ∈ tables_1_1 ++ (tables_1_2 ++ (tables_1_3 ++ (tables_1_4 ++ (tables_1_5)))) := h
    simp only [List.mem_append] at h1
    rcases h1 with h1 | h1 | h1 | h1 | h1
    · exact ztw1 c h1
    · exact ztw2 c h1
    · exact ztw3 c h1
    · exact ztw4 c h1
    · exact ztw5 c h1
set_option maxRecDepth 16384 in
/-- zthr is a start that the Statement allows -/
theorem zthr_start : AtStart classFile x code maxLocals ret World_1 tables_1 room_1 Calls_1 rest_1 Pre_1 launch0 start1.p0 start1.e0 zthr ⟨0, 0⟩ start1.args0 Lib.HandBits.below0 :=
  ⟨lists_1, trivial, launch0.admits_env _ _ _, launch0.least_env, fairChoices_fair.cas, fairChoices_fair.clock, rfl, by decide +kernel, by decide +kernel,
    (Spec.applies_iff rfl).mpr ⟨rfl, rfl, rfl, by decide +kernel, by decide +kernel, by decide +kernel, launch0.hasRoom_least _ room_1 (by decide +kernel) (by decide +kernel) (by decide +kernel) (by decide +kernel) (by decide +kernel) (by decide +kernel), atoms_intro zthr_words⟩,
    trivial, (show rest_1_c.before start1.args0 zthr = true by decide +kernel), (show (Cond.and given_1 narrow_1).before start1.args0 zthr = true by decide +kernel)⟩
/-- the frames' last is the listener's -/
def zlow : List Frame → Bool
  | [] => false
  | [.native ⟨m, as, st, sv, aw, an, lk, w⟩] => decide (m = ⟨0, 0⟩) && decide (as = #[]) && decide (st = 0) && decide (sv = #[]) && decide (aw = false) && an.isNone && lk.isNone && decide (w = 0)
  | _ :: r => zlow r
theorem zlow_is : ∀ (fs : List Frame), zlow fs = true → ∃ above, fs = above ++ Lib.HandBits.below0
  | [], h => by cases h
  | x :: r, h => by
    unfold zlow at h
    split at h
    · cases h
    · rename_i hf
      simp only [Bool.and_eq_true, decide_eq_true_eq, Option.isNone_iff_eq_none] at h
      obtain ⟨⟨⟨⟨⟨⟨⟨h2, h3⟩, h4⟩, h5⟩, h6⟩, h7⟩, h8⟩, h9⟩ := h
      subst h2 h3 h4 h5 h6 h7 h8 h9
      exact ⟨[], hf⟩
    · rename_i y r' _ hf
      injection hf with h1 h2
      subst h1 h2
      obtain ⟨a, ha⟩ := zlow_is _ h
      exact ⟨_ :: a, by rw [ha]; rfl⟩
def zwin (t : State) : Bool := zlow t.frames && decide (1 < t.frames.length) && !(match t.frames with | [.throwing _, _] => true | _ => false)
theorem zwin_is {t : State} (h : zwin t = true) : Within t Lib.HandBits.below0 := by
  simp only [zwin, Bool.and_eq_true, decide_eq_true_eq] at h
  obtain ⟨⟨h1, h2⟩, h3⟩ := h
  obtain ⟨a, ha⟩ := zlow_is _ h1
  refine ⟨a, ha, ?_, ?_⟩
  · intro h4; rw [ha, h4] at h2; exact absurd h2 (by decide)
  · intro b h4; rw [ha, h4] at h3; exact absurd h3 (by simp [Lib.HandBits.below0])
set_option maxRecDepth 16384 in
theorem zthr_win : (List.range 38).all (fun k => zwin (stepsAlone start1.p0.tables start1.e0 k zthr)) = true := by decide +kernel
theorem zthr_within (k : Nat) (h : k < 38) : Within (stepsAlone start1.p0.tables start1.e0 k zthr) Lib.HandBits.below0 := zwin_is (List.all_eq_true.mp zthr_win k (List.mem_range.mpr h))
/-- THE STATEMENT'S OWN FORM OF A REFUTATION -/
theorem refuted_as_printed : RefutedClaimed_1_1 :=
  ⟨launch0, start1.p0, start1.e0, zthr, ⟨0, 0⟩, start1.args0, Lib.HandBits.below0, rfl, zthr_start, 38, .threw 5, zthr_within, zthr_runs, zthr_ends,
    fun hp => by have h4 := hp.1; simp [postC, limb_1_1, Cond.after, Cond.holds, Cond.value] at h4⟩
end
