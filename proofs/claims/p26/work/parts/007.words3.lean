set_option maxRecDepth 16384 in
theorem zt3_0 : (tables_1_3.take 20).all (fun c => su_isCode c || c.before start1.args0 zthr) = true := by decide +kernel
set_option maxRecDepth 16384 in
theorem zt3_1 : ((tables_1_3.drop 20).take 20).all (fun c => su_isCode c || c.before start1.args0 zthr) = true := by decide +kernel
set_option maxRecDepth 16384 in
theorem zt3_2 : ((tables_1_3.drop 40).take 20).all (fun c => su_isCode c || c.before start1.args0 zthr) = true := by decide +kernel
set_option maxRecDepth 16384 in
theorem zt3_3 : ((tables_1_3.drop 60).take 20).all (fun c => su_isCode c || c.before start1.args0 zthr) = true := by decide +kernel
set_option maxRecDepth 16384 in
theorem zt3_4 : ((tables_1_3.drop 80).take 20).all (fun c => su_isCode c || c.before start1.args0 zthr) = true := by decide +kernel
set_option maxRecDepth 16384 in
theorem zt3_5 : ((tables_1_3.drop 100).take 20).all (fun c => su_isCode c || c.before start1.args0 zthr) = true := by decide +kernel
set_option maxRecDepth 16384 in
theorem zt3_6 : ((tables_1_3.drop 120).take 20).all (fun c => su_isCode c || c.before start1.args0 zthr) = true := by decide +kernel
set_option maxRecDepth 16384 in
theorem zt3_7 : ((tables_1_3.drop 140).take 20).all (fun c => su_isCode c || c.before start1.args0 zthr) = true := by decide +kernel
set_option maxRecDepth 16384 in
theorem zt3_8 : ((tables_1_3.drop 160).take 20).all (fun c => su_isCode c || c.before start1.args0 zthr) = true := by decide +kernel
set_option maxRecDepth 16384 in
theorem zt3_9 : ((tables_1_3.drop 180).take 20).all (fun c => su_isCode c || c.before start1.args0 zthr) = true := by decide +kernel
set_option maxRecDepth 16384 in
theorem zt3_10 : ((tables_1_3.drop 200).take 20).all (fun c => su_isCode c || c.before start1.args0 zthr) = true := by decide +kernel
set_option maxRecDepth 16384 in
theorem zt3_11 : ((tables_1_3.drop 220).take 20).all (fun c => su_isCode c || c.before start1.args0 zthr) = true := by decide +kernel
theorem ztc3 : (tables_1_3.filter su_isCode).all ztm = true := by decide +kernel
theorem zt3_all : tables_1_3.all (fun c => su_isCode c || c.before start1.args0 zthr) = true := by
  refine start1.su_all_split _ 20 _ zt3_0 ?_
  try simp only [List.drop_drop]
  refine start1.su_all_split _ 20 _ (by first | exact zt3_1 | (rw [List.drop_drop]; exact zt3_1) | (simp only [List.drop_drop]; exact zt3_1)) ?_
  try simp only [List.drop_drop]
  refine start1.su_all_split _ 20 _ (by first | exact zt3_2 | (rw [List.drop_drop]; exact zt3_2) | (simp only [List.drop_drop]; exact zt3_2)) ?_
  try simp only [List.drop_drop]
  refine start1.su_all_split _ 20 _ (by first | exact zt3_3 | (rw [List.drop_drop]; exact zt3_3) | (simp only [List.drop_drop]; exact zt3_3)) ?_
  try simp only [List.drop_drop]
  refine start1.su_all_split _ 20 _ (by first | exact zt3_4 | (rw [List.drop_drop]; exact zt3_4) | (simp only [List.drop_drop]; exact zt3_4)) ?_
  try simp only [List.drop_drop]
  refine start1.su_all_split _ 20 _ (by first | exact zt3_5 | (rw [List.drop_drop]; exact zt3_5) | (simp only [List.drop_drop]; exact zt3_5)) ?_
  try simp only [List.drop_drop]
  refine start1.su_all_split _ 20 _ (by first | exact zt3_6 | (rw [List.drop_drop]; exact zt3_6) | (simp only [List.drop_drop]; exact zt3_6)) ?_
  try simp only [List.drop_drop]
  refine start1.su_all_split _ 20 _ (by first | exact zt3_7 | (rw [List.drop_drop]; exact zt3_7) | (simp only [List.drop_drop]; exact zt3_7)) ?_
  try simp only [List.drop_drop]
  refine start1.su_all_split _ 20 _ (by first | exact zt3_8 | (rw [List.drop_drop]; exact zt3_8) | (simp only [List.drop_drop]; exact zt3_8)) ?_
  try simp only [List.drop_drop]
  refine start1.su_all_split _ 20 _ (by first | exact zt3_9 | (rw [List.drop_drop]; exact zt3_9) | (simp only [List.drop_drop]; exact zt3_9)) ?_
  try simp only [List.drop_drop]
  refine start1.su_all_split _ 20 _ (by first | exact zt3_10 | (rw [List.drop_drop]; exact zt3_10) | (simp only [List.drop_drop]; exact zt3_10)) ?_
  try simp only [List.drop_drop]
  refine start1.su_all_split _ 20 _ (by first | exact zt3_11 | (rw [List.drop_drop]; exact zt3_11) | (simp only [List.drop_drop]; exact zt3_11)) ?_
  try simp only [List.drop_drop]
  decide +kernel
theorem ztw3 : ∀ c ∈ tables_1_3, c.before start1.args0 zthr = true := fun c h => su_words zt3_all (fun c hc => zthr_code (List.mem_filter.mp hc).2 (List.all_eq_true.mp ztc3 c hc) (start1.codes_hold_3 c hc)) c h
