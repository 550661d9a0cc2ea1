set_option maxRecDepth 16384 in
theorem zt5_0 : (tables_1_5.take 20).all (fun c => su_isCode c || c.before start1.args0 zthr) = true := by decide +kernel
set_option maxRecDepth 16384 in
theorem zt5_1 : ((tables_1_5.drop 20).take 20).all (fun c => su_isCode c || c.before start1.args0 zthr) = true := by decide +kernel
set_option maxRecDepth 16384 in
theorem zt5_2 : ((tables_1_5.drop 40).take 20).all (fun c => su_isCode c || c.before start1.args0 zthr) = true := by decide +kernel
set_option maxRecDepth 16384 in
theorem zt5_3 : ((tables_1_5.drop 60).take 20).all (fun c => su_isCode c || c.before start1.args0 zthr) = true := by decide +kernel
set_option maxRecDepth 16384 in
theorem zt5_4 : ((tables_1_5.drop 80).take 20).all (fun c => su_isCode c || c.before start1.args0 zthr) = true := by decide +kernel
theorem ztc5 : (tables_1_5.filter su_isCode).all ztm = true := by decide +kernel
theorem zt5_all : tables_1_5.all (fun c => su_isCode c || c.before start1.args0 zthr) = true := by
  refine start1.su_all_split _ 20 _ zt5_0 ?_
  try simp only [List.drop_drop]
  refine start1.su_all_split _ 20 _ (by first | exact zt5_1 | (rw [List.drop_drop]; exact zt5_1) | (simp only [List.drop_drop]; exact zt5_1)) ?_
  try simp only [List.drop_drop]
  refine start1.su_all_split _ 20 _ (by first | exact zt5_2 | (rw [List.drop_drop]; exact zt5_2) | (simp only [List.drop_drop]; exact zt5_2)) ?_
  try simp only [List.drop_drop]
  refine start1.su_all_split _ 20 _ (by first | exact zt5_3 | (rw [List.drop_drop]; exact zt5_3) | (simp only [List.drop_drop]; exact zt5_3)) ?_
  try simp only [List.drop_drop]
  refine start1.su_all_split _ 20 _ (by first | exact zt5_4 | (rw [List.drop_drop]; exact zt5_4) | (simp only [List.drop_drop]; exact zt5_4)) ?_
  try simp only [List.drop_drop]
  decide +kernel
theorem ztw5 : ∀ c ∈ tables_1_5, c.before start1.args0 zthr = true := fun c h => su_words zt5_all (fun c hc => zthr_code (List.mem_filter.mp hc).2 (List.all_eq_true.mp ztc5 c hc) (start1.codes_hold_5 c hc)) c h
