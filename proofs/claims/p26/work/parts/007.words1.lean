set_option maxRecDepth 16384 in
theorem zt1_0 : (tables_1_1.take 20).all (fun c => su_isCode c || c.before start1.args0 zthr) = true := by decide +kernel
set_option maxRecDepth 16384 in
theorem zt1_1 : ((tables_1_1.drop 20).take 20).all (fun c => su_isCode c || c.before start1.args0 zthr) = true := by decide +kernel
set_option maxRecDepth 16384 in
theorem zt1_2 : ((tables_1_1.drop 40).take 20).all (fun c => su_isCode c || c.before start1.args0 zthr) = true := by decide +kernel
set_option maxRecDepth 16384 in
theorem zt1_3 : ((tables_1_1.drop 60).take 20).all (fun c => su_isCode c || c.before start1.args0 zthr) = true := by decide +kernel
set_option maxRecDepth 16384 in
theorem zt1_4 : ((tables_1_1.drop 80).take 20).all (fun c => su_isCode c || c.before start1.args0 zthr) = true := by decide +kernel
set_option maxRecDepth 16384 in
theorem zt1_5 : ((tables_1_1.drop 100).take 20).all (fun c => su_isCode c || c.before start1.args0 zthr) = true := by decide +kernel
set_option maxRecDepth 16384 in
theorem zt1_6 : ((tables_1_1.drop 120).take 20).all (fun c => su_isCode c || c.before start1.args0 zthr) = true := by decide +kernel
set_option maxRecDepth 16384 in
theorem zt1_7 : ((tables_1_1.drop 140).take 20).all (fun c => su_isCode c || c.before start1.args0 zthr) = true := by decide +kernel
set_option maxRecDepth 16384 in
theorem zt1_8 : ((tables_1_1.drop 160).take 20).all (fun c => su_isCode c || c.before start1.args0 zthr) = true := by decide +kernel
set_option maxRecDepth 16384 in
theorem zt1_9 : ((tables_1_1.drop 180).take 20).all (fun c => su_isCode c || c.before start1.args0 zthr) = true := by decide +kernel
set_option maxRecDepth 16384 in
theorem zt1_10 : ((tables_1_1.drop 200).take 20).all (fun c => su_isCode c || c.before start1.args0 zthr) = true := by decide +kernel
set_option maxRecDepth 16384 in
theorem zt1_11 : ((tables_1_1.drop 220).take 20).all (fun c => su_isCode c || c.before start1.args0 zthr) = true := by decide +kernel
theorem ztc1 : (tables_1_1.filter su_isCode).all ztm = true := by decide +kernel
theorem zt1_all : tables_1_1.all (fun c => su_isCode c || c.before start1.args0 zthr) = true := by
  refine start1.su_all_split _ 20 _ zt1_0 ?_
  try simp only [List.drop_drop]
  refine start1.su_all_split _ 20 _ (by first | exact zt1_1 | (rw [List.drop_drop]; exact zt1_1) | (simp only [List.drop_drop]; exact zt1_1)) ?_
  try simp only [List.drop_drop]
  refine start1.su_all_split _ 20 _ (by first | exact zt1_2 | (rw [List.drop_drop]; exact zt1_2) | (simp only [List.drop_drop]; exact zt1_2)) ?_
  try simp only [List.drop_drop]
  refine start1.su_all_split _ 20 _ (by first | exact zt1_3 | (rw [List.drop_drop]; exact zt1_3) | (simp only [List.drop_drop]; exact zt1_3)) ?_
  try simp only [List.drop_drop]
  refine start1.su_all_split _ 20 _ (by first | exact zt1_4 | (rw [List.drop_drop]; exact zt1_4) | (simp only [List.drop_drop]; exact zt1_4)) ?_
  try simp only [List.drop_drop]
  refine start1.su_all_split _ 20 _ (by first | exact zt1_5 | (rw [List.drop_drop]; exact zt1_5) | (simp only [List.drop_drop]; exact zt1_5)) ?_
  try simp only [List.drop_drop]
  refine start1.su_all_split _ 20 _ (by first | exact zt1_6 | (rw [List.drop_drop]; exact zt1_6) | (simp only [List.drop_drop]; exact zt1_6)) ?_
  try simp only [List.drop_drop]
  refine start1.su_all_split _ 20 _ (by first | exact zt1_7 | (rw [List.drop_drop]; exact zt1_7) | (simp only [List.drop_drop]; exact zt1_7)) ?_
  try simp only [List.drop_drop]
  refine start1.su_all_split _ 20 _ (by first | exact zt1_8 | (rw [List.drop_drop]; exact zt1_8) | (simp only [List.drop_drop]; exact zt1_8)) ?_
  try simp only [List.drop_drop]
  refine start1.su_all_split _ 20 _ (by first | exact zt1_9 | (rw [List.drop_drop]; exact zt1_9) | (simp only [List.drop_drop]; exact zt1_9)) ?_
  try simp only [List.drop_drop]
  refine start1.su_all_split _ 20 _ (by first | exact zt1_10 | (rw [List.drop_drop]; exact zt1_10) | (simp only [List.drop_drop]; exact zt1_10)) ?_
  try simp only [List.drop_drop]
  refine start1.su_all_split _ 20 _ (by first | exact zt1_11 | (rw [List.drop_drop]; exact zt1_11) | (simp only [List.drop_drop]; exact zt1_11)) ?_
  try simp only [List.drop_drop]
  decide +kernel
theorem ztw1 : ∀ c ∈ tables_1_1, c.before start1.args0 zthr = true := fun c h => su_words zt1_all (fun c hc => zthr_code (List.mem_filter.mp hc).2 (List.all_eq_true.mp ztc1 c hc) (start1.codes_hold_1 c hc)) c h
