set_option maxRecDepth 16384 in
theorem zt4_0 : (tables_1_4.take 20).all (fun c => su_isCode c || c.before start1.args0 zthr) = true := by decide +kernel
set_option maxRecDepth 16384 in
theorem zt4_1 : ((tables_1_4.drop 20).take 20).all (fun c => su_isCode c || c.before start1.args0 zthr) = true := by decide +kernel
set_option maxRecDepth 16384 in
theorem zt4_2 : ((tables_1_4.drop 40).take 20).all (fun c => su_isCode c || c.before start1.args0 zthr) = true := by decide +kernel
set_option maxRecDepth 16384 in
theorem zt4_3 : ((tables_1_4.drop 60).take 20).all (fun c => su_isCode c || c.before start1.args0 zthr) = true := by decide +kernel
set_option maxRecDepth 16384 in
theorem zt4_4 : ((tables_1_4.drop 80).take 20).all (fun c => su_isCode c || c.before start1.args0 zthr) = true := by decide +kernel
set_option maxRecDepth 16384 in
theorem zt4_5 : ((tables_1_4.drop 100).take 20).all (fun c => su_isCode c || c.before start1.args0 zthr) = true := by decide +kernel
set_option maxRecDepth 16384 in
theorem zt4_6 : ((tables_1_4.drop 120).take 20).all (fun c => su_isCode c || c.before start1.args0 zthr) = true := by decide +kernel
set_option maxRecDepth 16384 in
theorem zt4_7 : ((tables_1_4.drop 140).take 20).all (fun c => su_isCode c || c.before start1.args0 zthr) = true := by decide +kernel
set_option maxRecDepth 16384 in
theorem zt4_8 : ((tables_1_4.drop 160).take 20).all (fun c => su_isCode c || c.before start1.args0 zthr) = true := by decide +kernel
set_option maxRecDepth 16384 in
theorem zt4_9 : ((tables_1_4.drop 180).take 20).all (fun c => su_isCode c || c.before start1.args0 zthr) = true := by decide +kernel
set_option maxRecDepth 16384 in
theorem zt4_10 : ((tables_1_4.drop 200).take 20).all (fun c => su_isCode c || c.before start1.args0 zthr) = true := by decide +kernel
set_option maxRecDepth 16384 in
theorem zt4_11 : ((tables_1_4.drop 220).take 20).all (fun c => su_isCode c || c.before start1.args0 zthr) = true := by decide +kernel
theorem ztc4 : (tables_1_4.filter su_isCode).all ztm = true := by decide +kernel
theorem zt4_all : tables_1_4.all (fun c => su_isCode c || c.before start1.args0 zthr) = true := by
  refine start1.su_all_split _ 20 _ zt4_0 ?_
  try simp only [List.drop_drop]
  refine start1.su_all_split _ 20 _ (by first | exact zt4_1 | (rw [List.drop_drop]; exact zt4_1) | (simp only [List.drop_drop]; exact zt4_1)) ?_
  try simp only [List.drop_drop]
  refine start1.su_all_split _ 20 _ (by first | exact zt4_2 | (rw [List.drop_drop]; exact zt4_2) | (simp only [List.drop_drop]; exact zt4_2)) ?_
  try simp only [List.drop_drop]
  refine start1.su_all_split _ 20 _ (by first | exact zt4_3 | (rw [List.drop_drop]; exact zt4_3) | (simp only [List.drop_drop]; exact zt4_3)) ?_
  try simp only [List.drop_drop]
  refine start1.su_all_split _ 20 _ (by first | exact zt4_4 | (rw [List.drop_drop]; exact zt4_4) | (simp only [List.drop_drop]; exact zt4_4)) ?_
  try simp only [List.drop_drop]
  refine start1.su_all_split _ 20 _ (by first | exact zt4_5 | (rw [List.drop_drop]; exact zt4_5) | (simp only [List.drop_drop]; exact zt4_5)) ?_
  try simp only [List.drop_drop]
  refine start1.su_all_split _ 20 _ (by first | exact zt4_6 | (rw [List.drop_drop]; exact zt4_6) | (simp only [List.drop_drop]; exact zt4_6)) ?_
  try simp only [List.drop_drop]
  refine start1.su_all_split _ 20 _ (by first | exact zt4_7 | (rw [List.drop_drop]; exact zt4_7) | (simp only [List.drop_drop]; exact zt4_7)) ?_
  try simp only [List.drop_drop]
  refine start1.su_all_split _ 20 _ (by first | exact zt4_8 | (rw [List.drop_drop]; exact zt4_8) | (simp only [List.drop_drop]; exact zt4_8)) ?_
  try simp only [List.drop_drop]
  refine start1.su_all_split _ 20 _ (by first | exact zt4_9 | (rw [List.drop_drop]; exact zt4_9) | (simp only [List.drop_drop]; exact zt4_9)) ?_
  try simp only [List.drop_drop]
  refine start1.su_all_split _ 20 _ (by first | exact zt4_10 | (rw [List.drop_drop]; exact zt4_10) | (simp only [List.drop_drop]; exact zt4_10)) ?_
  try simp only [List.drop_drop]
  refine start1.su_all_split _ 20 _ (by first | exact zt4_11 | (rw [List.drop_drop]; exact zt4_11) | (simp only [List.drop_drop]; exact zt4_11)) ?_
  try simp only [List.drop_drop]
  decide +kernel
theorem ztw4 : ∀ c ∈ tables_1_4, c.before start1.args0 zthr = true := fun c h => su_words zt4_all (fun c hc => zthr_code (List.mem_filter.mp hc).2 (List.all_eq_true.mp ztc4 c hc) (start1.codes_hold_4 c hc)) c h
