set_option maxRecDepth 16384 in
theorem zt2_0 : (tables_1_2.take 20).all (fun c => su_isCode c || c.before start1.args0 zthr) = true := by decide +kernel
set_option maxRecDepth 16384 in
theorem zt2_1 : ((tables_1_2.drop 20).take 20).all (fun c => su_isCode c || c.before start1.args0 zthr) = true := by decide +kernel
set_option maxRecDepth 16384 in
theorem zt2_2 : ((tables_1_2.drop 40).take 20).all (fun c => su_isCode c || c.before start1.args0 zthr) = true := by decide +kernel
set_option maxRecDepth 16384 in
theorem zt2_3 : ((tables_1_2.drop 60).take 20).all (fun c => su_isCode c || c.before start1.args0 zthr) = true := by decide +kernel
set_option maxRecDepth 16384 in
theorem zt2_4 : ((tables_1_2.drop 80).take 20).all (fun c => su_isCode c || c.before start1.args0 zthr) = true := by decide +kernel
set_option maxRecDepth 16384 in
theorem zt2_5 : ((tables_1_2.drop 100).take 20).all (fun c => su_isCode c || c.before start1.args0 zthr) = true := by decide +kernel
set_option maxRecDepth 16384 in
theorem zt2_6 : ((tables_1_2.drop 120).take 20).all (fun c => su_isCode c || c.before start1.args0 zthr) = true := by decide +kernel
set_option maxRecDepth 16384 in
theorem zt2_7 : ((tables_1_2.drop 140).take 20).all (fun c => su_isCode c || c.before start1.args0 zthr) = true := by decide +kernel
set_option maxRecDepth 16384 in
theorem zt2_8 : ((tables_1_2.drop 160).take 20).all (fun c => su_isCode c || c.before start1.args0 zthr) = true := by decide +kernel
set_option maxRecDepth 16384 in
theorem zt2_9 : ((tables_1_2.drop 180).take 20).all (fun c => su_isCode c || c.before start1.args0 zthr) = true := by decide +kernel
set_option maxRecDepth 16384 in
theorem zt2_10 : ((tables_1_2.drop 200).take 20).all (fun c => su_isCode c || c.before start1.args0 zthr) = true := by decide +kernel
set_option maxRecDepth 16384 in
theorem zt2_11 : ((tables_1_2.drop 220).take 20).all (fun c => su_isCode c || c.before start1.args0 zthr) = true := by decide +kernel
theorem ztc2 : (tables_1_2.filter su_isCode).all ztm = true := by decide +kernel
theorem zt2_all : tables_1_2.all (fun c => su_isCode c || c.before start1.args0 zthr) = true := by
  refine start1.su_all_split _ 20 _ zt2_0 ?_
  try simp only [List.drop_drop]
  refine start1.su_all_split _ 20 _ (by first | exact zt2_1 | (rw [List.drop_drop]; exact zt2_1) | (simp only [List.drop_drop]; exact zt2_1)) ?_
  try simp only [List.drop_drop]
  refine start1.su_all_split _ 20 _ (by first | exact zt2_2 | (rw [List.drop_drop]; exact zt2_2) | (simp only [List.drop_drop]; exact zt2_2)) ?_
  try simp only [List.drop_drop]
  refine start1.su_all_split _ 20 _ (by first | exact zt2_3 | (rw [List.drop_drop]; exact zt2_3) | (simp only [List.drop_drop]; exact zt2_3)) ?_
  try simp only [List.drop_drop]
  refine start1.su_all_split _ 20 _ (by first | exact zt2_4 | (rw [List.drop_drop]; exact zt2_4) | (simp only [List.drop_drop]; exact zt2_4)) ?_
  try simp only [List.drop_drop]
  refine start1.su_all_split _ 20 _ (by first | exact zt2_5 | (rw [List.drop_drop]; exact zt2_5) | (simp only [List.drop_drop]; exact zt2_5)) ?_
  try simp only [List.drop_drop]
  refine start1.su_all_split _ 20 _ (by first | exact zt2_6 | (rw [List.drop_drop]; exact zt2_6) | (simp only [List.drop_drop]; exact zt2_6)) ?_
  try simp only [List.drop_drop]
  refine start1.su_all_split _ 20 _ (by first | exact zt2_7 | (rw [List.drop_drop]; exact zt2_7) | (simp only [List.drop_drop]; exact zt2_7)) ?_
  try simp only [List.drop_drop]
  refine start1.su_all_split _ 20 _ (by first | exact zt2_8 | (rw [List.drop_drop]; exact zt2_8) | (simp only [List.drop_drop]; exact zt2_8)) ?_
  try simp only [List.drop_drop]
  refine start1.su_all_split _ 20 _ (by first | exact zt2_9 | (rw [List.drop_drop]; exact zt2_9) | (simp only [List.drop_drop]; exact zt2_9)) ?_
  try simp only [List.drop_drop]
  refine start1.su_all_split _ 20 _ (by first | exact zt2_10 | (rw [List.drop_drop]; exact zt2_10) | (simp only [List.drop_drop]; exact zt2_10)) ?_
  try simp only [List.drop_drop]
  refine start1.su_all_split _ 20 _ (by first | exact zt2_11 | (rw [List.drop_drop]; exact zt2_11) | (simp only [List.drop_drop]; exact zt2_11)) ?_
  try simp only [List.drop_drop]
  decide +kernel
theorem ztw2 : ∀ c ∈ tables_1_2, c.before start1.args0 zthr = true := fun c h => su_words zt2_all (fun c hc => zthr_code (List.mem_filter.mp hc).2 (List.all_eq_true.mp ztc2 c hc) (start1.codes_hold_2 c hc)) c h
