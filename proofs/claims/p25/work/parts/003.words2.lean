set_option maxRecDepth 16384 in
theorem zb2_0 : (tables_1_2.take 20).all (fun c => su_isCode c || c.before start1.args0 zbad) = true := by decide +kernel
set_option maxRecDepth 16384 in
theorem zb2_1 : ((tables_1_2.drop 20).take 20).all (fun c => su_isCode c || c.before start1.args0 zbad) = true := by decide +kernel
set_option maxRecDepth 16384 in
theorem zb2_2 : ((tables_1_2.drop 40).take 20).all (fun c => su_isCode c || c.before start1.args0 zbad) = true := by decide +kernel
set_option maxRecDepth 16384 in
theorem zb2_3 : ((tables_1_2.drop 60).take 20).all (fun c => su_isCode c || c.before start1.args0 zbad) = true := by decide +kernel
set_option maxRecDepth 16384 in
theorem zb2_4 : ((tables_1_2.drop 80).take 20).all (fun c => su_isCode c || c.before start1.args0 zbad) = true := by decide +kernel
set_option maxRecDepth 16384 in
theorem zb2_5 : ((tables_1_2.drop 100).take 20).all (fun c => su_isCode c || c.before start1.args0 zbad) = true := by decide +kernel
set_option maxRecDepth 16384 in
theorem zb2_6 : ((tables_1_2.drop 120).take 20).all (fun c => su_isCode c || c.before start1.args0 zbad) = true := by decide +kernel
set_option maxRecDepth 16384 in
theorem zb2_7 : ((tables_1_2.drop 140).take 20).all (fun c => su_isCode c || c.before start1.args0 zbad) = true := by decide +kernel
set_option maxRecDepth 16384 in
theorem zb2_8 : ((tables_1_2.drop 160).take 20).all (fun c => su_isCode c || c.before start1.args0 zbad) = true := by decide +kernel
set_option maxRecDepth 16384 in
theorem zb2_9 : ((tables_1_2.drop 180).take 20).all (fun c => su_isCode c || c.before start1.args0 zbad) = true := by decide +kernel
set_option maxRecDepth 16384 in
theorem zb2_10 : ((tables_1_2.drop 200).take 20).all (fun c => su_isCode c || c.before start1.args0 zbad) = true := by decide +kernel
set_option maxRecDepth 16384 in
theorem zb2_11 : ((tables_1_2.drop 220).take 20).all (fun c => su_isCode c || c.before start1.args0 zbad) = true := by decide +kernel
theorem zbc2 : (tables_1_2.filter su_isCode).all zsm = true := by decide +kernel
theorem zb2_all : tables_1_2.all (fun c => su_isCode c || c.before start1.args0 zbad) = true := by
  refine start1.su_all_split _ 20 _ zb2_0 ?_
  try simp only [List.drop_drop]
  refine start1.su_all_split _ 20 _ (by first | exact zb2_1 | (rw [List.drop_drop]; exact zb2_1) | (simp only [List.drop_drop]; exact zb2_1)) ?_
  try simp only [List.drop_drop]
  refine start1.su_all_split _ 20 _ (by first | exact zb2_2 | (rw [List.drop_drop]; exact zb2_2) | (simp only [List.drop_drop]; exact zb2_2)) ?_
  try simp only [List.drop_drop]
  refine start1.su_all_split _ 20 _ (by first | exact zb2_3 | (rw [List.drop_drop]; exact zb2_3) | (simp only [List.drop_drop]; exact zb2_3)) ?_
  try simp only [List.drop_drop]
  refine start1.su_all_split _ 20 _ (by first | exact zb2_4 | (rw [List.drop_drop]; exact zb2_4) | (simp only [List.drop_drop]; exact zb2_4)) ?_
  try simp only [List.drop_drop]
  refine start1.su_all_split _ 20 _ (by first | exact zb2_5 | (rw [List.drop_drop]; exact zb2_5) | (simp only [List.drop_drop]; exact zb2_5)) ?_
  try simp only [List.drop_drop]
  refine start1.su_all_split _ 20 _ (by first | exact zb2_6 | (rw [List.drop_drop]; exact zb2_6) | (simp only [List.drop_drop]; exact zb2_6)) ?_
  try simp only [List.drop_drop]
  refine start1.su_all_split _ 20 _ (by first | exact zb2_7 | (rw [List.drop_drop]; exact zb2_7) | (simp only [List.drop_drop]; exact zb2_7)) ?_
  try simp only [List.drop_drop]
  refine start1.su_all_split _ 20 _ (by first | exact zb2_8 | (rw [List.drop_drop]; exact zb2_8) | (simp only [List.drop_drop]; exact zb2_8)) ?_
  try simp only [List.drop_drop]
  refine start1.su_all_split _ 20 _ (by first | exact zb2_9 | (rw [List.drop_drop]; exact zb2_9) | (simp only [List.drop_drop]; exact zb2_9)) ?_
  try simp only [List.drop_drop]
  refine start1.su_all_split _ 20 _ (by first | exact zb2_10 | (rw [List.drop_drop]; exact zb2_10) | (simp only [List.drop_drop]; exact zb2_10)) ?_
  try simp only [List.drop_drop]
  refine start1.su_all_split _ 20 _ (by first | exact zb2_11 | (rw [List.drop_drop]; exact zb2_11) | (simp only [List.drop_drop]; exact zb2_11)) ?_
  try simp only [List.drop_drop]
  decide +kernel
theorem zbw2 : ∀ c ∈ tables_1_2, c.before start1.args0 zbad = true := fun c h => su_words zb2_all (fun c hc => zbad_code (List.mem_filter.mp hc).2 (List.all_eq_true.mp zbc2 c hc) (start1.codes_hold_2 c hc)) c h
