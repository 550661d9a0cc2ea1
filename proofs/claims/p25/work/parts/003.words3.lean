set_option maxRecDepth 16384 in
theorem zb3_0 : (tables_1_3.take 20).all (fun c => su_isCode c || c.before start1.args0 zbad) = true := by decide +kernel
set_option maxRecDepth 16384 in
theorem zb3_1 : ((tables_1_3.drop 20).take 20).all (fun c => su_isCode c || c.before start1.args0 zbad) = true := by decide +kernel
set_option maxRecDepth 16384 in
theorem zb3_2 : ((tables_1_3.drop 40).take 20).all (fun c => su_isCode c || c.before start1.args0 zbad) = true := by decide +kernel
set_option maxRecDepth 16384 in
theorem zb3_3 : ((tables_1_3.drop 60).take 20).all (fun c => su_isCode c || c.before start1.args0 zbad) = true := by decide +kernel
set_option maxRecDepth 16384 in
theorem zb3_4 : ((tables_1_3.drop 80).take 20).all (fun c => su_isCode c || c.before start1.args0 zbad) = true := by decide +kernel
set_option maxRecDepth 16384 in
theorem zb3_5 : ((tables_1_3.drop 100).take 20).all (fun c => su_isCode c || c.before start1.args0 zbad) = true := by decide +kernel
set_option maxRecDepth 16384 in
theorem zb3_6 : ((tables_1_3.drop 120).take 20).all (fun c => su_isCode c || c.before start1.args0 zbad) = true := by decide +kernel
set_option maxRecDepth 16384 in
theorem zb3_7 : ((tables_1_3.drop 140).take 20).all (fun c => su_isCode c || c.before start1.args0 zbad) = true := by decide +kernel
set_option maxRecDepth 16384 in
theorem zb3_8 : ((tables_1_3.drop 160).take 20).all (fun c => su_isCode c || c.before start1.args0 zbad) = true := by decide +kernel
set_option maxRecDepth 16384 in
theorem zb3_9 : ((tables_1_3.drop 180).take 20).all (fun c => su_isCode c || c.before start1.args0 zbad) = true := by decide +kernel
set_option maxRecDepth 16384 in
theorem zb3_10 : ((tables_1_3.drop 200).take 20).all (fun c => su_isCode c || c.before start1.args0 zbad) = true := by decide +kernel
set_option maxRecDepth 16384 in
theorem zb3_11 : ((tables_1_3.drop 220).take 20).all (fun c => su_isCode c || c.before start1.args0 zbad) = true := by decide +kernel
theorem zbc3 : (tables_1_3.filter su_isCode).all zsm = true := by decide +kernel
theorem zb3_all : tables_1_3.all (fun c => su_isCode c || c.before start1.args0 zbad) = true := by
  refine start1.su_all_split _ 20 _ zb3_0 ?_
  try simp only [List.drop_drop]
  refine start1.su_all_split _ 20 _ (by first | exact zb3_1 | (rw [List.drop_drop]; exact zb3_1) | (simp only [List.drop_drop]; exact zb3_1)) ?_
  try simp only [List.drop_drop]
  refine start1.su_all_split _ 20 _ (by first | exact zb3_2 | (rw [List.drop_drop]; exact zb3_2) | (simp only [List.drop_drop]; exact zb3_2)) ?_
  try simp only [List.drop_drop]
  refine start1.su_all_split _ 20 _ (by first | exact zb3_3 | (rw [List.drop_drop]; exact zb3_3) | (simp only [List.drop_drop]; exact zb3_3)) ?_
  try simp only [List.drop_drop]
  refine start1.su_all_split _ 20 _ (by first | exact zb3_4 | (rw [List.drop_drop]; exact zb3_4) | (simp only [List.drop_drop]; exact zb3_4)) ?_
  try simp only [List.drop_drop]
  refine start1.su_all_split _ 20 _ (by first | exact zb3_5 | (rw [List.drop_drop]; exact zb3_5) | (simp only [List.drop_drop]; exact zb3_5)) ?_
  try simp only [List.drop_drop]
  refine start1.su_all_split _ 20 _ (by first | exact zb3_6 | (rw [List.drop_drop]; exact zb3_6) | (simp only [List.drop_drop]; exact zb3_6)) ?_
  try simp only [List.drop_drop]
  refine start1.su_all_split _ 20 _ (by first | exact zb3_7 | (rw [List.drop_drop]; exact zb3_7) | (simp only [List.drop_drop]; exact zb3_7)) ?_
  try simp only [List.drop_drop]
  refine start1.su_all_split _ 20 _ (by first | exact zb3_8 | (rw [List.drop_drop]; exact zb3_8) | (simp only [List.drop_drop]; exact zb3_8)) ?_
  try simp only [List.drop_drop]
  refine start1.su_all_split _ 20 _ (by first | exact zb3_9 | (rw [List.drop_drop]; exact zb3_9) | (simp only [List.drop_drop]; exact zb3_9)) ?_
  try simp only [List.drop_drop]
  refine start1.su_all_split _ 20 _ (by first | exact zb3_10 | (rw [List.drop_drop]; exact zb3_10) | (simp only [List.drop_drop]; exact zb3_10)) ?_
  try simp only [List.drop_drop]
  refine start1.su_all_split _ 20 _ (by first | exact zb3_11 | (rw [List.drop_drop]; exact zb3_11) | (simp only [List.drop_drop]; exact zb3_11)) ?_
  try simp only [List.drop_drop]
  decide +kernel
theorem zbw3 : ∀ c ∈ tables_1_3, c.before start1.args0 zbad = true := fun c h => su_words zb3_all (fun c hc => zbad_code (List.mem_filter.mp hc).2 (List.all_eq_true.mp zbc3 c hc) (start1.codes_hold_3 c hc)) c h
