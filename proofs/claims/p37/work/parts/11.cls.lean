set_option maxRecDepth 100000 in
theorem qv_x0 : u_ws "OneRoof" qx_F0 16 = [630, 632, 634, 636, 638, 640, 642, 644, 646, 648, 650, 652, 654, 656, 658, 660].filterMap (fun i => lw_tbl[i]?) := by decide +kernel
set_option maxRecDepth 100000 in
theorem qv_x1 : u_ws "OneRoof$Folk" qx_F1 7 = [134, 136, 138, 140, 142, 144, 146].filterMap (fun i => lw_tbl[i]?) := by decide +kernel
set_option maxRecDepth 100000 in
theorem qv_x2 : u_ws "OneRoof$Kinship" qx_F2 2 = [164, 166].filterMap (fun i => lw_tbl[i]?) := by decide +kernel
set_option maxRecDepth 100000 in
theorem qv_x3 : u_ws "OneRoof$Feuds" qx_F3 8 = [186, 188, 190, 192, 194, 196, 198, 200].filterMap (fun i => lw_tbl[i]?) := by decide +kernel
set_option maxRecDepth 100000 in
theorem qv_x4 : u_ws "OneRoof$Peaces" qx_F4 8 = [226, 228, 230, 232, 234, 236, 238, 240].filterMap (fun i => lw_tbl[i]?) := by decide +kernel
set_option maxRecDepth 100000 in
theorem qv_x5 : u_ws "OneRoof$Acts" qx_F5 2 = [253, 255].filterMap (fun i => lw_tbl[i]?) := by decide +kernel
set_option maxRecDepth 100000 in
theorem qv_x6 : u_ws "OneRoof$Pegs" qx_F6 4 = [270, 272, 274, 276].filterMap (fun i => lw_tbl[i]?) := by decide +kernel
set_option maxRecDepth 100000 in
theorem qv_x7 : u_ws "OneRoof$Custom" qx_F7 8 = [443, 445, 447, 449, 451, 453, 455, 457].filterMap (fun i => lw_tbl[i]?) := by decide +kernel
set_option maxRecDepth 100000 in
theorem qv_x8 : u_ws "OneRoof$Moment" qx_F8 13 = [487, 489, 491, 493, 495, 497, 499, 501, 503, 505, 507, 509, 511].filterMap (fun i => lw_tbl[i]?) := by decide +kernel
set_option maxRecDepth 100000 in
theorem qv_x9 : u_ws "OneRoof$Guests" qx_F9 8 = [528, 530, 532, 534, 536, 538, 540, 542].filterMap (fun i => lw_tbl[i]?) := by decide +kernel
set_option maxRecDepth 100000 in
theorem qv_x10 : u_ws "OneRoof$Telling" qx_F10 7 = [563, 565, 567, 569, 571, 573, 575].filterMap (fun i => lw_tbl[i]?) := by decide +kernel
set_option maxRecDepth 100000 in
theorem qv_x11 : u_ws "OneRoof$History" qx_F11 9 = [594, 596, 598, 600, 602, 604, 606, 608, 610].filterMap (fun i => lw_tbl[i]?) := by decide +kernel
set_option maxRecDepth 100000 in
theorem qv_x12 : u_ws "OneRoofModel" qx_F12 63 = [1321, 1323, 1325, 1327, 1329, 1331, 1333, 1335, 1337, 1339, 1341, 1343, 1345, 1347, 1349, 1351, 1353, 1355, 1357, 1359, 1361, 1363, 1365, 1367, 1369, 1371, 1373, 1375, 1377, 1379, 1381, 1383, 1385, 1387, 1389, 1391, 1393, 1395, 1397, 1399, 1401, 1403, 1405, 1407, 1409, 1411, 1413, 1415, 1417, 1419, 1421, 1423, 1425, 1427, 1429, 1431, 1433, 1435, 1437, 1439, 1441, 1443, 1445].filterMap (fun i => lw_tbl[i]?) := by decide +kernel
theorem qv_fm {ws : List Cond} {is : List Nat} (h : ws = is.filterMap (fun i => lw_tbl[i]?)) : ∀ w ∈ ws, w ∈ lw_tbl := by
  intro w hw
  rw [h] at hw
  obtain ⟨i, -, hi⟩ := List.mem_filterMap.mp hw
  exact List.mem_of_getElem? hi
theorem qv_cls : ∀ (ci : Nat) (r : vw_C), qx_cl[ci]? = some r → r.2.1 = qx_T ci ∧ (∀ w ∈ u_ws r.1 r.2.1 r.2.2, w ∈ lw_tbl) ∧ (∀ k, k < r.2.2 → parseFieldDescriptor (r.2.1 k).2.2.1 = some (qx_ty ci k)) ∧ (∀ a, a < r.2.2 → ∀ b, b < r.2.2 → a ≠ b → (r.2.1 a).2.1 ≠ (r.2.1 b).2.1)
  | 0, r, h => by cases h; exact ⟨rfl, qv_fm qv_x0, by decide +kernel, by decide +kernel⟩
  | 1, r, h => by cases h; exact ⟨rfl, qv_fm qv_x1, by decide +kernel, by decide +kernel⟩
  | 2, r, h => by cases h; exact ⟨rfl, qv_fm qv_x2, by decide +kernel, by decide +kernel⟩
  | 3, r, h => by cases h; exact ⟨rfl, qv_fm qv_x3, by decide +kernel, by decide +kernel⟩
  | 4, r, h => by cases h; exact ⟨rfl, qv_fm qv_x4, by decide +kernel, by decide +kernel⟩
  | 5, r, h => by cases h; exact ⟨rfl, qv_fm qv_x5, by decide +kernel, by decide +kernel⟩
  | 6, r, h => by cases h; exact ⟨rfl, qv_fm qv_x6, by decide +kernel, by decide +kernel⟩
  | 7, r, h => by cases h; exact ⟨rfl, qv_fm qv_x7, by decide +kernel, by decide +kernel⟩
  | 8, r, h => by cases h; exact ⟨rfl, qv_fm qv_x8, by decide +kernel, by decide +kernel⟩
  | 9, r, h => by cases h; exact ⟨rfl, qv_fm qv_x9, by decide +kernel, by decide +kernel⟩
  | 10, r, h => by cases h; exact ⟨rfl, qv_fm qv_x10, by decide +kernel, by decide +kernel⟩
  | 11, r, h => by cases h; exact ⟨rfl, qv_fm qv_x11, by decide +kernel, by decide +kernel⟩
  | 12, r, h => by cases h; exact ⟨rfl, qv_fm qv_x12, by decide +kernel, by decide +kernel⟩
  | n + 13, r, h => by cases h
