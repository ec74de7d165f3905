set_option maxRecDepth 100000 in
theorem qv_x0 : u_ws "OneRoof" qx_F0 16 = [629, 631, 633, 635, 637, 639, 641, 643, 645, 647, 649, 651, 653, 655, 657, 659].filterMap (fun i => lw_tbl[i]?) := by decide +kernel
set_option maxRecDepth 100000 in
theorem qv_x1 : u_ws "OneRoof$Folk" qx_F1 7 = [133, 135, 137, 139, 141, 143, 145].filterMap (fun i => lw_tbl[i]?) := by decide +kernel
set_option maxRecDepth 100000 in
theorem qv_x2 : u_ws "OneRoof$Kinship" qx_F2 2 = [163, 165].filterMap (fun i => lw_tbl[i]?) := by decide +kernel
set_option maxRecDepth 100000 in
theorem qv_x3 : u_ws "OneRoof$Feuds" qx_F3 8 = [185, 187, 189, 191, 193, 195, 197, 199].filterMap (fun i => lw_tbl[i]?) := by decide +kernel
set_option maxRecDepth 100000 in
theorem qv_x4 : u_ws "OneRoof$Peaces" qx_F4 8 = [225, 227, 229, 231, 233, 235, 237, 239].filterMap (fun i => lw_tbl[i]?) := by decide +kernel
set_option maxRecDepth 100000 in
theorem qv_x5 : u_ws "OneRoof$Acts" qx_F5 2 = [252, 254].filterMap (fun i => lw_tbl[i]?) := by decide +kernel
set_option maxRecDepth 100000 in
theorem qv_x6 : u_ws "OneRoof$Pegs" qx_F6 4 = [269, 271, 273, 275].filterMap (fun i => lw_tbl[i]?) := by decide +kernel
set_option maxRecDepth 100000 in
theorem qv_x7 : u_ws "OneRoof$Custom" qx_F7 8 = [442, 444, 446, 448, 450, 452, 454, 456].filterMap (fun i => lw_tbl[i]?) := by decide +kernel
set_option maxRecDepth 100000 in
theorem qv_x8 : u_ws "OneRoof$Moment" qx_F8 13 = [486, 488, 490, 492, 494, 496, 498, 500, 502, 504, 506, 508, 510].filterMap (fun i => lw_tbl[i]?) := by decide +kernel
set_option maxRecDepth 100000 in
theorem qv_x9 : u_ws "OneRoof$Guests" qx_F9 8 = [527, 529, 531, 533, 535, 537, 539, 541].filterMap (fun i => lw_tbl[i]?) := by decide +kernel
set_option maxRecDepth 100000 in
theorem qv_x10 : u_ws "OneRoof$Telling" qx_F10 7 = [562, 564, 566, 568, 570, 572, 574].filterMap (fun i => lw_tbl[i]?) := by decide +kernel
set_option maxRecDepth 100000 in
theorem qv_x11 : u_ws "OneRoof$History" qx_F11 9 = [593, 595, 597, 599, 601, 603, 605, 607, 609].filterMap (fun i => lw_tbl[i]?) := by decide +kernel
set_option maxRecDepth 100000 in
theorem qv_x12 : u_ws "OneRoofModel" qx_F12 63 = [1316, 1318, 1320, 1322, 1324, 1326, 1328, 1330, 1332, 1334, 1336, 1338, 1340, 1342, 1344, 1346, 1348, 1350, 1352, 1354, 1356, 1358, 1360, 1362, 1364, 1366, 1368, 1370, 1372, 1374, 1376, 1378, 1380, 1382, 1384, 1386, 1388, 1390, 1392, 1394, 1396, 1398, 1400, 1402, 1404, 1406, 1408, 1410, 1412, 1414, 1416, 1418, 1420, 1422, 1424, 1426, 1428, 1430, 1432, 1434, 1436, 1438, 1440].filterMap (fun i => lw_tbl[i]?) := by decide +kernel
theorem qv_fm {ws : List Cond} {is : List Nat} (h : ws = is.filterMap (fun i => lw_tbl[i]?)) : ∀ w ∈ ws, w ∈ lw_tbl := by
  intro w hw
  rw [h] at hw
  obtain ⟨i, -, hi⟩ := List.mem_filterMap.mp hw
  exact List.mem_of_getElem? hi
theorem qv_cls : ∀ (ci : Nat) (r : vw_C), qx_cl[ci]? = some r → r.2.1 = qx_T ci ∧ (∀ w ∈ u_ws r.1 r.2.1 r.2.2, w ∈ lw_tbl) ∧ (∀ k, k < r.2.2 → parseFieldDescriptor (r.2.1 k).2.2.1 = some (qx_ty ci k)) ∧ (∀ a, a < r.2.2 → ∀ b, b < r.2.2 → a ≠ b → (r.2.1 a).2.1 ≠ (r.2.1 b).2.1)
  | 0, r, h => by cases h; exact ⟨rfl, qv_fm qv_x0, by decide +kernel, by decide +kernel⟩
  | 1, r, h => by cases h; exact ⟨rfl, qv_fm qv_x1, by decide +kernel, by decide +kernel⟩
  | 2, r, h => by cases h; exact ⟨rfl, qv_fm qv_x2, by decide +kernel, by decide +kernel⟩
  | 3, r, h => by cases h; exact ⟨rfl, qv_fm qv_x3, by decide +kernel, by decide +kernel⟩
  | 4, r, h => by cases h; exact ⟨rfl, qv_fm qv_x4, by decide +kernel, by decide +kernel⟩
  | 5, r, h => by cases h; exact ⟨rfl, qv_fm qv_x5, by decide +kernel, by decide +kernel⟩
  | 6, r, h => by cases h; exact ⟨rfl, qv_fm qv_x6, by decide +kernel, by decide +kernel⟩
  | 7, r, h => by cases h; exact ⟨rfl, qv_fm qv_x7, by decide +kernel, by decide +kernel⟩
  | 8, r, h => by cases h; exact ⟨rfl, qv_fm qv_x8, by decide +kernel, by decide +kernel⟩
  | 9, r, h => by cases h; exact ⟨rfl, qv_fm qv_x9, by decide +kernel, by decide +kernel⟩
  | 10, r, h => by cases h; exact ⟨rfl, qv_fm qv_x10, by decide +kernel, by decide +kernel⟩
  | 11, r, h => by cases h; exact ⟨rfl, qv_fm qv_x11, by decide +kernel, by decide +kernel⟩
  | 12, r, h => by cases h; exact ⟨rfl, qv_fm qv_x12, by decide +kernel, by decide +kernel⟩
  | n + 13, r, h => by cases h
