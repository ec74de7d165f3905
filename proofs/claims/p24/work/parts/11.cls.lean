section
set_option maxRecDepth 100000 in
theorem qv_x0 : u_ws "OneRoof" qx_F0 16 = [630, 632, 634, 636, 638, 640, 642, 644, 646, 648, 650, 652, 654, 656, 658, 660].filterMap (fun i => lw_tbl[i]?) := by decide +kernel
set_option maxRecDepth 100000 in
theorem qv_x1 : u_ws "OneRoof$Folk" qx_F1 7 = [134, 136, 138, 140, 142, 144, 146].filterMap (fun i => lw_tbl[i]?) := by decide +kernel
set_option maxRecDepth 100000 in
theorem qv_x2 : u_ws "OneRoof$Kinship" qx_F2 2 = [164, 166].filterMap (fun i => lw_tbl[i]?) := by decide +kernel
set_option maxRecDepth 100000 in
theorem qv_x3 : u_ws "OneRoof$Feuds" qx_F3 8 = [186, 188, 190, 192, 194, 196, 198, 200].filterMap (fun i => lw_tbl[i]?) := by decide +kernel
set_option maxRecDepth 100000 in
theorem qv_x4 : u_ws "OneRoof$Peaces" qx_F4 8 = [226, 228, 230, 232, 234, 236, 238, 240].filterMap (fun i => lw_tbl[i]?) := by decide +kernel
set_option maxRecDepth 100000 in
theorem qv_x5 : u_ws "OneRoof$Acts" qx_F5 2 = [253, 255].filterMap (fun i => lw_tbl[i]?) := by decide +kernel
set_option maxRecDepth 100000 in
theorem qv_x6 : u_ws "OneRoof$Pegs" qx_F6 4 = [270, 272, 274, 276].filterMap (fun i => lw_tbl[i]?) := by decide +kernel
set_option maxRecDepth 100000 in
theorem qv_x7 : u_ws "OneRoof$Custom" qx_F7 8 = [443, 445, 447, 449, 451, 453, 455, 457].filterMap (fun i => lw_tbl[i]?) := by decide +kernel
set_option maxRecDepth 100000 in
theorem qv_x8 : u_ws "OneRoof$Moment" qx_F8 13 = [487, 489, 491, 493, 495, 497, 499, 501, 503, 505, 507, 509, 511].filterMap (fun i => lw_tbl[i]?) := by decide +kernel
set_option maxRecDepth 100000 in
theorem qv_x9 : u_ws "OneRoof$Guests" qx_F9 8 = [528, 530, 532, 534, 536, 538, 540, 542].filterMap (fun i => lw_tbl[i]?) := by decide +kernel
set_option maxRecDepth 100000 in
theorem qv_x10 : u_ws "OneRoof$Telling" qx_F10 7 = [563, 565, 567, 569, 571, 573, 575].filterMap (fun i => lw_tbl[i]?) := by decide +kernel
set_option maxRecDepth 100000 in
theorem qv_x11 : u_ws "OneRoof$History" qx_F11 9 = [594, 596, 598, 600, 602, 604, 606, 608, 610].filterMap (fun i => lw_tbl[i]?) := by decide +kernel
set_option maxRecDepth 100000 in
theorem qv_x12 : u_ws "OneRoofModel" qx_F12 63 = [1321, 1323, 1325, 1327, 1329, 1331, 1333, 1335, 1337, 1339, 1341, 1343, 1345, 1347, 1349, 1351, 1353, 1355, 1357, 1359, 1361, 1363, 1365, 1367, 1369, 1371, 1373, 1375, 1377, 1379, 1381, 1383, 1385, 1387, 1389, 1391, 1393, 1395, 1397, 1399, 1401, 1403, 1405, 1407, 1409, 1411, 1413, 1415, 1417, 1419, 1421, 1423, 1425, 1427, 1429, 1431, 1433, 1435, 1437, 1439, 1441, 1443, 1445].filterMap (fun i => lw_tbl[i]?) := by decide +kernel
theorem qv_fm {ws : List Cond} {is : List Nat} (h : ws = is.filterMap (fun i => lw_tbl[i]?)) : ∀ w ∈ ws, w ∈ lw_tbl := by
  intro w hw
  rw [h] at hw
  obtain ⟨i, -, hi⟩ := List.mem_filterMap.mp hw
  exact List.mem_of_getElem? hi
theorem qv_cls : ∀ (ci : Nat) (r : vw_C), qx_cl[ci]? = some r → r.2.1 = qx_T ci ∧ (∀ w ∈ u_ws r.1 r.2.1 r.2.2, w ∈ lw_tbl) ∧ (∀ k, k < r.2.2 → parseFieldDescriptor (r.2.1 k).2.2.1 = some (qx_ty ci k)) ∧ (∀ a, a < r.2.2 → ∀ b, b < r.2.2 → a ≠ b → (r.2.1 a).2.1 ≠ (r.2.1 b).2.1)
  | 0, r, h => by cases h; exact ⟨rfl, qv_fm qv_x0, by decide +kernel, by decide +kernel⟩
  | 1, r, h => by cases h; exact ⟨rfl, qv_fm qv_x1, by decide +kernel, by decide +kernel⟩
  | 2, r, h => by cases h; exact ⟨rfl, qv_fm qv_x2, by decide +kernel, by decide +kernel⟩
  | 3, r, h => by cases h; exact ⟨rfl, qv_fm qv_x3, by decide +kernel, by decide +kernel⟩
  | 4, r, h => by cases h; exact ⟨rfl, qv_fm qv_x4, by decide +kernel, by decide +kernel⟩
  | 5, r, h => by cases h; exact ⟨rfl, qv_fm qv_x5, by decide +kernel, by decide +kernel⟩
  | 6, r, h => by cases h; exact ⟨rfl, qv_fm qv_x6, by decide +kernel, by decide +kernel⟩
  | 7, r, h => by cases h; exact ⟨rfl, qv_fm qv_x7, by decide +kernel, by decide +kernel⟩
  | 8, r, h => by cases h; exact ⟨rfl, qv_fm qv_x8, by decide +kernel, by decide +kernel⟩
  | 9, r, h => by cases h; exact ⟨rfl, qv_fm qv_x9, by decide +kernel, by decide +kernel⟩
  | 10, r, h => by cases h; exact ⟨rfl, qv_fm qv_x10, by decide +kernel, by decide +kernel⟩
  | 11, r, h => by cases h; exact ⟨rfl, qv_fm qv_x11, by decide +kernel, by decide +kernel⟩
  | 12, r, h => by cases h; exact ⟨rfl, qv_fm qv_x12, by decide +kernel, by decide +kernel⟩
  | n + 13, r, h => by cases h
end
section
/-! stepping the small machine, in whole numbers. qz z is the int of z, ql z the long; qr_ rows: an instruction, a row; the first argument is the next place. -/
def qz (z : Int) : Int32 := Int32.ofInt z
def ql (z : Int) : Int64 := Int64.ofInt z
def qzf (f : Nat → Int) : Nat → Int32 := fun k => qz (f k)
def qlf (f : Nat → Int) : Nat → Int64 := fun k => ql (f k)
def qzu (f : Nat → Int) (j : Nat) (v : Int) : Nat → Int := fun k => if k = j then v else f k
theorem qz_of (x : Int32) : x = qz x.toInt := (Int32.ofInt_toInt x).symm
theorem ql_of (x : Int64) : x = ql x.toInt := (Int64.ofInt_toInt x).symm
theorem qz_rng (x : Int32) : -2147483648 ≤ x.toInt ∧ x.toInt ≤ 2147483647 := by have h1 := Int32.le_toInt x; have h2 := Int32.toInt_lt x; omega
theorem ql_rng (x : Int64) : -9223372036854775808 ≤ x.toInt ∧ x.toInt ≤ 9223372036854775807 := by have h1 := Int64.le_toInt x; have h2 := Int64.toInt_lt x; omega
theorem qz_ti {z : Int} (h : -2147483648 ≤ z ∧ z ≤ 2147483647) : (qz z).toInt = z := by
  unfold qz
  exact Int32.toInt_ofInt_of_le (by omega) (by omega)
theorem ql_ti {z : Int} (h : -9223372036854775808 ≤ z ∧ z ≤ 9223372036854775807) : (ql z).toInt = z := by
  unfold ql
  exact Int64.toInt_ofInt_of_le (by omega) (by omega)
theorem qz_add (a b : Int) : qz a + qz b = qz (a + b) := (Int32.ofInt_add a b).symm
theorem qz_mul (a b : Int) : qz a * qz b = qz (a * b) := (Int32.ofInt_mul a b).symm
theorem qz_sub (a b : Int) : qz a - qz b = qz (a - b) := (Int32.ofInt_sub a b).symm
theorem qz_neg (a : Int) : - qz a = qz (-a) := (Int32.ofInt_neg a).symm
theorem ql_add (a b : Int) : ql a + ql b = ql (a + b) := (Int64.ofInt_add a b).symm
theorem ql_mul (a b : Int) : ql a * ql b = ql (a * b) := (Int64.ofInt_mul a b).symm
theorem ql_sub (a b : Int) : ql a - ql b = ql (a - b) := (Int64.ofInt_sub a b).symm
theorem qz_lt {a b : Int} (ra : -2147483648 ≤ a ∧ a ≤ 2147483647) (rb : -2147483648 ≤ b ∧ b ≤ 2147483647) : qz a < qz b ↔ a < b := by rw [Int32.lt_iff_toInt_lt, qz_ti ra, qz_ti rb]
theorem qz_le {a b : Int} (ra : -2147483648 ≤ a ∧ a ≤ 2147483647) (rb : -2147483648 ≤ b ∧ b ≤ 2147483647) : qz a ≤ qz b ↔ a ≤ b := by rw [Int32.le_iff_toInt_le, qz_ti ra, qz_ti rb]
theorem qz_eq {a b : Int} (ra : -2147483648 ≤ a ∧ a ≤ 2147483647) (rb : -2147483648 ≤ b ∧ b ≤ 2147483647) : qz a = qz b ↔ a = b := ⟨fun h => by rw [← qz_ti ra, ← qz_ti rb, h], fun h => by rw [h]⟩
theorem ql_lt {a b : Int} (ra : -9223372036854775808 ≤ a ∧ a ≤ 9223372036854775807) (rb : -9223372036854775808 ≤ b ∧ b ≤ 9223372036854775807) : ql a < ql b ↔ a < b := by rw [Int64.lt_iff_toInt_lt, ql_ti ra, ql_ti rb]
theorem ql_eq {a b : Int} (ra : -9223372036854775808 ≤ a ∧ a ≤ 9223372036854775807) (rb : -9223372036854775808 ≤ b ∧ b ≤ 9223372036854775807) : ql a = ql b ↔ a = b := ⟨fun h => by rw [← ql_ti ra, ← ql_ti rb, h], fun h => by rw [h]⟩
theorem qz_clamp {z : Int} (h : 0 ≤ z ∧ z ≤ 2147483647) : (qz z).toNatClampNeg = z.toNat := by
  show (qz z).toInt.toNat = z.toNat
  rw [qz_ti (by omega)]
theorem qz_nat (n : Nat) : Int32.ofNat n = qz n := (Int32.ofInt_eq_ofNat (n := n)).symm
theorem qz_i2l {z : Int} (h : -2147483648 ≤ z ∧ z ≤ 2147483647) : (qz z).toInt64 = ql z := by
  rw [ql_of (qz z).toInt64, Int32.toInt_toInt64, qz_ti h]
theorem qz_l2i (z : Int) : (ql z).toInt32 = qz z := by
  unfold ql qz
  exact Int64.toInt32_ofInt
theorem qz_div {a b : Int} (ra : 0 ≤ a ∧ a ≤ 2147483647) (rb : 0 < b ∧ b ≤ 2147483647) : qz a / qz b = qz (a / b) := by
  rw [qz_of (qz a / qz b), Int32.toInt_div, qz_ti (by omega), qz_ti (by omega), Int.tdiv_eq_ediv_of_nonneg ra.1]
  congr 1
  have h1 : 0 ≤ a / b := Int.ediv_nonneg ra.1 (by omega)
  have h2 : a / b ≤ a := Int.ediv_le_self _ ra.1
  exact Int.bmod_eq_of_le (by omega) (by omega)
theorem qz_rem {a b : Int} (ra : 0 ≤ a ∧ a ≤ 2147483647) (rb : 0 < b ∧ b ≤ 2147483647) : qz a - qz a / qz b * qz b = qz (a % b) := by
  rw [qz_div ra rb, qz_mul, qz_sub]
  congr 1
  have := Int.mul_ediv_add_emod a b
  rw [Int.mul_comm] at this
  omega
theorem qz_u (f : Nat → Int) (j : Nat) (v : Int) : upd (qzf f) j (qz v) = qzf (qzu f j v) := by
  funext k
  unfold upd qzf qzu
  split <;> rfl
theorem ql_u (f : Nat → Int) (j : Nat) (v : Int) : vp_updL (qlf f) j (ql v) = qlf (qzu f j v) := by
  funext k
  unfold vp_updL qlf qzu
  split <;> rfl
theorem qz_cpy (f g : Nat → Int) (a b n : Nat) : va_cpy (qzf f) (qzf g) a b n = qzf (va_cpy f g a b n) := by
  funext k
  unfold va_cpy qzf
  by_cases h : b ≤ k ∧ k < b + n <;> simp [h]
theorem ql_cpy (f g : Nat → Int) (a b n : Nat) : va_cpy (qlf f) (qlf g) a b n = qlf (va_cpy f g a b n) := by
  funext k
  unfold va_cpy qlf
  by_cases h : b ≤ k ∧ k < b + n <;> simp [h]
def qz_and (a b : Int) : Int := (qz a &&& qz b).toInt
def qz_or (a b : Int) : Int := (qz a ||| qz b).toInt
def qz_xor (a b : Int) : Int := (qz a ^^^ qz b).toInt
def qz_shl (a b : Int) : Int := (qz a <<< (qz b &&& 31)).toInt
def qz_shr (a b : Int) : Int := (qz a >>> (qz b &&& 31)).toInt
def qz_ushr (a b : Int) : Int := ((qz a).toUInt32 >>> ((qz b).toUInt32 &&& Int32.toUInt32 31)).toInt32.toInt
def qz_tdiv (a b : Int) : Int := (qz a / qz b).toInt
def qz_trem (a b : Int) : Int := (qz a - qz a / qz b * qz b).toInt
def qz_i2b (a : Int) : Int := (qz a).toInt8.toInt32.toInt
def qz_i2s (a : Int) : Int := (qz a).toInt16.toInt32.toInt
def qz_i2c (a : Int) : Int := ((qz a).toUInt32 % 65536).toInt32.toInt
def ql_and (a b : Int) : Int := (ql a &&& ql b).toInt
def ql_or (a b : Int) : Int := (ql a ||| ql b).toInt
def ql_xor (a b : Int) : Int := (ql a ^^^ ql b).toInt
def ql_shl (a b : Int) : Int := (ql a <<< ((qz b).toInt64 &&& 63)).toInt
def ql_shr (a b : Int) : Int := (ql a >>> ((qz b).toInt64 &&& 63)).toInt
def ql_ushr (a b : Int) : Int := ((ql a).toUInt64 >>> ((qz b).toInt64.toUInt64 &&& Int64.toUInt64 63)).toInt64.toInt
abbrev qr_W (X : qm_X) (d : Nat) (x : qs_Ent) (Q : Option Value → qm_W → Prop) (s : qm_S) : Prop := qm_wp (qm_T X d) qm_bud X (qm_M1 x) x.2.2.2.2.2.2.2 Q s
theorem qr_start {X : qm_X} {d k : Nat} {x : qs_Ent} {as : List Value} {w : qm_W} {Q : Option Value → qm_W → Prop} (he : qm_ent k = some x) (hl : (lg_sl as).length ≤ x.2.2.2.1) (h : qr_W X d x Q (0, lv_args 0 as, [], w, 0, 0)) : qm_T X (d + 1) k as w Q := by
  unfold qm_T
  rw [he]
  exact ⟨hl, h⟩
theorem qr_mono {X : qm_X} {d k : Nat} {as : List Value} {w : qm_W} {Q Q' : Option Value → qm_W → Prop} (h : qm_T X d k as w Q) (hQ : ∀ r w', Q r w' → Q' r w') : qm_T X d k as w Q' := qm_T_mono X d k as w Q Q' hQ h
section QR
variable {X : qm_X} {d : Nat} {x : qs_Ent} {Q : Option Value → qm_W → Prop} {pc : Nat} {ls : qm_L} {st : List Value} {w : qm_W} {c n r1 r2 r3 : Nat} {rv : Value}
theorem qr_eff {s' : qm_S} {q : qm_I} (hq : qm_fetch x.2.2.2.2.2.2.2 pc = some q) (hc : qm_call X q st w = none) (hr : qm_retn (qm_M1 x) q st = none) (he : qm_eff X qx_T (qm_M1 x) q ls st w c n = some s') (k : qr_W X d x Q s') : qr_W X d x Q (pc, ls, st, w, c, n) := by
  refine qm_wp_go (qm_T_mono X d) ?_
  unfold qm_step
  simp only [hq, hc, hr, he]
  exact k
theorem qr_iconst {z : Int} (p : Nat) (hq : qm_fetch x.2.2.2.2.2.2.2 pc = some (pc, .iconst z, 1, r1, r2, r3, rv)) (hp : pc + 1 = p) (k : qr_W X d x Q (p, ls, .int (qz z) :: st, w, c, n)) : qr_W X d x Q (pc, ls, st, w, c, n) := by
  subst hp
  refine qr_eff hq rfl rfl (s' := (pc + 1, ls, .int (qz z) :: st, w, c, n)) ?_ k
  rfl
theorem qr_bipush {z : Int} (p : Nat) (hq : qm_fetch x.2.2.2.2.2.2.2 pc = some (pc, .bipush z, 2, r1, r2, r3, rv)) (hz : -128 ≤ z ∧ z ≤ 127) (hp : pc + 2 = p) (k : qr_W X d x Q (p, ls, .int (qz z) :: st, w, c, n)) : qr_W X d x Q (pc, ls, st, w, c, n) := by
  subst hp
  refine qr_eff hq rfl rfl (s' := (pc + 2, ls, .int (qz z) :: st, w, c, n)) ?_ k
  have e : (Int8.ofInt z).toInt32 = qz z := by
    rw [qz_of (Int8.ofInt z).toInt32, Int8.toInt_toInt32, Int8.toInt_ofInt_of_le (by omega) (by omega)]
  show some (pc + 2, ls, Value.int (Int8.ofInt z).toInt32 :: st, w, c, n) = _
  rw [e]
theorem qr_sipush {z : Int} (p : Nat) (hq : qm_fetch x.2.2.2.2.2.2.2 pc = some (pc, .sipush z, 3, r1, r2, r3, rv)) (hz : -32768 ≤ z ∧ z ≤ 32767) (hp : pc + 3 = p) (k : qr_W X d x Q (p, ls, .int (qz z) :: st, w, c, n)) : qr_W X d x Q (pc, ls, st, w, c, n) := by
  subst hp
  refine qr_eff hq rfl rfl (s' := (pc + 3, ls, .int (qz z) :: st, w, c, n)) ?_ k
  have e : (Int16.ofInt z).toInt32 = qz z := by
    rw [qz_of (Int16.ofInt z).toInt32, Int16.toInt_toInt32, Int16.toInt_ofInt_of_le (by omega) (by omega)]
  show some (pc + 3, ls, Value.int (Int16.ofInt z).toInt32 :: st, w, c, n) = _
  rw [e]
theorem qr_lconst {z : Fin 2} (p : Nat) (hq : qm_fetch x.2.2.2.2.2.2.2 pc = some (pc, .lconst z, 1, r1, r2, r3, rv)) (hp : pc + 1 = p) (k : qr_W X d x Q (p, ls, .long (ql ((z : Nat) : Int)) :: st, w, c, n)) : qr_W X d x Q (pc, ls, st, w, c, n) := by
  subst hp
  refine qr_eff hq rfl rfl (s' := (pc + 1, ls, .long (ql ((z : Nat) : Int)) :: st, w, c, n)) ?_ k
  show some (pc + 1, ls, Value.long (Int64.ofNat (z : Nat)) :: st, w, c, n) = _
  rw [show Int64.ofNat (z : Nat) = ql ((z : Nat) : Int) from (Int64.ofInt_eq_ofNat (n := (z : Nat))).symm]
theorem qr_ldc {z : Nat} (y : Int) (p : Nat) (hq : qm_fetch x.2.2.2.2.2.2.2 pc = some (pc, .ldc z, 2, r1, r2, 0, rv)) (hv : rv = .int (qz y)) (hp : pc + 2 = p) (k : qr_W X d x Q (p, ls, .int (qz y) :: st, w, c, n)) : qr_W X d x Q (pc, ls, st, w, c, n) := by
  subst hp
  subst hv
  exact qr_eff hq rfl rfl (s' := (pc + 2, ls, .int (qz y) :: st, w, c, n)) rfl k
theorem qr_ldcw {z : Nat} (y : Int) (p : Nat) (hq : qm_fetch x.2.2.2.2.2.2.2 pc = some (pc, .ldc_w z, 3, r1, r2, 0, rv)) (hv : rv = .int (qz y)) (hp : pc + 3 = p) (k : qr_W X d x Q (p, ls, .int (qz y) :: st, w, c, n)) : qr_W X d x Q (pc, ls, st, w, c, n) := by
  subst hp
  subst hv
  exact qr_eff hq rfl rfl (s' := (pc + 3, ls, .int (qz y) :: st, w, c, n)) rfl k
theorem qr_ldcs {z a : Nat} (p : Nat) (hq : qm_fetch x.2.2.2.2.2.2.2 pc = some (pc, .ldc z, 2, r1, r2, 1, .ref a)) (hp : pc + 2 = p) (k : qr_W X d x Q (p, ls, .ref a :: st, w, c, n)) : qr_W X d x Q (pc, ls, st, w, c, n) := by
  subst hp
  exact qr_eff hq rfl rfl (s' := (pc + 2, ls, .ref a :: st, w, c, n)) rfl k
theorem qr_ldc2 {z : Nat} (y : Int) (p : Nat) (hq : qm_fetch x.2.2.2.2.2.2.2 pc = some (pc, .ldc2_w z, 3, r1, r2, 2, rv)) (hv : rv = .long (ql y)) (hp : pc + 3 = p) (k : qr_W X d x Q (p, ls, .long (ql y) :: st, w, c, n)) : qr_W X d x Q (pc, ls, st, w, c, n) := by
  subst hp
  subst hv
  exact qr_eff hq rfl rfl (s' := (pc + 3, ls, .long (ql y) :: st, w, c, n)) rfl k
theorem qr_iload_n {z : Fin 4} {y : Int32} (p : Nat) (hq : qm_fetch x.2.2.2.2.2.2.2 pc = some (pc, .iload_n z, 1, r1, r2, r3, rv)) (hg : qm_get ls (z : Nat) = some (.int y)) (hp : pc + 1 = p) (k : qr_W X d x Q (p, ls, .int y :: st, w, c, n)) : qr_W X d x Q (pc, ls, st, w, c, n) := by
  subst hp
  refine qr_eff hq rfl rfl (s' := (pc + 1, ls, .int y :: st, w, c, n)) ?_ k
  simp only [qm_eff, hg, if_true, qm_go]
theorem qr_iload {z : Nat} {y : Int32} (p : Nat) (hq : qm_fetch x.2.2.2.2.2.2.2 pc = some (pc, .iload z, 2, r1, r2, r3, rv)) (hg : qm_get ls z = some (.int y)) (hp : pc + 2 = p) (k : qr_W X d x Q (p, ls, .int y :: st, w, c, n)) : qr_W X d x Q (pc, ls, st, w, c, n) := by
  subst hp
  refine qr_eff hq rfl rfl (s' := (pc + 2, ls, .int y :: st, w, c, n)) ?_ k
  simp only [qm_eff, hg, if_true, qm_go]
theorem qr_lload_n {z : Fin 4} {y : Int64} (p : Nat) (hq : qm_fetch x.2.2.2.2.2.2.2 pc = some (pc, .lload_n z, 1, r1, r2, r3, rv)) (hg : qm_get ls (z : Nat) = some (.long y)) (hp : pc + 1 = p) (k : qr_W X d x Q (p, ls, .long y :: st, w, c, n)) : qr_W X d x Q (pc, ls, st, w, c, n) := by
  subst hp
  refine qr_eff hq rfl rfl (s' := (pc + 1, ls, .long y :: st, w, c, n)) ?_ k
  simp only [qm_eff, hg, if_true, qm_go]
theorem qr_lload {z : Nat} {y : Int64} (p : Nat) (hq : qm_fetch x.2.2.2.2.2.2.2 pc = some (pc, .lload z, 2, r1, r2, r3, rv)) (hg : qm_get ls z = some (.long y)) (hp : pc + 2 = p) (k : qr_W X d x Q (p, ls, .long y :: st, w, c, n)) : qr_W X d x Q (pc, ls, st, w, c, n) := by
  subst hp
  refine qr_eff hq rfl rfl (s' := (pc + 2, ls, .long y :: st, w, c, n)) ?_ k
  simp only [qm_eff, hg, if_true, qm_go]
theorem qr_aload_n {z : Fin 4} {y : Nat} (p : Nat) (hq : qm_fetch x.2.2.2.2.2.2.2 pc = some (pc, .aload_n z, 1, r1, r2, r3, rv)) (hg : qm_get ls (z : Nat) = some (.ref y)) (hp : pc + 1 = p) (k : qr_W X d x Q (p, ls, .ref y :: st, w, c, n)) : qr_W X d x Q (pc, ls, st, w, c, n) := by
  subst hp
  refine qr_eff hq rfl rfl (s' := (pc + 1, ls, .ref y :: st, w, c, n)) ?_ k
  simp only [qm_eff, hg, if_true, qm_go]
theorem qr_aload {z : Nat} {y : Nat} (p : Nat) (hq : qm_fetch x.2.2.2.2.2.2.2 pc = some (pc, .aload z, 2, r1, r2, r3, rv)) (hg : qm_get ls z = some (.ref y)) (hp : pc + 2 = p) (k : qr_W X d x Q (p, ls, .ref y :: st, w, c, n)) : qr_W X d x Q (pc, ls, st, w, c, n) := by
  subst hp
  refine qr_eff hq rfl rfl (s' := (pc + 2, ls, .ref y :: st, w, c, n)) ?_ k
  simp only [qm_eff, hg, if_true, qm_go]
theorem qr_istore_n {z : Fin 4} {y : Int32} (ls' : qm_L) (p : Nat) (hq : qm_fetch x.2.2.2.2.2.2.2 pc = some (pc, .istore_n z, 1, r1, r2, r3, rv)) (hz : (z : Nat) < x.2.2.2.1) (hl : qm_put1 ls (z : Nat) (.int y) = ls') (hp : pc + 1 = p) (k : qr_W X d x Q (p, ls', st, w, c, n)) : qr_W X d x Q (pc, ls, .int y :: st, w, c, n) := by
  subst hp
  subst hl
  exact qr_eff hq rfl rfl (s' := (pc + 1, qm_put1 ls (z : Nat) (.int y), st, w, c, n)) (if_pos ⟨rfl, hz⟩) k
theorem qr_istore {z : Nat} {y : Int32} (ls' : qm_L) (p : Nat) (hq : qm_fetch x.2.2.2.2.2.2.2 pc = some (pc, .istore z, 2, r1, r2, r3, rv)) (hz : z < x.2.2.2.1) (hl : qm_put1 ls z (.int y) = ls') (hp : pc + 2 = p) (k : qr_W X d x Q (p, ls', st, w, c, n)) : qr_W X d x Q (pc, ls, .int y :: st, w, c, n) := by
  subst hp
  subst hl
  exact qr_eff hq rfl rfl (s' := (pc + 2, qm_put1 ls z (.int y), st, w, c, n)) (if_pos ⟨rfl, hz⟩) k
theorem qr_astore_n {z : Fin 4} {y : Nat} (ls' : qm_L) (p : Nat) (hq : qm_fetch x.2.2.2.2.2.2.2 pc = some (pc, .astore_n z, 1, r1, r2, r3, rv)) (hz : (z : Nat) < x.2.2.2.1) (hl : qm_put1 ls (z : Nat) (.ref y) = ls') (hp : pc + 1 = p) (k : qr_W X d x Q (p, ls', st, w, c, n)) : qr_W X d x Q (pc, ls, .ref y :: st, w, c, n) := by
  subst hp
  subst hl
  exact qr_eff hq rfl rfl (s' := (pc + 1, qm_put1 ls (z : Nat) (.ref y), st, w, c, n)) (if_pos ⟨rfl, hz⟩) k
theorem qr_astore {z : Nat} {y : Nat} (ls' : qm_L) (p : Nat) (hq : qm_fetch x.2.2.2.2.2.2.2 pc = some (pc, .astore z, 2, r1, r2, r3, rv)) (hz : z < x.2.2.2.1) (hl : qm_put1 ls z (.ref y) = ls') (hp : pc + 2 = p) (k : qr_W X d x Q (p, ls', st, w, c, n)) : qr_W X d x Q (pc, ls, .ref y :: st, w, c, n) := by
  subst hp
  subst hl
  exact qr_eff hq rfl rfl (s' := (pc + 2, qm_put1 ls z (.ref y), st, w, c, n)) (if_pos ⟨rfl, hz⟩) k
theorem qr_lstore_n {z : Fin 4} {y : Int64} (ls' : qm_L) (p : Nat) (hq : qm_fetch x.2.2.2.2.2.2.2 pc = some (pc, .lstore_n z, 1, r1, r2, r3, rv)) (hz : (z : Nat) + 1 < x.2.2.2.1) (hl : qm_put2 ls (z : Nat) (.long y) = ls') (hp : pc + 1 = p) (k : qr_W X d x Q (p, ls', st, w, c, n)) : qr_W X d x Q (pc, ls, .long y :: st, w, c, n) := by
  subst hp
  subst hl
  exact qr_eff hq rfl rfl (s' := (pc + 1, qm_put2 ls (z : Nat) (.long y), st, w, c, n)) (if_pos ⟨rfl, hz⟩) k
theorem qr_lstore {z : Nat} {y : Int64} (ls' : qm_L) (p : Nat) (hq : qm_fetch x.2.2.2.2.2.2.2 pc = some (pc, .lstore z, 2, r1, r2, r3, rv)) (hz : z + 1 < x.2.2.2.1) (hl : qm_put2 ls z (.long y) = ls') (hp : pc + 2 = p) (k : qr_W X d x Q (p, ls', st, w, c, n)) : qr_W X d x Q (pc, ls, .long y :: st, w, c, n) := by
  subst hp
  subst hl
  exact qr_eff hq rfl rfl (s' := (pc + 2, qm_put2 ls z (.long y), st, w, c, n)) (if_pos ⟨rfl, hz⟩) k
theorem qr_iinc {z : Nat} {v y : Int} (ls' : qm_L) (p : Nat) (hq : qm_fetch x.2.2.2.2.2.2.2 pc = some (pc, .iinc z v, 3, r1, r2, r3, rv)) (hg : qm_get ls z = some (.int (qz y))) (hz : z < x.2.2.2.1) (hl : qm_put1 ls z (.int (qz (y + v))) = ls') (hp : pc + 3 = p) (k : qr_W X d x Q (p, ls', st, w, c, n)) : qr_W X d x Q (pc, ls, st, w, c, n) := by
  subst hp
  subst hl
  refine qr_eff hq rfl rfl (s' := (pc + 3, qm_put1 ls z (.int (qz (y + v))), st, w, c, n)) ?_ k
  simp only [qm_eff, hg]
  rw [if_pos ⟨(by first | rfl | trivial), hz⟩]
  show qm_go (pc + 3) (qm_put1 ls z (.int (qz y + qz v))) st w c n = _
  rw [qz_add]
  rfl
theorem qr_iadd {a b : Int} (p : Nat) (hq : qm_fetch x.2.2.2.2.2.2.2 pc = some (pc, .iadd, 1, r1, r2, r3, rv)) (hp : pc + 1 = p) (k : qr_W X d x Q (p, ls, .int (qz (a + b)) :: st, w, c, n)) : qr_W X d x Q (pc, ls, .int (qz b) :: .int (qz a) :: st, w, c, n) := by
  subst hp
  refine qr_eff hq rfl rfl (s' := (pc + 1, ls, .int (qz (a + b)) :: st, w, c, n)) ?_ k
  show some (pc + 1, ls, Value.int (qz a + qz b) :: st, w, c, n) = _
  rw [qz_add]
theorem qr_isub {a b : Int} (p : Nat) (hq : qm_fetch x.2.2.2.2.2.2.2 pc = some (pc, .isub, 1, r1, r2, r3, rv)) (hp : pc + 1 = p) (k : qr_W X d x Q (p, ls, .int (qz (a - b)) :: st, w, c, n)) : qr_W X d x Q (pc, ls, .int (qz b) :: .int (qz a) :: st, w, c, n) := by
  subst hp
  refine qr_eff hq rfl rfl (s' := (pc + 1, ls, .int (qz (a - b)) :: st, w, c, n)) ?_ k
  show some (pc + 1, ls, Value.int (qz a - qz b) :: st, w, c, n) = _
  rw [qz_sub]
theorem qr_imul {a b : Int} (p : Nat) (hq : qm_fetch x.2.2.2.2.2.2.2 pc = some (pc, .imul, 1, r1, r2, r3, rv)) (hp : pc + 1 = p) (k : qr_W X d x Q (p, ls, .int (qz (a * b)) :: st, w, c, n)) : qr_W X d x Q (pc, ls, .int (qz b) :: .int (qz a) :: st, w, c, n) := by
  subst hp
  refine qr_eff hq rfl rfl (s' := (pc + 1, ls, .int (qz (a * b)) :: st, w, c, n)) ?_ k
  show some (pc + 1, ls, Value.int (qz a * qz b) :: st, w, c, n) = _
  rw [qz_mul]
theorem qr_iand {a b : Int} (p : Nat) (hq : qm_fetch x.2.2.2.2.2.2.2 pc = some (pc, .iand, 1, r1, r2, r3, rv)) (hp : pc + 1 = p) (k : qr_W X d x Q (p, ls, .int (qz (qz_and a b)) :: st, w, c, n)) : qr_W X d x Q (pc, ls, .int (qz b) :: .int (qz a) :: st, w, c, n) := by
  subst hp
  refine qr_eff hq rfl rfl (s' := (pc + 1, ls, .int (qz (qz_and a b)) :: st, w, c, n)) ?_ k
  show some (pc + 1, ls, Value.int (qz a &&& qz b) :: st, w, c, n) = _
  rw [show qz a &&& qz b = qz (qz_and a b) from qz_of _]
theorem qr_ior {a b : Int} (p : Nat) (hq : qm_fetch x.2.2.2.2.2.2.2 pc = some (pc, .ior, 1, r1, r2, r3, rv)) (hp : pc + 1 = p) (k : qr_W X d x Q (p, ls, .int (qz (qz_or a b)) :: st, w, c, n)) : qr_W X d x Q (pc, ls, .int (qz b) :: .int (qz a) :: st, w, c, n) := by
  subst hp
  refine qr_eff hq rfl rfl (s' := (pc + 1, ls, .int (qz (qz_or a b)) :: st, w, c, n)) ?_ k
  show some (pc + 1, ls, Value.int (qz a ||| qz b) :: st, w, c, n) = _
  rw [show qz a ||| qz b = qz (qz_or a b) from qz_of _]
theorem qr_ixor {a b : Int} (p : Nat) (hq : qm_fetch x.2.2.2.2.2.2.2 pc = some (pc, .ixor, 1, r1, r2, r3, rv)) (hp : pc + 1 = p) (k : qr_W X d x Q (p, ls, .int (qz (qz_xor a b)) :: st, w, c, n)) : qr_W X d x Q (pc, ls, .int (qz b) :: .int (qz a) :: st, w, c, n) := by
  subst hp
  refine qr_eff hq rfl rfl (s' := (pc + 1, ls, .int (qz (qz_xor a b)) :: st, w, c, n)) ?_ k
  show some (pc + 1, ls, Value.int (qz a ^^^ qz b) :: st, w, c, n) = _
  rw [show qz a ^^^ qz b = qz (qz_xor a b) from qz_of _]
theorem qr_ishl {a b : Int} (p : Nat) (hq : qm_fetch x.2.2.2.2.2.2.2 pc = some (pc, .ishl, 1, r1, r2, r3, rv)) (hp : pc + 1 = p) (k : qr_W X d x Q (p, ls, .int (qz (qz_shl a b)) :: st, w, c, n)) : qr_W X d x Q (pc, ls, .int (qz b) :: .int (qz a) :: st, w, c, n) := by
  subst hp
  refine qr_eff hq rfl rfl (s' := (pc + 1, ls, .int (qz (qz_shl a b)) :: st, w, c, n)) ?_ k
  show some (pc + 1, ls, Value.int (qz a <<< (qz b &&& 31)) :: st, w, c, n) = _
  rw [show qz a <<< (qz b &&& 31) = qz (qz_shl a b) from qz_of _]
theorem qr_ishr {a b : Int} (p : Nat) (hq : qm_fetch x.2.2.2.2.2.2.2 pc = some (pc, .ishr, 1, r1, r2, r3, rv)) (hp : pc + 1 = p) (k : qr_W X d x Q (p, ls, .int (qz (qz_shr a b)) :: st, w, c, n)) : qr_W X d x Q (pc, ls, .int (qz b) :: .int (qz a) :: st, w, c, n) := by
  subst hp
  refine qr_eff hq rfl rfl (s' := (pc + 1, ls, .int (qz (qz_shr a b)) :: st, w, c, n)) ?_ k
  show some (pc + 1, ls, Value.int (qz a >>> (qz b &&& 31)) :: st, w, c, n) = _
  rw [show qz a >>> (qz b &&& 31) = qz (qz_shr a b) from qz_of _]
theorem qr_iushr {a b : Int} (p : Nat) (hq : qm_fetch x.2.2.2.2.2.2.2 pc = some (pc, .iushr, 1, r1, r2, r3, rv)) (hp : pc + 1 = p) (k : qr_W X d x Q (p, ls, .int (qz (qz_ushr a b)) :: st, w, c, n)) : qr_W X d x Q (pc, ls, .int (qz b) :: .int (qz a) :: st, w, c, n) := by
  subst hp
  refine qr_eff hq rfl rfl (s' := (pc + 1, ls, .int (qz (qz_ushr a b)) :: st, w, c, n)) ?_ k
  show some (pc + 1, ls, Value.int (((qz a).toUInt32 >>> ((qz b).toUInt32 &&& Int32.toUInt32 31)).toInt32) :: st, w, c, n) = _
  rw [show ((qz a).toUInt32 >>> ((qz b).toUInt32 &&& Int32.toUInt32 31)).toInt32 = qz (qz_ushr a b) from qz_of _]
theorem qr_ladd {a b : Int} (p : Nat) (hq : qm_fetch x.2.2.2.2.2.2.2 pc = some (pc, .ladd, 1, r1, r2, r3, rv)) (hp : pc + 1 = p) (k : qr_W X d x Q (p, ls, .long (ql (a + b)) :: st, w, c, n)) : qr_W X d x Q (pc, ls, .long (ql b) :: .long (ql a) :: st, w, c, n) := by
  subst hp
  refine qr_eff hq rfl rfl (s' := (pc + 1, ls, .long (ql (a + b)) :: st, w, c, n)) ?_ k
  show some (pc + 1, ls, Value.long (ql a + ql b) :: st, w, c, n) = _
  rw [ql_add]
theorem qr_lsub {a b : Int} (p : Nat) (hq : qm_fetch x.2.2.2.2.2.2.2 pc = some (pc, .lsub, 1, r1, r2, r3, rv)) (hp : pc + 1 = p) (k : qr_W X d x Q (p, ls, .long (ql (a - b)) :: st, w, c, n)) : qr_W X d x Q (pc, ls, .long (ql b) :: .long (ql a) :: st, w, c, n) := by
  subst hp
  refine qr_eff hq rfl rfl (s' := (pc + 1, ls, .long (ql (a - b)) :: st, w, c, n)) ?_ k
  show some (pc + 1, ls, Value.long (ql a - ql b) :: st, w, c, n) = _
  rw [ql_sub]
theorem qr_lmul {a b : Int} (p : Nat) (hq : qm_fetch x.2.2.2.2.2.2.2 pc = some (pc, .lmul, 1, r1, r2, r3, rv)) (hp : pc + 1 = p) (k : qr_W X d x Q (p, ls, .long (ql (a * b)) :: st, w, c, n)) : qr_W X d x Q (pc, ls, .long (ql b) :: .long (ql a) :: st, w, c, n) := by
  subst hp
  refine qr_eff hq rfl rfl (s' := (pc + 1, ls, .long (ql (a * b)) :: st, w, c, n)) ?_ k
  show some (pc + 1, ls, Value.long (ql a * ql b) :: st, w, c, n) = _
  rw [ql_mul]
theorem qr_land {a b : Int} (p : Nat) (hq : qm_fetch x.2.2.2.2.2.2.2 pc = some (pc, .land, 1, r1, r2, r3, rv)) (hp : pc + 1 = p) (k : qr_W X d x Q (p, ls, .long (ql (ql_and a b)) :: st, w, c, n)) : qr_W X d x Q (pc, ls, .long (ql b) :: .long (ql a) :: st, w, c, n) := by
  subst hp
  refine qr_eff hq rfl rfl (s' := (pc + 1, ls, .long (ql (ql_and a b)) :: st, w, c, n)) ?_ k
  show some (pc + 1, ls, Value.long (ql a &&& ql b) :: st, w, c, n) = _
  rw [show ql a &&& ql b = ql (ql_and a b) from ql_of _]
theorem qr_lor {a b : Int} (p : Nat) (hq : qm_fetch x.2.2.2.2.2.2.2 pc = some (pc, .lor, 1, r1, r2, r3, rv)) (hp : pc + 1 = p) (k : qr_W X d x Q (p, ls, .long (ql (ql_or a b)) :: st, w, c, n)) : qr_W X d x Q (pc, ls, .long (ql b) :: .long (ql a) :: st, w, c, n) := by
  subst hp
  refine qr_eff hq rfl rfl (s' := (pc + 1, ls, .long (ql (ql_or a b)) :: st, w, c, n)) ?_ k
  show some (pc + 1, ls, Value.long (ql a ||| ql b) :: st, w, c, n) = _
  rw [show ql a ||| ql b = ql (ql_or a b) from ql_of _]
theorem qr_lxor {a b : Int} (p : Nat) (hq : qm_fetch x.2.2.2.2.2.2.2 pc = some (pc, .lxor, 1, r1, r2, r3, rv)) (hp : pc + 1 = p) (k : qr_W X d x Q (p, ls, .long (ql (ql_xor a b)) :: st, w, c, n)) : qr_W X d x Q (pc, ls, .long (ql b) :: .long (ql a) :: st, w, c, n) := by
  subst hp
  refine qr_eff hq rfl rfl (s' := (pc + 1, ls, .long (ql (ql_xor a b)) :: st, w, c, n)) ?_ k
  show some (pc + 1, ls, Value.long (ql a ^^^ ql b) :: st, w, c, n) = _
  rw [show ql a ^^^ ql b = ql (ql_xor a b) from ql_of _]
theorem qr_lshl {a b : Int} (p : Nat) (hq : qm_fetch x.2.2.2.2.2.2.2 pc = some (pc, .lshl, 1, r1, r2, r3, rv)) (hp : pc + 1 = p) (k : qr_W X d x Q (p, ls, .long (ql (ql_shl a b)) :: st, w, c, n)) : qr_W X d x Q (pc, ls, .int (qz b) :: .long (ql a) :: st, w, c, n) := by
  subst hp
  refine qr_eff hq rfl rfl (s' := (pc + 1, ls, .long (ql (ql_shl a b)) :: st, w, c, n)) ?_ k
  show some (pc + 1, ls, Value.long (ql a <<< ((qz b).toInt64 &&& 63)) :: st, w, c, n) = _
  rw [show ql a <<< ((qz b).toInt64 &&& 63) = ql (ql_shl a b) from ql_of _]
theorem qr_lshr {a b : Int} (p : Nat) (hq : qm_fetch x.2.2.2.2.2.2.2 pc = some (pc, .lshr, 1, r1, r2, r3, rv)) (hp : pc + 1 = p) (k : qr_W X d x Q (p, ls, .long (ql (ql_shr a b)) :: st, w, c, n)) : qr_W X d x Q (pc, ls, .int (qz b) :: .long (ql a) :: st, w, c, n) := by
  subst hp
  refine qr_eff hq rfl rfl (s' := (pc + 1, ls, .long (ql (ql_shr a b)) :: st, w, c, n)) ?_ k
  show some (pc + 1, ls, Value.long (ql a >>> ((qz b).toInt64 &&& 63)) :: st, w, c, n) = _
  rw [show ql a >>> ((qz b).toInt64 &&& 63) = ql (ql_shr a b) from ql_of _]
theorem qr_lushr {a b : Int} (p : Nat) (hq : qm_fetch x.2.2.2.2.2.2.2 pc = some (pc, .lushr, 1, r1, r2, r3, rv)) (hp : pc + 1 = p) (k : qr_W X d x Q (p, ls, .long (ql (ql_ushr a b)) :: st, w, c, n)) : qr_W X d x Q (pc, ls, .int (qz b) :: .long (ql a) :: st, w, c, n) := by
  subst hp
  refine qr_eff hq rfl rfl (s' := (pc + 1, ls, .long (ql (ql_ushr a b)) :: st, w, c, n)) ?_ k
  show some (pc + 1, ls, Value.long (((ql a).toUInt64 >>> ((qz b).toInt64.toUInt64 &&& Int64.toUInt64 63)).toInt64) :: st, w, c, n) = _
  rw [show ((ql a).toUInt64 >>> ((qz b).toInt64.toUInt64 &&& Int64.toUInt64 63)).toInt64 = ql (ql_ushr a b) from ql_of _]
theorem qr_idiv {a b : Int} (p : Nat) (hq : qm_fetch x.2.2.2.2.2.2.2 pc = some (pc, .idiv, 1, r1, r2, r3, rv)) (ra : 0 ≤ a ∧ a ≤ 2147483647) (rb : 0 < b ∧ b ≤ 2147483647) (hp : pc + 1 = p) (k : qr_W X d x Q (p, ls, .int (qz (a / b)) :: st, w, c, n)) : qr_W X d x Q (pc, ls, .int (qz b) :: .int (qz a) :: st, w, c, n) := by
  subst hp
  refine qr_eff hq rfl rfl (s' := (pc + 1, ls, .int (qz (a / b)) :: st, w, c, n)) ?_ k
  have hne : ¬ qz b = 0 := fun h => by
    have := (qz_eq (a := b) (b := 0) (by omega) (by omega)).mp h
    omega
  refine (if_pos ⟨rfl, hne⟩).trans ?_
  show some (pc + 1, ls, Value.int (qz a / qz b) :: st, w, c, n) = _
  rw [qz_div ra rb]
theorem qr_irem {a b : Int} (p : Nat) (hq : qm_fetch x.2.2.2.2.2.2.2 pc = some (pc, .irem, 1, r1, r2, r3, rv)) (ra : 0 ≤ a ∧ a ≤ 2147483647) (rb : 0 < b ∧ b ≤ 2147483647) (hp : pc + 1 = p) (k : qr_W X d x Q (p, ls, .int (qz (a % b)) :: st, w, c, n)) : qr_W X d x Q (pc, ls, .int (qz b) :: .int (qz a) :: st, w, c, n) := by
  subst hp
  refine qr_eff hq rfl rfl (s' := (pc + 1, ls, .int (qz (a % b)) :: st, w, c, n)) ?_ k
  have hne : ¬ qz b = 0 := fun h => by
    have := (qz_eq (a := b) (b := 0) (by omega) (by omega)).mp h
    omega
  refine (if_pos ⟨rfl, hne⟩).trans ?_
  show some (pc + 1, ls, Value.int (qz a - qz a / qz b * qz b) :: st, w, c, n) = _
  rw [qz_rem ra rb]
theorem qr_idivW {a b : Int} (p : Nat) (hq : qm_fetch x.2.2.2.2.2.2.2 pc = some (pc, .idiv, 1, r1, r2, r3, rv)) (rb : ¬ b = 0 ∧ -2147483648 ≤ b ∧ b ≤ 2147483647) (hp : pc + 1 = p) (k : qr_W X d x Q (p, ls, .int (qz (qz_tdiv a b)) :: st, w, c, n)) : qr_W X d x Q (pc, ls, .int (qz b) :: .int (qz a) :: st, w, c, n) := by
  subst hp
  refine qr_eff hq rfl rfl (s' := (pc + 1, ls, .int (qz (qz_tdiv a b)) :: st, w, c, n)) ?_ k
  have hne : ¬ qz b = 0 := fun h => by
    have := (qz_eq (a := b) (b := 0) (by omega) (by omega)).mp h
    omega
  refine (if_pos ⟨rfl, hne⟩).trans ?_
  show some (pc + 1, ls, Value.int (qz a / qz b) :: st, w, c, n) = _
  rw [show qz a / qz b = qz (qz_tdiv a b) from qz_of _]
theorem qr_iremW {a b : Int} (p : Nat) (hq : qm_fetch x.2.2.2.2.2.2.2 pc = some (pc, .irem, 1, r1, r2, r3, rv)) (rb : ¬ b = 0 ∧ -2147483648 ≤ b ∧ b ≤ 2147483647) (hp : pc + 1 = p) (k : qr_W X d x Q (p, ls, .int (qz (qz_trem a b)) :: st, w, c, n)) : qr_W X d x Q (pc, ls, .int (qz b) :: .int (qz a) :: st, w, c, n) := by
  subst hp
  refine qr_eff hq rfl rfl (s' := (pc + 1, ls, .int (qz (qz_trem a b)) :: st, w, c, n)) ?_ k
  have hne : ¬ qz b = 0 := fun h => by
    have := (qz_eq (a := b) (b := 0) (by omega) (by omega)).mp h
    omega
  refine (if_pos ⟨rfl, hne⟩).trans ?_
  show some (pc + 1, ls, Value.int (qz a - qz a / qz b * qz b) :: st, w, c, n) = _
  rw [show qz a - qz a / qz b * qz b = qz (qz_trem a b) from qz_of _]
theorem qr_ineg {a : Int} (p : Nat) (hq : qm_fetch x.2.2.2.2.2.2.2 pc = some (pc, .ineg, 1, r1, r2, r3, rv)) (hp : pc + 1 = p) (k : qr_W X d x Q (p, ls, .int (qz (-a)) :: st, w, c, n)) : qr_W X d x Q (pc, ls, .int (qz a) :: st, w, c, n) := by
  subst hp
  refine qr_eff hq rfl rfl (s' := (pc + 1, ls, .int (qz (-a)) :: st, w, c, n)) ?_ k
  show some (pc + 1, ls, Value.int (-qz a) :: st, w, c, n) = _
  rw [qz_neg]
theorem qr_i2l {a : Int} (p : Nat) (hq : qm_fetch x.2.2.2.2.2.2.2 pc = some (pc, .i2l, 1, r1, r2, r3, rv)) (ra : -2147483648 ≤ a ∧ a ≤ 2147483647) (hp : pc + 1 = p) (k : qr_W X d x Q (p, ls, .long (ql a) :: st, w, c, n)) : qr_W X d x Q (pc, ls, .int (qz a) :: st, w, c, n) := by
  subst hp
  refine qr_eff hq rfl rfl (s' := (pc + 1, ls, .long (ql a) :: st, w, c, n)) ?_ k
  show some (pc + 1, ls, Value.long ((qz a).toInt64) :: st, w, c, n) = _
  rw [qz_i2l ra]
theorem qr_l2i {a : Int} (p : Nat) (hq : qm_fetch x.2.2.2.2.2.2.2 pc = some (pc, .l2i, 1, r1, r2, r3, rv)) (hp : pc + 1 = p) (k : qr_W X d x Q (p, ls, .int (qz a) :: st, w, c, n)) : qr_W X d x Q (pc, ls, .long (ql a) :: st, w, c, n) := by
  subst hp
  refine qr_eff hq rfl rfl (s' := (pc + 1, ls, .int (qz a) :: st, w, c, n)) ?_ k
  show some (pc + 1, ls, Value.int ((ql a).toInt32) :: st, w, c, n) = _
  rw [qz_l2i]
theorem qr_i2b {a : Int} (p : Nat) (hq : qm_fetch x.2.2.2.2.2.2.2 pc = some (pc, .i2b, 1, r1, r2, r3, rv)) (hp : pc + 1 = p) (k : qr_W X d x Q (p, ls, .int (qz (qz_i2b a)) :: st, w, c, n)) : qr_W X d x Q (pc, ls, .int (qz a) :: st, w, c, n) := by
  subst hp
  refine qr_eff hq rfl rfl (s' := (pc + 1, ls, .int (qz (qz_i2b a)) :: st, w, c, n)) ?_ k
  show some (pc + 1, ls, Value.int ((qz a).toInt8.toInt32) :: st, w, c, n) = _
  rw [show (qz a).toInt8.toInt32 = qz (qz_i2b a) from qz_of _]
theorem qr_i2s {a : Int} (p : Nat) (hq : qm_fetch x.2.2.2.2.2.2.2 pc = some (pc, .i2s, 1, r1, r2, r3, rv)) (hp : pc + 1 = p) (k : qr_W X d x Q (p, ls, .int (qz (qz_i2s a)) :: st, w, c, n)) : qr_W X d x Q (pc, ls, .int (qz a) :: st, w, c, n) := by
  subst hp
  refine qr_eff hq rfl rfl (s' := (pc + 1, ls, .int (qz (qz_i2s a)) :: st, w, c, n)) ?_ k
  show some (pc + 1, ls, Value.int ((qz a).toInt16.toInt32) :: st, w, c, n) = _
  rw [show (qz a).toInt16.toInt32 = qz (qz_i2s a) from qz_of _]
theorem qr_i2c {a : Int} (p : Nat) (hq : qm_fetch x.2.2.2.2.2.2.2 pc = some (pc, .i2c, 1, r1, r2, r3, rv)) (hp : pc + 1 = p) (k : qr_W X d x Q (p, ls, .int (qz (qz_i2c a)) :: st, w, c, n)) : qr_W X d x Q (pc, ls, .int (qz a) :: st, w, c, n) := by
  subst hp
  refine qr_eff hq rfl rfl (s' := (pc + 1, ls, .int (qz (qz_i2c a)) :: st, w, c, n)) ?_ k
  show some (pc + 1, ls, Value.int (((qz a).toUInt32 % 65536).toInt32) :: st, w, c, n) = _
  rw [show ((qz a).toUInt32 % 65536).toInt32 = qz (qz_i2c a) from qz_of _]
theorem qr_dup {u : Value} (p : Nat) (hq : qm_fetch x.2.2.2.2.2.2.2 pc = some (pc, .dup, 1, r1, r2, r3, rv)) (h1 : u.category = 1) (hp : pc + 1 = p) (k : qr_W X d x Q (p, ls, u :: u :: st, w, c, n)) : qr_W X d x Q (pc, ls, u :: st, w, c, n) := by
  subst hp
  exact qr_eff hq rfl rfl (s' := (pc + 1, ls, u :: u :: st, w, c, n)) (if_pos ⟨rfl, h1⟩) k
theorem qr_pop {u : Value} (p : Nat) (hq : qm_fetch x.2.2.2.2.2.2.2 pc = some (pc, .pop, 1, r1, r2, r3, rv)) (h1 : u.category = 1) (hp : pc + 1 = p) (k : qr_W X d x Q (p, ls, st, w, c, n)) : qr_W X d x Q (pc, ls, u :: st, w, c, n) := by
  subst hp
  exact qr_eff hq rfl rfl (s' := (pc + 1, ls, st, w, c, n)) (if_pos ⟨rfl, h1⟩) k
theorem qr_pop2 {u : Value} (p : Nat) (hq : qm_fetch x.2.2.2.2.2.2.2 pc = some (pc, .pop2, 1, r1, r2, r3, rv)) (h1 : u.category = 2) (hp : pc + 1 = p) (k : qr_W X d x Q (p, ls, st, w, c, n)) : qr_W X d x Q (pc, ls, u :: st, w, c, n) := by
  subst hp
  exact qr_eff hq rfl rfl (s' := (pc + 1, ls, st, w, c, n)) (if_pos ⟨rfl, h1⟩) k
theorem qr_dup_x1 {u v : Value} (p : Nat) (hq : qm_fetch x.2.2.2.2.2.2.2 pc = some (pc, .dup_x1, 1, r1, r2, r3, rv)) (h1 : u.category = 1) (h2 : v.category = 1) (hp : pc + 1 = p) (k : qr_W X d x Q (p, ls, u :: v :: u :: st, w, c, n)) : qr_W X d x Q (pc, ls, u :: v :: st, w, c, n) := by
  subst hp
  exact qr_eff hq rfl rfl (s' := (pc + 1, ls, u :: v :: u :: st, w, c, n)) (if_pos ⟨rfl, h1, h2⟩) k
theorem qr_dup2 {u v : Value} (p : Nat) (hq : qm_fetch x.2.2.2.2.2.2.2 pc = some (pc, .dup2, 1, r1, r2, r3, rv)) (h1 : u.category = 1) (h2 : v.category = 1) (hp : pc + 1 = p) (k : qr_W X d x Q (p, ls, u :: v :: u :: v :: st, w, c, n)) : qr_W X d x Q (pc, ls, u :: v :: st, w, c, n) := by
  subst hp
  exact qr_eff hq rfl rfl (s' := (pc + 1, ls, u :: v :: u :: v :: st, w, c, n)) (if_pos ⟨rfl, h1, h2⟩) k
theorem qr_cond_eq {a b : Int} (ra : -2147483648 ≤ a ∧ a ≤ 2147483647) (rb : -2147483648 ≤ b ∧ b ≤ 2147483647) : (qm_cond .eq (qz a) (qz b) = true → a = b) ∧ (qm_cond .eq (qz a) (qz b) = false → ¬ a = b) := by
  unfold qm_cond
  have e := qz_eq ra rb
  constructor
  · intro h
    have h := of_decide_eq_true h
    exact e.mp h
  · intro h
    have h := of_decide_eq_false h
    exact fun g => h (e.mpr g)
theorem qr_icmp_eq {a b off : Int} (t p : Nat) (hq : qm_fetch x.2.2.2.2.2.2.2 pc = some (pc, .if_icmp .eq off, 3, r1, r2, r3, rv)) (ht : qm_to pc off = some t) (hp : pc + 3 = p) (ra : -2147483648 ≤ a ∧ a ≤ 2147483647) (rb : -2147483648 ≤ b ∧ b ≤ 2147483647) (kt : a = b → qr_W X d x Q (t, ls, st, w, c, n)) (kf : ¬ a = b → qr_W X d x Q (p, ls, st, w, c, n)) : qr_W X d x Q (pc, ls, .int (qz b) :: .int (qz a) :: st, w, c, n) := by
  subst hp
  have h2 := qr_cond_eq ra rb
  cases hc : qm_cond .eq (qz a) (qz b) with
  | true =>
    refine qr_eff hq rfl rfl (s' := (t, ls, st, w, c, n)) ?_ (kt (h2.1 hc))
    show (if (3 : Nat) = 3 then (if qm_cond .eq (qz a) (qz b) = true then qm_jump pc off ls st w c n else qm_go (pc + 3) ls st w c n) else none) = _
    rw [if_pos rfl, if_pos hc]
    unfold qm_jump
    rw [ht]
    rfl
  | false =>
    refine qr_eff hq rfl rfl (s' := (pc + 3, ls, st, w, c, n)) ?_ (kf (h2.2 hc))
    show (if (3 : Nat) = 3 then (if qm_cond .eq (qz a) (qz b) = true then qm_jump pc off ls st w c n else qm_go (pc + 3) ls st w c n) else none) = _
    rw [if_pos rfl, if_neg (by rw [hc]; decide)]
    rfl
theorem qr_if_eq {a off : Int} (t p : Nat) (hq : qm_fetch x.2.2.2.2.2.2.2 pc = some (pc, .ifCond .eq off, 3, r1, r2, r3, rv)) (ht : qm_to pc off = some t) (hp : pc + 3 = p) (ra : -2147483648 ≤ a ∧ a ≤ 2147483647) (kt : a = 0 → qr_W X d x Q (t, ls, st, w, c, n)) (kf : ¬ a = 0 → qr_W X d x Q (p, ls, st, w, c, n)) : qr_W X d x Q (pc, ls, .int (qz a) :: st, w, c, n) := by
  subst hp
  have h2 := qr_cond_eq ra (b := 0) ⟨by decide, by decide⟩
  rw [show qz 0 = 0 from rfl] at h2
  cases hc : qm_cond .eq (qz a) 0 with
  | true =>
    refine qr_eff hq rfl rfl (s' := (t, ls, st, w, c, n)) ?_ (kt (h2.1 hc))
    show (if (3 : Nat) = 3 then (if qm_cond .eq (qz a) 0 = true then qm_jump pc off ls st w c n else qm_go (pc + 3) ls st w c n) else none) = _
    rw [if_pos rfl, if_pos hc]
    unfold qm_jump
    rw [ht]
    rfl
  | false =>
    refine qr_eff hq rfl rfl (s' := (pc + 3, ls, st, w, c, n)) ?_ (kf (h2.2 hc))
    show (if (3 : Nat) = 3 then (if qm_cond .eq (qz a) 0 = true then qm_jump pc off ls st w c n else qm_go (pc + 3) ls st w c n) else none) = _
    rw [if_pos rfl, if_neg (by rw [hc]; decide)]
    rfl
theorem qr_cond_ne {a b : Int} (ra : -2147483648 ≤ a ∧ a ≤ 2147483647) (rb : -2147483648 ≤ b ∧ b ≤ 2147483647) : (qm_cond .ne (qz a) (qz b) = true → ¬ a = b) ∧ (qm_cond .ne (qz a) (qz b) = false → a = b) := by
  unfold qm_cond
  have e := qz_eq ra rb
  constructor
  · intro h
    have h := of_decide_eq_true h
    exact fun g => h (e.mpr g)
  · intro h
    have h := of_decide_eq_false h
    exact Classical.byContradiction fun g => h (fun z => g (e.mp z))
theorem qr_icmp_ne {a b off : Int} (t p : Nat) (hq : qm_fetch x.2.2.2.2.2.2.2 pc = some (pc, .if_icmp .ne off, 3, r1, r2, r3, rv)) (ht : qm_to pc off = some t) (hp : pc + 3 = p) (ra : -2147483648 ≤ a ∧ a ≤ 2147483647) (rb : -2147483648 ≤ b ∧ b ≤ 2147483647) (kt : ¬ a = b → qr_W X d x Q (t, ls, st, w, c, n)) (kf : a = b → qr_W X d x Q (p, ls, st, w, c, n)) : qr_W X d x Q (pc, ls, .int (qz b) :: .int (qz a) :: st, w, c, n) := by
  subst hp
  have h2 := qr_cond_ne ra rb
  cases hc : qm_cond .ne (qz a) (qz b) with
  | true =>
    refine qr_eff hq rfl rfl (s' := (t, ls, st, w, c, n)) ?_ (kt (h2.1 hc))
    show (if (3 : Nat) = 3 then (if qm_cond .ne (qz a) (qz b) = true then qm_jump pc off ls st w c n else qm_go (pc + 3) ls st w c n) else none) = _
    rw [if_pos rfl, if_pos hc]
    unfold qm_jump
    rw [ht]
    rfl
  | false =>
    refine qr_eff hq rfl rfl (s' := (pc + 3, ls, st, w, c, n)) ?_ (kf (h2.2 hc))
    show (if (3 : Nat) = 3 then (if qm_cond .ne (qz a) (qz b) = true then qm_jump pc off ls st w c n else qm_go (pc + 3) ls st w c n) else none) = _
    rw [if_pos rfl, if_neg (by rw [hc]; decide)]
    rfl
theorem qr_if_ne {a off : Int} (t p : Nat) (hq : qm_fetch x.2.2.2.2.2.2.2 pc = some (pc, .ifCond .ne off, 3, r1, r2, r3, rv)) (ht : qm_to pc off = some t) (hp : pc + 3 = p) (ra : -2147483648 ≤ a ∧ a ≤ 2147483647) (kt : ¬ a = 0 → qr_W X d x Q (t, ls, st, w, c, n)) (kf : a = 0 → qr_W X d x Q (p, ls, st, w, c, n)) : qr_W X d x Q (pc, ls, .int (qz a) :: st, w, c, n) := by
  subst hp
  have h2 := qr_cond_ne ra (b := 0) ⟨by decide, by decide⟩
  rw [show qz 0 = 0 from rfl] at h2
  cases hc : qm_cond .ne (qz a) 0 with
  | true =>
    refine qr_eff hq rfl rfl (s' := (t, ls, st, w, c, n)) ?_ (kt (h2.1 hc))
    show (if (3 : Nat) = 3 then (if qm_cond .ne (qz a) 0 = true then qm_jump pc off ls st w c n else qm_go (pc + 3) ls st w c n) else none) = _
    rw [if_pos rfl, if_pos hc]
    unfold qm_jump
    rw [ht]
    rfl
  | false =>
    refine qr_eff hq rfl rfl (s' := (pc + 3, ls, st, w, c, n)) ?_ (kf (h2.2 hc))
    show (if (3 : Nat) = 3 then (if qm_cond .ne (qz a) 0 = true then qm_jump pc off ls st w c n else qm_go (pc + 3) ls st w c n) else none) = _
    rw [if_pos rfl, if_neg (by rw [hc]; decide)]
    rfl
theorem qr_cond_lt {a b : Int} (ra : -2147483648 ≤ a ∧ a ≤ 2147483647) (rb : -2147483648 ≤ b ∧ b ≤ 2147483647) : (qm_cond .lt (qz a) (qz b) = true → a < b) ∧ (qm_cond .lt (qz a) (qz b) = false → b ≤ a) := by
  unfold qm_cond
  have e := qz_lt ra rb
  constructor
  · intro h
    have h := of_decide_eq_true h
    exact e.mp h
  · intro h
    have h := of_decide_eq_false h
    have : ¬ (a < b) := fun g => h (e.mpr g)
    omega
theorem qr_icmp_lt {a b off : Int} (t p : Nat) (hq : qm_fetch x.2.2.2.2.2.2.2 pc = some (pc, .if_icmp .lt off, 3, r1, r2, r3, rv)) (ht : qm_to pc off = some t) (hp : pc + 3 = p) (ra : -2147483648 ≤ a ∧ a ≤ 2147483647) (rb : -2147483648 ≤ b ∧ b ≤ 2147483647) (kt : a < b → qr_W X d x Q (t, ls, st, w, c, n)) (kf : b ≤ a → qr_W X d x Q (p, ls, st, w, c, n)) : qr_W X d x Q (pc, ls, .int (qz b) :: .int (qz a) :: st, w, c, n) := by
  subst hp
  have h2 := qr_cond_lt ra rb
  cases hc : qm_cond .lt (qz a) (qz b) with
  | true =>
    refine qr_eff hq rfl rfl (s' := (t, ls, st, w, c, n)) ?_ (kt (h2.1 hc))
    show (if (3 : Nat) = 3 then (if qm_cond .lt (qz a) (qz b) = true then qm_jump pc off ls st w c n else qm_go (pc + 3) ls st w c n) else none) = _
    rw [if_pos rfl, if_pos hc]
    unfold qm_jump
    rw [ht]
    rfl
  | false =>
    refine qr_eff hq rfl rfl (s' := (pc + 3, ls, st, w, c, n)) ?_ (kf (h2.2 hc))
    show (if (3 : Nat) = 3 then (if qm_cond .lt (qz a) (qz b) = true then qm_jump pc off ls st w c n else qm_go (pc + 3) ls st w c n) else none) = _
    rw [if_pos rfl, if_neg (by rw [hc]; decide)]
    rfl
theorem qr_if_lt {a off : Int} (t p : Nat) (hq : qm_fetch x.2.2.2.2.2.2.2 pc = some (pc, .ifCond .lt off, 3, r1, r2, r3, rv)) (ht : qm_to pc off = some t) (hp : pc + 3 = p) (ra : -2147483648 ≤ a ∧ a ≤ 2147483647) (kt : a < 0 → qr_W X d x Q (t, ls, st, w, c, n)) (kf : 0 ≤ a → qr_W X d x Q (p, ls, st, w, c, n)) : qr_W X d x Q (pc, ls, .int (qz a) :: st, w, c, n) := by
  subst hp
  have h2 := qr_cond_lt ra (b := 0) ⟨by decide, by decide⟩
  rw [show qz 0 = 0 from rfl] at h2
  cases hc : qm_cond .lt (qz a) 0 with
  | true =>
    refine qr_eff hq rfl rfl (s' := (t, ls, st, w, c, n)) ?_ (kt (h2.1 hc))
    show (if (3 : Nat) = 3 then (if qm_cond .lt (qz a) 0 = true then qm_jump pc off ls st w c n else qm_go (pc + 3) ls st w c n) else none) = _
    rw [if_pos rfl, if_pos hc]
    unfold qm_jump
    rw [ht]
    rfl
  | false =>
    refine qr_eff hq rfl rfl (s' := (pc + 3, ls, st, w, c, n)) ?_ (kf (h2.2 hc))
    show (if (3 : Nat) = 3 then (if qm_cond .lt (qz a) 0 = true then qm_jump pc off ls st w c n else qm_go (pc + 3) ls st w c n) else none) = _
    rw [if_pos rfl, if_neg (by rw [hc]; decide)]
    rfl
theorem qr_cond_ge {a b : Int} (ra : -2147483648 ≤ a ∧ a ≤ 2147483647) (rb : -2147483648 ≤ b ∧ b ≤ 2147483647) : (qm_cond .ge (qz a) (qz b) = true → b ≤ a) ∧ (qm_cond .ge (qz a) (qz b) = false → a < b) := by
  unfold qm_cond
  have e := qz_le rb ra
  constructor
  · intro h
    have h := of_decide_eq_true h
    exact e.mp h
  · intro h
    have h := of_decide_eq_false h
    have : ¬ (b ≤ a) := fun g => h (e.mpr g)
    omega
theorem qr_icmp_ge {a b off : Int} (t p : Nat) (hq : qm_fetch x.2.2.2.2.2.2.2 pc = some (pc, .if_icmp .ge off, 3, r1, r2, r3, rv)) (ht : qm_to pc off = some t) (hp : pc + 3 = p) (ra : -2147483648 ≤ a ∧ a ≤ 2147483647) (rb : -2147483648 ≤ b ∧ b ≤ 2147483647) (kt : b ≤ a → qr_W X d x Q (t, ls, st, w, c, n)) (kf : a < b → qr_W X d x Q (p, ls, st, w, c, n)) : qr_W X d x Q (pc, ls, .int (qz b) :: .int (qz a) :: st, w, c, n) := by
  subst hp
  have h2 := qr_cond_ge ra rb
  cases hc : qm_cond .ge (qz a) (qz b) with
  | true =>
    refine qr_eff hq rfl rfl (s' := (t, ls, st, w, c, n)) ?_ (kt (h2.1 hc))
    show (if (3 : Nat) = 3 then (if qm_cond .ge (qz a) (qz b) = true then qm_jump pc off ls st w c n else qm_go (pc + 3) ls st w c n) else none) = _
    rw [if_pos rfl, if_pos hc]
    unfold qm_jump
    rw [ht]
    rfl
  | false =>
    refine qr_eff hq rfl rfl (s' := (pc + 3, ls, st, w, c, n)) ?_ (kf (h2.2 hc))
    show (if (3 : Nat) = 3 then (if qm_cond .ge (qz a) (qz b) = true then qm_jump pc off ls st w c n else qm_go (pc + 3) ls st w c n) else none) = _
    rw [if_pos rfl, if_neg (by rw [hc]; decide)]
    rfl
theorem qr_if_ge {a off : Int} (t p : Nat) (hq : qm_fetch x.2.2.2.2.2.2.2 pc = some (pc, .ifCond .ge off, 3, r1, r2, r3, rv)) (ht : qm_to pc off = some t) (hp : pc + 3 = p) (ra : -2147483648 ≤ a ∧ a ≤ 2147483647) (kt : 0 ≤ a → qr_W X d x Q (t, ls, st, w, c, n)) (kf : a < 0 → qr_W X d x Q (p, ls, st, w, c, n)) : qr_W X d x Q (pc, ls, .int (qz a) :: st, w, c, n) := by
  subst hp
  have h2 := qr_cond_ge ra (b := 0) ⟨by decide, by decide⟩
  rw [show qz 0 = 0 from rfl] at h2
  cases hc : qm_cond .ge (qz a) 0 with
  | true =>
    refine qr_eff hq rfl rfl (s' := (t, ls, st, w, c, n)) ?_ (kt (h2.1 hc))
    show (if (3 : Nat) = 3 then (if qm_cond .ge (qz a) 0 = true then qm_jump pc off ls st w c n else qm_go (pc + 3) ls st w c n) else none) = _
    rw [if_pos rfl, if_pos hc]
    unfold qm_jump
    rw [ht]
    rfl
  | false =>
    refine qr_eff hq rfl rfl (s' := (pc + 3, ls, st, w, c, n)) ?_ (kf (h2.2 hc))
    show (if (3 : Nat) = 3 then (if qm_cond .ge (qz a) 0 = true then qm_jump pc off ls st w c n else qm_go (pc + 3) ls st w c n) else none) = _
    rw [if_pos rfl, if_neg (by rw [hc]; decide)]
    rfl
theorem qr_cond_gt {a b : Int} (ra : -2147483648 ≤ a ∧ a ≤ 2147483647) (rb : -2147483648 ≤ b ∧ b ≤ 2147483647) : (qm_cond .gt (qz a) (qz b) = true → b < a) ∧ (qm_cond .gt (qz a) (qz b) = false → a ≤ b) := by
  unfold qm_cond
  have e := qz_lt rb ra
  constructor
  · intro h
    have h := of_decide_eq_true h
    exact e.mp h
  · intro h
    have h := of_decide_eq_false h
    have : ¬ (b < a) := fun g => h (e.mpr g)
    omega
theorem qr_icmp_gt {a b off : Int} (t p : Nat) (hq : qm_fetch x.2.2.2.2.2.2.2 pc = some (pc, .if_icmp .gt off, 3, r1, r2, r3, rv)) (ht : qm_to pc off = some t) (hp : pc + 3 = p) (ra : -2147483648 ≤ a ∧ a ≤ 2147483647) (rb : -2147483648 ≤ b ∧ b ≤ 2147483647) (kt : b < a → qr_W X d x Q (t, ls, st, w, c, n)) (kf : a ≤ b → qr_W X d x Q (p, ls, st, w, c, n)) : qr_W X d x Q (pc, ls, .int (qz b) :: .int (qz a) :: st, w, c, n) := by
  subst hp
  have h2 := qr_cond_gt ra rb
  cases hc : qm_cond .gt (qz a) (qz b) with
  | true =>
    refine qr_eff hq rfl rfl (s' := (t, ls, st, w, c, n)) ?_ (kt (h2.1 hc))
    show (if (3 : Nat) = 3 then (if qm_cond .gt (qz a) (qz b) = true then qm_jump pc off ls st w c n else qm_go (pc + 3) ls st w c n) else none) = _
    rw [if_pos rfl, if_pos hc]
    unfold qm_jump
    rw [ht]
    rfl
  | false =>
    refine qr_eff hq rfl rfl (s' := (pc + 3, ls, st, w, c, n)) ?_ (kf (h2.2 hc))
    show (if (3 : Nat) = 3 then (if qm_cond .gt (qz a) (qz b) = true then qm_jump pc off ls st w c n else qm_go (pc + 3) ls st w c n) else none) = _
    rw [if_pos rfl, if_neg (by rw [hc]; decide)]
    rfl
theorem qr_if_gt {a off : Int} (t p : Nat) (hq : qm_fetch x.2.2.2.2.2.2.2 pc = some (pc, .ifCond .gt off, 3, r1, r2, r3, rv)) (ht : qm_to pc off = some t) (hp : pc + 3 = p) (ra : -2147483648 ≤ a ∧ a ≤ 2147483647) (kt : 0 < a → qr_W X d x Q (t, ls, st, w, c, n)) (kf : a ≤ 0 → qr_W X d x Q (p, ls, st, w, c, n)) : qr_W X d x Q (pc, ls, .int (qz a) :: st, w, c, n) := by
  subst hp
  have h2 := qr_cond_gt ra (b := 0) ⟨by decide, by decide⟩
  rw [show qz 0 = 0 from rfl] at h2
  cases hc : qm_cond .gt (qz a) 0 with
  | true =>
    refine qr_eff hq rfl rfl (s' := (t, ls, st, w, c, n)) ?_ (kt (h2.1 hc))
    show (if (3 : Nat) = 3 then (if qm_cond .gt (qz a) 0 = true then qm_jump pc off ls st w c n else qm_go (pc + 3) ls st w c n) else none) = _
    rw [if_pos rfl, if_pos hc]
    unfold qm_jump
    rw [ht]
    rfl
  | false =>
    refine qr_eff hq rfl rfl (s' := (pc + 3, ls, st, w, c, n)) ?_ (kf (h2.2 hc))
    show (if (3 : Nat) = 3 then (if qm_cond .gt (qz a) 0 = true then qm_jump pc off ls st w c n else qm_go (pc + 3) ls st w c n) else none) = _
    rw [if_pos rfl, if_neg (by rw [hc]; decide)]
    rfl
theorem qr_cond_le {a b : Int} (ra : -2147483648 ≤ a ∧ a ≤ 2147483647) (rb : -2147483648 ≤ b ∧ b ≤ 2147483647) : (qm_cond .le (qz a) (qz b) = true → a ≤ b) ∧ (qm_cond .le (qz a) (qz b) = false → b < a) := by
  unfold qm_cond
  have e := qz_le ra rb
  constructor
  · intro h
    have h := of_decide_eq_true h
    exact e.mp h
  · intro h
    have h := of_decide_eq_false h
    have : ¬ (a ≤ b) := fun g => h (e.mpr g)
    omega
theorem qr_icmp_le {a b off : Int} (t p : Nat) (hq : qm_fetch x.2.2.2.2.2.2.2 pc = some (pc, .if_icmp .le off, 3, r1, r2, r3, rv)) (ht : qm_to pc off = some t) (hp : pc + 3 = p) (ra : -2147483648 ≤ a ∧ a ≤ 2147483647) (rb : -2147483648 ≤ b ∧ b ≤ 2147483647) (kt : a ≤ b → qr_W X d x Q (t, ls, st, w, c, n)) (kf : b < a → qr_W X d x Q (p, ls, st, w, c, n)) : qr_W X d x Q (pc, ls, .int (qz b) :: .int (qz a) :: st, w, c, n) := by
  subst hp
  have h2 := qr_cond_le ra rb
  cases hc : qm_cond .le (qz a) (qz b) with
  | true =>
    refine qr_eff hq rfl rfl (s' := (t, ls, st, w, c, n)) ?_ (kt (h2.1 hc))
    show (if (3 : Nat) = 3 then (if qm_cond .le (qz a) (qz b) = true then qm_jump pc off ls st w c n else qm_go (pc + 3) ls st w c n) else none) = _
    rw [if_pos rfl, if_pos hc]
    unfold qm_jump
    rw [ht]
    rfl
  | false =>
    refine qr_eff hq rfl rfl (s' := (pc + 3, ls, st, w, c, n)) ?_ (kf (h2.2 hc))
    show (if (3 : Nat) = 3 then (if qm_cond .le (qz a) (qz b) = true then qm_jump pc off ls st w c n else qm_go (pc + 3) ls st w c n) else none) = _
    rw [if_pos rfl, if_neg (by rw [hc]; decide)]
    rfl
theorem qr_if_le {a off : Int} (t p : Nat) (hq : qm_fetch x.2.2.2.2.2.2.2 pc = some (pc, .ifCond .le off, 3, r1, r2, r3, rv)) (ht : qm_to pc off = some t) (hp : pc + 3 = p) (ra : -2147483648 ≤ a ∧ a ≤ 2147483647) (kt : a ≤ 0 → qr_W X d x Q (t, ls, st, w, c, n)) (kf : 0 < a → qr_W X d x Q (p, ls, st, w, c, n)) : qr_W X d x Q (pc, ls, .int (qz a) :: st, w, c, n) := by
  subst hp
  have h2 := qr_cond_le ra (b := 0) ⟨by decide, by decide⟩
  rw [show qz 0 = 0 from rfl] at h2
  cases hc : qm_cond .le (qz a) 0 with
  | true =>
    refine qr_eff hq rfl rfl (s' := (t, ls, st, w, c, n)) ?_ (kt (h2.1 hc))
    show (if (3 : Nat) = 3 then (if qm_cond .le (qz a) 0 = true then qm_jump pc off ls st w c n else qm_go (pc + 3) ls st w c n) else none) = _
    rw [if_pos rfl, if_pos hc]
    unfold qm_jump
    rw [ht]
    rfl
  | false =>
    refine qr_eff hq rfl rfl (s' := (pc + 3, ls, st, w, c, n)) ?_ (kf (h2.2 hc))
    show (if (3 : Nat) = 3 then (if qm_cond .le (qz a) 0 = true then qm_jump pc off ls st w c n else qm_go (pc + 3) ls st w c n) else none) = _
    rw [if_pos rfl, if_neg (by rw [hc]; decide)]
    rfl
theorem qr_goto {off : Int} (t : Nat) (hq : qm_fetch x.2.2.2.2.2.2.2 pc = some (pc, .goto off, 3, r1, r2, r3, rv)) (ht : qm_to pc off = some t) (k : qr_W X d x Q (t, ls, st, w, c, n)) : qr_W X d x Q (pc, ls, st, w, c, n) := by
  refine qr_eff hq rfl rfl (s' := (t, ls, st, w, c, n)) ?_ k
  show (if (3 : Nat) = 3 then qm_jump pc off ls st w c n else none) = _
  rw [if_pos rfl]
  unfold qm_jump
  rw [ht]
  rfl
theorem qr_lc_eq {a b off : Int} {s1 s2 s3 : Nat} {sv : Value} (t p : Nat) (hq : qm_fetch x.2.2.2.2.2.2.2 pc = some (pc, .lcmp, 1, r1, r2, r3, rv)) (hq2 : qm_fetch x.2.2.2.2.2.2.2 (pc + 1) = some (pc + 1, .ifCond .eq off, 3, s1, s2, s3, sv)) (ht : qm_to (pc + 1) off = some t) (hp : pc + 1 + 3 = p) (ra : -9223372036854775808 ≤ a ∧ a ≤ 9223372036854775807) (rb : -9223372036854775808 ≤ b ∧ b ≤ 9223372036854775807) (kt : a = b → qr_W X d x Q (t, ls, st, w, c, n)) (kf : ¬ a = b → qr_W X d x Q (p, ls, st, w, c, n)) : qr_W X d x Q (pc, ls, .long (ql b) :: .long (ql a) :: st, w, c, n) := by
  have e : lg_cmp (ql a) (ql b) = qz (if b < a then 1 else if a < b then -1 else 0) := by
    unfold lg_cmp
    by_cases h1 : b < a
    · rw [if_pos ((ql_lt rb ra).mpr h1), if_pos h1]
      rfl
    · rw [if_neg (fun h => h1 ((ql_lt rb ra).mp h)), if_neg h1]
      by_cases h2 : a < b
      · rw [if_pos h2]
        by_cases h3 : ql a = ql b
        · have := (ql_eq ra rb).mp h3
          omega
        · first
            | rw [if_neg h3]; rfl
            | rw [if_pos ((ql_lt ra rb).mpr h2)]; rfl
            | simp [h3]; rfl
      · rw [if_neg h2]
        have h3 : a = b := by omega
        subst h3
        first
          | rw [if_pos rfl]; rfl
          | rw [if_neg (fun h => h2 ((ql_lt ra ra).mp h))]; rfl
          | simp; rfl
  refine qr_eff hq rfl rfl (s' := (pc + 1, ls, .int (qz (if b < a then 1 else if a < b then -1 else 0)) :: st, w, c, n)) ?_ ?_
  · show some (pc + 1, ls, Value.int (lg_cmp (ql a) (ql b)) :: st, w, c, n) = _
    rw [e]
  · refine qr_if_eq t p hq2 ht hp ?_ (fun h => kt ?_) (fun h => kf ?_)
    · split
      · omega
      · split <;> omega
    · revert h
      split
      · intro h; omega
      · split <;> intro h <;> omega
    · revert h
      split
      · intro h; omega
      · split <;> intro h <;> omega
theorem qr_lc_ne {a b off : Int} {s1 s2 s3 : Nat} {sv : Value} (t p : Nat) (hq : qm_fetch x.2.2.2.2.2.2.2 pc = some (pc, .lcmp, 1, r1, r2, r3, rv)) (hq2 : qm_fetch x.2.2.2.2.2.2.2 (pc + 1) = some (pc + 1, .ifCond .ne off, 3, s1, s2, s3, sv)) (ht : qm_to (pc + 1) off = some t) (hp : pc + 1 + 3 = p) (ra : -9223372036854775808 ≤ a ∧ a ≤ 9223372036854775807) (rb : -9223372036854775808 ≤ b ∧ b ≤ 9223372036854775807) (kt : ¬ a = b → qr_W X d x Q (t, ls, st, w, c, n)) (kf : a = b → qr_W X d x Q (p, ls, st, w, c, n)) : qr_W X d x Q (pc, ls, .long (ql b) :: .long (ql a) :: st, w, c, n) := by
  have e : lg_cmp (ql a) (ql b) = qz (if b < a then 1 else if a < b then -1 else 0) := by
    unfold lg_cmp
    by_cases h1 : b < a
    · rw [if_pos ((ql_lt rb ra).mpr h1), if_pos h1]
      rfl
    · rw [if_neg (fun h => h1 ((ql_lt rb ra).mp h)), if_neg h1]
      by_cases h2 : a < b
      · rw [if_pos h2]
        by_cases h3 : ql a = ql b
        · have := (ql_eq ra rb).mp h3
          omega
        · first
            | rw [if_neg h3]; rfl
            | rw [if_pos ((ql_lt ra rb).mpr h2)]; rfl
            | simp [h3]; rfl
      · rw [if_neg h2]
        have h3 : a = b := by omega
        subst h3
        first
          | rw [if_pos rfl]; rfl
          | rw [if_neg (fun h => h2 ((ql_lt ra ra).mp h))]; rfl
          | simp; rfl
  refine qr_eff hq rfl rfl (s' := (pc + 1, ls, .int (qz (if b < a then 1 else if a < b then -1 else 0)) :: st, w, c, n)) ?_ ?_
  · show some (pc + 1, ls, Value.int (lg_cmp (ql a) (ql b)) :: st, w, c, n) = _
    rw [e]
  · refine qr_if_ne t p hq2 ht hp ?_ (fun h => kt ?_) (fun h => kf ?_)
    · split
      · omega
      · split <;> omega
    · revert h
      split
      · intro h; omega
      · split <;> intro h <;> omega
    · revert h
      split
      · intro h; omega
      · split <;> intro h <;> omega
theorem qr_lc_lt {a b off : Int} {s1 s2 s3 : Nat} {sv : Value} (t p : Nat) (hq : qm_fetch x.2.2.2.2.2.2.2 pc = some (pc, .lcmp, 1, r1, r2, r3, rv)) (hq2 : qm_fetch x.2.2.2.2.2.2.2 (pc + 1) = some (pc + 1, .ifCond .lt off, 3, s1, s2, s3, sv)) (ht : qm_to (pc + 1) off = some t) (hp : pc + 1 + 3 = p) (ra : -9223372036854775808 ≤ a ∧ a ≤ 9223372036854775807) (rb : -9223372036854775808 ≤ b ∧ b ≤ 9223372036854775807) (kt : a < b → qr_W X d x Q (t, ls, st, w, c, n)) (kf : b ≤ a → qr_W X d x Q (p, ls, st, w, c, n)) : qr_W X d x Q (pc, ls, .long (ql b) :: .long (ql a) :: st, w, c, n) := by
  have e : lg_cmp (ql a) (ql b) = qz (if b < a then 1 else if a < b then -1 else 0) := by
    unfold lg_cmp
    by_cases h1 : b < a
    · rw [if_pos ((ql_lt rb ra).mpr h1), if_pos h1]
      rfl
    · rw [if_neg (fun h => h1 ((ql_lt rb ra).mp h)), if_neg h1]
      by_cases h2 : a < b
      · rw [if_pos h2]
        by_cases h3 : ql a = ql b
        · have := (ql_eq ra rb).mp h3
          omega
        · first
            | rw [if_neg h3]; rfl
            | rw [if_pos ((ql_lt ra rb).mpr h2)]; rfl
            | simp [h3]; rfl
      · rw [if_neg h2]
        have h3 : a = b := by omega
        subst h3
        first
          | rw [if_pos rfl]; rfl
          | rw [if_neg (fun h => h2 ((ql_lt ra ra).mp h))]; rfl
          | simp; rfl
  refine qr_eff hq rfl rfl (s' := (pc + 1, ls, .int (qz (if b < a then 1 else if a < b then -1 else 0)) :: st, w, c, n)) ?_ ?_
  · show some (pc + 1, ls, Value.int (lg_cmp (ql a) (ql b)) :: st, w, c, n) = _
    rw [e]
  · refine qr_if_lt t p hq2 ht hp ?_ (fun h => kt ?_) (fun h => kf ?_)
    · split
      · omega
      · split <;> omega
    · revert h
      split
      · intro h; omega
      · split <;> intro h <;> omega
    · revert h
      split
      · intro h; omega
      · split <;> intro h <;> omega
theorem qr_lc_ge {a b off : Int} {s1 s2 s3 : Nat} {sv : Value} (t p : Nat) (hq : qm_fetch x.2.2.2.2.2.2.2 pc = some (pc, .lcmp, 1, r1, r2, r3, rv)) (hq2 : qm_fetch x.2.2.2.2.2.2.2 (pc + 1) = some (pc + 1, .ifCond .ge off, 3, s1, s2, s3, sv)) (ht : qm_to (pc + 1) off = some t) (hp : pc + 1 + 3 = p) (ra : -9223372036854775808 ≤ a ∧ a ≤ 9223372036854775807) (rb : -9223372036854775808 ≤ b ∧ b ≤ 9223372036854775807) (kt : b ≤ a → qr_W X d x Q (t, ls, st, w, c, n)) (kf : a < b → qr_W X d x Q (p, ls, st, w, c, n)) : qr_W X d x Q (pc, ls, .long (ql b) :: .long (ql a) :: st, w, c, n) := by
  have e : lg_cmp (ql a) (ql b) = qz (if b < a then 1 else if a < b then -1 else 0) := by
    unfold lg_cmp
    by_cases h1 : b < a
    · rw [if_pos ((ql_lt rb ra).mpr h1), if_pos h1]
      rfl
    · rw [if_neg (fun h => h1 ((ql_lt rb ra).mp h)), if_neg h1]
      by_cases h2 : a < b
      · rw [if_pos h2]
        by_cases h3 : ql a = ql b
        · have := (ql_eq ra rb).mp h3
          omega
        · first
            | rw [if_neg h3]; rfl
            | rw [if_pos ((ql_lt ra rb).mpr h2)]; rfl
            | simp [h3]; rfl
      · rw [if_neg h2]
        have h3 : a = b := by omega
        subst h3
        first
          | rw [if_pos rfl]; rfl
          | rw [if_neg (fun h => h2 ((ql_lt ra ra).mp h))]; rfl
          | simp; rfl
  refine qr_eff hq rfl rfl (s' := (pc + 1, ls, .int (qz (if b < a then 1 else if a < b then -1 else 0)) :: st, w, c, n)) ?_ ?_
  · show some (pc + 1, ls, Value.int (lg_cmp (ql a) (ql b)) :: st, w, c, n) = _
    rw [e]
  · refine qr_if_ge t p hq2 ht hp ?_ (fun h => kt ?_) (fun h => kf ?_)
    · split
      · omega
      · split <;> omega
    · revert h
      split
      · intro h; omega
      · split <;> intro h <;> omega
    · revert h
      split
      · intro h; omega
      · split <;> intro h <;> omega
theorem qr_lc_gt {a b off : Int} {s1 s2 s3 : Nat} {sv : Value} (t p : Nat) (hq : qm_fetch x.2.2.2.2.2.2.2 pc = some (pc, .lcmp, 1, r1, r2, r3, rv)) (hq2 : qm_fetch x.2.2.2.2.2.2.2 (pc + 1) = some (pc + 1, .ifCond .gt off, 3, s1, s2, s3, sv)) (ht : qm_to (pc + 1) off = some t) (hp : pc + 1 + 3 = p) (ra : -9223372036854775808 ≤ a ∧ a ≤ 9223372036854775807) (rb : -9223372036854775808 ≤ b ∧ b ≤ 9223372036854775807) (kt : b < a → qr_W X d x Q (t, ls, st, w, c, n)) (kf : a ≤ b → qr_W X d x Q (p, ls, st, w, c, n)) : qr_W X d x Q (pc, ls, .long (ql b) :: .long (ql a) :: st, w, c, n) := by
  have e : lg_cmp (ql a) (ql b) = qz (if b < a then 1 else if a < b then -1 else 0) := by
    unfold lg_cmp
    by_cases h1 : b < a
    · rw [if_pos ((ql_lt rb ra).mpr h1), if_pos h1]
      rfl
    · rw [if_neg (fun h => h1 ((ql_lt rb ra).mp h)), if_neg h1]
      by_cases h2 : a < b
      · rw [if_pos h2]
        by_cases h3 : ql a = ql b
        · have := (ql_eq ra rb).mp h3
          omega
        · first
            | rw [if_neg h3]; rfl
            | rw [if_pos ((ql_lt ra rb).mpr h2)]; rfl
            | simp [h3]; rfl
      · rw [if_neg h2]
        have h3 : a = b := by omega
        subst h3
        first
          | rw [if_pos rfl]; rfl
          | rw [if_neg (fun h => h2 ((ql_lt ra ra).mp h))]; rfl
          | simp; rfl
  refine qr_eff hq rfl rfl (s' := (pc + 1, ls, .int (qz (if b < a then 1 else if a < b then -1 else 0)) :: st, w, c, n)) ?_ ?_
  · show some (pc + 1, ls, Value.int (lg_cmp (ql a) (ql b)) :: st, w, c, n) = _
    rw [e]
  · refine qr_if_gt t p hq2 ht hp ?_ (fun h => kt ?_) (fun h => kf ?_)
    · split
      · omega
      · split <;> omega
    · revert h
      split
      · intro h; omega
      · split <;> intro h <;> omega
    · revert h
      split
      · intro h; omega
      · split <;> intro h <;> omega
theorem qr_getst {z : Nat} (p : Nat) (hq : qm_fetch x.2.2.2.2.2.2.2 pc = some (pc, .getstatic z, 3, r1, r2, 0, rv)) (hp : pc + 3 = p) (k : qr_W X d x Q (p, ls, rv :: st, w, c, n)) : qr_W X d x Q (pc, ls, st, w, c, n) := by
  subst hp
  exact qr_eff hq rfl rfl (s' := (pc + 3, ls, rv :: st, w, c, n)) rfl k
theorem qr_getst1 {z : Nat} (p : Nat) (hq : qm_fetch x.2.2.2.2.2.2.2 pc = some (pc, .getstatic z, 3, r1, r2, 1, rv)) (hp : pc + 3 = p) (k : qr_W X d x Q (p, ls, X.2 :: st, w, c, n)) : qr_W X d x Q (pc, ls, st, w, c, n) := by
  subst hp
  exact qr_eff hq rfl rfl (s' := (pc + 3, ls, X.2 :: st, w, c, n)) rfl k
theorem qr_get {z a : Nat} {fs : List Value} {v : Value} (p : Nat) (hq : qm_fetch x.2.2.2.2.2.2.2 pc = some (pc, .getfield z, 3, r1, r2, r3, rv)) (hc : qm_cell X w a = some (.inr (r1, fs))) (hv : fs[r2]? = some v) (h9 : ¬ r3 = 9) (hp : pc + 3 = p) (k : qr_W X d x Q (p, ls, v :: st, w, c, n)) : qr_W X d x Q (pc, ls, .ref a :: st, w, c, n) := by
  subst hp
  refine qr_eff hq rfl rfl (s' := (pc + 3, ls, v :: st, w, c, n)) ?_ k
  simp only [qm_eff, hc, hv, qm_go]
  exact if_pos ⟨(by first | rfl | trivial), (by first | rfl | trivial), h9⟩
def qr_N (ci : Nat) : Nat := match qx_cl[ci]? with | some q => q.2.2 | none => 0
theorem qr_pty {ci k : Nat} (h : k < qr_N ci) : parseFieldDescriptor (qx_T ci k).2.2.1 = some (qx_ty ci k) := by
  unfold qr_N at h
  split at h
  · rename_i q hq
    obtain ⟨h1, -, h2, -⟩ := qv_cls ci q hq
    rw [← h1]
    exact h2 k h
  · omega
theorem qr_put {z a : Nat} {fs : List Value} {v : Value} (p : Nat) (hq : qm_fetch x.2.2.2.2.2.2.2 pc = some (pc, .putfield z, 3, r1, r2, 0, rv)) (ha : 16 ≤ a) (hc : w[a - 16]? = some (.inr (r1, fs))) (hl : r2 < fs.length) (hN : r2 < qr_N r1) (hfin : (qx_T r1 r2).2.2.2 = false ∨ ((qm_M1 x).2.2.1 = true ∧ (qm_M1 x).2.2.2.1 = r1)) (hfit : qm_fitb (qx_ty r1 r2) v = true) (hp : pc + 3 = p) (k : qr_W X d x Q (p, ls, st, w.set (a - 16) (.inr (r1, fs.set r2 v)), c, n)) : qr_W X d x Q (pc, ls, v :: .ref a :: st, w, c, n) := by
  subst hp
  refine qr_eff hq rfl rfl (s' := (pc + 3, ls, st, w.set (a - 16) (.inr (r1, fs.set r2 v)), c, n)) ?_ k
  simp only [qm_eff, hc, qm_go]
  refine if_pos ⟨(by first | rfl | trivial), ha, (by first | rfl | trivial), (by first | rfl | trivial), hl, fun h => ?_, ?_⟩
  · rcases hfin with h1 | h1
    · rw [h] at h1; cases h1
    · exact h1
  · rw [qr_pty hN]
    exact hfit
theorem qr_fitI {ty : FieldType} (h : ty = .int) (v : Int32) : qm_fitb ty (.int v) = true := by
  subst h
  unfold qm_fitb
  rw [Bool.and_eq_true, decide_eq_true_eq]
  exact ⟨rfl, rfl⟩
theorem qr_fitL {ty : FieldType} (h : ty = .long) (v : Int64) : qm_fitb ty (.long v) = true := by
  subst h
  unfold qm_fitb
  rw [Bool.and_eq_true, decide_eq_true_eq]
  exact ⟨rfl, rfl⟩
theorem qr_fitZ {ty : FieldType} (h : ty = .boolean) {v : Int} (hv : v = 0 ∨ v = 1) : qm_fitb ty (.int (qz v)) = true := by
  subst h
  rcases hv with rfl | rfl <;> decide +kernel
theorem qr_fitR {ty : FieldType} (h : (∃ C, ty = .object C) ∨ ∃ t, ty = .array t) (a : Nat) : qm_fitb ty (.ref a) = true := by
  unfold qm_fitb
  rw [Bool.and_eq_true, decide_eq_true_eq]
  rcases h with ⟨C, rfl⟩ | ⟨t, rfl⟩ <;> exact ⟨rfl, rfl⟩
theorem qr_in {y : Int} {N : Nat} (hz : 0 ≤ y ∧ y < (N : Int)) (hN : N ≤ 1000000) : qm_in (qz y) N = true ∧ (qz y).toNatClampNeg = y.toNat := by
  have e := qz_clamp (z := y) (by omega)
  refine ⟨?_, e⟩
  unfold qm_in
  rw [Bool.and_eq_true, decide_eq_true_eq, decide_eq_true_eq, e]
  refine ⟨fun h => ?_, by omega⟩
  have := (qz_lt (a := y) (b := 0) (by omega) (by omega)).mp h
  omega
theorem qr_iaload {a N : Nat} {y : Int} {f : Nat → Int} (p : Nat) (hq : qm_fetch x.2.2.2.2.2.2.2 pc = some (pc, .iaload, 1, r1, r2, r3, rv)) (hc : qm_cell X w a = some (.inl (.int, N, .inl (qzf f)))) (hz : 0 ≤ y ∧ y < (N : Int)) (hN : N ≤ 1000000) (hp : pc + 1 = p) (k : qr_W X d x Q (p, ls, .int (qz (f y.toNat)) :: st, w, c, n)) : qr_W X d x Q (pc, ls, .int (qz y) :: .ref a :: st, w, c, n) := by
  subst hp
  obtain ⟨h1, h2⟩ := qr_in hz hN
  refine qr_eff hq rfl rfl (s' := (pc + 1, ls, .int (qz (f y.toNat)) :: st, w, c, n)) ?_ k
  simp only [qm_eff, hc, qm_go]
  rw [if_pos ⟨(by first | rfl | trivial), h1⟩, h2]
  rfl
theorem qr_baload {a N : Nat} {y : Int} {f : Nat → Int} (p : Nat) (hq : qm_fetch x.2.2.2.2.2.2.2 pc = some (pc, .baload, 1, r1, r2, r3, rv)) (ha : 16 ≤ a) (hc : qm_cell X w a = some (.inl (.boolean, N, .inl (qzf f)))) (hz : 0 ≤ y ∧ y < (N : Int)) (hN : N ≤ 1000000) (hp : pc + 1 = p) (k : qr_W X d x Q (p, ls, .int (qz (f y.toNat)) :: st, w, c, n)) : qr_W X d x Q (pc, ls, .int (qz y) :: .ref a :: st, w, c, n) := by
  subst hp
  obtain ⟨h1, h2⟩ := qr_in hz hN
  refine qr_eff hq rfl rfl (s' := (pc + 1, ls, .int (qz (f y.toNat)) :: st, w, c, n)) ?_ k
  simp only [qm_eff, hc, qm_go]
  rw [if_pos ⟨(by first | rfl | trivial), ha, h1⟩, h2]
  rfl
theorem qr_bbload {a N : Nat} {y : Int} {f : Nat → Int} (p : Nat) (hq : qm_fetch x.2.2.2.2.2.2.2 pc = some (pc, .baload, 1, r1, r2, r3, rv)) (ha : a < 16) (hc : qm_cell X w a = some (.inl (.byte, N, .inl (qzf f)))) (hz : 0 ≤ y ∧ y < (N : Int)) (hN : N ≤ 1000000) (hp : pc + 1 = p) (k : qr_W X d x Q (p, ls, .int (qz (f y.toNat)) :: st, w, c, n)) : qr_W X d x Q (pc, ls, .int (qz y) :: .ref a :: st, w, c, n) := by
  subst hp
  obtain ⟨h1, h2⟩ := qr_in hz hN
  refine qr_eff hq rfl rfl (s' := (pc + 1, ls, .int (qz (f y.toNat)) :: st, w, c, n)) ?_ k
  simp only [qm_eff, hc, qm_go]
  rw [if_pos ⟨(by first | rfl | trivial), ha, h1⟩, h2]
  rfl
theorem qr_laload {a N : Nat} {y : Int} {f : Nat → Int} (p : Nat) (hq : qm_fetch x.2.2.2.2.2.2.2 pc = some (pc, .laload, 1, r1, r2, r3, rv)) (ha : 16 ≤ a) (hc : w[a - 16]? = some (.inl (.long, N, .inr (.inl (qlf f))))) (hz : 0 ≤ y ∧ y < (N : Int)) (hN : N ≤ 1000000) (hp : pc + 1 = p) (k : qr_W X d x Q (p, ls, .long (ql (f y.toNat)) :: st, w, c, n)) : qr_W X d x Q (pc, ls, .int (qz y) :: .ref a :: st, w, c, n) := by
  subst hp
  obtain ⟨h1, h2⟩ := qr_in hz hN
  refine qr_eff hq rfl rfl (s' := (pc + 1, ls, .long (ql (f y.toNat)) :: st, w, c, n)) ?_ k
  simp only [qm_eff, hc, qm_go]
  rw [if_pos ⟨(by first | rfl | trivial), ha, h1⟩, h2]
  rfl
theorem qr_aaload {a N b : Nat} {y : Int} {f : Nat → Option Nat} (p : Nat) (hq : qm_fetch x.2.2.2.2.2.2.2 pc = some (pc, .aaload, 1, r1, r2, r3, rv)) (ha : 16 ≤ a) (hc : w[a - 16]? = some (.inl (.object "OneRoof$Custom", N, .inr (.inr (.inr (.inr f)))))) (hz : 0 ≤ y ∧ y < (N : Int)) (hN : N ≤ 1000000) (hf : f y.toNat = some b) (hp : pc + 1 = p) (k : qr_W X d x Q (p, ls, .ref b :: st, w, c, n)) : qr_W X d x Q (pc, ls, .int (qz y) :: .ref a :: st, w, c, n) := by
  subst hp
  obtain ⟨h1, h2⟩ := qr_in hz hN
  refine qr_eff hq rfl rfl (s' := (pc + 1, ls, .ref b :: st, w, c, n)) ?_ k
  simp only [qm_eff, hc, qm_go]
  rw [if_pos ⟨(by first | rfl | trivial), ha, (by first | rfl | trivial), h1⟩, h2, hf]
  rfl
theorem qr_iastore {a N : Nat} {y v : Int} {f : Nat → Int} (p : Nat) (hq : qm_fetch x.2.2.2.2.2.2.2 pc = some (pc, .iastore, 1, r1, r2, r3, rv)) (ha : 16 ≤ a) (hc : w[a - 16]? = some (.inl (.int, N, .inl (qzf f)))) (hz : 0 ≤ y ∧ y < (N : Int)) (hN : N ≤ 1000000) (hp : pc + 1 = p) (k : qr_W X d x Q (p, ls, st, w.set (a - 16) (.inl (.int, N, .inl (qzf (qzu f y.toNat v)))), c, n)) : qr_W X d x Q (pc, ls, .int (qz v) :: .int (qz y) :: .ref a :: st, w, c, n) := by
  subst hp
  obtain ⟨h1, h2⟩ := qr_in hz hN
  refine qr_eff hq rfl rfl (s' := (pc + 1, ls, st, w.set (a - 16) (.inl (.int, N, .inl (qzf (qzu f y.toNat v)))), c, n)) ?_ k
  simp only [qm_eff, hc, qm_go]
  rw [if_pos ⟨(by first | rfl | trivial), ha, h1⟩, h2, qz_u]
theorem qr_lastore {a N : Nat} {y v : Int} {f : Nat → Int} (p : Nat) (hq : qm_fetch x.2.2.2.2.2.2.2 pc = some (pc, .lastore, 1, r1, r2, r3, rv)) (ha : 16 ≤ a) (hc : w[a - 16]? = some (.inl (.long, N, .inr (.inl (qlf f))))) (hz : 0 ≤ y ∧ y < (N : Int)) (hN : N ≤ 1000000) (hp : pc + 1 = p) (k : qr_W X d x Q (p, ls, st, w.set (a - 16) (.inl (.long, N, .inr (.inl (qlf (qzu f y.toNat v))))), c, n)) : qr_W X d x Q (pc, ls, .long (ql v) :: .int (qz y) :: .ref a :: st, w, c, n) := by
  subst hp
  obtain ⟨h1, h2⟩ := qr_in hz hN
  refine qr_eff hq rfl rfl (s' := (pc + 1, ls, st, w.set (a - 16) (.inl (.long, N, .inr (.inl (qlf (qzu f y.toNat v))))), c, n)) ?_ k
  simp only [qm_eff, hc, qm_go]
  rw [if_pos ⟨(by first | rfl | trivial), ha, h1⟩, h2, ql_u]
theorem qr_bastore {a N : Nat} {y v : Int} {f : Nat → Int} (p : Nat) (hq : qm_fetch x.2.2.2.2.2.2.2 pc = some (pc, .bastore, 1, r1, r2, r3, rv)) (ha : 16 ≤ a) (hc : w[a - 16]? = some (.inl (.boolean, N, .inl (qzf f)))) (hz : 0 ≤ y ∧ y < (N : Int)) (hN : N ≤ 1000000) (hv : v = 0 ∨ v = 1) (hp : pc + 1 = p) (k : qr_W X d x Q (p, ls, st, w.set (a - 16) (.inl (.boolean, N, .inl (qzf (qzu f y.toNat v)))), c, n)) : qr_W X d x Q (pc, ls, .int (qz v) :: .int (qz y) :: .ref a :: st, w, c, n) := by
  subst hp
  obtain ⟨h1, h2⟩ := qr_in hz hN
  have e : vp_nar .boolean (qz v) = qz v := by rcases hv with rfl | rfl <;> decide +kernel
  refine qr_eff hq rfl rfl (s' := (pc + 1, ls, st, w.set (a - 16) (.inl (.boolean, N, .inl (qzf (qzu f y.toNat v)))), c, n)) ?_ k
  simp only [qm_eff, hc, qm_go]
  rw [if_pos ⟨(by first | rfl | trivial), ha, h1⟩, h2, e, qz_u]
theorem qr_aastore {a N b : Nat} {y : Int} {vs : List Value} {f : Nat → Option Nat} (p : Nat) (hq : qm_fetch x.2.2.2.2.2.2.2 pc = some (pc, .aastore, 1, r1, r2, r3, rv)) (ha : 16 ≤ a) (hb : 16 ≤ b) (hc : w[a - 16]? = some (.inl (.object "OneRoof$Custom", N, .inr (.inr (.inr (.inr f)))))) (hv : w[b - 16]? = some (.inr (7, vs))) (hz : 0 ≤ y ∧ y < (N : Int)) (hN : N ≤ 1000000) (hp : pc + 1 = p) (k : qr_W X d x Q (p, ls, st, w.set (a - 16) (.inl (.object "OneRoof$Custom", N, .inr (.inr (.inr (.inr (va_up f y.toNat (some b))))))), c, n)) : qr_W X d x Q (pc, ls, .ref b :: .int (qz y) :: .ref a :: st, w, c, n) := by
  subst hp
  obtain ⟨h1, h2⟩ := qr_in hz hN
  refine qr_eff hq rfl rfl (s' := (pc + 1, ls, st, w.set (a - 16) (.inl (.object "OneRoof$Custom", N, .inr (.inr (.inr (.inr (va_up f y.toNat (some b))))))), c, n)) ?_ k
  simp only [qm_eff, hc, hv, qm_go]
  rw [if_pos ⟨(by first | rfl | trivial), ha, hb, (by first | rfl | trivial), (by first | rfl | trivial), h1⟩, h2]
theorem qr_alen {a N : Nat} {ty : FieldType} {g : (Nat → Int32) ⊕ (Nat → Int64) ⊕ (Nat → UInt32) ⊕ (Nat → UInt64) ⊕ (Nat → Option Nat)} (p : Nat) (hq : qm_fetch x.2.2.2.2.2.2.2 pc = some (pc, .arraylength, 1, r1, r2, r3, rv)) (hc : qm_cell X w a = some (.inl (ty, N, g))) (hty : a < 16 ∨ ty = .int ∨ ty = .long ∨ ty = .boolean ∨ ty = .object "OneRoof$Custom") (hp : pc + 1 = p) (k : qr_W X d x Q (p, ls, .int (qz (N : Int)) :: st, w, c, n)) : qr_W X d x Q (pc, ls, .ref a :: st, w, c, n) := by
  subst hp
  refine qr_eff hq rfl rfl (s' := (pc + 1, ls, .int (qz (N : Int)) :: st, w, c, n)) ?_ k
  simp only [qm_eff, hc, qm_go]
  rw [if_pos ⟨(by first | rfl | trivial), hty⟩, qz_nat]
theorem qr_newI {y : Int} (w' : qm_W) (p c' n' : Nat) (hq : qm_fetch x.2.2.2.2.2.2.2 pc = some (pc, .newarray .int, 2, r1, r2, r3, rv)) (hy : 0 ≤ y ∧ y ≤ 1000000) (hc : c + 1 ≤ (qm_M1 x).2.2.2.2.1) (hn : n + y.toNat ≤ (qm_M1 x).2.2.2.2.2) (hw : w ++ [.inl (.int, y.toNat, .inl (qzf (fun _ => 0)))] = w') (hc2 : c + 1 = c') (hn2 : n + y.toNat = n') (a : Nat) (ha : 16 + w.length = a) (hp : pc + 2 = p) (k : qr_W X d x Q (p, ls, .ref a :: st, w', c', n')) : qr_W X d x Q (pc, ls, .int (qz y) :: st, w, c, n) := by
  subst hp
  subst hw
  subst ha
  subst hc2
  subst hn2
  have e := qz_clamp (z := y) (by omega)
  have h0 : ¬ qz y < 0 := fun h => by
    have := (qz_lt (a := y) (b := 0) (by omega) (by omega)).mp h
    omega
  refine qr_eff hq rfl rfl (s' := (pc + 2, ls, .ref (16 + w.length) :: st, w ++ [.inl (.int, y.toNat, .inl (qzf (fun _ => 0)))], c + 1, n + y.toNat)) ?_ k
  refine (if_pos ⟨rfl, h0, by rw [e]; omega, hc, by rw [e]; exact hn⟩).trans ?_
  rw [e]
  rfl
theorem qr_newL {y : Int} (w' : qm_W) (p c' n' : Nat) (hq : qm_fetch x.2.2.2.2.2.2.2 pc = some (pc, .newarray .long, 2, r1, r2, r3, rv)) (hy : 0 ≤ y ∧ y ≤ 1000000) (hc : c + 1 ≤ (qm_M1 x).2.2.2.2.1) (hn : n + y.toNat ≤ (qm_M1 x).2.2.2.2.2) (hw : w ++ [.inl (.long, y.toNat, .inr (.inl (qlf (fun _ => 0))))] = w') (hc2 : c + 1 = c') (hn2 : n + y.toNat = n') (a : Nat) (ha : 16 + w.length = a) (hp : pc + 2 = p) (k : qr_W X d x Q (p, ls, .ref a :: st, w', c', n')) : qr_W X d x Q (pc, ls, .int (qz y) :: st, w, c, n) := by
  subst hp
  subst hw
  subst ha
  subst hc2
  subst hn2
  have e := qz_clamp (z := y) (by omega)
  have h0 : ¬ qz y < 0 := fun h => by
    have := (qz_lt (a := y) (b := 0) (by omega) (by omega)).mp h
    omega
  refine qr_eff hq rfl rfl (s' := (pc + 2, ls, .ref (16 + w.length) :: st, w ++ [.inl (.long, y.toNat, .inr (.inl (qlf (fun _ => 0))))], c + 1, n + y.toNat)) ?_ k
  refine (if_pos ⟨rfl, h0, by rw [e]; omega, hc, by rw [e]; exact hn⟩).trans ?_
  rw [e]
  rfl
theorem qr_newZ {y : Int} (w' : qm_W) (p c' n' : Nat) (hq : qm_fetch x.2.2.2.2.2.2.2 pc = some (pc, .newarray .boolean, 2, r1, r2, r3, rv)) (hy : 0 ≤ y ∧ y ≤ 1000000) (hc : c + 1 ≤ (qm_M1 x).2.2.2.2.1) (hn : n + y.toNat ≤ (qm_M1 x).2.2.2.2.2) (hw : w ++ [.inl (.boolean, y.toNat, .inl (qzf (fun _ => 0)))] = w') (hc2 : c + 1 = c') (hn2 : n + y.toNat = n') (a : Nat) (ha : 16 + w.length = a) (hp : pc + 2 = p) (k : qr_W X d x Q (p, ls, .ref a :: st, w', c', n')) : qr_W X d x Q (pc, ls, .int (qz y) :: st, w, c, n) := by
  subst hp
  subst hw
  subst ha
  subst hc2
  subst hn2
  have e := qz_clamp (z := y) (by omega)
  have h0 : ¬ qz y < 0 := fun h => by
    have := (qz_lt (a := y) (b := 0) (by omega) (by omega)).mp h
    omega
  refine qr_eff hq rfl rfl (s' := (pc + 2, ls, .ref (16 + w.length) :: st, w ++ [.inl (.boolean, y.toNat, .inl (qzf (fun _ => 0)))], c + 1, n + y.toNat)) ?_ k
  refine (if_pos ⟨rfl, h0, by rw [e]; omega, hc, by rw [e]; exact hn⟩).trans ?_
  rw [e]
  rfl
theorem qr_newQ {z : Nat} {y : Int} (w' : qm_W) (p c' n' : Nat) (hq : qm_fetch x.2.2.2.2.2.2.2 pc = some (pc, .anewarray z, 3, 7, r2, 0, rv)) (hy : 0 ≤ y ∧ y ≤ 1000000) (hc : c + 1 ≤ (qm_M1 x).2.2.2.2.1) (hn : n + y.toNat ≤ (qm_M1 x).2.2.2.2.2) (hw : w ++ [.inl (.object "OneRoof$Custom", y.toNat, .inr (.inr (.inr (.inr (fun _ => none)))))] = w') (hc2 : c + 1 = c') (hn2 : n + y.toNat = n') (a : Nat) (ha : 16 + w.length = a) (hp : pc + 3 = p) (k : qr_W X d x Q (p, ls, .ref a :: st, w', c', n')) : qr_W X d x Q (pc, ls, .int (qz y) :: st, w, c, n) := by
  subst hp
  subst hw
  subst ha
  subst hc2
  subst hn2
  have e := qz_clamp (z := y) (by omega)
  have h0 : ¬ qz y < 0 := fun h => by
    have := (qz_lt (a := y) (b := 0) (by omega) (by omega)).mp h
    omega
  refine qr_eff hq rfl rfl (s' := (pc + 3, ls, .ref (16 + w.length) :: st, w ++ [.inl (.object "OneRoof$Custom", y.toNat, .inr (.inr (.inr (.inr (fun _ => none)))))], c + 1, n + y.toNat)) ?_ k
  refine (if_pos ⟨rfl, rfl, rfl, h0, by rw [e]; omega, hc, by rw [e]; exact hn⟩).trans ?_
  rw [e]
  rfl
theorem qr_new {z : Nat} {C : String} {T : u_T} {N : Nat} (w' : qm_W) (p c' n' : Nat) (hq : qm_fetch x.2.2.2.2.2.2.2 pc = some (pc, .new z, 3, r1, r2, 0, rv)) (hcl : qx_cl[r1]? = some (C, T, N)) (hc : c + 1 ≤ (qm_M1 x).2.2.2.2.1) (hn : n + N ≤ (qm_M1 x).2.2.2.2.2) (hw : w ++ [.inr (r1, (List.range N).map (fun j => defaultValue (qx_ty r1 j)))] = w') (hc2 : c + 1 = c') (hn2 : n + N = n') (a : Nat) (ha : 16 + w.length = a) (hp : pc + 3 = p) (k : qr_W X d x Q (p, ls, .ref a :: st, w', c', n')) : qr_W X d x Q (pc, ls, st, w, c, n) := by
  subst hp
  subst hw
  subst ha
  subst hc2
  subst hn2
  refine qr_eff hq rfl rfl (s' := (pc + 3, ls, .ref (16 + w.length) :: st, w ++ [.inr (r1, (List.range N).map (fun j => defaultValue (qx_ty r1 j)))], c + 1, n + N)) ?_ k
  simp only [qm_eff, hcl, qm_go]
  exact if_pos ⟨(by first | rfl | trivial), (by first | rfl | trivial), hc, hn⟩
theorem qr_call {q : qm_I} {k : Nat} {as rest : List Value} {Q' : Option Value → qm_W → Prop} (p c' n' : Nat) (hq : qm_fetch x.2.2.2.2.2.2.2 pc = some q) (hcall : qm_call X q st w = some (k, as, p, rest)) (hc : c + (qm_bud k).1 ≤ (qm_M1 x).2.2.2.2.1) (hn : n + (qm_bud k).2 ≤ (qm_M1 x).2.2.2.2.2) (hc2 : c + (qm_bud k).1 = c') (hn2 : n + (qm_bud k).2 = n') (hT : qm_T X d k as w Q') (kk : ∀ r w', Q' r w' → qr_W X d x Q (p, ls, r.toList ++ rest, w', c', n')) : qr_W X d x Q (pc, ls, st, w, c, n) := by
  subst hc2
  subst hn2
  refine qm_wp_go (qm_T_mono X d) ?_
  unfold qm_step
  simp only [hq, hcall]
  exact ⟨hc, hn, qr_mono hT kk⟩
/-- a call that makes nothing -/
theorem qr_callN {q : qm_I} {k : Nat} {as rest : List Value} {Q' : Option Value → qm_W → Prop} (p : Nat) (hq : qm_fetch x.2.2.2.2.2.2.2 pc = some q) (hcall : qm_call X q st w = some (k, as, p, rest)) (hb : qm_bud k = (0, 0)) (hT : qm_T X d k as w Q') (kk : ∀ r w', Q' r w' → qr_W X d x Q (p, ls, r.toList ++ rest, w', 0, 0)) : qr_W X d x Q (pc, ls, st, w, 0, 0) :=
  qr_call p 0 0 hq hcall (by rw [hb]; exact Nat.zero_le _) (by rw [hb]; exact Nat.zero_le _) (by rw [hb]; rfl) (by rw [hb]; rfl) hT kk
theorem qr_objinit {z a : Nat} (p : Nat) (hq : qm_fetch x.2.2.2.2.2.2.2 pc = some (pc, .invokespecial z, 3, r1, 0, 6, rv)) (hs : qm_sum st ≤ 8) (hp : pc + 3 = p) (k : qr_W X d x Q (p, ls, st, w, c, n)) : qr_W X d x Q (pc, ls, .ref a :: st, w, c, n) := by
  subst hp
  exact qr_eff hq rfl rfl (s' := (pc + 3, ls, st, w, c, n)) (if_pos ⟨rfl, rfl, rfl, hs⟩) k
theorem qr_ret {q : qm_I} {r : Option Value} (hq : qm_fetch x.2.2.2.2.2.2.2 pc = some q) (hcall : qm_call X q st w = none) (hr : qm_retn (qm_M1 x) q st = some r) (hc : c ≤ (qm_M1 x).2.2.2.2.1) (hn : n ≤ (qm_M1 x).2.2.2.2.2) (k : Q r w) : qr_W X d x Q (pc, ls, st, w, c, n) := by
  refine qm_wp_go (qm_T_mono X d) ?_
  unfold qm_step
  simp only [hq, hcall, hr]
  exact ⟨hc, hn, k⟩
theorem qr_retI {v : Int} (hq : qm_fetch x.2.2.2.2.2.2.2 pc = some (pc, .ireturn, 1, r1, r2, r3, rv)) (hty : (qm_M1 x).2.1 = some .int) (hc : c ≤ (qm_M1 x).2.2.2.2.1) (hn : n ≤ (qm_M1 x).2.2.2.2.2) (k : Q (some (.int (qz v))) w) : qr_W X d x Q (pc, ls, [.int (qz v)], w, c, n) := by
  refine qr_ret hq rfl ?_ hc hn k
  simp only [qm_retn, hty]
  exact if_pos ⟨(by first | rfl | trivial), (by first | rfl | trivial)⟩
theorem qr_retZ {v : Int} (hq : qm_fetch x.2.2.2.2.2.2.2 pc = some (pc, .ireturn, 1, r1, r2, r3, rv)) (hty : (qm_M1 x).2.1 = some .boolean) (hv : v = 0 ∨ v = 1) (hc : c ≤ (qm_M1 x).2.2.2.2.1) (hn : n ≤ (qm_M1 x).2.2.2.2.2) (k : Q (some (.int (qz v))) w) : qr_W X d x Q (pc, ls, [.int (qz v)], w, c, n) := by
  refine qr_ret hq rfl ?_ hc hn k
  simp only [qm_retn, hty]
  exact if_pos ⟨(by first | rfl | trivial), by rcases hv with rfl | rfl <;> decide +kernel⟩
theorem qr_retL {v : Int64} (hq : qm_fetch x.2.2.2.2.2.2.2 pc = some (pc, .lreturn, 1, r1, r2, r3, rv)) (hty : (qm_M1 x).2.1 = some .long) (hc : c ≤ (qm_M1 x).2.2.2.2.1) (hn : n ≤ (qm_M1 x).2.2.2.2.2) (k : Q (some (.long v)) w) : qr_W X d x Q (pc, ls, [.long v], w, c, n) := by
  refine qr_ret hq rfl ?_ hc hn k
  simp only [qm_retn]
  exact if_pos ⟨(by first | rfl | trivial), hty⟩
theorem qr_retV (hq : qm_fetch x.2.2.2.2.2.2.2 pc = some (pc, .return_, 1, r1, r2, r3, rv)) (hty : (qm_M1 x).2.1 = none) (hc : c ≤ (qm_M1 x).2.2.2.2.1) (hn : n ≤ (qm_M1 x).2.2.2.2.2) (k : Q none w) : qr_W X d x Q (pc, ls, [], w, c, n) := by
  refine qr_ret hq rfl ?_ hc hn k
  simp only [qm_retn]
  exact if_pos ⟨(by first | rfl | trivial), hty⟩
theorem qr_tabOut {dflt lo hi : Int} {offs : Array Int} {len : Nat} {a : Int} (t : Nat) (hq : qm_fetch x.2.2.2.2.2.2.2 pc = some (pc, .tableswitch dflt lo hi offs, len, r1, r2, r3, rv)) (ra : -2147483648 ≤ a ∧ a ≤ 2147483647) (h : a < lo ∨ hi < a) (ht : qm_to pc dflt = some t) (k : qr_W X d x Q (t, ls, st, w, c, n)) : qr_W X d x Q (pc, ls, .int (qz a) :: st, w, c, n) := by
  refine qr_eff hq rfl rfl (s' := (t, ls, st, w, c, n)) ?_ k
  refine (if_pos (by rw [qz_ti ra]; exact h)).trans ?_
  unfold qm_jump
  rw [ht]
  rfl
theorem qr_tabIn {dflt lo hi : Int} {offs : Array Int} {len : Nat} {a off : Int} (t : Nat) (hq : qm_fetch x.2.2.2.2.2.2.2 pc = some (pc, .tableswitch dflt lo hi offs, len, r1, r2, r3, rv)) (ra : -2147483648 ≤ a ∧ a ≤ 2147483647) (h : lo ≤ a ∧ a ≤ hi) (ho : offs[(a - lo).toNat]? = some off) (ht : qm_to pc off = some t) (k : qr_W X d x Q (t, ls, st, w, c, n)) : qr_W X d x Q (pc, ls, .int (qz a) :: st, w, c, n) := by
  refine qr_eff hq rfl rfl (s' := (t, ls, st, w, c, n)) ?_ k
  refine (if_neg (by rw [qz_ti ra]; omega)).trans ?_
  rw [qz_ti ra, ho]
  show qm_jump pc off ls st w c n = _
  unfold qm_jump
  rw [ht]
  rfl
end QR
end
section
set_option maxRecDepth 100000 in
theorem qv_words : Cond.arrayClass .int ∈ lw_tbl ∧ Cond.arrayClass .long ∈ lw_tbl ∧ Cond.arrayClass .boolean ∈ lw_tbl ∧ Cond.native arraycopyName ∈ lw_tbl ∧ Cond.static arraycopyName ∈ lw_tbl ∧ Cond.initialized "java/lang/System" ∈ lw_tbl ∧ Cond.instanceMethod objectInit ∈ lw_tbl ∧ Cond.code objectInit ⟨#[0xb1]⟩ 1 none ∈ lw_tbl := ⟨qv_in1 (List.mem_of_getElem? (i := 75) rfl), qv_in1 (List.mem_of_getElem? (i := 76) rfl), qv_in6 (List.mem_of_getElem? (i := 174) rfl), qv_in3 (List.mem_of_getElem? (i := 182) rfl), qv_in3 (List.mem_of_getElem? (i := 181) rfl), qv_in1 (List.mem_of_getElem? (i := 21) rfl), qv_in1 (List.mem_of_getElem? (i := 31) rfl), qv_in1 (List.mem_of_getElem? (i := 32) rfl)⟩
def qv_M (x : qs_Ent) : Prop := plainFor x.2.1 = true ∧ Cond.code x.2.1 x.2.2.1 x.2.2.2.1 x.2.2.2.2.1 ∈ lw_tbl ∧ x.2.1.cls = qx_on x.1 ∧ x.2.2.2.1 ≤ 30 ∧ ∀ q ∈ x.2.2.2.2.2.2.2, decode x.2.2.1 q.1 = .ok (q.2.1, q.2.2.1) ∧ 0 ≤ (q.1 : Int) + qs_off q.2.1 ∧ qs_ok x.1 q
def qv_D (b : ByteArray) (o : Nat) (q : qm_I) : Prop := decode b q.1 = .ok (q.2.1, q.2.2.1) ∧ 0 ≤ (q.1 : Int) + qs_off q.2.1 ∧ qs_ok o q
theorem qv_D_of {b : ByteArray} {o : Nat} {l : qm_C} (h : ∀ q ∈ l, decode b q.1 = .ok (q.2.1, q.2.2.1)) (h2 : l.all (fun q => decide (0 ≤ (q.1 : Int) + qs_off q.2.1) && qv_chk o q) = true) : ∀ q ∈ l, qv_D b o q := by
  intro q hq
  have h3 := List.all_eq_true.mp h2 q hq
  rw [Bool.and_eq_true, decide_eq_true_eq] at h3
  exact ⟨h q hq, h3.1, qv_chk_ok h3.2⟩
theorem qv_E_of {b : ByteArray} {o : Nat} {l : qm_C} (p : Nat) (h : qd_ck b l (b.data.toList.drop p) p = true) (h2 : l.all (fun q => decide (0 ≤ (q.1 : Int) + qs_off q.2.1) && qv_chk o q) = true) : ∀ q ∈ l, qv_D b o q := qv_D_of (qd_cks b l _ p h rfl) h2
theorem qv_d1_0 : ∀ q ∈ qx_c1, qv_D prog_1_method_1_code 1 q := qv_E_of 0 (by decide +kernel) (by decide +kernel)
theorem qv_pn1 : _root_.Jvm.plainName "OneRoof" = true := by decide +kernel
theorem qv_d2_0 : ∀ q ∈ qx_c2, qv_D prog_5_method_1_code 2 q := qv_E_of 0 (by decide +kernel) (by decide +kernel)
theorem qv_pn2 : _root_.Jvm.plainName "OneRoof$Folk" = true := by decide +kernel
theorem qv_d3_0 : ∀ q ∈ qx_c3, qv_D prog_8_method_1_code 3 q := qv_E_of 0 (by decide +kernel) (by decide +kernel)
theorem qv_pn3 : _root_.Jvm.plainName "OneRoof$Kinship" = true := by decide +kernel
theorem qv_d4_0 : ∀ q ∈ qx_c4, qv_D prog_24_method_103_code 4 q := qv_E_of 0 (by decide +kernel) (by decide +kernel)
theorem qv_d5_0 : ∀ q ∈ qx_c5, qv_D prog_4_method_1_code 5 q := qv_E_of 0 (by decide +kernel) (by decide +kernel)
theorem qv_pn4 : _root_.Jvm.plainName "OneRoof$Feuds" = true := by decide +kernel
theorem qv_d6_0 : ∀ q ∈ qx_c6, qv_D prog_10_method_1_code 6 q := qv_E_of 0 (by decide +kernel) (by decide +kernel)
theorem qv_pn5 : _root_.Jvm.plainName "OneRoof$Peaces" = true := by decide +kernel
theorem qv_d7_0 : ∀ q ∈ qx_c7, qv_D prog_2_method_1_code 7 q := qv_E_of 0 (by decide +kernel) (by decide +kernel)
theorem qv_pn6 : _root_.Jvm.plainName "OneRoof$Acts" = true := by decide +kernel
theorem qv_d8_0 : ∀ q ∈ qx_c8, qv_D prog_11_method_1_code 8 q := qv_E_of 0 (by decide +kernel) (by decide +kernel)
theorem qv_pn7 : _root_.Jvm.plainName "OneRoof$Pegs" = true := by decide +kernel
theorem qv_d9_0 : ∀ q ∈ qx_c9, qv_D prog_3_method_1_code 9 q := qv_E_of 0 (by decide +kernel) (by decide +kernel)
theorem qv_pn8 : _root_.Jvm.plainName "OneRoof$Custom" = true := by decide +kernel
theorem qv_d10_0 : ∀ q ∈ qx_c10, qv_D prog_20_method_54_code 10 q := qv_E_of 0 (by decide +kernel) (by decide +kernel)
theorem qv_d11_0 : ∀ q ∈ qx_c11, qv_D prog_20_method_152_code 10 q := qv_E_of 0 (by decide +kernel) (by decide +kernel)
theorem qv_d12_0 : ∀ q ∈ qx_c12, qv_D prog_18_method_69_code 11 q := qv_E_of 0 (by decide +kernel) (by decide +kernel)
theorem qv_d13_0 : ∀ q ∈ qx_c13, qv_D prog_20_method_56_code 10 q := qv_E_of 0 (by decide +kernel) (by decide +kernel)
theorem qv_d14_0 : ∀ q ∈ qx_c14, qv_D prog_20_method_154_code 10 q := qv_E_of 0 (by decide +kernel) (by decide +kernel)
theorem qv_d15_0 : ∀ q ∈ qx_c15, qv_D prog_21_method_2_code 12 q := qv_E_of 0 (by decide +kernel) (by decide +kernel)
theorem qv_d16_0 : ∀ q ∈ qx_c16, qv_D prog_20_method_155_code 10 q := qv_E_of 0 (by decide +kernel) (by decide +kernel)
theorem qv_d17_0 : ∀ q ∈ qx_c17, qv_D prog_25_method_11_code 13 q := qv_E_of 0 (by decide +kernel) (by decide +kernel)
theorem qv_d18_0 : ∀ q ∈ qx_c18, qv_D prog_3_method_4_code 9 q := qv_E_of 0 (by decide +kernel) (by decide +kernel)
theorem qv_d19_0 : ∀ q ∈ qx_c19, qv_D prog_3_method_5_code 9 q := qv_E_of 0 (by decide +kernel) (by decide +kernel)
theorem qv_d20_0 : ∀ q ∈ qx_c20, qv_D prog_3_method_6_code 9 q := qv_E_of 0 (by decide +kernel) (by decide +kernel)
theorem qv_d21_0 : ∀ q ∈ qx_c21, qv_D prog_3_method_7_code 9 q := qv_E_of 0 (by decide +kernel) (by decide +kernel)
theorem qv_d22_0 : ∀ q ∈ qx_c22, qv_D prog_3_method_10_code 9 q := qv_E_of 0 (by decide +kernel) (by decide +kernel)
theorem qv_d23_0 : ∀ q ∈ qx_c23, qv_D prog_3_method_12_code 9 q := qv_E_of 0 (by decide +kernel) (by decide +kernel)
theorem qv_d24_0 : ∀ q ∈ qx_c24, qv_D prog_3_method_8_code 9 q := qv_E_of 0 (by decide +kernel) (by decide +kernel)
theorem qv_d25_0 : ∀ q ∈ qx_c25, qv_D prog_3_method_11_code 9 q := qv_E_of 0 (by decide +kernel) (by decide +kernel)
theorem qv_d26_0 : ∀ q ∈ qx_c26, qv_D prog_20_method_79_code 10 q := qv_E_of 0 (by decide +kernel) (by decide +kernel)
theorem qv_d27_0 : ∀ q ∈ qx_c27, qv_D prog_20_method_80_code 10 q := qv_E_of 0 (by decide +kernel) (by decide +kernel)
theorem qv_d28_0 : ∀ q ∈ qx_c28, qv_D prog_21_method_22_code 12 q := qv_E_of 0 (by decide +kernel) (by decide +kernel)
theorem qv_d29_0 : ∀ q ∈ qx_c29, qv_D prog_21_method_4_code 12 q := qv_E_of 0 (by decide +kernel) (by decide +kernel)
theorem qv_d30_0 : ∀ q ∈ qx_c30, qv_D prog_18_method_65_code 11 q := qv_E_of 0 (by decide +kernel) (by decide +kernel)
theorem qv_d31_0 : ∀ q ∈ qx_c31, qv_D prog_21_method_23_code 12 q := qv_E_of 0 (by decide +kernel) (by decide +kernel)
theorem qv_d32_0 : ∀ q ∈ qx_c32, qv_D prog_3_method_9_code 9 q := qv_E_of 0 (by decide +kernel) (by decide +kernel)
theorem qv_d33_0 : ∀ q ∈ qx_c33, qv_D prog_3_method_13_code 9 q := qv_E_of 0 (by decide +kernel) (by decide +kernel)
theorem qv_d34_0 : ∀ q ∈ qx_c34, qv_D prog_9_method_1_code 14 q := qv_E_of 0 (by decide +kernel) (by decide +kernel)
theorem qv_pn9 : _root_.Jvm.plainName "OneRoof$Moment" = true := by decide +kernel
theorem qv_d35_0 : ∀ q ∈ qx_c35, qv_D prog_6_method_1_code 15 q := qv_E_of 0 (by decide +kernel) (by decide +kernel)
theorem qv_pn10 : _root_.Jvm.plainName "OneRoof$Guests" = true := by decide +kernel
theorem qv_d36_0 : ∀ q ∈ qx_c36, qv_D prog_12_method_1_code 16 q := qv_E_of 0 (by decide +kernel) (by decide +kernel)
theorem qv_pn11 : _root_.Jvm.plainName "OneRoof$Telling" = true := by decide +kernel
theorem qv_d37_0 : ∀ q ∈ qx_c37, qv_D prog_7_method_1_code 17 q := qv_E_of 0 (by decide +kernel) (by decide +kernel)
theorem qv_pn12 : _root_.Jvm.plainName "OneRoof$History" = true := by decide +kernel
theorem qv_d38_0 : ∀ q ∈ qx_c38, qv_D prog_1_method_2_code 1 q := qv_E_of 0 (by decide +kernel) (by decide +kernel)
theorem qv_d39_0 : ∀ q ∈ qx_c39, qv_D prog_5_method_5_code 2 q := qv_E_of 0 (by decide +kernel) (by decide +kernel)
theorem qv_d40_0 : ∀ q ∈ qx_c40, qv_D prog_5_method_2_code 2 q := qv_E_of 0 (by decide +kernel) (by decide +kernel)
theorem qv_d41_0 : ∀ q ∈ qx_c41, qv_D prog_1_method_44_code 1 q := qv_E_of 0 (by decide +kernel) (by decide +kernel)
theorem qv_d42_0 : ∀ q ∈ qx_c42, qv_D prog_5_method_6_code 2 q := qv_E_of 0 (by decide +kernel) (by decide +kernel)
theorem qv_d43_0 : ∀ q ∈ qx_c43, qv_D prog_1_method_3_code 1 q := qv_E_of 0 (by decide +kernel) (by decide +kernel)
theorem qv_d44_0 : ∀ q ∈ qx_c44, qv_D prog_11_method_2_code 8 q := qv_E_of 0 (by decide +kernel) (by decide +kernel)
theorem qv_d45_0 : ∀ q ∈ qx_c45, qv_D prog_11_method_3_code 8 q := qv_E_of 0 (by decide +kernel) (by decide +kernel)
theorem qv_d46_0 : ∀ q ∈ qx_c46, qv_D prog_11_method_5_code 8 q := qv_E_of 0 (by decide +kernel) (by decide +kernel)
theorem qv_d47_0 : ∀ q ∈ qx_c47, qv_D prog_11_method_4_code 8 q := qv_E_of 0 (by decide +kernel) (by decide +kernel)
theorem qv_d48_0 : ∀ q ∈ qx_c48, qv_D prog_11_method_10_code 8 q := qv_E_of 0 (by decide +kernel) (by decide +kernel)
theorem qv_d49_0 : ∀ q ∈ qx_c49, qv_D prog_1_method_4_code 1 q := qv_E_of 0 (by decide +kernel) (by decide +kernel)
theorem qv_d50_0 : ∀ q ∈ qx_c50, qv_D prog_1_method_48_code 1 q := qv_E_of 0 (by decide +kernel) (by decide +kernel)
theorem qv_d51_0 : ∀ q ∈ qx_c51, qv_D prog_1_method_5_code 1 q := qv_E_of 0 (by decide +kernel) (by decide +kernel)
theorem qv_d52_0 : ∀ q ∈ qx_c52, qv_D prog_7_method_2_code 17 q := qv_E_of 0 (by decide +kernel) (by decide +kernel)
theorem qv_d53_0 : ∀ q ∈ qx_c53, qv_D prog_7_method_6_code 17 q := qv_E_of 0 (by decide +kernel) (by decide +kernel)
theorem qv_d54_0 : ∀ q ∈ qx_c54, qv_D prog_7_method_3_code 17 q := qv_E_of 0 (by decide +kernel) (by decide +kernel)
theorem qv_d55_0 : ∀ q ∈ qx_c55, qv_D prog_7_method_7_code 17 q := qv_E_of 0 (by decide +kernel) (by decide +kernel)
theorem qv_d56_0 : ∀ q ∈ qx_c56, qv_D prog_1_method_6_code 1 q := qv_E_of 0 (by decide +kernel) (by decide +kernel)
theorem qv_d57_0 : ∀ q ∈ qx_c57, qv_D prog_8_method_2_code 3 q := qv_E_of 0 (by decide +kernel) (by decide +kernel)
theorem qv_d58_0 : ∀ q ∈ qx_c58, qv_D prog_8_method_3_code 3 q := qv_E_of 0 (by decide +kernel) (by decide +kernel)
theorem qv_d59_0 : ∀ q ∈ qx_c59, qv_D prog_1_method_7_code 1 q := qv_E_of 0 (by decide +kernel) (by decide +kernel)
theorem qv_d60_0 : ∀ q ∈ qx_c60, qv_D prog_1_method_8_code 1 q := qv_E_of 0 (by decide +kernel) (by decide +kernel)
theorem qv_d61_0 : ∀ q ∈ qx_c61, qv_D prog_5_method_3_code 2 q := qv_E_of 0 (by decide +kernel) (by decide +kernel)
theorem qv_d62_0 : ∀ q ∈ qx_c62, qv_D prog_1_method_43_code 1 q := qv_E_of 0 (by decide +kernel) (by decide +kernel)
theorem qv_d63_0 : ∀ q ∈ qx_c63, qv_D prog_4_method_2_code 5 q := qv_E_of 0 (by decide +kernel) (by decide +kernel)
theorem qv_d64_0 : ∀ q ∈ qx_c64, qv_D prog_1_method_9_code 1 q := qv_E_of 0 (by decide +kernel) (by decide +kernel)
theorem qv_d65_0 : ∀ q ∈ qx_c65, qv_D prog_1_method_10_code 1 q := qv_E_of 0 (by decide +kernel) (by decide +kernel)
theorem qv_d66_0 : ∀ q ∈ qx_c66, qv_D prog_4_method_6_code 5 q := qv_E_of 0 (by decide +kernel) (by decide +kernel)
theorem qv_d67_0 : ∀ q ∈ qx_c67, qv_D prog_4_method_3_code 5 q := qv_E_of 0 (by decide +kernel) (by decide +kernel)
theorem qv_d68_0 : ∀ q ∈ qx_c68, qv_D prog_4_method_5_code 5 q := qv_E_of 0 (by decide +kernel) (by decide +kernel)
theorem qv_d69_0 : ∀ q ∈ qx_c69, qv_D prog_1_method_11_code 1 q := qv_E_of 0 (by decide +kernel) (by decide +kernel)
theorem qv_d70_0 : ∀ q ∈ qx_c70, qv_D prog_1_method_45_code 1 q := qv_E_of 0 (by decide +kernel) (by decide +kernel)
theorem qv_d71_0 : ∀ q ∈ qx_c71, qv_D prog_10_method_3_code 6 q := qv_E_of 0 (by decide +kernel) (by decide +kernel)
theorem qv_d72_0 : ∀ q ∈ qx_c72, qv_D prog_1_method_12_code 1 q := qv_E_of 0 (by decide +kernel) (by decide +kernel)
theorem qv_d73_0 : ∀ q ∈ qx_c73, qv_D prog_10_method_2_code 6 q := qv_E_of 0 (by decide +kernel) (by decide +kernel)
theorem qv_d74_0 : ∀ q ∈ qx_c74, qv_D prog_17_method_50_code 18 q := qv_E_of 0 (by decide +kernel) (by decide +kernel)
theorem qv_d75_0 : ∀ q ∈ qx_c75, qv_D prog_1_method_13_code 1 q := qv_E_of 0 (by decide +kernel) (by decide +kernel)
theorem qv_d76_0 : ∀ q ∈ qx_c76, qv_D prog_1_method_14_code 1 q := qv_E_of 0 (by decide +kernel) (by decide +kernel)
theorem qv_d77_0 : ∀ q ∈ qx_c77, qv_D prog_10_method_4_code 6 q := qv_E_of 0 (by decide +kernel) (by decide +kernel)
theorem qv_d78_0 : ∀ q ∈ qx_c78, qv_D prog_10_method_6_code 6 q := qv_E_of 0 (by decide +kernel) (by decide +kernel)
theorem qv_d79_0 : ∀ q ∈ qx_c79, qv_D prog_1_method_15_code 1 q := qv_E_of 0 (by decide +kernel) (by decide +kernel)
theorem qv_d80_0 : ∀ q ∈ qx_c80, qv_D prog_10_method_7_code 6 q := qv_E_of 0 (by decide +kernel) (by decide +kernel)
theorem qv_d81_0 : ∀ q ∈ qx_c81, qv_D prog_1_method_16_code 1 q := qv_E_of 0 (by decide +kernel) (by decide +kernel)
theorem qv_d82_0 : ∀ q ∈ qx_c82, qv_D prog_17_method_49_code 18 q := qv_E_of 0 (by decide +kernel) (by decide +kernel)
theorem qv_d83_0 : ∀ q ∈ qx_c83, qv_D prog_16_method_48_code 19 q := qv_E_of 0 (by decide +kernel) (by decide +kernel)
theorem qv_d84_0 : ∀ q ∈ qx_c84, qv_D prog_1_method_17_code 1 q := qv_E_of 0 (by decide +kernel) (by decide +kernel)
theorem qv_d85_0 : ∀ q ∈ qx_c85, qv_D prog_1_method_18_code 1 q := qv_E_of 0 (by decide +kernel) (by decide +kernel)
theorem qv_d86_0 : ∀ q ∈ qx_c86, qv_D prog_3_method_3_code 9 q := qv_E_of 0 (by decide +kernel) (by decide +kernel)
theorem qv_d87_0 : ∀ q ∈ qx_c87, qv_D prog_1_method_19_code 1 q := qv_E_of 0 (by decide +kernel) (by decide +kernel)
theorem qv_d88_0 : ∀ q ∈ qx_c88, qv_D prog_5_method_4_code 2 q := qv_E_of 0 (by decide +kernel) (by decide +kernel)
theorem qv_d89_0 : ∀ q ∈ qx_c89, qv_D prog_9_method_2_code 14 q := qv_E_of 0 (by decide +kernel) (by decide +kernel)
theorem qv_d90_0 : ∀ q ∈ qx_c90, qv_D prog_9_method_7_code 14 q := qv_E_of 0 (by decide +kernel) (by decide +kernel)
theorem qv_d91_0 : ∀ q ∈ qx_c91, qv_D prog_3_method_2_code 9 q := qv_E_of 0 (by decide +kernel) (by decide +kernel)
theorem qv_d92_0 : ∀ q ∈ qx_c92, qv_D prog_9_method_5_code 14 q := qv_E_of 0 (by decide +kernel) (by decide +kernel)
theorem qv_d93_0 : ∀ q ∈ qx_c93, qv_D prog_9_method_4_code 14 q := qv_E_of 0 (by decide +kernel) (by decide +kernel)
theorem qv_d94_0 : ∀ q ∈ qx_c94, qv_D prog_9_method_6_code 14 q := qv_E_of 0 (by decide +kernel) (by decide +kernel)
theorem qv_d95_0 : ∀ q ∈ qx_c95, qv_D prog_5_method_7_code 2 q := qv_E_of 0 (by decide +kernel) (by decide +kernel)
theorem qv_d96_0 : ∀ q ∈ qx_c96, qv_D prog_5_method_8_code 2 q := qv_E_of 0 (by decide +kernel) (by decide +kernel)
theorem qv_d97_0 : ∀ q ∈ qx_c97, qv_D prog_3_method_14_code 9 q := qv_E_of 0 (by decide +kernel) (by decide +kernel)
theorem qv_d98_0 : ∀ q ∈ qx_c98, qv_D prog_3_method_15_code 9 q := qv_E_of 0 (by decide +kernel) (by decide +kernel)
theorem qv_d99_0 : ∀ q ∈ qx_c99, qv_D prog_1_method_20_code 1 q := qv_E_of 0 (by decide +kernel) (by decide +kernel)
theorem qv_d100_0 : ∀ q ∈ qx_c100, qv_D prog_1_method_46_code 1 q := qv_E_of 0 (by decide +kernel) (by decide +kernel)
theorem qv_d101_0 : ∀ q ∈ qx_c101, qv_D prog_9_method_3_code 14 q := qv_E_of 0 (by decide +kernel) (by decide +kernel)
theorem qv_d102_0 : ∀ q ∈ qx_c102, qv_D prog_4_method_4_code 5 q := qv_E_of 0 (by decide +kernel) (by decide +kernel)
theorem qv_d103_0 : ∀ q ∈ qx_c103, qv_D prog_10_method_5_code 6 q := qv_E_of 0 (by decide +kernel) (by decide +kernel)
theorem qv_d104_0 : ∀ q ∈ qx_c104, qv_D prog_9_method_8_code 14 q := qv_E_of 0 (by decide +kernel) (by decide +kernel)
theorem qv_d105_0 : ∀ q ∈ qx_c105, qv_D prog_1_method_21_code 1 q := qv_E_of 0 (by decide +kernel) (by decide +kernel)
theorem qv_d106_0 : ∀ q ∈ qx_c106, qv_D prog_9_method_10_code 14 q := qv_E_of 0 (by decide +kernel) (by decide +kernel)
theorem qv_d107_0 : ∀ q ∈ qx_c107, qv_D prog_9_method_9_code 14 q := qv_E_of 0 (by decide +kernel) (by decide +kernel)
theorem qv_d108_0 : ∀ q ∈ qx_c108, qv_D prog_1_method_22_code 1 q := qv_E_of 0 (by decide +kernel) (by decide +kernel)
theorem qv_d109_0 : ∀ q ∈ qx_c109, qv_D prog_1_method_47_code 1 q := qv_E_of 0 (by decide +kernel) (by decide +kernel)
theorem qv_d110_0 : ∀ q ∈ qx_c110, qv_D prog_6_method_2_code 15 q := qv_E_of 0 (by decide +kernel) (by decide +kernel)
theorem qv_d111_0 : ∀ q ∈ qx_c111, qv_D prog_6_method_3_code 15 q := qv_E_of 0 (by decide +kernel) (by decide +kernel)
theorem qv_d112_0 : ∀ q ∈ qx_c112, qv_D prog_6_method_7_code 15 q := qv_E_of 0 (by decide +kernel) (by decide +kernel)
theorem qv_d113_0 : ∀ q ∈ qx_c113, qv_D prog_6_method_5_code 15 q := qv_E_of 0 (by decide +kernel) (by decide +kernel)
theorem qv_d114_0 : ∀ q ∈ qx_c114, qv_D prog_6_method_4_code 15 q := qv_E_of 0 (by decide +kernel) (by decide +kernel)
theorem qv_d115_0 : ∀ q ∈ qx_c115, qv_D prog_16_method_49_code 19 q := qv_E_of 0 (by decide +kernel) (by decide +kernel)
theorem qv_d116_0 : ∀ q ∈ qx_c116, qv_D prog_6_method_6_code 15 q := qv_E_of 0 (by decide +kernel) (by decide +kernel)
theorem qv_d117_0 : ∀ q ∈ qx_c117, qv_D prog_1_method_23_code 1 q := qv_E_of 0 (by decide +kernel) (by decide +kernel)
theorem qv_d118_0 : ∀ q ∈ qx_c118, qv_D prog_6_method_8_code 15 q := qv_E_of 0 (by decide +kernel) (by decide +kernel)
theorem qv_d119_0 : ∀ q ∈ qx_c119, qv_D prog_6_method_9_code 15 q := qv_E_of 0 (by decide +kernel) (by decide +kernel)
theorem qv_d120_0 : ∀ q ∈ qx_c120, qv_D prog_1_method_24_code 1 q := qv_E_of 0 (by decide +kernel) (by decide +kernel)
theorem qv_d121_0 : ∀ q ∈ qx_c121, qv_D prog_6_method_10_code 15 q := qv_E_of 0 (by decide +kernel) (by decide +kernel)
theorem qv_d122_0 : ∀ q ∈ qx_c122, qv_D prog_4_method_8_code 5 q := qv_E_of 0 (by decide +kernel) (by decide +kernel)
theorem qv_d123_0 : ∀ q ∈ qx_c123, qv_D prog_6_method_11_code 15 q := qv_E_of 0 (by decide +kernel) (by decide +kernel)
theorem qv_d124_0 : ∀ q ∈ qx_c124, qv_D prog_4_method_7_code 5 q := qv_E_of 0 (by decide +kernel) (by decide +kernel)
theorem qv_d125_0 : ∀ q ∈ qx_c125, qv_D prog_4_method_9_code 5 q := qv_E_of 0 (by decide +kernel) (by decide +kernel)
theorem qv_d126_0 : ∀ q ∈ qx_c126, qv_D prog_1_method_25_code 1 q := qv_E_of 0 (by decide +kernel) (by decide +kernel)
theorem qv_d127_0 : ∀ q ∈ qx_c127, qv_D prog_1_method_26_code 1 q := qv_E_of 0 (by decide +kernel) (by decide +kernel)
theorem qv_d128_0 : ∀ q ∈ qx_c128, qv_D prog_6_method_12_code 15 q := qv_E_of 0 (by decide +kernel) (by decide +kernel)
theorem qv_d129_0 : ∀ q ∈ qx_c129, qv_D prog_6_method_13_code 15 q := qv_E_of 0 (by decide +kernel) (by decide +kernel)
theorem qv_d130_0 : ∀ q ∈ qx_c130, qv_D prog_6_method_14_code 15 q := qv_E_of 0 (by decide +kernel) (by decide +kernel)
theorem qv_d131_0 : ∀ q ∈ qx_c131, qv_D prog_6_method_15_code 15 q := qv_E_of 0 (by decide +kernel) (by decide +kernel)
theorem qv_d132_0 : ∀ q ∈ qx_c132, qv_D prog_6_method_16_code 15 q := qv_E_of 0 (by decide +kernel) (by decide +kernel)
theorem qv_d133_0 : ∀ q ∈ qx_c133, qv_D prog_1_method_27_code 1 q := qv_E_of 0 (by decide +kernel) (by decide +kernel)
theorem qv_d134_0 : ∀ q ∈ qx_c134, qv_D prog_12_method_2_code 16 q := qv_E_of 0 (by decide +kernel) (by decide +kernel)
theorem qv_d135_0 : ∀ q ∈ qx_c135, qv_D prog_12_method_3_code 16 q := qv_E_of 0 (by decide +kernel) (by decide +kernel)
theorem qv_d136_0 : ∀ q ∈ qx_c136, qv_D prog_10_method_8_code 6 q := qv_E_of 0 (by decide +kernel) (by decide +kernel)
theorem qv_d137_0 : ∀ q ∈ qx_c137, qv_D prog_12_method_4_code 16 q := qv_E_of 0 (by decide +kernel) (by decide +kernel)
theorem qv_d138_0 : ∀ q ∈ qx_c138, qv_D prog_1_method_28_code 1 q := qv_E_of 0 (by decide +kernel) (by decide +kernel)
theorem qv_d139_0 : ∀ q ∈ qx_c139, qv_D prog_1_method_29_code 1 q := qv_E_of 0 (by decide +kernel) (by decide +kernel)
theorem qv_d140_0 : ∀ q ∈ qx_c140, qv_D prog_1_method_30_code 1 q := qv_E_of 0 (by decide +kernel) (by decide +kernel)
theorem qv_d141_0 : ∀ q ∈ qx_c141, qv_D prog_1_method_31_code 1 q := qv_E_of 0 (by decide +kernel) (by decide +kernel)
theorem qv_d142_0 : ∀ q ∈ qx_c142, qv_D prog_4_method_10_code 5 q := qv_E_of 0 (by decide +kernel) (by decide +kernel)
theorem qv_d143_0 : ∀ q ∈ qx_c143, qv_D prog_8_method_4_code 3 q := qv_E_of 0 (by decide +kernel) (by decide +kernel)
theorem qv_d144_0 : ∀ q ∈ qx_c144, qv_D prog_1_method_32_code 1 q := qv_E_of 0 (by decide +kernel) (by decide +kernel)
theorem qv_d145_0 : ∀ q ∈ qx_c145, qv_D prog_7_method_4_code 17 q := qv_E_of 0 (by decide +kernel) (by decide +kernel)
theorem qv_d146_0 : ∀ q ∈ qx_c146, qv_D prog_1_method_33_code 1 q := qv_E_of 0 (by decide +kernel) (by decide +kernel)
theorem qv_d147_0 : ∀ q ∈ qx_c147, qv_D prog_7_method_5_code 17 q := qv_E_of 0 (by decide +kernel) (by decide +kernel)
theorem qv_d148_0 : ∀ q ∈ qx_c148, qv_D prog_1_method_34_code 1 q := qv_E_of 0 (by decide +kernel) (by decide +kernel)
theorem qv_d149_0 : ∀ q ∈ qx_c149, qv_D prog_2_method_3_code 7 q := qv_E_of 0 (by decide +kernel) (by decide +kernel)
theorem qv_d150_0 : ∀ q ∈ qx_c150, qv_D prog_2_method_4_code 7 q := qv_E_of 0 (by decide +kernel) (by decide +kernel)
theorem qv_d151_0 : ∀ q ∈ qx_c151, qv_D prog_2_method_5_code 7 q := qv_E_of 0 (by decide +kernel) (by decide +kernel)
theorem qv_d152_0 : ∀ q ∈ qx_c152, qv_D prog_2_method_6_code 7 q := qv_E_of 0 (by decide +kernel) (by decide +kernel)
theorem qv_d153_0 : ∀ q ∈ qx_c153, qv_D prog_2_method_7_code 7 q := qv_E_of 0 (by decide +kernel) (by decide +kernel)
theorem qv_d154_0 : ∀ q ∈ qx_c154, qv_D prog_1_method_35_code 1 q := qv_E_of 0 (by decide +kernel) (by decide +kernel)
theorem qv_d155_0 : ∀ q ∈ qx_c155, qv_D prog_1_method_36_code 1 q := qv_E_of 0 (by decide +kernel) (by decide +kernel)
theorem qv_d156_0 : ∀ q ∈ qx_c156, qv_D prog_11_method_7_code 8 q := qv_E_of 0 (by decide +kernel) (by decide +kernel)
theorem qv_d157_0 : ∀ q ∈ qx_c157, qv_D prog_1_method_37_code 1 q := qv_E_of 0 (by decide +kernel) (by decide +kernel)
theorem qv_d158_0 : ∀ q ∈ qx_c158, qv_D prog_11_method_8_code 8 q := qv_E_of 0 (by decide +kernel) (by decide +kernel)
theorem qv_d159_0 : ∀ q ∈ qx_c159, qv_D prog_1_method_38_code 1 q := qv_E_of 0 (by decide +kernel) (by decide +kernel)
theorem qv_d160_0 : ∀ q ∈ qx_c160, qv_D prog_11_method_9_code 8 q := qv_E_of 0 (by decide +kernel) (by decide +kernel)
theorem qv_d161_0 : ∀ q ∈ qx_c161, qv_D prog_11_method_11_code 8 q := qv_E_of 0 (by decide +kernel) (by decide +kernel)
theorem qv_d162_0 : ∀ q ∈ qx_c162, qv_D prog_11_method_12_code 8 q := qv_E_of 0 (by decide +kernel) (by decide +kernel)
theorem qv_d163_0 : ∀ q ∈ qx_c163, qv_D prog_1_method_39_code 1 q := qv_E_of 0 (by decide +kernel) (by decide +kernel)
theorem qv_d164_0 : ∀ q ∈ qx_c164, qv_D prog_1_method_40_code 1 q := qv_E_of 0 (by decide +kernel) (by decide +kernel)
theorem qv_d165_0 : ∀ q ∈ qx_c165, qv_D prog_11_method_13_code 8 q := qv_E_of 0 (by decide +kernel) (by decide +kernel)
theorem qv_d166_0 : ∀ q ∈ qx_c166, qv_D prog_11_method_14_code 8 q := qv_E_of 0 (by decide +kernel) (by decide +kernel)
theorem qv_d167_0 : ∀ q ∈ qx_c167, qv_D prog_1_method_41_code 1 q := qv_E_of 0 (by decide +kernel) (by decide +kernel)
theorem qv_d168_0 : ∀ q ∈ qx_c168, qv_D prog_11_method_6_code 8 q := qv_E_of 0 (by decide +kernel) (by decide +kernel)
theorem qv_d169_0 : ∀ q ∈ qx_c169, qv_D prog_2_method_2_code 7 q := qv_E_of 0 (by decide +kernel) (by decide +kernel)
theorem qv_d170_0 : ∀ q ∈ qx_c170, qv_D prog_1_method_42_code 1 q := qv_E_of 0 (by decide +kernel) (by decide +kernel)
theorem qv_d171_0 : ∀ q ∈ qx_c171, qv_D prog_14_method_3_code 20 q := qv_E_of 0 (by decide +kernel) (by decide +kernel)
theorem qv_pn13 : _root_.Jvm.plainName "OneRoofModel" = true := by decide +kernel
theorem qv_d172_0 : ∀ q ∈ qx_c172, qv_D prog_14_method_5_code 20 q := qv_E_of 0 (by decide +kernel) (by decide +kernel)
theorem qv_d173_0 : ∀ q ∈ qx_c173, qv_D prog_14_method_6_code 20 q := qv_E_of 0 (by decide +kernel) (by decide +kernel)
theorem qv_d174_0 : ∀ q ∈ qx_c174, qv_D prog_14_method_9_code 20 q := qv_E_of 0 (by decide +kernel) (by decide +kernel)
theorem qv_d175_0 : ∀ q ∈ qx_c175, qv_D prog_14_method_8_code 20 q := qv_E_of 0 (by decide +kernel) (by decide +kernel)
theorem qv_d176_0 : ∀ q ∈ qx_c176, qv_D prog_14_method_1_code 20 q := qv_E_of 0 (by decide +kernel) (by decide +kernel)
theorem qv_d177_0 : ∀ q ∈ qx_c177, qv_D prog_14_method_10_code 20 q := qv_E_of 0 (by decide +kernel) (by decide +kernel)
theorem qv_d178_0 : ∀ q ∈ qx_c178, qv_D prog_14_method_92_code 20 q := qv_E_of 0 (by decide +kernel) (by decide +kernel)
theorem qv_d179_0 : ∀ q ∈ qx_c179, qv_D prog_14_method_12_code 20 q := qv_E_of 0 (by decide +kernel) (by decide +kernel)
theorem qv_d180_0 : ∀ q ∈ qx_c180, qv_D prog_14_method_7_code 20 q := qv_E_of 0 (by decide +kernel) (by decide +kernel)
theorem qv_d181_0 : ∀ q ∈ qx_c181, qv_D prog_14_method_11_code 20 q := qv_E_of 0 (by decide +kernel) (by decide +kernel)
theorem qv_d182_0 : ∀ q ∈ qx_c182, qv_D prog_14_method_13_code 20 q := qv_E_of 0 (by decide +kernel) (by decide +kernel)
theorem qv_d183_0 : ∀ q ∈ qx_c183, qv_D prog_14_method_4_code 20 q := qv_E_of 0 (by decide +kernel) (by decide +kernel)
theorem qv_d184_0 : ∀ q ∈ qx_c184, qv_D prog_14_method_15_code 20 q := qv_E_of 0 (by decide +kernel) (by decide +kernel)
theorem qv_d185_0 : ∀ q ∈ qx_c185, qv_D prog_14_method_14_code 20 q := qv_E_of 0 (by decide +kernel) (by decide +kernel)
theorem qv_d186_0 : ∀ q ∈ qx_c186, qv_D prog_14_method_19_code 20 q := qv_E_of 0 (by decide +kernel) (by decide +kernel)
theorem qv_d187_0 : ∀ q ∈ qx_c187, qv_D prog_14_method_18_code 20 q := qv_E_of 0 (by decide +kernel) (by decide +kernel)
theorem qv_d188_0 : ∀ q ∈ qx_c188, qv_D prog_14_method_17_code 20 q := qv_E_of 0 (by decide +kernel) (by decide +kernel)
theorem qv_d189_0 : ∀ q ∈ qx_c189, qv_D prog_14_method_16_code 20 q := qv_E_of 0 (by decide +kernel) (by decide +kernel)
theorem qv_d190_0 : ∀ q ∈ qx_c190, qv_D prog_14_method_22_code 20 q := qv_E_of 0 (by decide +kernel) (by decide +kernel)
theorem qv_d191_0 : ∀ q ∈ qx_c191, qv_D prog_14_method_21_code 20 q := qv_E_of 0 (by decide +kernel) (by decide +kernel)
theorem qv_d192_0 : ∀ q ∈ qx_c192, qv_D prog_14_method_2_code 20 q := qv_E_of 0 (by decide +kernel) (by decide +kernel)
theorem qv_d193_0 : ∀ q ∈ qx_c193, qv_D prog_14_method_23_code 20 q := qv_E_of 0 (by decide +kernel) (by decide +kernel)
theorem qv_d194_0 : ∀ q ∈ qx_c194, qv_D prog_14_method_27_code 20 q := qv_E_of 0 (by decide +kernel) (by decide +kernel)
theorem qv_d195_0 : ∀ q ∈ qx_c195, qv_D prog_14_method_26_code 20 q := qv_E_of 0 (by decide +kernel) (by decide +kernel)
theorem qv_d196_0 : ∀ q ∈ qx_c196, qv_D prog_14_method_24_code 20 q := qv_E_of 0 (by decide +kernel) (by decide +kernel)
theorem qv_d197_0 : ∀ q ∈ qx_c197, qv_D prog_14_method_25_code 20 q := qv_E_of 0 (by decide +kernel) (by decide +kernel)
theorem qv_d198_0 : ∀ q ∈ qx_c198, qv_D prog_14_method_29_code 20 q := qv_E_of 0 (by decide +kernel) (by decide +kernel)
theorem qv_d199_0 : ∀ q ∈ qx_c199, qv_D prog_14_method_32_code 20 q := qv_E_of 0 (by decide +kernel) (by decide +kernel)
theorem qv_d200_0 : ∀ q ∈ qx_c200, qv_D prog_14_method_28_code 20 q := qv_E_of 0 (by decide +kernel) (by decide +kernel)
theorem qv_d201_0 : ∀ q ∈ qx_c201, qv_D prog_14_method_31_code 20 q := qv_E_of 0 (by decide +kernel) (by decide +kernel)
theorem qv_d202_0 : ∀ q ∈ qx_c202, qv_D prog_14_method_30_code 20 q := qv_E_of 0 (by decide +kernel) (by decide +kernel)
theorem qv_d203_0 : ∀ q ∈ qx_c203, qv_D prog_14_method_33_code 20 q := qv_E_of 0 (by decide +kernel) (by decide +kernel)
theorem qv_d204_0 : ∀ q ∈ qx_c204, qv_D prog_14_method_36_code 20 q := qv_E_of 0 (by decide +kernel) (by decide +kernel)
theorem qv_d205_0 : ∀ q ∈ qx_c205, qv_D prog_14_method_35_code 20 q := qv_E_of 0 (by decide +kernel) (by decide +kernel)
theorem qv_d206_0 : ∀ q ∈ qx_c206, qv_D prog_14_method_34_code 20 q := qv_E_of 0 (by decide +kernel) (by decide +kernel)
theorem qv_d207_0 : ∀ q ∈ qx_c207, qv_D prog_14_method_20_code 20 q := qv_E_of 0 (by decide +kernel) (by decide +kernel)
theorem qv_d208_0 : ∀ q ∈ qx_c208, qv_D prog_14_method_38_code 20 q := qv_E_of 0 (by decide +kernel) (by decide +kernel)
theorem qv_d209_0 : ∀ q ∈ qx_c209, qv_D prog_14_method_37_code 20 q := qv_E_of 0 (by decide +kernel) (by decide +kernel)
theorem qv_d210_0 : ∀ q ∈ qx_c210, qv_D prog_14_method_39_code 20 q := qv_E_of 0 (by decide +kernel) (by decide +kernel)
theorem qv_d211_0 : ∀ q ∈ qx_c211, qv_D prog_14_method_40_code 20 q := qv_E_of 0 (by decide +kernel) (by decide +kernel)
theorem qv_d212_0 : ∀ q ∈ qx_c212, qv_D prog_14_method_52_code 20 q := qv_E_of 0 (by decide +kernel) (by decide +kernel)
theorem qv_d213_0 : ∀ q ∈ qx_c213, qv_D prog_14_method_51_code 20 q := qv_E_of 0 (by decide +kernel) (by decide +kernel)
theorem qv_d214_0 : ∀ q ∈ qx_c214, qv_D prog_14_method_44_code 20 q := qv_E_of 0 (by decide +kernel) (by decide +kernel)
theorem qv_d215_0 : ∀ q ∈ qx_c215, qv_D prog_14_method_45_code 20 q := qv_E_of 0 (by decide +kernel) (by decide +kernel)
theorem qv_d216_0 : ∀ q ∈ qx_c216, qv_D prog_14_method_46_code 20 q := qv_E_of 0 (by decide +kernel) (by decide +kernel)
theorem qv_d217_0 : ∀ q ∈ qx_c217, qv_D prog_14_method_47_code 20 q := qv_E_of 0 (by decide +kernel) (by decide +kernel)
theorem qv_d218_0 : ∀ q ∈ qx_c218, qv_D prog_14_method_48_code 20 q := qv_E_of 0 (by decide +kernel) (by decide +kernel)
theorem qv_d219_0 : ∀ q ∈ qx_c219, qv_D prog_14_method_50_code 20 q := qv_E_of 0 (by decide +kernel) (by decide +kernel)
theorem qv_d220_0 : ∀ q ∈ qx_c220, qv_D prog_14_method_41_code 20 q := qv_E_of 0 (by decide +kernel) (by decide +kernel)
theorem qv_d221_0 : ∀ q ∈ qx_c221, qv_D prog_14_method_42_code 20 q := qv_E_of 0 (by decide +kernel) (by decide +kernel)
theorem qv_d222_0 : ∀ q ∈ qx_c222, qv_D prog_14_method_43_code 20 q := qv_E_of 0 (by decide +kernel) (by decide +kernel)
theorem qv_d223_0 : ∀ q ∈ qx_c223, qv_D prog_14_method_49_code 20 q := qv_E_of 0 (by decide +kernel) (by decide +kernel)
theorem qv_d224_0 : ∀ q ∈ qx_c224, qv_D prog_14_method_58_code 20 q := qv_E_of 0 (by decide +kernel) (by decide +kernel)
theorem qv_d225_0 : ∀ q ∈ qx_c225, qv_D prog_14_method_55_code 20 q := qv_E_of 0 (by decide +kernel) (by decide +kernel)
theorem qv_d226_0 : ∀ q ∈ qx_c226, qv_D prog_14_method_57_code 20 q := qv_E_of 0 (by decide +kernel) (by decide +kernel)
theorem qv_d227_0 : ∀ q ∈ qx_c227, qv_D prog_14_method_54_code 20 q := qv_E_of 0 (by decide +kernel) (by decide +kernel)
theorem qv_d228_0 : ∀ q ∈ qx_c228, qv_D prog_14_method_53_code 20 q := qv_E_of 0 (by decide +kernel) (by decide +kernel)
theorem qv_d229_0 : ∀ q ∈ qx_c229, qv_D prog_14_method_59_code 20 q := qv_E_of 0 (by decide +kernel) (by decide +kernel)
theorem qv_d230_0 : ∀ q ∈ qx_c230, qv_D prog_14_method_56_code 20 q := qv_E_of 0 (by decide +kernel) (by decide +kernel)
theorem qv_d231_0 : ∀ q ∈ qx_c231, qv_D prog_14_method_61_code 20 q := qv_E_of 0 (by decide +kernel) (by decide +kernel)
theorem qv_d232_0 : ∀ q ∈ qx_c232, qv_D prog_14_method_60_code 20 q := qv_E_of 0 (by decide +kernel) (by decide +kernel)
theorem qv_d233_0 : ∀ q ∈ qx_c233, qv_D prog_14_method_66_code 20 q := qv_E_of 0 (by decide +kernel) (by decide +kernel)
theorem qv_d234_0 : ∀ q ∈ qx_c234, qv_D prog_14_method_62_code 20 q := qv_E_of 0 (by decide +kernel) (by decide +kernel)
theorem qv_d235_0 : ∀ q ∈ qx_c235, qv_D prog_14_method_63_code 20 q := qv_E_of 0 (by decide +kernel) (by decide +kernel)
theorem qv_d236_0 : ∀ q ∈ qx_c236, qv_D prog_14_method_64_code 20 q := qv_E_of 0 (by decide +kernel) (by decide +kernel)
theorem qv_d237_0 : ∀ q ∈ qx_c237, qv_D prog_14_method_65_code 20 q := qv_E_of 0 (by decide +kernel) (by decide +kernel)
theorem qv_d238_0 : ∀ q ∈ qx_c238, qv_D prog_14_method_67_code 20 q := qv_E_of 0 (by decide +kernel) (by decide +kernel)
theorem qv_d239_0 : ∀ q ∈ qx_c239, qv_D prog_14_method_69_code 20 q := qv_E_of 0 (by decide +kernel) (by decide +kernel)
theorem qv_d240_0 : ∀ q ∈ qx_c240, qv_D prog_14_method_68_code 20 q := qv_E_of 0 (by decide +kernel) (by decide +kernel)
theorem qv_d241_0 : ∀ q ∈ qx_c241, qv_D prog_14_method_70_code 20 q := qv_E_of 0 (by decide +kernel) (by decide +kernel)
theorem qv_d242_0 : ∀ q ∈ qx_c242, qv_D prog_14_method_73_code 20 q := qv_E_of 0 (by decide +kernel) (by decide +kernel)
theorem qv_d243_0 : ∀ q ∈ qx_c243, qv_D prog_14_method_72_code 20 q := qv_E_of 0 (by decide +kernel) (by decide +kernel)
theorem qv_d244_0 : ∀ q ∈ qx_c244, qv_D prog_14_method_71_code 20 q := qv_E_of 0 (by decide +kernel) (by decide +kernel)
theorem qv_d245_0 : ∀ q ∈ qx_c245, qv_D prog_14_method_78_code 20 q := qv_E_of 0 (by decide +kernel) (by decide +kernel)
theorem qv_d246_0 : ∀ q ∈ qx_c246, qv_D prog_14_method_77_code 20 q := qv_E_of 0 (by decide +kernel) (by decide +kernel)
theorem qv_d247_0 : ∀ q ∈ qx_c247, qv_D prog_14_method_74_code 20 q := qv_E_of 0 (by decide +kernel) (by decide +kernel)
theorem qv_d248_0 : ∀ q ∈ qx_c248, qv_D prog_14_method_76_code 20 q := qv_E_of 0 (by decide +kernel) (by decide +kernel)
theorem qv_d249_0 : ∀ q ∈ qx_c249, qv_D prog_14_method_75_code 20 q := qv_E_of 0 (by decide +kernel) (by decide +kernel)
theorem qv_d250_0 : ∀ q ∈ qx_c250, qv_D prog_14_method_79_code 20 q := qv_E_of 0 (by decide +kernel) (by decide +kernel)
theorem qv_d251_0 : ∀ q ∈ qx_c251, qv_D prog_14_method_80_code 20 q := qv_E_of 0 (by decide +kernel) (by decide +kernel)
theorem qv_d252_0 : ∀ q ∈ qx_c252, qv_D prog_14_method_82_code 20 q := qv_E_of 0 (by decide +kernel) (by decide +kernel)
theorem qv_d253_0 : ∀ q ∈ qx_c253, qv_D prog_14_method_81_code 20 q := qv_E_of 0 (by decide +kernel) (by decide +kernel)
theorem qv_d254_0 : ∀ q ∈ qx_c254, qv_D prog_14_method_83_code 20 q := qv_E_of 0 (by decide +kernel) (by decide +kernel)
theorem qv_d255_0 : ∀ q ∈ qx_c255, qv_D prog_14_method_90_code 20 q := qv_E_of 0 (by decide +kernel) (by decide +kernel)
theorem qv_d256_0 : ∀ q ∈ qx_c256, qv_D prog_14_method_86_code 20 q := qv_E_of 0 (by decide +kernel) (by decide +kernel)
theorem qv_d257_0 : ∀ q ∈ qx_c257, qv_D prog_14_method_85_code 20 q := qv_E_of 0 (by decide +kernel) (by decide +kernel)
theorem qv_d258_0 : ∀ q ∈ qx_c258, qv_D prog_14_method_88_code 20 q := qv_E_of 0 (by decide +kernel) (by decide +kernel)
theorem qv_d259_0 : ∀ q ∈ qx_c259, qv_D prog_14_method_87_code 20 q := qv_E_of 0 (by decide +kernel) (by decide +kernel)
theorem qv_d260_0 : ∀ q ∈ qx_c260, qv_D prog_14_method_89_code 20 q := qv_E_of 0 (by decide +kernel) (by decide +kernel)
theorem qv_d261_0 : ∀ q ∈ qx_c261, qv_D prog_14_method_91_code 20 q := qv_E_of 0 (by decide +kernel) (by decide +kernel)
theorem qv_d262_0 : ∀ q ∈ qx_c262, qv_D prog_14_method_93_code 20 q := qv_E_of 0 (by decide +kernel) (by decide +kernel)
theorem qv_d263_0 : ∀ q ∈ qx_c263, qv_D prog_14_method_94_code 20 q := qv_E_of 0 (by decide +kernel) (by decide +kernel)
theorem qv_d264_0 : ∀ q ∈ qx_c264, qv_D prog_14_method_97_code 20 q := qv_E_of 0 (by decide +kernel) (by decide +kernel)
theorem qv_d265_0 : ∀ q ∈ qx_c265, qv_D prog_14_method_95_code 20 q := qv_E_of 0 (by decide +kernel) (by decide +kernel)
theorem qv_d266_0 : ∀ q ∈ qx_c266, qv_D prog_14_method_96_code 20 q := qv_E_of 0 (by decide +kernel) (by decide +kernel)
theorem qv_d267_0 : ∀ q ∈ qx_c267, qv_D prog_14_method_98_code 20 q := qv_E_of 0 (by decide +kernel) (by decide +kernel)
theorem qv_d268_0 : ∀ q ∈ qx_c268, qv_D prog_14_method_99_code 20 q := qv_E_of 0 (by decide +kernel) (by decide +kernel)
theorem qv_d269_0 : ∀ q ∈ qx_c269, qv_D prog_14_method_100_code 20 q := qv_E_of 0 (by decide +kernel) (by decide +kernel)
theorem qv_d270_0 : ∀ q ∈ qx_c270, qv_D prog_14_method_84_code 20 q := qv_E_of 0 (by decide +kernel) (by decide +kernel)
theorem qv_d271_0 : ∀ q ∈ qx_c271, qv_D prog_14_method_101_code 20 q := qv_E_of 0 (by decide +kernel) (by decide +kernel)
end
section
set_option maxRecDepth 100000 in
theorem qv_m1 : qv_M qx_e1 := ⟨plainFor_of_name (x := qx_e1.2.1) qv_pn1, qv_in1 (List.mem_of_getElem? (i := 29) rfl), rfl, by decide, qv_d1_0⟩
set_option maxRecDepth 100000 in
theorem qv_m2 : qv_M qx_e2 := ⟨plainFor_of_name (x := qx_e2.2.1) qv_pn2, qv_in1 (List.mem_of_getElem? (i := 37) rfl), rfl, by decide, qv_d2_0⟩
set_option maxRecDepth 100000 in
theorem qv_m3 : qv_M qx_e3 := ⟨plainFor_of_name (x := qx_e3.2.1) qv_pn3, qv_in1 (List.mem_of_getElem? (i := 81) rfl), rfl, by decide, qv_d3_0⟩
set_option maxRecDepth 100000 in
theorem qv_m4 : qv_M qx_e4 := ⟨by decide +kernel, qv_in1 (List.mem_of_getElem? (i := 85) rfl), rfl, by decide, qv_d4_0⟩
set_option maxRecDepth 100000 in
theorem qv_m5 : qv_M qx_e5 := ⟨plainFor_of_name (x := qx_e5.2.1) qv_pn4, qv_in1 (List.mem_of_getElem? (i := 99) rfl), rfl, by decide, qv_d5_0⟩
set_option maxRecDepth 100000 in
theorem qv_m6 : qv_M qx_e6 := ⟨plainFor_of_name (x := qx_e6.2.1) qv_pn5, qv_in1 (List.mem_of_getElem? (i := 133) rfl), rfl, by decide, qv_d6_0⟩
set_option maxRecDepth 100000 in
theorem qv_m7 : qv_M qx_e7 := ⟨plainFor_of_name (x := qx_e7.2.1) qv_pn6, qv_in1 (List.mem_of_getElem? (i := 173) rfl), rfl, by decide, qv_d7_0⟩
set_option maxRecDepth 100000 in
theorem qv_m8 : qv_M qx_e8 := ⟨plainFor_of_name (x := qx_e8.2.1) qv_pn7, qv_in1 (List.mem_of_getElem? (i := 188) rfl), rfl, by decide, qv_d8_0⟩
set_option maxRecDepth 100000 in
theorem qv_m9 : qv_M qx_e9 := ⟨plainFor_of_name (x := qx_e9.2.1) qv_pn8, qv_in1 (List.mem_of_getElem? (i := 211) rfl), rfl, by decide, qv_d9_0⟩
set_option maxRecDepth 100000 in
theorem qv_m10 : qv_M qx_e10 := ⟨by decide +kernel, qv_in1 (List.mem_of_getElem? (i := 216) rfl), rfl, by decide, qv_d10_0⟩
set_option maxRecDepth 100000 in
theorem qv_m11 : qv_M qx_e11 := ⟨by decide +kernel, qv_in1 (List.mem_of_getElem? (i := 220) rfl), rfl, by decide, qv_d11_0⟩
set_option maxRecDepth 100000 in
theorem qv_m12 : qv_M qx_e12 := ⟨by decide +kernel, qv_in1 (List.mem_of_getElem? (i := 225) rfl), rfl, by decide, qv_d12_0⟩
set_option maxRecDepth 100000 in
theorem qv_m13 : qv_M qx_e13 := ⟨by decide +kernel, qv_in1 (List.mem_of_getElem? (i := 229) rfl), rfl, by decide, qv_d13_0⟩
set_option maxRecDepth 100000 in
theorem qv_m14 : qv_M qx_e14 := ⟨by decide +kernel, qv_in1 (List.mem_of_getElem? (i := 233) rfl), rfl, by decide, qv_d14_0⟩
set_option maxRecDepth 100000 in
theorem qv_m15 : qv_M qx_e15 := ⟨by decide +kernel, qv_in1 (List.mem_of_getElem? (i := 236) rfl), rfl, by decide, qv_d15_0⟩
set_option maxRecDepth 100000 in
theorem qv_m16 : qv_M qx_e16 := ⟨by decide +kernel, qv_in1 (List.mem_of_getElem? (i := 239) rfl), rfl, by decide, qv_d16_0⟩
set_option maxRecDepth 100000 in
theorem qv_m17 : qv_M qx_e17 := ⟨by decide +kernel, qv_in2 (List.mem_of_getElem? (i := 4) rfl), rfl, by decide, qv_d17_0⟩
set_option maxRecDepth 100000 in
theorem qv_m18 : qv_M qx_e18 := ⟨plainFor_of_name (x := qx_e18.2.1) qv_pn8, qv_in2 (List.mem_of_getElem? (i := 27) rfl), rfl, by decide, qv_d18_0⟩
set_option maxRecDepth 100000 in
theorem qv_m19 : qv_M qx_e19 := ⟨plainFor_of_name (x := qx_e19.2.1) qv_pn8, qv_in2 (List.mem_of_getElem? (i := 31) rfl), rfl, by decide, qv_d19_0⟩
set_option maxRecDepth 100000 in
theorem qv_m20 : qv_M qx_e20 := ⟨plainFor_of_name (x := qx_e20.2.1) qv_pn8, qv_in2 (List.mem_of_getElem? (i := 35) rfl), rfl, by decide, qv_d20_0⟩
set_option maxRecDepth 100000 in
theorem qv_m21 : qv_M qx_e21 := ⟨plainFor_of_name (x := qx_e21.2.1) qv_pn8, qv_in2 (List.mem_of_getElem? (i := 39) rfl), rfl, by decide, qv_d21_0⟩
set_option maxRecDepth 100000 in
theorem qv_m22 : qv_M qx_e22 := ⟨plainFor_of_name (x := qx_e22.2.1) qv_pn8, qv_in2 (List.mem_of_getElem? (i := 43) rfl), rfl, by decide, qv_d22_0⟩
set_option maxRecDepth 100000 in
theorem qv_m23 : qv_M qx_e23 := ⟨plainFor_of_name (x := qx_e23.2.1) qv_pn8, qv_in2 (List.mem_of_getElem? (i := 46) rfl), rfl, by decide, qv_d23_0⟩
set_option maxRecDepth 100000 in
theorem qv_m24 : qv_M qx_e24 := ⟨plainFor_of_name (x := qx_e24.2.1) qv_pn8, qv_in2 (List.mem_of_getElem? (i := 50) rfl), rfl, by decide, qv_d24_0⟩
set_option maxRecDepth 100000 in
theorem qv_m25 : qv_M qx_e25 := ⟨plainFor_of_name (x := qx_e25.2.1) qv_pn8, qv_in2 (List.mem_of_getElem? (i := 54) rfl), rfl, by decide, qv_d25_0⟩
set_option maxRecDepth 100000 in
theorem qv_m26 : qv_M qx_e26 := ⟨by decide +kernel, qv_in2 (List.mem_of_getElem? (i := 59) rfl), rfl, by decide, qv_d26_0⟩
set_option maxRecDepth 100000 in
theorem qv_m27 : qv_M qx_e27 := ⟨by decide +kernel, qv_in2 (List.mem_of_getElem? (i := 63) rfl), rfl, by decide, qv_d27_0⟩
set_option maxRecDepth 100000 in
theorem qv_m28 : qv_M qx_e28 := ⟨by decide +kernel, qv_in2 (List.mem_of_getElem? (i := 67) rfl), rfl, by decide, qv_d28_0⟩
set_option maxRecDepth 100000 in
theorem qv_m29 : qv_M qx_e29 := ⟨by decide +kernel, qv_in2 (List.mem_of_getElem? (i := 70) rfl), rfl, by decide, qv_d29_0⟩
set_option maxRecDepth 100000 in
theorem qv_m30 : qv_M qx_e30 := ⟨by decide +kernel, qv_in2 (List.mem_of_getElem? (i := 73) rfl), rfl, by decide, qv_d30_0⟩
set_option maxRecDepth 100000 in
theorem qv_m31 : qv_M qx_e31 := ⟨by decide +kernel, qv_in2 (List.mem_of_getElem? (i := 77) rfl), rfl, by decide, qv_d31_0⟩
set_option maxRecDepth 100000 in
theorem qv_m32 : qv_M qx_e32 := ⟨plainFor_of_name (x := qx_e32.2.1) qv_pn8, qv_in2 (List.mem_of_getElem? (i := 116) rfl), rfl, by decide, qv_d32_0⟩
set_option maxRecDepth 100000 in
theorem qv_m33 : qv_M qx_e33 := ⟨plainFor_of_name (x := qx_e33.2.1) qv_pn8, qv_in2 (List.mem_of_getElem? (i := 119) rfl), rfl, by decide, qv_d33_0⟩
set_option maxRecDepth 100000 in
theorem qv_m34 : qv_M qx_e34 := ⟨plainFor_of_name (x := qx_e34.2.1) qv_pn9, qv_in2 (List.mem_of_getElem? (i := 152) rfl), rfl, by decide, qv_d34_0⟩
set_option maxRecDepth 100000 in
theorem qv_m35 : qv_M qx_e35 := ⟨plainFor_of_name (x := qx_e35.2.1) qv_pn10, qv_in2 (List.mem_of_getElem? (i := 204) rfl), rfl, by decide, qv_d35_0⟩
set_option maxRecDepth 100000 in
theorem qv_m36 : qv_M qx_e36 := ⟨plainFor_of_name (x := qx_e36.2.1) qv_pn11, qv_in2 (List.mem_of_getElem? (i := 235) rfl), rfl, by decide, qv_d36_0⟩
set_option maxRecDepth 100000 in
theorem qv_m37 : qv_M qx_e37 := ⟨plainFor_of_name (x := qx_e37.2.1) qv_pn12, qv_in3 (List.mem_of_getElem? (i := 28) rfl), rfl, by decide, qv_d37_0⟩
set_option maxRecDepth 100000 in
theorem qv_m38 : qv_M qx_e38 := ⟨plainFor_of_name (x := qx_e38.2.1) qv_pn1, qv_in3 (List.mem_of_getElem? (i := 112) rfl), rfl, by decide, qv_d38_0⟩
set_option maxRecDepth 100000 in
theorem qv_m39 : qv_M qx_e39 := ⟨plainFor_of_name (x := qx_e39.2.1) qv_pn2, qv_in3 (List.mem_of_getElem? (i := 116) rfl), rfl, by decide, qv_d39_0⟩
set_option maxRecDepth 100000 in
theorem qv_m40 : qv_M qx_e40 := ⟨plainFor_of_name (x := qx_e40.2.1) qv_pn2, qv_in3 (List.mem_of_getElem? (i := 120) rfl), rfl, by decide, qv_d40_0⟩
set_option maxRecDepth 100000 in
theorem qv_m41 : qv_M qx_e41 := ⟨plainFor_of_name (x := qx_e41.2.1) qv_pn1, qv_in3 (List.mem_of_getElem? (i := 123) rfl), rfl, by decide, qv_d41_0⟩
set_option maxRecDepth 100000 in
theorem qv_m42 : qv_M qx_e42 := ⟨plainFor_of_name (x := qx_e42.2.1) qv_pn2, qv_in3 (List.mem_of_getElem? (i := 127) rfl), rfl, by decide, qv_d42_0⟩
set_option maxRecDepth 100000 in
theorem qv_m43 : qv_M qx_e43 := ⟨plainFor_of_name (x := qx_e43.2.1) qv_pn1, qv_in3 (List.mem_of_getElem? (i := 131) rfl), rfl, by decide, qv_d43_0⟩
set_option maxRecDepth 100000 in
theorem qv_m44 : qv_M qx_e44 := ⟨plainFor_of_name (x := qx_e44.2.1) qv_pn7, qv_in3 (List.mem_of_getElem? (i := 135) rfl), rfl, by decide, qv_d44_0⟩
set_option maxRecDepth 100000 in
theorem qv_m45 : qv_M qx_e45 := ⟨plainFor_of_name (x := qx_e45.2.1) qv_pn7, qv_in3 (List.mem_of_getElem? (i := 139) rfl), rfl, by decide, qv_d45_0⟩
set_option maxRecDepth 100000 in
theorem qv_m46 : qv_M qx_e46 := ⟨plainFor_of_name (x := qx_e46.2.1) qv_pn7, qv_in3 (List.mem_of_getElem? (i := 143) rfl), rfl, by decide, qv_d46_0⟩
set_option maxRecDepth 100000 in
theorem qv_m47 : qv_M qx_e47 := ⟨plainFor_of_name (x := qx_e47.2.1) qv_pn7, qv_in3 (List.mem_of_getElem? (i := 147) rfl), rfl, by decide, qv_d47_0⟩
set_option maxRecDepth 100000 in
theorem qv_m48 : qv_M qx_e48 := ⟨plainFor_of_name (x := qx_e48.2.1) qv_pn7, qv_in3 (List.mem_of_getElem? (i := 153) rfl), rfl, by decide, qv_d48_0⟩
set_option maxRecDepth 100000 in
theorem qv_m49 : qv_M qx_e49 := ⟨plainFor_of_name (x := qx_e49.2.1) qv_pn1, qv_in3 (List.mem_of_getElem? (i := 157) rfl), rfl, by decide, qv_d49_0⟩
set_option maxRecDepth 100000 in
theorem qv_m50 : qv_M qx_e50 := ⟨plainFor_of_name (x := qx_e50.2.1) qv_pn1, qv_in3 (List.mem_of_getElem? (i := 161) rfl), rfl, by decide, qv_d50_0⟩
set_option maxRecDepth 100000 in
theorem qv_m51 : qv_M qx_e51 := ⟨plainFor_of_name (x := qx_e51.2.1) qv_pn1, qv_in3 (List.mem_of_getElem? (i := 165) rfl), rfl, by decide, qv_d51_0⟩
set_option maxRecDepth 100000 in
theorem qv_m52 : qv_M qx_e52 := ⟨plainFor_of_name (x := qx_e52.2.1) qv_pn12, qv_in3 (List.mem_of_getElem? (i := 170) rfl), rfl, by decide, qv_d52_0⟩
set_option maxRecDepth 100000 in
theorem qv_m53 : qv_M qx_e53 := ⟨plainFor_of_name (x := qx_e53.2.1) qv_pn12, qv_in3 (List.mem_of_getElem? (i := 174) rfl), rfl, by decide, qv_d53_0⟩
set_option maxRecDepth 100000 in
theorem qv_m54 : qv_M qx_e54 := ⟨plainFor_of_name (x := qx_e54.2.1) qv_pn12, qv_in3 (List.mem_of_getElem? (i := 179) rfl), rfl, by decide, qv_d54_0⟩
set_option maxRecDepth 100000 in
theorem qv_m55 : qv_M qx_e55 := ⟨plainFor_of_name (x := qx_e55.2.1) qv_pn12, qv_in3 (List.mem_of_getElem? (i := 186) rfl), rfl, by decide, qv_d55_0⟩
set_option maxRecDepth 100000 in
theorem qv_m56 : qv_M qx_e56 := ⟨plainFor_of_name (x := qx_e56.2.1) qv_pn1, qv_in3 (List.mem_of_getElem? (i := 191) rfl), rfl, by decide, qv_d56_0⟩
set_option maxRecDepth 100000 in
theorem qv_m57 : qv_M qx_e57 := ⟨plainFor_of_name (x := qx_e57.2.1) qv_pn3, qv_in3 (List.mem_of_getElem? (i := 195) rfl), rfl, by decide, qv_d57_0⟩
set_option maxRecDepth 100000 in
theorem qv_m58 : qv_M qx_e58 := ⟨plainFor_of_name (x := qx_e58.2.1) qv_pn3, qv_in3 (List.mem_of_getElem? (i := 199) rfl), rfl, by decide, qv_d58_0⟩
set_option maxRecDepth 100000 in
theorem qv_m59 : qv_M qx_e59 := ⟨plainFor_of_name (x := qx_e59.2.1) qv_pn1, qv_in3 (List.mem_of_getElem? (i := 205) rfl), rfl, by decide, qv_d59_0⟩
set_option maxRecDepth 100000 in
theorem qv_m60 : qv_M qx_e60 := ⟨plainFor_of_name (x := qx_e60.2.1) qv_pn1, qv_in3 (List.mem_of_getElem? (i := 209) rfl), rfl, by decide, qv_d60_0⟩
set_option maxRecDepth 100000 in
theorem qv_m61 : qv_M qx_e61 := ⟨plainFor_of_name (x := qx_e61.2.1) qv_pn2, qv_in3 (List.mem_of_getElem? (i := 213) rfl), rfl, by decide, qv_d61_0⟩
set_option maxRecDepth 100000 in
theorem qv_m62 : qv_M qx_e62 := ⟨plainFor_of_name (x := qx_e62.2.1) qv_pn1, qv_in3 (List.mem_of_getElem? (i := 216) rfl), rfl, by decide, qv_d62_0⟩
set_option maxRecDepth 100000 in
theorem qv_m63 : qv_M qx_e63 := ⟨plainFor_of_name (x := qx_e63.2.1) qv_pn4, qv_in3 (List.mem_of_getElem? (i := 220) rfl), rfl, by decide, qv_d63_0⟩
set_option maxRecDepth 100000 in
theorem qv_m64 : qv_M qx_e64 := ⟨plainFor_of_name (x := qx_e64.2.1) qv_pn1, qv_in3 (List.mem_of_getElem? (i := 224) rfl), rfl, by decide, qv_d64_0⟩
set_option maxRecDepth 100000 in
theorem qv_m65 : qv_M qx_e65 := ⟨plainFor_of_name (x := qx_e65.2.1) qv_pn1, qv_in3 (List.mem_of_getElem? (i := 228) rfl), rfl, by decide, qv_d65_0⟩
set_option maxRecDepth 100000 in
theorem qv_m66 : qv_M qx_e66 := ⟨plainFor_of_name (x := qx_e66.2.1) qv_pn4, qv_in3 (List.mem_of_getElem? (i := 232) rfl), rfl, by decide, qv_d66_0⟩
set_option maxRecDepth 100000 in
theorem qv_m67 : qv_M qx_e67 := ⟨plainFor_of_name (x := qx_e67.2.1) qv_pn4, qv_in3 (List.mem_of_getElem? (i := 236) rfl), rfl, by decide, qv_d67_0⟩
set_option maxRecDepth 100000 in
theorem qv_m68 : qv_M qx_e68 := ⟨plainFor_of_name (x := qx_e68.2.1) qv_pn4, qv_in4 (List.mem_of_getElem? (i := 0) rfl), rfl, by decide, qv_d68_0⟩
set_option maxRecDepth 100000 in
theorem qv_m69 : qv_M qx_e69 := ⟨plainFor_of_name (x := qx_e69.2.1) qv_pn1, qv_in4 (List.mem_of_getElem? (i := 5) rfl), rfl, by decide, qv_d69_0⟩
set_option maxRecDepth 100000 in
theorem qv_m70 : qv_M qx_e70 := ⟨plainFor_of_name (x := qx_e70.2.1) qv_pn1, qv_in4 (List.mem_of_getElem? (i := 8) rfl), rfl, by decide, qv_d70_0⟩
set_option maxRecDepth 100000 in
theorem qv_m71 : qv_M qx_e71 := ⟨plainFor_of_name (x := qx_e71.2.1) qv_pn5, qv_in4 (List.mem_of_getElem? (i := 12) rfl), rfl, by decide, qv_d71_0⟩
set_option maxRecDepth 100000 in
theorem qv_m72 : qv_M qx_e72 := ⟨plainFor_of_name (x := qx_e72.2.1) qv_pn1, qv_in4 (List.mem_of_getElem? (i := 16) rfl), rfl, by decide, qv_d72_0⟩
set_option maxRecDepth 100000 in
theorem qv_m73 : qv_M qx_e73 := ⟨plainFor_of_name (x := qx_e73.2.1) qv_pn5, qv_in4 (List.mem_of_getElem? (i := 20) rfl), rfl, by decide, qv_d73_0⟩
set_option maxRecDepth 100000 in
theorem qv_m74 : qv_M qx_e74 := ⟨by decide +kernel, qv_in4 (List.mem_of_getElem? (i := 23) rfl), rfl, by decide, qv_d74_0⟩
set_option maxRecDepth 100000 in
theorem qv_m75 : qv_M qx_e75 := ⟨plainFor_of_name (x := qx_e75.2.1) qv_pn1, qv_in4 (List.mem_of_getElem? (i := 30) rfl), rfl, by decide, qv_d75_0⟩
set_option maxRecDepth 100000 in
theorem qv_m76 : qv_M qx_e76 := ⟨plainFor_of_name (x := qx_e76.2.1) qv_pn1, qv_in4 (List.mem_of_getElem? (i := 34) rfl), rfl, by decide, qv_d76_0⟩
set_option maxRecDepth 100000 in
theorem qv_m77 : qv_M qx_e77 := ⟨plainFor_of_name (x := qx_e77.2.1) qv_pn5, qv_in4 (List.mem_of_getElem? (i := 38) rfl), rfl, by decide, qv_d77_0⟩
set_option maxRecDepth 100000 in
theorem qv_m78 : qv_M qx_e78 := ⟨plainFor_of_name (x := qx_e78.2.1) qv_pn5, qv_in4 (List.mem_of_getElem? (i := 42) rfl), rfl, by decide, qv_d78_0⟩
set_option maxRecDepth 100000 in
theorem qv_m79 : qv_M qx_e79 := ⟨plainFor_of_name (x := qx_e79.2.1) qv_pn1, qv_in4 (List.mem_of_getElem? (i := 46) rfl), rfl, by decide, qv_d79_0⟩
set_option maxRecDepth 100000 in
theorem qv_m80 : qv_M qx_e80 := ⟨plainFor_of_name (x := qx_e80.2.1) qv_pn5, qv_in4 (List.mem_of_getElem? (i := 50) rfl), rfl, by decide, qv_d80_0⟩
set_option maxRecDepth 100000 in
theorem qv_m81 : qv_M qx_e81 := ⟨plainFor_of_name (x := qx_e81.2.1) qv_pn1, qv_in4 (List.mem_of_getElem? (i := 56) rfl), rfl, by decide, qv_d81_0⟩
set_option maxRecDepth 100000 in
theorem qv_m82 : qv_M qx_e82 := ⟨by decide +kernel, qv_in4 (List.mem_of_getElem? (i := 59) rfl), rfl, by decide, qv_d82_0⟩
set_option maxRecDepth 100000 in
theorem qv_m83 : qv_M qx_e83 := ⟨by decide +kernel, qv_in4 (List.mem_of_getElem? (i := 62) rfl), rfl, by decide, qv_d83_0⟩
set_option maxRecDepth 100000 in
theorem qv_m84 : qv_M qx_e84 := ⟨plainFor_of_name (x := qx_e84.2.1) qv_pn1, qv_in4 (List.mem_of_getElem? (i := 67) rfl), rfl, by decide, qv_d84_0⟩
set_option maxRecDepth 100000 in
theorem qv_m85 : qv_M qx_e85 := ⟨plainFor_of_name (x := qx_e85.2.1) qv_pn1, qv_in4 (List.mem_of_getElem? (i := 71) rfl), rfl, by decide, qv_d85_0⟩
set_option maxRecDepth 100000 in
theorem qv_m86 : qv_M qx_e86 := ⟨plainFor_of_name (x := qx_e86.2.1) qv_pn8, qv_in4 (List.mem_of_getElem? (i := 75) rfl), rfl, by decide, qv_d86_0⟩
set_option maxRecDepth 100000 in
theorem qv_m87 : qv_M qx_e87 := ⟨plainFor_of_name (x := qx_e87.2.1) qv_pn1, qv_in4 (List.mem_of_getElem? (i := 80) rfl), rfl, by decide, qv_d87_0⟩
set_option maxRecDepth 100000 in
theorem qv_m88 : qv_M qx_e88 := ⟨plainFor_of_name (x := qx_e88.2.1) qv_pn2, qv_in4 (List.mem_of_getElem? (i := 84) rfl), rfl, by decide, qv_d88_0⟩
set_option maxRecDepth 100000 in
theorem qv_m89 : qv_M qx_e89 := ⟨plainFor_of_name (x := qx_e89.2.1) qv_pn9, qv_in4 (List.mem_of_getElem? (i := 90) rfl), rfl, by decide, qv_d89_0⟩
set_option maxRecDepth 100000 in
theorem qv_m90 : qv_M qx_e90 := ⟨plainFor_of_name (x := qx_e90.2.1) qv_pn9, qv_in4 (List.mem_of_getElem? (i := 94) rfl), rfl, by decide, qv_d90_0⟩
set_option maxRecDepth 100000 in
theorem qv_m91 : qv_M qx_e91 := ⟨plainFor_of_name (x := qx_e91.2.1) qv_pn8, qv_in4 (List.mem_of_getElem? (i := 98) rfl), rfl, by decide, qv_d91_0⟩
set_option maxRecDepth 100000 in
theorem qv_m92 : qv_M qx_e92 := ⟨plainFor_of_name (x := qx_e92.2.1) qv_pn9, qv_in4 (List.mem_of_getElem? (i := 103) rfl), rfl, by decide, qv_d92_0⟩
set_option maxRecDepth 100000 in
theorem qv_m93 : qv_M qx_e93 := ⟨plainFor_of_name (x := qx_e93.2.1) qv_pn9, qv_in4 (List.mem_of_getElem? (i := 106) rfl), rfl, by decide, qv_d93_0⟩
set_option maxRecDepth 100000 in
theorem qv_m94 : qv_M qx_e94 := ⟨plainFor_of_name (x := qx_e94.2.1) qv_pn9, qv_in4 (List.mem_of_getElem? (i := 113) rfl), rfl, by decide, qv_d94_0⟩
set_option maxRecDepth 100000 in
theorem qv_m95 : qv_M qx_e95 := ⟨plainFor_of_name (x := qx_e95.2.1) qv_pn2, qv_in4 (List.mem_of_getElem? (i := 120) rfl), rfl, by decide, qv_d95_0⟩
set_option maxRecDepth 100000 in
theorem qv_m96 : qv_M qx_e96 := ⟨plainFor_of_name (x := qx_e96.2.1) qv_pn2, qv_in4 (List.mem_of_getElem? (i := 125) rfl), rfl, by decide, qv_d96_0⟩
set_option maxRecDepth 100000 in
theorem qv_m97 : qv_M qx_e97 := ⟨plainFor_of_name (x := qx_e97.2.1) qv_pn8, qv_in4 (List.mem_of_getElem? (i := 131) rfl), rfl, by decide, qv_d97_0⟩
set_option maxRecDepth 100000 in
theorem qv_m98 : qv_M qx_e98 := ⟨plainFor_of_name (x := qx_e98.2.1) qv_pn8, qv_in4 (List.mem_of_getElem? (i := 136) rfl), rfl, by decide, qv_d98_0⟩
set_option maxRecDepth 100000 in
theorem qv_m99 : qv_M qx_e99 := ⟨plainFor_of_name (x := qx_e99.2.1) qv_pn1, qv_in4 (List.mem_of_getElem? (i := 140) rfl), rfl, by decide, qv_d99_0⟩
set_option maxRecDepth 100000 in
theorem qv_m100 : qv_M qx_e100 := ⟨plainFor_of_name (x := qx_e100.2.1) qv_pn1, qv_in4 (List.mem_of_getElem? (i := 143) rfl), rfl, by decide, qv_d100_0⟩
set_option maxRecDepth 100000 in
theorem qv_m101 : qv_M qx_e101 := ⟨plainFor_of_name (x := qx_e101.2.1) qv_pn9, qv_in4 (List.mem_of_getElem? (i := 147) rfl), rfl, by decide, qv_d101_0⟩
set_option maxRecDepth 100000 in
theorem qv_m102 : qv_M qx_e102 := ⟨plainFor_of_name (x := qx_e102.2.1) qv_pn4, qv_in4 (List.mem_of_getElem? (i := 151) rfl), rfl, by decide, qv_d102_0⟩
set_option maxRecDepth 100000 in
theorem qv_m103 : qv_M qx_e103 := ⟨plainFor_of_name (x := qx_e103.2.1) qv_pn5, qv_in4 (List.mem_of_getElem? (i := 155) rfl), rfl, by decide, qv_d103_0⟩
set_option maxRecDepth 100000 in
theorem qv_m104 : qv_M qx_e104 := ⟨plainFor_of_name (x := qx_e104.2.1) qv_pn9, qv_in4 (List.mem_of_getElem? (i := 159) rfl), rfl, by decide, qv_d104_0⟩
set_option maxRecDepth 100000 in
theorem qv_m105 : qv_M qx_e105 := ⟨plainFor_of_name (x := qx_e105.2.1) qv_pn1, qv_in4 (List.mem_of_getElem? (i := 164) rfl), rfl, by decide, qv_d105_0⟩
set_option maxRecDepth 100000 in
theorem qv_m106 : qv_M qx_e106 := ⟨plainFor_of_name (x := qx_e106.2.1) qv_pn9, qv_in4 (List.mem_of_getElem? (i := 168) rfl), rfl, by decide, qv_d106_0⟩
set_option maxRecDepth 100000 in
theorem qv_m107 : qv_M qx_e107 := ⟨plainFor_of_name (x := qx_e107.2.1) qv_pn9, qv_in4 (List.mem_of_getElem? (i := 174) rfl), rfl, by decide, qv_d107_0⟩
set_option maxRecDepth 100000 in
theorem qv_m108 : qv_M qx_e108 := ⟨plainFor_of_name (x := qx_e108.2.1) qv_pn1, qv_in4 (List.mem_of_getElem? (i := 178) rfl), rfl, by decide, qv_d108_0⟩
set_option maxRecDepth 100000 in
theorem qv_m109 : qv_M qx_e109 := ⟨plainFor_of_name (x := qx_e109.2.1) qv_pn1, qv_in4 (List.mem_of_getElem? (i := 181) rfl), rfl, by decide, qv_d109_0⟩
set_option maxRecDepth 100000 in
theorem qv_m110 : qv_M qx_e110 := ⟨plainFor_of_name (x := qx_e110.2.1) qv_pn10, qv_in4 (List.mem_of_getElem? (i := 185) rfl), rfl, by decide, qv_d110_0⟩
set_option maxRecDepth 100000 in
theorem qv_m111 : qv_M qx_e111 := ⟨plainFor_of_name (x := qx_e111.2.1) qv_pn10, qv_in4 (List.mem_of_getElem? (i := 190) rfl), rfl, by decide, qv_d111_0⟩
set_option maxRecDepth 100000 in
theorem qv_m112 : qv_M qx_e112 := ⟨plainFor_of_name (x := qx_e112.2.1) qv_pn10, qv_in4 (List.mem_of_getElem? (i := 196) rfl), rfl, by decide, qv_d112_0⟩
set_option maxRecDepth 100000 in
theorem qv_m113 : qv_M qx_e113 := ⟨plainFor_of_name (x := qx_e113.2.1) qv_pn10, qv_in4 (List.mem_of_getElem? (i := 200) rfl), rfl, by decide, qv_d113_0⟩
set_option maxRecDepth 100000 in
theorem qv_m114 : qv_M qx_e114 := ⟨plainFor_of_name (x := qx_e114.2.1) qv_pn10, qv_in4 (List.mem_of_getElem? (i := 204) rfl), rfl, by decide, qv_d114_0⟩
set_option maxRecDepth 100000 in
theorem qv_m115 : qv_M qx_e115 := ⟨by decide +kernel, qv_in4 (List.mem_of_getElem? (i := 207) rfl), rfl, by decide, qv_d115_0⟩
set_option maxRecDepth 100000 in
theorem qv_m116 : qv_M qx_e116 := ⟨plainFor_of_name (x := qx_e116.2.1) qv_pn10, qv_in4 (List.mem_of_getElem? (i := 215) rfl), rfl, by decide, qv_d116_0⟩
set_option maxRecDepth 100000 in
theorem qv_m117 : qv_M qx_e117 := ⟨plainFor_of_name (x := qx_e117.2.1) qv_pn1, qv_in4 (List.mem_of_getElem? (i := 219) rfl), rfl, by decide, qv_d117_0⟩
set_option maxRecDepth 100000 in
theorem qv_m118 : qv_M qx_e118 := ⟨plainFor_of_name (x := qx_e118.2.1) qv_pn10, qv_in4 (List.mem_of_getElem? (i := 223) rfl), rfl, by decide, qv_d118_0⟩
set_option maxRecDepth 100000 in
theorem qv_m119 : qv_M qx_e119 := ⟨plainFor_of_name (x := qx_e119.2.1) qv_pn10, qv_in4 (List.mem_of_getElem? (i := 227) rfl), rfl, by decide, qv_d119_0⟩
set_option maxRecDepth 100000 in
theorem qv_m120 : qv_M qx_e120 := ⟨plainFor_of_name (x := qx_e120.2.1) qv_pn1, qv_in4 (List.mem_of_getElem? (i := 233) rfl), rfl, by decide, qv_d120_0⟩
set_option maxRecDepth 100000 in
theorem qv_m121 : qv_M qx_e121 := ⟨plainFor_of_name (x := qx_e121.2.1) qv_pn10, qv_in4 (List.mem_of_getElem? (i := 237) rfl), rfl, by decide, qv_d121_0⟩
set_option maxRecDepth 100000 in
theorem qv_m122 : qv_M qx_e122 := ⟨plainFor_of_name (x := qx_e122.2.1) qv_pn4, qv_in5 (List.mem_of_getElem? (i := 1) rfl), rfl, by decide, qv_d122_0⟩
set_option maxRecDepth 100000 in
theorem qv_m123 : qv_M qx_e123 := ⟨plainFor_of_name (x := qx_e123.2.1) qv_pn10, qv_in5 (List.mem_of_getElem? (i := 6) rfl), rfl, by decide, qv_d123_0⟩
set_option maxRecDepth 100000 in
theorem qv_m124 : qv_M qx_e124 := ⟨plainFor_of_name (x := qx_e124.2.1) qv_pn4, qv_in5 (List.mem_of_getElem? (i := 13) rfl), rfl, by decide, qv_d124_0⟩
set_option maxRecDepth 100000 in
theorem qv_m125 : qv_M qx_e125 := ⟨plainFor_of_name (x := qx_e125.2.1) qv_pn4, qv_in5 (List.mem_of_getElem? (i := 19) rfl), rfl, by decide, qv_d125_0⟩
set_option maxRecDepth 100000 in
theorem qv_m126 : qv_M qx_e126 := ⟨plainFor_of_name (x := qx_e126.2.1) qv_pn1, qv_in5 (List.mem_of_getElem? (i := 25) rfl), rfl, by decide, qv_d126_0⟩
set_option maxRecDepth 100000 in
theorem qv_m127 : qv_M qx_e127 := ⟨plainFor_of_name (x := qx_e127.2.1) qv_pn1, qv_in5 (List.mem_of_getElem? (i := 29) rfl), rfl, by decide, qv_d127_0⟩
set_option maxRecDepth 100000 in
theorem qv_m128 : qv_M qx_e128 := ⟨plainFor_of_name (x := qx_e128.2.1) qv_pn10, qv_in5 (List.mem_of_getElem? (i := 33) rfl), rfl, by decide, qv_d128_0⟩
set_option maxRecDepth 100000 in
theorem qv_m129 : qv_M qx_e129 := ⟨plainFor_of_name (x := qx_e129.2.1) qv_pn10, qv_in5 (List.mem_of_getElem? (i := 37) rfl), rfl, by decide, qv_d129_0⟩
set_option maxRecDepth 100000 in
theorem qv_m130 : qv_M qx_e130 := ⟨plainFor_of_name (x := qx_e130.2.1) qv_pn10, qv_in5 (List.mem_of_getElem? (i := 43) rfl), rfl, by decide, qv_d130_0⟩
set_option maxRecDepth 100000 in
theorem qv_m131 : qv_M qx_e131 := ⟨plainFor_of_name (x := qx_e131.2.1) qv_pn10, qv_in5 (List.mem_of_getElem? (i := 47) rfl), rfl, by decide, qv_d131_0⟩
set_option maxRecDepth 100000 in
theorem qv_m132 : qv_M qx_e132 := ⟨plainFor_of_name (x := qx_e132.2.1) qv_pn10, qv_in5 (List.mem_of_getElem? (i := 51) rfl), rfl, by decide, qv_d132_0⟩
set_option maxRecDepth 100000 in
theorem qv_m133 : qv_M qx_e133 := ⟨plainFor_of_name (x := qx_e133.2.1) qv_pn1, qv_in5 (List.mem_of_getElem? (i := 55) rfl), rfl, by decide, qv_d133_0⟩
set_option maxRecDepth 100000 in
theorem qv_m134 : qv_M qx_e134 := ⟨plainFor_of_name (x := qx_e134.2.1) qv_pn11, qv_in5 (List.mem_of_getElem? (i := 59) rfl), rfl, by decide, qv_d134_0⟩
set_option maxRecDepth 100000 in
theorem qv_m135 : qv_M qx_e135 := ⟨plainFor_of_name (x := qx_e135.2.1) qv_pn11, qv_in5 (List.mem_of_getElem? (i := 63) rfl), rfl, by decide, qv_d135_0⟩
set_option maxRecDepth 100000 in
theorem qv_m136 : qv_M qx_e136 := ⟨plainFor_of_name (x := qx_e136.2.1) qv_pn5, qv_in5 (List.mem_of_getElem? (i := 69) rfl), rfl, by decide, qv_d136_0⟩
set_option maxRecDepth 100000 in
theorem qv_m137 : qv_M qx_e137 := ⟨plainFor_of_name (x := qx_e137.2.1) qv_pn11, qv_in5 (List.mem_of_getElem? (i := 75) rfl), rfl, by decide, qv_d137_0⟩
set_option maxRecDepth 100000 in
theorem qv_m138 : qv_M qx_e138 := ⟨plainFor_of_name (x := qx_e138.2.1) qv_pn1, qv_in5 (List.mem_of_getElem? (i := 81) rfl), rfl, by decide, qv_d138_0⟩
set_option maxRecDepth 100000 in
theorem qv_m139 : qv_M qx_e139 := ⟨plainFor_of_name (x := qx_e139.2.1) qv_pn1, qv_in5 (List.mem_of_getElem? (i := 85) rfl), rfl, by decide, qv_d139_0⟩
set_option maxRecDepth 100000 in
theorem qv_m140 : qv_M qx_e140 := ⟨plainFor_of_name (x := qx_e140.2.1) qv_pn1, qv_in5 (List.mem_of_getElem? (i := 89) rfl), rfl, by decide, qv_d140_0⟩
set_option maxRecDepth 100000 in
theorem qv_m141 : qv_M qx_e141 := ⟨plainFor_of_name (x := qx_e141.2.1) qv_pn1, qv_in5 (List.mem_of_getElem? (i := 93) rfl), rfl, by decide, qv_d141_0⟩
set_option maxRecDepth 100000 in
theorem qv_m142 : qv_M qx_e142 := ⟨plainFor_of_name (x := qx_e142.2.1) qv_pn4, qv_in5 (List.mem_of_getElem? (i := 97) rfl), rfl, by decide, qv_d142_0⟩
set_option maxRecDepth 100000 in
theorem qv_m143 : qv_M qx_e143 := ⟨plainFor_of_name (x := qx_e143.2.1) qv_pn3, qv_in5 (List.mem_of_getElem? (i := 101) rfl), rfl, by decide, qv_d143_0⟩
set_option maxRecDepth 100000 in
theorem qv_m144 : qv_M qx_e144 := ⟨plainFor_of_name (x := qx_e144.2.1) qv_pn1, qv_in5 (List.mem_of_getElem? (i := 106) rfl), rfl, by decide, qv_d144_0⟩
set_option maxRecDepth 100000 in
theorem qv_m145 : qv_M qx_e145 := ⟨plainFor_of_name (x := qx_e145.2.1) qv_pn12, qv_in5 (List.mem_of_getElem? (i := 110) rfl), rfl, by decide, qv_d145_0⟩
set_option maxRecDepth 100000 in
theorem qv_m146 : qv_M qx_e146 := ⟨plainFor_of_name (x := qx_e146.2.1) qv_pn1, qv_in5 (List.mem_of_getElem? (i := 114) rfl), rfl, by decide, qv_d146_0⟩
set_option maxRecDepth 100000 in
theorem qv_m147 : qv_M qx_e147 := ⟨plainFor_of_name (x := qx_e147.2.1) qv_pn12, qv_in5 (List.mem_of_getElem? (i := 118) rfl), rfl, by decide, qv_d147_0⟩
set_option maxRecDepth 100000 in
theorem qv_m148 : qv_M qx_e148 := ⟨plainFor_of_name (x := qx_e148.2.1) qv_pn1, qv_in5 (List.mem_of_getElem? (i := 122) rfl), rfl, by decide, qv_d148_0⟩
set_option maxRecDepth 100000 in
theorem qv_m149 : qv_M qx_e149 := ⟨plainFor_of_name (x := qx_e149.2.1) qv_pn6, qv_in5 (List.mem_of_getElem? (i := 126) rfl), rfl, by decide, qv_d149_0⟩
set_option maxRecDepth 100000 in
theorem qv_m150 : qv_M qx_e150 := ⟨plainFor_of_name (x := qx_e150.2.1) qv_pn6, qv_in5 (List.mem_of_getElem? (i := 130) rfl), rfl, by decide, qv_d150_0⟩
set_option maxRecDepth 100000 in
theorem qv_m151 : qv_M qx_e151 := ⟨plainFor_of_name (x := qx_e151.2.1) qv_pn6, qv_in5 (List.mem_of_getElem? (i := 134) rfl), rfl, by decide, qv_d151_0⟩
set_option maxRecDepth 100000 in
theorem qv_m152 : qv_M qx_e152 := ⟨plainFor_of_name (x := qx_e152.2.1) qv_pn6, qv_in5 (List.mem_of_getElem? (i := 138) rfl), rfl, by decide, qv_d152_0⟩
set_option maxRecDepth 100000 in
theorem qv_m153 : qv_M qx_e153 := ⟨plainFor_of_name (x := qx_e153.2.1) qv_pn6, qv_in5 (List.mem_of_getElem? (i := 146) rfl), rfl, by decide, qv_d153_0⟩
set_option maxRecDepth 100000 in
theorem qv_m154 : qv_M qx_e154 := ⟨plainFor_of_name (x := qx_e154.2.1) qv_pn1, qv_in5 (List.mem_of_getElem? (i := 150) rfl), rfl, by decide, qv_d154_0⟩
set_option maxRecDepth 100000 in
theorem qv_m155 : qv_M qx_e155 := ⟨plainFor_of_name (x := qx_e155.2.1) qv_pn1, qv_in5 (List.mem_of_getElem? (i := 154) rfl), rfl, by decide, qv_d155_0⟩
set_option maxRecDepth 100000 in
theorem qv_m156 : qv_M qx_e156 := ⟨plainFor_of_name (x := qx_e156.2.1) qv_pn7, qv_in5 (List.mem_of_getElem? (i := 158) rfl), rfl, by decide, qv_d156_0⟩
set_option maxRecDepth 100000 in
theorem qv_m157 : qv_M qx_e157 := ⟨plainFor_of_name (x := qx_e157.2.1) qv_pn1, qv_in5 (List.mem_of_getElem? (i := 162) rfl), rfl, by decide, qv_d157_0⟩
set_option maxRecDepth 100000 in
theorem qv_m158 : qv_M qx_e158 := ⟨plainFor_of_name (x := qx_e158.2.1) qv_pn7, qv_in5 (List.mem_of_getElem? (i := 166) rfl), rfl, by decide, qv_d158_0⟩
set_option maxRecDepth 100000 in
theorem qv_m159 : qv_M qx_e159 := ⟨plainFor_of_name (x := qx_e159.2.1) qv_pn1, qv_in5 (List.mem_of_getElem? (i := 170) rfl), rfl, by decide, qv_d159_0⟩
set_option maxRecDepth 100000 in
theorem qv_m160 : qv_M qx_e160 := ⟨plainFor_of_name (x := qx_e160.2.1) qv_pn7, qv_in5 (List.mem_of_getElem? (i := 174) rfl), rfl, by decide, qv_d160_0⟩
set_option maxRecDepth 100000 in
theorem qv_m161 : qv_M qx_e161 := ⟨plainFor_of_name (x := qx_e161.2.1) qv_pn7, qv_in5 (List.mem_of_getElem? (i := 179) rfl), rfl, by decide, qv_d161_0⟩
set_option maxRecDepth 100000 in
theorem qv_m162 : qv_M qx_e162 := ⟨plainFor_of_name (x := qx_e162.2.1) qv_pn7, qv_in5 (List.mem_of_getElem? (i := 182) rfl), rfl, by decide, qv_d162_0⟩
set_option maxRecDepth 100000 in
theorem qv_m163 : qv_M qx_e163 := ⟨plainFor_of_name (x := qx_e163.2.1) qv_pn1, qv_in5 (List.mem_of_getElem? (i := 186) rfl), rfl, by decide, qv_d163_0⟩
set_option maxRecDepth 100000 in
theorem qv_m164 : qv_M qx_e164 := ⟨plainFor_of_name (x := qx_e164.2.1) qv_pn1, qv_in5 (List.mem_of_getElem? (i := 191) rfl), rfl, by decide, qv_d164_0⟩
set_option maxRecDepth 100000 in
theorem qv_m165 : qv_M qx_e165 := ⟨plainFor_of_name (x := qx_e165.2.1) qv_pn7, qv_in5 (List.mem_of_getElem? (i := 196) rfl), rfl, by decide, qv_d165_0⟩
set_option maxRecDepth 100000 in
theorem qv_m166 : qv_M qx_e166 := ⟨plainFor_of_name (x := qx_e166.2.1) qv_pn7, qv_in5 (List.mem_of_getElem? (i := 200) rfl), rfl, by decide, qv_d166_0⟩
set_option maxRecDepth 100000 in
theorem qv_m167 : qv_M qx_e167 := ⟨plainFor_of_name (x := qx_e167.2.1) qv_pn1, qv_in5 (List.mem_of_getElem? (i := 205) rfl), rfl, by decide, qv_d167_0⟩
set_option maxRecDepth 100000 in
theorem qv_m168 : qv_M qx_e168 := ⟨plainFor_of_name (x := qx_e168.2.1) qv_pn7, qv_in5 (List.mem_of_getElem? (i := 209) rfl), rfl, by decide, qv_d168_0⟩
set_option maxRecDepth 100000 in
theorem qv_m169 : qv_M qx_e169 := ⟨plainFor_of_name (x := qx_e169.2.1) qv_pn6, qv_in5 (List.mem_of_getElem? (i := 212) rfl), rfl, by decide, qv_d169_0⟩
set_option maxRecDepth 100000 in
theorem qv_m170 : qv_M qx_e170 := ⟨plainFor_of_name (x := qx_e170.2.1) qv_pn1, qv_in5 (List.mem_of_getElem? (i := 216) rfl), rfl, by decide, qv_d170_0⟩
set_option maxRecDepth 100000 in
theorem qv_m171 : qv_M qx_e171 := ⟨plainFor_of_name (x := qx_e171.2.1) qv_pn13, qv_in5 (List.mem_of_getElem? (i := 221) rfl), rfl, by decide, qv_d171_0⟩
set_option maxRecDepth 100000 in
theorem qv_m172 : qv_M qx_e172 := ⟨plainFor_of_name (x := qx_e172.2.1) qv_pn13, qv_in6 (List.mem_of_getElem? (i := 178) rfl), rfl, by decide, qv_d172_0⟩
set_option maxRecDepth 100000 in
theorem qv_m173 : qv_M qx_e173 := ⟨plainFor_of_name (x := qx_e173.2.1) qv_pn13, qv_in6 (List.mem_of_getElem? (i := 182) rfl), rfl, by decide, qv_d173_0⟩
set_option maxRecDepth 100000 in
theorem qv_m174 : qv_M qx_e174 := ⟨plainFor_of_name (x := qx_e174.2.1) qv_pn13, qv_in6 (List.mem_of_getElem? (i := 186) rfl), rfl, by decide, qv_d174_0⟩
set_option maxRecDepth 100000 in
theorem qv_m175 : qv_M qx_e175 := ⟨plainFor_of_name (x := qx_e175.2.1) qv_pn13, qv_in6 (List.mem_of_getElem? (i := 190) rfl), rfl, by decide, qv_d175_0⟩
set_option maxRecDepth 100000 in
theorem qv_m176 : qv_M qx_e176 := ⟨plainFor_of_name (x := qx_e176.2.1) qv_pn13, qv_in6 (List.mem_of_getElem? (i := 193) rfl), rfl, by decide, qv_d176_0⟩
set_option maxRecDepth 100000 in
theorem qv_m177 : qv_M qx_e177 := ⟨plainFor_of_name (x := qx_e177.2.1) qv_pn13, qv_in6 (List.mem_of_getElem? (i := 198) rfl), rfl, by decide, qv_d177_0⟩
set_option maxRecDepth 100000 in
theorem qv_m178 : qv_M qx_e178 := ⟨plainFor_of_name (x := qx_e178.2.1) qv_pn13, qv_in6 (List.mem_of_getElem? (i := 201) rfl), rfl, by decide, qv_d178_0⟩
set_option maxRecDepth 100000 in
theorem qv_m179 : qv_M qx_e179 := ⟨plainFor_of_name (x := qx_e179.2.1) qv_pn13, qv_in6 (List.mem_of_getElem? (i := 208) rfl), rfl, by decide, qv_d179_0⟩
set_option maxRecDepth 100000 in
theorem qv_m180 : qv_M qx_e180 := ⟨plainFor_of_name (x := qx_e180.2.1) qv_pn13, qv_in6 (List.mem_of_getElem? (i := 212) rfl), rfl, by decide, qv_d180_0⟩
set_option maxRecDepth 100000 in
theorem qv_m181 : qv_M qx_e181 := ⟨plainFor_of_name (x := qx_e181.2.1) qv_pn13, qv_in6 (List.mem_of_getElem? (i := 216) rfl), rfl, by decide, qv_d181_0⟩
set_option maxRecDepth 100000 in
theorem qv_m182 : qv_M qx_e182 := ⟨plainFor_of_name (x := qx_e182.2.1) qv_pn13, qv_in6 (List.mem_of_getElem? (i := 220) rfl), rfl, by decide, qv_d182_0⟩
set_option maxRecDepth 100000 in
theorem qv_m183 : qv_M qx_e183 := ⟨plainFor_of_name (x := qx_e183.2.1) qv_pn13, qv_in6 (List.mem_of_getElem? (i := 224) rfl), rfl, by decide, qv_d183_0⟩
set_option maxRecDepth 100000 in
theorem qv_m184 : qv_M qx_e184 := ⟨plainFor_of_name (x := qx_e184.2.1) qv_pn13, qv_in6 (List.mem_of_getElem? (i := 228) rfl), rfl, by decide, qv_d184_0⟩
set_option maxRecDepth 100000 in
theorem qv_m185 : qv_M qx_e185 := ⟨plainFor_of_name (x := qx_e185.2.1) qv_pn13, qv_in6 (List.mem_of_getElem? (i := 232) rfl), rfl, by decide, qv_d185_0⟩
set_option maxRecDepth 100000 in
theorem qv_m186 : qv_M qx_e186 := ⟨plainFor_of_name (x := qx_e186.2.1) qv_pn13, qv_in6 (List.mem_of_getElem? (i := 236) rfl), rfl, by decide, qv_d186_0⟩
set_option maxRecDepth 100000 in
theorem qv_m187 : qv_M qx_e187 := ⟨plainFor_of_name (x := qx_e187.2.1) qv_pn13, qv_in7 (List.mem_of_getElem? (i := 0) rfl), rfl, by decide, qv_d187_0⟩
set_option maxRecDepth 100000 in
theorem qv_m188 : qv_M qx_e188 := ⟨plainFor_of_name (x := qx_e188.2.1) qv_pn13, qv_in7 (List.mem_of_getElem? (i := 4) rfl), rfl, by decide, qv_d188_0⟩
set_option maxRecDepth 100000 in
theorem qv_m189 : qv_M qx_e189 := ⟨plainFor_of_name (x := qx_e189.2.1) qv_pn13, qv_in7 (List.mem_of_getElem? (i := 8) rfl), rfl, by decide, qv_d189_0⟩
set_option maxRecDepth 100000 in
theorem qv_m190 : qv_M qx_e190 := ⟨plainFor_of_name (x := qx_e190.2.1) qv_pn13, qv_in7 (List.mem_of_getElem? (i := 12) rfl), rfl, by decide, qv_d190_0⟩
set_option maxRecDepth 100000 in
theorem qv_m191 : qv_M qx_e191 := ⟨plainFor_of_name (x := qx_e191.2.1) qv_pn13, qv_in7 (List.mem_of_getElem? (i := 16) rfl), rfl, by decide, qv_d191_0⟩
set_option maxRecDepth 100000 in
theorem qv_m192 : qv_M qx_e192 := ⟨plainFor_of_name (x := qx_e192.2.1) qv_pn13, qv_in7 (List.mem_of_getElem? (i := 19) rfl), rfl, by decide, qv_d192_0⟩
set_option maxRecDepth 100000 in
theorem qv_m193 : qv_M qx_e193 := ⟨plainFor_of_name (x := qx_e193.2.1) qv_pn13, qv_in7 (List.mem_of_getElem? (i := 25) rfl), rfl, by decide, qv_d193_0⟩
set_option maxRecDepth 100000 in
theorem qv_m194 : qv_M qx_e194 := ⟨plainFor_of_name (x := qx_e194.2.1) qv_pn13, qv_in7 (List.mem_of_getElem? (i := 30) rfl), rfl, by decide, qv_d194_0⟩
set_option maxRecDepth 100000 in
theorem qv_m195 : qv_M qx_e195 := ⟨plainFor_of_name (x := qx_e195.2.1) qv_pn13, qv_in7 (List.mem_of_getElem? (i := 34) rfl), rfl, by decide, qv_d195_0⟩
set_option maxRecDepth 100000 in
theorem qv_m196 : qv_M qx_e196 := ⟨plainFor_of_name (x := qx_e196.2.1) qv_pn13, qv_in7 (List.mem_of_getElem? (i := 38) rfl), rfl, by decide, qv_d196_0⟩
set_option maxRecDepth 100000 in
theorem qv_m197 : qv_M qx_e197 := ⟨plainFor_of_name (x := qx_e197.2.1) qv_pn13, qv_in7 (List.mem_of_getElem? (i := 42) rfl), rfl, by decide, qv_d197_0⟩
set_option maxRecDepth 100000 in
theorem qv_m198 : qv_M qx_e198 := ⟨plainFor_of_name (x := qx_e198.2.1) qv_pn13, qv_in7 (List.mem_of_getElem? (i := 46) rfl), rfl, by decide, qv_d198_0⟩
set_option maxRecDepth 100000 in
theorem qv_m199 : qv_M qx_e199 := ⟨plainFor_of_name (x := qx_e199.2.1) qv_pn13, qv_in7 (List.mem_of_getElem? (i := 53) rfl), rfl, by decide, qv_d199_0⟩
set_option maxRecDepth 100000 in
theorem qv_m200 : qv_M qx_e200 := ⟨plainFor_of_name (x := qx_e200.2.1) qv_pn13, qv_in7 (List.mem_of_getElem? (i := 57) rfl), rfl, by decide, qv_d200_0⟩
set_option maxRecDepth 100000 in
theorem qv_m201 : qv_M qx_e201 := ⟨plainFor_of_name (x := qx_e201.2.1) qv_pn13, qv_in7 (List.mem_of_getElem? (i := 61) rfl), rfl, by decide, qv_d201_0⟩
set_option maxRecDepth 100000 in
theorem qv_m202 : qv_M qx_e202 := ⟨plainFor_of_name (x := qx_e202.2.1) qv_pn13, qv_in7 (List.mem_of_getElem? (i := 65) rfl), rfl, by decide, qv_d202_0⟩
set_option maxRecDepth 100000 in
theorem qv_m203 : qv_M qx_e203 := ⟨plainFor_of_name (x := qx_e203.2.1) qv_pn13, qv_in7 (List.mem_of_getElem? (i := 69) rfl), rfl, by decide, qv_d203_0⟩
set_option maxRecDepth 100000 in
theorem qv_m204 : qv_M qx_e204 := ⟨plainFor_of_name (x := qx_e204.2.1) qv_pn13, qv_in7 (List.mem_of_getElem? (i := 73) rfl), rfl, by decide, qv_d204_0⟩
set_option maxRecDepth 100000 in
theorem qv_m205 : qv_M qx_e205 := ⟨plainFor_of_name (x := qx_e205.2.1) qv_pn13, qv_in7 (List.mem_of_getElem? (i := 77) rfl), rfl, by decide, qv_d205_0⟩
set_option maxRecDepth 100000 in
theorem qv_m206 : qv_M qx_e206 := ⟨plainFor_of_name (x := qx_e206.2.1) qv_pn13, qv_in7 (List.mem_of_getElem? (i := 81) rfl), rfl, by decide, qv_d206_0⟩
set_option maxRecDepth 100000 in
theorem qv_m207 : qv_M qx_e207 := ⟨plainFor_of_name (x := qx_e207.2.1) qv_pn13, qv_in7 (List.mem_of_getElem? (i := 85) rfl), rfl, by decide, qv_d207_0⟩
set_option maxRecDepth 100000 in
theorem qv_m208 : qv_M qx_e208 := ⟨plainFor_of_name (x := qx_e208.2.1) qv_pn13, qv_in7 (List.mem_of_getElem? (i := 89) rfl), rfl, by decide, qv_d208_0⟩
set_option maxRecDepth 100000 in
theorem qv_m209 : qv_M qx_e209 := ⟨plainFor_of_name (x := qx_e209.2.1) qv_pn13, qv_in7 (List.mem_of_getElem? (i := 93) rfl), rfl, by decide, qv_d209_0⟩
set_option maxRecDepth 100000 in
theorem qv_m210 : qv_M qx_e210 := ⟨plainFor_of_name (x := qx_e210.2.1) qv_pn13, qv_in7 (List.mem_of_getElem? (i := 97) rfl), rfl, by decide, qv_d210_0⟩
set_option maxRecDepth 100000 in
theorem qv_m211 : qv_M qx_e211 := ⟨plainFor_of_name (x := qx_e211.2.1) qv_pn13, qv_in7 (List.mem_of_getElem? (i := 101) rfl), rfl, by decide, qv_d211_0⟩
set_option maxRecDepth 100000 in
theorem qv_m212 : qv_M qx_e212 := ⟨plainFor_of_name (x := qx_e212.2.1) qv_pn13, qv_in7 (List.mem_of_getElem? (i := 106) rfl), rfl, by decide, qv_d212_0⟩
set_option maxRecDepth 100000 in
theorem qv_m213 : qv_M qx_e213 := ⟨plainFor_of_name (x := qx_e213.2.1) qv_pn13, qv_in7 (List.mem_of_getElem? (i := 110) rfl), rfl, by decide, qv_d213_0⟩
set_option maxRecDepth 100000 in
theorem qv_m214 : qv_M qx_e214 := ⟨plainFor_of_name (x := qx_e214.2.1) qv_pn13, qv_in7 (List.mem_of_getElem? (i := 114) rfl), rfl, by decide, qv_d214_0⟩
set_option maxRecDepth 100000 in
theorem qv_m215 : qv_M qx_e215 := ⟨plainFor_of_name (x := qx_e215.2.1) qv_pn13, qv_in7 (List.mem_of_getElem? (i := 118) rfl), rfl, by decide, qv_d215_0⟩
set_option maxRecDepth 100000 in
theorem qv_m216 : qv_M qx_e216 := ⟨plainFor_of_name (x := qx_e216.2.1) qv_pn13, qv_in7 (List.mem_of_getElem? (i := 122) rfl), rfl, by decide, qv_d216_0⟩
set_option maxRecDepth 100000 in
theorem qv_m217 : qv_M qx_e217 := ⟨plainFor_of_name (x := qx_e217.2.1) qv_pn13, qv_in7 (List.mem_of_getElem? (i := 126) rfl), rfl, by decide, qv_d217_0⟩
set_option maxRecDepth 100000 in
theorem qv_m218 : qv_M qx_e218 := ⟨plainFor_of_name (x := qx_e218.2.1) qv_pn13, qv_in7 (List.mem_of_getElem? (i := 130) rfl), rfl, by decide, qv_d218_0⟩
set_option maxRecDepth 100000 in
theorem qv_m219 : qv_M qx_e219 := ⟨plainFor_of_name (x := qx_e219.2.1) qv_pn13, qv_in7 (List.mem_of_getElem? (i := 134) rfl), rfl, by decide, qv_d219_0⟩
set_option maxRecDepth 100000 in
theorem qv_m220 : qv_M qx_e220 := ⟨plainFor_of_name (x := qx_e220.2.1) qv_pn13, qv_in7 (List.mem_of_getElem? (i := 138) rfl), rfl, by decide, qv_d220_0⟩
set_option maxRecDepth 100000 in
theorem qv_m221 : qv_M qx_e221 := ⟨plainFor_of_name (x := qx_e221.2.1) qv_pn13, qv_in7 (List.mem_of_getElem? (i := 142) rfl), rfl, by decide, qv_d221_0⟩
set_option maxRecDepth 100000 in
theorem qv_m222 : qv_M qx_e222 := ⟨plainFor_of_name (x := qx_e222.2.1) qv_pn13, qv_in7 (List.mem_of_getElem? (i := 146) rfl), rfl, by decide, qv_d222_0⟩
set_option maxRecDepth 100000 in
theorem qv_m223 : qv_M qx_e223 := ⟨plainFor_of_name (x := qx_e223.2.1) qv_pn13, qv_in7 (List.mem_of_getElem? (i := 149) rfl), rfl, by decide, qv_d223_0⟩
set_option maxRecDepth 100000 in
theorem qv_m224 : qv_M qx_e224 := ⟨plainFor_of_name (x := qx_e224.2.1) qv_pn13, qv_in7 (List.mem_of_getElem? (i := 153) rfl), rfl, by decide, qv_d224_0⟩
set_option maxRecDepth 100000 in
theorem qv_m225 : qv_M qx_e225 := ⟨plainFor_of_name (x := qx_e225.2.1) qv_pn13, qv_in7 (List.mem_of_getElem? (i := 157) rfl), rfl, by decide, qv_d225_0⟩
set_option maxRecDepth 100000 in
theorem qv_m226 : qv_M qx_e226 := ⟨plainFor_of_name (x := qx_e226.2.1) qv_pn13, qv_in7 (List.mem_of_getElem? (i := 161) rfl), rfl, by decide, qv_d226_0⟩
set_option maxRecDepth 100000 in
theorem qv_m227 : qv_M qx_e227 := ⟨plainFor_of_name (x := qx_e227.2.1) qv_pn13, qv_in7 (List.mem_of_getElem? (i := 165) rfl), rfl, by decide, qv_d227_0⟩
set_option maxRecDepth 100000 in
theorem qv_m228 : qv_M qx_e228 := ⟨plainFor_of_name (x := qx_e228.2.1) qv_pn13, qv_in7 (List.mem_of_getElem? (i := 169) rfl), rfl, by decide, qv_d228_0⟩
set_option maxRecDepth 100000 in
theorem qv_m229 : qv_M qx_e229 := ⟨plainFor_of_name (x := qx_e229.2.1) qv_pn13, qv_in7 (List.mem_of_getElem? (i := 173) rfl), rfl, by decide, qv_d229_0⟩
set_option maxRecDepth 100000 in
theorem qv_m230 : qv_M qx_e230 := ⟨plainFor_of_name (x := qx_e230.2.1) qv_pn13, qv_in7 (List.mem_of_getElem? (i := 176) rfl), rfl, by decide, qv_d230_0⟩
set_option maxRecDepth 100000 in
theorem qv_m231 : qv_M qx_e231 := ⟨plainFor_of_name (x := qx_e231.2.1) qv_pn13, qv_in7 (List.mem_of_getElem? (i := 181) rfl), rfl, by decide, qv_d231_0⟩
set_option maxRecDepth 100000 in
theorem qv_m232 : qv_M qx_e232 := ⟨plainFor_of_name (x := qx_e232.2.1) qv_pn13, qv_in7 (List.mem_of_getElem? (i := 185) rfl), rfl, by decide, qv_d232_0⟩
set_option maxRecDepth 100000 in
theorem qv_m233 : qv_M qx_e233 := ⟨plainFor_of_name (x := qx_e233.2.1) qv_pn13, qv_in7 (List.mem_of_getElem? (i := 189) rfl), rfl, by decide, qv_d233_0⟩
set_option maxRecDepth 100000 in
theorem qv_m234 : qv_M qx_e234 := ⟨plainFor_of_name (x := qx_e234.2.1) qv_pn13, qv_in7 (List.mem_of_getElem? (i := 193) rfl), rfl, by decide, qv_d234_0⟩
set_option maxRecDepth 100000 in
theorem qv_m235 : qv_M qx_e235 := ⟨plainFor_of_name (x := qx_e235.2.1) qv_pn13, qv_in7 (List.mem_of_getElem? (i := 197) rfl), rfl, by decide, qv_d235_0⟩
set_option maxRecDepth 100000 in
theorem qv_m236 : qv_M qx_e236 := ⟨plainFor_of_name (x := qx_e236.2.1) qv_pn13, qv_in7 (List.mem_of_getElem? (i := 200) rfl), rfl, by decide, qv_d236_0⟩
set_option maxRecDepth 100000 in
theorem qv_m237 : qv_M qx_e237 := ⟨plainFor_of_name (x := qx_e237.2.1) qv_pn13, qv_in7 (List.mem_of_getElem? (i := 205) rfl), rfl, by decide, qv_d237_0⟩
set_option maxRecDepth 100000 in
theorem qv_m238 : qv_M qx_e238 := ⟨plainFor_of_name (x := qx_e238.2.1) qv_pn13, qv_in7 (List.mem_of_getElem? (i := 209) rfl), rfl, by decide, qv_d238_0⟩
set_option maxRecDepth 100000 in
theorem qv_m239 : qv_M qx_e239 := ⟨plainFor_of_name (x := qx_e239.2.1) qv_pn13, qv_in7 (List.mem_of_getElem? (i := 213) rfl), rfl, by decide, qv_d239_0⟩
set_option maxRecDepth 100000 in
theorem qv_m240 : qv_M qx_e240 := ⟨plainFor_of_name (x := qx_e240.2.1) qv_pn13, qv_in7 (List.mem_of_getElem? (i := 217) rfl), rfl, by decide, qv_d240_0⟩
set_option maxRecDepth 100000 in
theorem qv_m241 : qv_M qx_e241 := ⟨plainFor_of_name (x := qx_e241.2.1) qv_pn13, qv_in7 (List.mem_of_getElem? (i := 221) rfl), rfl, by decide, qv_d241_0⟩
set_option maxRecDepth 100000 in
theorem qv_m242 : qv_M qx_e242 := ⟨plainFor_of_name (x := qx_e242.2.1) qv_pn13, qv_in7 (List.mem_of_getElem? (i := 226) rfl), rfl, by decide, qv_d242_0⟩
set_option maxRecDepth 100000 in
theorem qv_m243 : qv_M qx_e243 := ⟨plainFor_of_name (x := qx_e243.2.1) qv_pn13, qv_in7 (List.mem_of_getElem? (i := 232) rfl), rfl, by decide, qv_d243_0⟩
set_option maxRecDepth 100000 in
theorem qv_m244 : qv_M qx_e244 := ⟨plainFor_of_name (x := qx_e244.2.1) qv_pn13, qv_in7 (List.mem_of_getElem? (i := 236) rfl), rfl, by decide, qv_d244_0⟩
set_option maxRecDepth 100000 in
theorem qv_m245 : qv_M qx_e245 := ⟨plainFor_of_name (x := qx_e245.2.1) qv_pn13, qv_in8 (List.mem_of_getElem? (i := 0) rfl), rfl, by decide, qv_d245_0⟩
set_option maxRecDepth 100000 in
theorem qv_m246 : qv_M qx_e246 := ⟨plainFor_of_name (x := qx_e246.2.1) qv_pn13, qv_in8 (List.mem_of_getElem? (i := 4) rfl), rfl, by decide, qv_d246_0⟩
set_option maxRecDepth 100000 in
theorem qv_m247 : qv_M qx_e247 := ⟨plainFor_of_name (x := qx_e247.2.1) qv_pn13, qv_in8 (List.mem_of_getElem? (i := 8) rfl), rfl, by decide, qv_d247_0⟩
set_option maxRecDepth 100000 in
theorem qv_m248 : qv_M qx_e248 := ⟨plainFor_of_name (x := qx_e248.2.1) qv_pn13, qv_in8 (List.mem_of_getElem? (i := 12) rfl), rfl, by decide, qv_d248_0⟩
set_option maxRecDepth 100000 in
theorem qv_m249 : qv_M qx_e249 := ⟨plainFor_of_name (x := qx_e249.2.1) qv_pn13, qv_in8 (List.mem_of_getElem? (i := 16) rfl), rfl, by decide, qv_d249_0⟩
set_option maxRecDepth 100000 in
theorem qv_m250 : qv_M qx_e250 := ⟨plainFor_of_name (x := qx_e250.2.1) qv_pn13, qv_in8 (List.mem_of_getElem? (i := 20) rfl), rfl, by decide, qv_d250_0⟩
set_option maxRecDepth 100000 in
theorem qv_m251 : qv_M qx_e251 := ⟨plainFor_of_name (x := qx_e251.2.1) qv_pn13, qv_in8 (List.mem_of_getElem? (i := 24) rfl), rfl, by decide, qv_d251_0⟩
set_option maxRecDepth 100000 in
theorem qv_m252 : qv_M qx_e252 := ⟨plainFor_of_name (x := qx_e252.2.1) qv_pn13, qv_in8 (List.mem_of_getElem? (i := 28) rfl), rfl, by decide, qv_d252_0⟩
set_option maxRecDepth 100000 in
theorem qv_m253 : qv_M qx_e253 := ⟨plainFor_of_name (x := qx_e253.2.1) qv_pn13, qv_in8 (List.mem_of_getElem? (i := 31) rfl), rfl, by decide, qv_d253_0⟩
set_option maxRecDepth 100000 in
theorem qv_m254 : qv_M qx_e254 := ⟨plainFor_of_name (x := qx_e254.2.1) qv_pn13, qv_in8 (List.mem_of_getElem? (i := 35) rfl), rfl, by decide, qv_d254_0⟩
set_option maxRecDepth 100000 in
theorem qv_m255 : qv_M qx_e255 := ⟨plainFor_of_name (x := qx_e255.2.1) qv_pn13, qv_in8 (List.mem_of_getElem? (i := 39) rfl), rfl, by decide, qv_d255_0⟩
set_option maxRecDepth 100000 in
theorem qv_m256 : qv_M qx_e256 := ⟨plainFor_of_name (x := qx_e256.2.1) qv_pn13, qv_in8 (List.mem_of_getElem? (i := 43) rfl), rfl, by decide, qv_d256_0⟩
set_option maxRecDepth 100000 in
theorem qv_m257 : qv_M qx_e257 := ⟨plainFor_of_name (x := qx_e257.2.1) qv_pn13, qv_in8 (List.mem_of_getElem? (i := 47) rfl), rfl, by decide, qv_d257_0⟩
set_option maxRecDepth 100000 in
theorem qv_m258 : qv_M qx_e258 := ⟨plainFor_of_name (x := qx_e258.2.1) qv_pn13, qv_in8 (List.mem_of_getElem? (i := 51) rfl), rfl, by decide, qv_d258_0⟩
set_option maxRecDepth 100000 in
theorem qv_m259 : qv_M qx_e259 := ⟨plainFor_of_name (x := qx_e259.2.1) qv_pn13, qv_in8 (List.mem_of_getElem? (i := 55) rfl), rfl, by decide, qv_d259_0⟩
set_option maxRecDepth 100000 in
theorem qv_m260 : qv_M qx_e260 := ⟨plainFor_of_name (x := qx_e260.2.1) qv_pn13, qv_in8 (List.mem_of_getElem? (i := 59) rfl), rfl, by decide, qv_d260_0⟩
set_option maxRecDepth 100000 in
theorem qv_m261 : qv_M qx_e261 := ⟨plainFor_of_name (x := qx_e261.2.1) qv_pn13, qv_in8 (List.mem_of_getElem? (i := 63) rfl), rfl, by decide, qv_d261_0⟩
set_option maxRecDepth 100000 in
theorem qv_m262 : qv_M qx_e262 := ⟨plainFor_of_name (x := qx_e262.2.1) qv_pn13, qv_in8 (List.mem_of_getElem? (i := 67) rfl), rfl, by decide, qv_d262_0⟩
set_option maxRecDepth 100000 in
theorem qv_m263 : qv_M qx_e263 := ⟨plainFor_of_name (x := qx_e263.2.1) qv_pn13, qv_in8 (List.mem_of_getElem? (i := 71) rfl), rfl, by decide, qv_d263_0⟩
set_option maxRecDepth 100000 in
theorem qv_m264 : qv_M qx_e264 := ⟨plainFor_of_name (x := qx_e264.2.1) qv_pn13, qv_in8 (List.mem_of_getElem? (i := 75) rfl), rfl, by decide, qv_d264_0⟩
set_option maxRecDepth 100000 in
theorem qv_m265 : qv_M qx_e265 := ⟨plainFor_of_name (x := qx_e265.2.1) qv_pn13, qv_in8 (List.mem_of_getElem? (i := 79) rfl), rfl, by decide, qv_d265_0⟩
set_option maxRecDepth 100000 in
theorem qv_m266 : qv_M qx_e266 := ⟨plainFor_of_name (x := qx_e266.2.1) qv_pn13, qv_in8 (List.mem_of_getElem? (i := 82) rfl), rfl, by decide, qv_d266_0⟩
set_option maxRecDepth 100000 in
theorem qv_m267 : qv_M qx_e267 := ⟨plainFor_of_name (x := qx_e267.2.1) qv_pn13, qv_in8 (List.mem_of_getElem? (i := 86) rfl), rfl, by decide, qv_d267_0⟩
set_option maxRecDepth 100000 in
theorem qv_m268 : qv_M qx_e268 := ⟨plainFor_of_name (x := qx_e268.2.1) qv_pn13, qv_in8 (List.mem_of_getElem? (i := 91) rfl), rfl, by decide, qv_d268_0⟩
set_option maxRecDepth 100000 in
theorem qv_m269 : qv_M qx_e269 := ⟨plainFor_of_name (x := qx_e269.2.1) qv_pn13, qv_in8 (List.mem_of_getElem? (i := 95) rfl), rfl, by decide, qv_d269_0⟩
set_option maxRecDepth 100000 in
theorem qv_m270 : qv_M qx_e270 := ⟨plainFor_of_name (x := qx_e270.2.1) qv_pn13, qv_in8 (List.mem_of_getElem? (i := 99) rfl), rfl, by decide, qv_d270_0⟩
set_option maxRecDepth 100000 in
theorem qv_m271 : qv_M qx_e271 := ⟨plainFor_of_name (x := qx_e271.2.1) qv_pn13, qv_in8 (List.mem_of_getElem? (i := 103) rfl), rfl, by decide, qv_d271_0⟩
theorem qv_mt0 : ∀ x ∈ qx_mt0.tail, qv_M x := List.forall_mem_cons.mpr ⟨qv_m1, List.forall_mem_cons.mpr ⟨qv_m2, List.forall_mem_cons.mpr ⟨qv_m3, List.forall_mem_cons.mpr ⟨qv_m4, List.forall_mem_cons.mpr ⟨qv_m5, List.forall_mem_cons.mpr ⟨qv_m6, List.forall_mem_cons.mpr ⟨qv_m7, List.forall_mem_cons.mpr ⟨qv_m8, List.forall_mem_cons.mpr ⟨qv_m9, List.forall_mem_cons.mpr ⟨qv_m10, List.forall_mem_cons.mpr ⟨qv_m11, List.forall_mem_cons.mpr ⟨qv_m12, List.forall_mem_cons.mpr ⟨qv_m13, List.forall_mem_cons.mpr ⟨qv_m14, List.forall_mem_cons.mpr ⟨qv_m15, List.forall_mem_cons.mpr ⟨qv_m16, List.forall_mem_cons.mpr ⟨qv_m17, List.forall_mem_cons.mpr ⟨qv_m18, List.forall_mem_cons.mpr ⟨qv_m19, List.forall_mem_cons.mpr ⟨qv_m20, List.forall_mem_cons.mpr ⟨qv_m21, List.forall_mem_cons.mpr ⟨qv_m22, List.forall_mem_cons.mpr ⟨qv_m23, List.forall_mem_cons.mpr ⟨qv_m24, List.forall_mem_cons.mpr ⟨qv_m25, List.forall_mem_cons.mpr ⟨qv_m26, List.forall_mem_cons.mpr ⟨qv_m27, List.forall_mem_cons.mpr ⟨qv_m28, List.forall_mem_cons.mpr ⟨qv_m29, List.forall_mem_cons.mpr ⟨qv_m30, List.forall_mem_cons.mpr ⟨qv_m31, List.forall_mem_cons.mpr ⟨qv_m32, List.forall_mem_cons.mpr ⟨qv_m33, List.forall_mem_cons.mpr ⟨qv_m34, List.forall_mem_cons.mpr ⟨qv_m35, List.forall_mem_cons.mpr ⟨qv_m36, List.forall_mem_cons.mpr ⟨qv_m37, List.forall_mem_cons.mpr ⟨qv_m38, List.forall_mem_cons.mpr ⟨qv_m39, fun _ h => absurd h List.not_mem_nil⟩⟩⟩⟩⟩⟩⟩⟩⟩⟩⟩⟩⟩⟩⟩⟩⟩⟩⟩⟩⟩⟩⟩⟩⟩⟩⟩⟩⟩⟩⟩⟩⟩⟩⟩⟩⟩⟩⟩
theorem qv_mt1 : ∀ x ∈ qx_mt1, qv_M x := List.forall_mem_cons.mpr ⟨qv_m40, List.forall_mem_cons.mpr ⟨qv_m41, List.forall_mem_cons.mpr ⟨qv_m42, List.forall_mem_cons.mpr ⟨qv_m43, List.forall_mem_cons.mpr ⟨qv_m44, List.forall_mem_cons.mpr ⟨qv_m45, List.forall_mem_cons.mpr ⟨qv_m46, List.forall_mem_cons.mpr ⟨qv_m47, List.forall_mem_cons.mpr ⟨qv_m48, List.forall_mem_cons.mpr ⟨qv_m49, List.forall_mem_cons.mpr ⟨qv_m50, List.forall_mem_cons.mpr ⟨qv_m51, List.forall_mem_cons.mpr ⟨qv_m52, List.forall_mem_cons.mpr ⟨qv_m53, List.forall_mem_cons.mpr ⟨qv_m54, List.forall_mem_cons.mpr ⟨qv_m55, List.forall_mem_cons.mpr ⟨qv_m56, List.forall_mem_cons.mpr ⟨qv_m57, List.forall_mem_cons.mpr ⟨qv_m58, List.forall_mem_cons.mpr ⟨qv_m59, List.forall_mem_cons.mpr ⟨qv_m60, List.forall_mem_cons.mpr ⟨qv_m61, List.forall_mem_cons.mpr ⟨qv_m62, List.forall_mem_cons.mpr ⟨qv_m63, List.forall_mem_cons.mpr ⟨qv_m64, List.forall_mem_cons.mpr ⟨qv_m65, List.forall_mem_cons.mpr ⟨qv_m66, List.forall_mem_cons.mpr ⟨qv_m67, List.forall_mem_cons.mpr ⟨qv_m68, List.forall_mem_cons.mpr ⟨qv_m69, List.forall_mem_cons.mpr ⟨qv_m70, List.forall_mem_cons.mpr ⟨qv_m71, List.forall_mem_cons.mpr ⟨qv_m72, List.forall_mem_cons.mpr ⟨qv_m73, List.forall_mem_cons.mpr ⟨qv_m74, List.forall_mem_cons.mpr ⟨qv_m75, List.forall_mem_cons.mpr ⟨qv_m76, List.forall_mem_cons.mpr ⟨qv_m77, List.forall_mem_cons.mpr ⟨qv_m78, List.forall_mem_cons.mpr ⟨qv_m79, fun _ h => absurd h List.not_mem_nil⟩⟩⟩⟩⟩⟩⟩⟩⟩⟩⟩⟩⟩⟩⟩⟩⟩⟩⟩⟩⟩⟩⟩⟩⟩⟩⟩⟩⟩⟩⟩⟩⟩⟩⟩⟩⟩⟩⟩⟩
theorem qv_mt2 : ∀ x ∈ qx_mt2, qv_M x := List.forall_mem_cons.mpr ⟨qv_m80, List.forall_mem_cons.mpr ⟨qv_m81, List.forall_mem_cons.mpr ⟨qv_m82, List.forall_mem_cons.mpr ⟨qv_m83, List.forall_mem_cons.mpr ⟨qv_m84, List.forall_mem_cons.mpr ⟨qv_m85, List.forall_mem_cons.mpr ⟨qv_m86, List.forall_mem_cons.mpr ⟨qv_m87, List.forall_mem_cons.mpr ⟨qv_m88, List.forall_mem_cons.mpr ⟨qv_m89, List.forall_mem_cons.mpr ⟨qv_m90, List.forall_mem_cons.mpr ⟨qv_m91, List.forall_mem_cons.mpr ⟨qv_m92, List.forall_mem_cons.mpr ⟨qv_m93, List.forall_mem_cons.mpr ⟨qv_m94, List.forall_mem_cons.mpr ⟨qv_m95, List.forall_mem_cons.mpr ⟨qv_m96, List.forall_mem_cons.mpr ⟨qv_m97, List.forall_mem_cons.mpr ⟨qv_m98, List.forall_mem_cons.mpr ⟨qv_m99, List.forall_mem_cons.mpr ⟨qv_m100, List.forall_mem_cons.mpr ⟨qv_m101, List.forall_mem_cons.mpr ⟨qv_m102, List.forall_mem_cons.mpr ⟨qv_m103, List.forall_mem_cons.mpr ⟨qv_m104, List.forall_mem_cons.mpr ⟨qv_m105, List.forall_mem_cons.mpr ⟨qv_m106, List.forall_mem_cons.mpr ⟨qv_m107, List.forall_mem_cons.mpr ⟨qv_m108, List.forall_mem_cons.mpr ⟨qv_m109, List.forall_mem_cons.mpr ⟨qv_m110, List.forall_mem_cons.mpr ⟨qv_m111, List.forall_mem_cons.mpr ⟨qv_m112, List.forall_mem_cons.mpr ⟨qv_m113, List.forall_mem_cons.mpr ⟨qv_m114, List.forall_mem_cons.mpr ⟨qv_m115, List.forall_mem_cons.mpr ⟨qv_m116, List.forall_mem_cons.mpr ⟨qv_m117, List.forall_mem_cons.mpr ⟨qv_m118, List.forall_mem_cons.mpr ⟨qv_m119, fun _ h => absurd h List.not_mem_nil⟩⟩⟩⟩⟩⟩⟩⟩⟩⟩⟩⟩⟩⟩⟩⟩⟩⟩⟩⟩⟩⟩⟩⟩⟩⟩⟩⟩⟩⟩⟩⟩⟩⟩⟩⟩⟩⟩⟩⟩
theorem qv_mt3 : ∀ x ∈ qx_mt3, qv_M x := List.forall_mem_cons.mpr ⟨qv_m120, List.forall_mem_cons.mpr ⟨qv_m121, List.forall_mem_cons.mpr ⟨qv_m122, List.forall_mem_cons.mpr ⟨qv_m123, List.forall_mem_cons.mpr ⟨qv_m124, List.forall_mem_cons.mpr ⟨qv_m125, List.forall_mem_cons.mpr ⟨qv_m126, List.forall_mem_cons.mpr ⟨qv_m127, List.forall_mem_cons.mpr ⟨qv_m128, List.forall_mem_cons.mpr ⟨qv_m129, List.forall_mem_cons.mpr ⟨qv_m130, List.forall_mem_cons.mpr ⟨qv_m131, List.forall_mem_cons.mpr ⟨qv_m132, List.forall_mem_cons.mpr ⟨qv_m133, List.forall_mem_cons.mpr ⟨qv_m134, List.forall_mem_cons.mpr ⟨qv_m135, List.forall_mem_cons.mpr ⟨qv_m136, List.forall_mem_cons.mpr ⟨qv_m137, List.forall_mem_cons.mpr ⟨qv_m138, List.forall_mem_cons.mpr ⟨qv_m139, List.forall_mem_cons.mpr ⟨qv_m140, List.forall_mem_cons.mpr ⟨qv_m141, List.forall_mem_cons.mpr ⟨qv_m142, List.forall_mem_cons.mpr ⟨qv_m143, List.forall_mem_cons.mpr ⟨qv_m144, List.forall_mem_cons.mpr ⟨qv_m145, List.forall_mem_cons.mpr ⟨qv_m146, List.forall_mem_cons.mpr ⟨qv_m147, List.forall_mem_cons.mpr ⟨qv_m148, List.forall_mem_cons.mpr ⟨qv_m149, List.forall_mem_cons.mpr ⟨qv_m150, List.forall_mem_cons.mpr ⟨qv_m151, List.forall_mem_cons.mpr ⟨qv_m152, List.forall_mem_cons.mpr ⟨qv_m153, List.forall_mem_cons.mpr ⟨qv_m154, List.forall_mem_cons.mpr ⟨qv_m155, List.forall_mem_cons.mpr ⟨qv_m156, List.forall_mem_cons.mpr ⟨qv_m157, List.forall_mem_cons.mpr ⟨qv_m158, List.forall_mem_cons.mpr ⟨qv_m159, fun _ h => absurd h List.not_mem_nil⟩⟩⟩⟩⟩⟩⟩⟩⟩⟩⟩⟩⟩⟩⟩⟩⟩⟩⟩⟩⟩⟩⟩⟩⟩⟩⟩⟩⟩⟩⟩⟩⟩⟩⟩⟩⟩⟩⟩⟩
theorem qv_mt4 : ∀ x ∈ qx_mt4, qv_M x := List.forall_mem_cons.mpr ⟨qv_m160, List.forall_mem_cons.mpr ⟨qv_m161, List.forall_mem_cons.mpr ⟨qv_m162, List.forall_mem_cons.mpr ⟨qv_m163, List.forall_mem_cons.mpr ⟨qv_m164, List.forall_mem_cons.mpr ⟨qv_m165, List.forall_mem_cons.mpr ⟨qv_m166, List.forall_mem_cons.mpr ⟨qv_m167, List.forall_mem_cons.mpr ⟨qv_m168, List.forall_mem_cons.mpr ⟨qv_m169, List.forall_mem_cons.mpr ⟨qv_m170, List.forall_mem_cons.mpr ⟨qv_m171, List.forall_mem_cons.mpr ⟨qv_m172, List.forall_mem_cons.mpr ⟨qv_m173, List.forall_mem_cons.mpr ⟨qv_m174, List.forall_mem_cons.mpr ⟨qv_m175, List.forall_mem_cons.mpr ⟨qv_m176, List.forall_mem_cons.mpr ⟨qv_m177, List.forall_mem_cons.mpr ⟨qv_m178, List.forall_mem_cons.mpr ⟨qv_m179, List.forall_mem_cons.mpr ⟨qv_m180, List.forall_mem_cons.mpr ⟨qv_m181, List.forall_mem_cons.mpr ⟨qv_m182, List.forall_mem_cons.mpr ⟨qv_m183, List.forall_mem_cons.mpr ⟨qv_m184, List.forall_mem_cons.mpr ⟨qv_m185, List.forall_mem_cons.mpr ⟨qv_m186, List.forall_mem_cons.mpr ⟨qv_m187, List.forall_mem_cons.mpr ⟨qv_m188, List.forall_mem_cons.mpr ⟨qv_m189, List.forall_mem_cons.mpr ⟨qv_m190, List.forall_mem_cons.mpr ⟨qv_m191, List.forall_mem_cons.mpr ⟨qv_m192, List.forall_mem_cons.mpr ⟨qv_m193, List.forall_mem_cons.mpr ⟨qv_m194, List.forall_mem_cons.mpr ⟨qv_m195, List.forall_mem_cons.mpr ⟨qv_m196, List.forall_mem_cons.mpr ⟨qv_m197, List.forall_mem_cons.mpr ⟨qv_m198, List.forall_mem_cons.mpr ⟨qv_m199, fun _ h => absurd h List.not_mem_nil⟩⟩⟩⟩⟩⟩⟩⟩⟩⟩⟩⟩⟩⟩⟩⟩⟩⟩⟩⟩⟩⟩⟩⟩⟩⟩⟩⟩⟩⟩⟩⟩⟩⟩⟩⟩⟩⟩⟩⟩
theorem qv_mt5 : ∀ x ∈ qx_mt5, qv_M x := List.forall_mem_cons.mpr ⟨qv_m200, List.forall_mem_cons.mpr ⟨qv_m201, List.forall_mem_cons.mpr ⟨qv_m202, List.forall_mem_cons.mpr ⟨qv_m203, List.forall_mem_cons.mpr ⟨qv_m204, List.forall_mem_cons.mpr ⟨qv_m205, List.forall_mem_cons.mpr ⟨qv_m206, List.forall_mem_cons.mpr ⟨qv_m207, List.forall_mem_cons.mpr ⟨qv_m208, List.forall_mem_cons.mpr ⟨qv_m209, List.forall_mem_cons.mpr ⟨qv_m210, List.forall_mem_cons.mpr ⟨qv_m211, List.forall_mem_cons.mpr ⟨qv_m212, List.forall_mem_cons.mpr ⟨qv_m213, List.forall_mem_cons.mpr ⟨qv_m214, List.forall_mem_cons.mpr ⟨qv_m215, List.forall_mem_cons.mpr ⟨qv_m216, List.forall_mem_cons.mpr ⟨qv_m217, List.forall_mem_cons.mpr ⟨qv_m218, List.forall_mem_cons.mpr ⟨qv_m219, List.forall_mem_cons.mpr ⟨qv_m220, List.forall_mem_cons.mpr ⟨qv_m221, List.forall_mem_cons.mpr ⟨qv_m222, List.forall_mem_cons.mpr ⟨qv_m223, List.forall_mem_cons.mpr ⟨qv_m224, List.forall_mem_cons.mpr ⟨qv_m225, List.forall_mem_cons.mpr ⟨qv_m226, List.forall_mem_cons.mpr ⟨qv_m227, List.forall_mem_cons.mpr ⟨qv_m228, List.forall_mem_cons.mpr ⟨qv_m229, List.forall_mem_cons.mpr ⟨qv_m230, List.forall_mem_cons.mpr ⟨qv_m231, List.forall_mem_cons.mpr ⟨qv_m232, List.forall_mem_cons.mpr ⟨qv_m233, List.forall_mem_cons.mpr ⟨qv_m234, List.forall_mem_cons.mpr ⟨qv_m235, List.forall_mem_cons.mpr ⟨qv_m236, List.forall_mem_cons.mpr ⟨qv_m237, List.forall_mem_cons.mpr ⟨qv_m238, List.forall_mem_cons.mpr ⟨qv_m239, fun _ h => absurd h List.not_mem_nil⟩⟩⟩⟩⟩⟩⟩⟩⟩⟩⟩⟩⟩⟩⟩⟩⟩⟩⟩⟩⟩⟩⟩⟩⟩⟩⟩⟩⟩⟩⟩⟩⟩⟩⟩⟩⟩⟩⟩⟩
theorem qv_mt6 : ∀ x ∈ qx_mt6, qv_M x := List.forall_mem_cons.mpr ⟨qv_m240, List.forall_mem_cons.mpr ⟨qv_m241, List.forall_mem_cons.mpr ⟨qv_m242, List.forall_mem_cons.mpr ⟨qv_m243, List.forall_mem_cons.mpr ⟨qv_m244, List.forall_mem_cons.mpr ⟨qv_m245, List.forall_mem_cons.mpr ⟨qv_m246, List.forall_mem_cons.mpr ⟨qv_m247, List.forall_mem_cons.mpr ⟨qv_m248, List.forall_mem_cons.mpr ⟨qv_m249, List.forall_mem_cons.mpr ⟨qv_m250, List.forall_mem_cons.mpr ⟨qv_m251, List.forall_mem_cons.mpr ⟨qv_m252, List.forall_mem_cons.mpr ⟨qv_m253, List.forall_mem_cons.mpr ⟨qv_m254, List.forall_mem_cons.mpr ⟨qv_m255, List.forall_mem_cons.mpr ⟨qv_m256, List.forall_mem_cons.mpr ⟨qv_m257, List.forall_mem_cons.mpr ⟨qv_m258, List.forall_mem_cons.mpr ⟨qv_m259, List.forall_mem_cons.mpr ⟨qv_m260, List.forall_mem_cons.mpr ⟨qv_m261, List.forall_mem_cons.mpr ⟨qv_m262, List.forall_mem_cons.mpr ⟨qv_m263, List.forall_mem_cons.mpr ⟨qv_m264, List.forall_mem_cons.mpr ⟨qv_m265, List.forall_mem_cons.mpr ⟨qv_m266, List.forall_mem_cons.mpr ⟨qv_m267, List.forall_mem_cons.mpr ⟨qv_m268, List.forall_mem_cons.mpr ⟨qv_m269, List.forall_mem_cons.mpr ⟨qv_m270, List.forall_mem_cons.mpr ⟨qv_m271, fun _ h => absurd h List.not_mem_nil⟩⟩⟩⟩⟩⟩⟩⟩⟩⟩⟩⟩⟩⟩⟩⟩⟩⟩⟩⟩⟩⟩⟩⟩⟩⟩⟩⟩⟩⟩⟩⟩
theorem qv_all_m : ∀ x ∈ qx_mt0.tail ++ (qx_mt1 ++ (qx_mt2 ++ (qx_mt3 ++ (qx_mt4 ++ (qx_mt5 ++ (qx_mt6)))))), qv_M x := List.forall_mem_append.mpr ⟨qv_mt0, List.forall_mem_append.mpr ⟨qv_mt1, List.forall_mem_append.mpr ⟨qv_mt2, List.forall_mem_append.mpr ⟨qv_mt3, List.forall_mem_append.mpr ⟨qv_mt4, List.forall_mem_append.mpr ⟨qv_mt5, qv_mt6⟩⟩⟩⟩⟩⟩
theorem qv_mt : qx_mt.tail = qx_mt0.tail ++ (qx_mt1 ++ (qx_mt2 ++ (qx_mt3 ++ (qx_mt4 ++ (qx_mt5 ++ (qx_mt6)))))) := rfl
theorem qv_all : qs_all := by
  refine ⟨qv_cls, qv_words, fun k x hk he => ?_⟩
  refine qv_all_m x ?_
  rw [← qv_mt]
  unfold qm_ent at he
  have h : qx_mt.tail[k - 1]? = some x := by
    rw [List.getElem?_tail, Nat.sub_add_cancel hk]
    exact he
  exact List.mem_of_getElem? h
end
section
section QR2
variable {X : qm_X} {d : Nat} {x : qs_Ent} {Q : Option Value → qm_W → Prop} {pc : Nat} {ls : qm_L} {st : List Value} {w : qm_W} {c n r1 r2 r3 : Nat} {rv : Value}
theorem qr_iincG {z : Nat} {v y : Int} (ls' : Int → qm_L) (p : Nat) (hq : qm_fetch x.2.2.2.2.2.2.2 pc = some (pc, .iinc z v, 3, r1, r2, r3, rv)) (hg : qm_get ls z = some (.int (qz y))) (hz : z < x.2.2.2.1) (hl : ∀ u : Int, qm_put1 ls z (.int (qz u)) = ls' u) (hp : pc + 3 = p) (k : ∀ u : Int, u = y + v → qr_W X d x Q (p, ls' u, st, w, c, n)) : qr_W X d x Q (pc, ls, st, w, c, n) :=
  qr_iinc (ls' (y + v)) p hq hg hz (hl _) hp (k _ rfl)
end QR2
end
section
/-! the cells that both constructors leave: numbers σ (object, field), rows α (row, place), the customs' row κ, the spare one ρ. By a program. -/
def qw (σ α : Nat → Nat → Int) (κ : Nat → Option Nat) (ρ : Nat) : qm_W := [
  .inr (0, [.ref 17, .ref 23, .ref 25, .ref 27, .ref 34, .ref 42, .ref 44, .ref 49, .ref 58, .ref 64, .ref 70, .ref 73, .ref 76, .ref 81, .ref ρ, .int (qz (σ 16 15))]),
  .inr (1, [.ref 18, .ref 19, .ref 20, .ref 21, .ref 22, .long (ql (σ 17 5)), .int (qz (σ 17 6))]),
  .inl (.int, 32, .inl (qzf (α 18))),
  .inl (.int, 32, .inl (qzf (α 19))),
  .inl (.int, 32, .inl (qzf (α 20))),
  .inl (.int, 32, .inl (qzf (α 21))),
  .inl (.long, 32, .inr (.inl (qlf (α 22)))),
  .inr (2, [.ref 24, .int (qz (σ 23 1))]),
  .inl (.int, 1024, .inl (qzf (α 24))),
  .inr (2, [.ref 26, .int (qz (σ 25 1))]),
  .inl (.int, 1024, .inl (qzf (α 26))),
  .inr (3, [.ref 28, .ref 29, .ref 30, .ref 31, .ref 32, .ref 33, .long (ql (σ 27 6)), .int (qz (σ 27 7))]),
  .inl (.int, 40, .inl (qzf (α 28))),
  .inl (.int, 40, .inl (qzf (α 29))),
  .inl (.int, 40, .inl (qzf (α 30))),
  .inl (.int, 40, .inl (qzf (α 31))),
  .inl (.int, 40, .inl (qzf (α 32))),
  .inl (.int, 40, .inl (qzf (α 33))),
  .inr (4, [.ref 35, .ref 36, .ref 37, .ref 38, .ref 39, .ref 40, .ref 41, .int (qz (σ 34 7))]),
  .inl (.int, 60, .inl (qzf (α 35))),
  .inl (.int, 60, .inl (qzf (α 36))),
  .inl (.int, 60, .inl (qzf (α 37))),
  .inl (.int, 60, .inl (qzf (α 38))),
  .inl (.int, 60, .inl (qzf (α 39))),
  .inl (.int, 60, .inl (qzf (α 40))),
  .inl (.long, 60, .inr (.inl (qlf (α 41)))),
  .inr (5, [.ref 43, .int (qz (σ 42 1))]),
  .inl (.int, 24, .inl (qzf (α 43))),
  .inr (6, [.ref 45, .ref 46, .ref 47, .ref 48]),
  .inl (.int, 6, .inl (qzf (α 45))),
  .inl (.int, 6, .inl (qzf (α 46))),
  .inl (.int, 6, .inl (qzf (α 47))),
  .inl (.long, 360, .inr (.inl (qlf (α 48)))),
  .inl (.object "OneRoof$Custom", 2, .inr (.inr (.inr (.inr κ)))),
  .inr (7, [.ref 51, .ref 52, .ref 53, .int (qz (σ 50 3)), .int (qz (σ 50 4)), .int (qz (σ 50 5)), .int (qz (σ 50 6)), .int (qz (σ 50 7))]),
  .inl (.int, 120, .inl (qzf (α 51))),
  .inl (.int, 122, .inl (qzf (α 52))),
  .inl (.int, 120, .inl (qzf (α 53))),
  .inr (7, [.ref 55, .ref 56, .ref 57, .int (qz (σ 54 3)), .int (qz (σ 54 4)), .int (qz (σ 54 5)), .int (qz (σ 54 6)), .int (qz (σ 54 7))]),
  .inl (.int, 120, .inl (qzf (α 55))),
  .inl (.int, 122, .inl (qzf (α 56))),
  .inl (.int, 120, .inl (qzf (α 57))),
  .inr (8, [.ref 17, .ref 23, .ref 27, .ref 34, .ref 49, .ref 59, .ref 60, .ref 61, .ref 62, .ref 63, .long (ql (σ 58 10)), .int (qz (σ 58 11)), .int (qz (σ 58 12))]),
  .inl (.int, 9, .inl (qzf (α 59))),
  .inl (.int, 496, .inl (qzf (α 60))),
  .inl (.int, 496, .inl (qzf (α 61))),
  .inl (.long, 496, .inr (.inl (qlf (α 62)))),
  .inl (.int, 496, .inl (qzf (α 63))),
  .inr (9, [.ref 58, .ref 65, .int (qz (σ 64 2)), .ref 66, .ref 67, .ref 68, .ref 69, .int (qz (σ 64 7))]),
  .inl (.int, 12, .inl (qzf (α 65))),
  .inl (.int, 12, .inl (qzf (α 66))),
  .inl (.int, 4096, .inl (qzf (α 67))),
  .inl (.int, 36, .inl (qzf (α 68))),
  .inl (.int, 6, .inl (qzf (α 69))),
  .inr (10, [.ref 58, .ref 71, .int (qz (σ 70 2)), .long (ql (σ 70 3)), .ref 72, .int (qz (σ 70 5)), .long (ql (σ 70 6))]),
  .inl (.int, 31, .inl (qzf (α 71))),
  .inl (.int, 60, .inl (qzf (α 72))),
  .inr (10, [.ref 58, .ref 74, .int (qz (σ 73 2)), .long (ql (σ 73 3)), .ref 75, .int (qz (σ 73 5)), .long (ql (σ 73 6))]),
  .inl (.int, 31, .inl (qzf (α 74))),
  .inl (.int, 60, .inl (qzf (α 75))),
  .inr (11, [.ref 17, .ref 27, .ref 34, .ref 77, .ref 78, .ref 79, .ref 80, .int (qz (σ 76 7)), .int (qz (σ 76 8))]),
  .inl (.int, 40, .inl (qzf (α 77))),
  .inl (.int, 40, .inl (qzf (α 78))),
  .inl (.int, 40, .inl (qzf (α 79))),
  .inl (.int, 40, .inl (qzf (α 80))),
  .inl (.int, 120, .inl (qzf (α 81))),
  .inr (7, [.ref 83, .ref 84, .ref 85, .int (qz (σ 82 3)), .int (qz (σ 82 4)), .int (qz (σ 82 5)), .int (qz (σ 82 6)), .int (qz (σ 82 7))]),
  .inl (.int, 120, .inl (qzf (α 83))),
  .inl (.int, 122, .inl (qzf (α 84))),
  .inl (.int, 120, .inl (qzf (α 85))),
  .inr (12, [.ref 87, .ref 88, .ref 89, .ref 90, .int (qz (σ 86 4)), .int (qz (σ 86 5)), .int (qz (σ 86 6)), .ref 91, .ref 92, .ref 93, .long (ql (σ 86 10)), .int (qz (σ 86 11)), .ref 94, .ref 95, .ref 96, .int (qz (σ 86 15)), .int (qz (σ 86 16)), .ref 97, .ref 98, .ref 99, .ref 100, .ref 101, .long (ql (σ 86 22)), .int (qz (σ 86 23)), .int (qz (σ 86 24)), .ref 102, .ref 103, .ref 104, .ref 105, .long (ql (σ 86 29)), .int (qz (σ 86 30)), .ref 106, .int (qz (σ 86 32)), .ref 107, .ref 108, .int (qz (σ 86 35)), .int (qz (σ 86 36)), .int (qz (σ 86 37)), .int (qz (σ 86 38)), .int (qz (σ 86 39)), .ref 109, .int (qz (σ 86 41)), .ref 110, .int (qz (σ 86 43)), .ref 111, .ref 112, .ref 113, .ref 114, .ref 115, .ref 116, .int (qz (σ 86 50)), .long (ql (σ 86 51)), .ref 117, .ref 118, .ref 119, .ref 120, .int (qz (σ 86 56)), .int (qz (σ 86 57)), .int (qz (σ 86 58)), .ref 121, .ref 122, .ref 123, .ref 124]),
  .inl (.int, 252, .inl (qzf (α 87))),
  .inl (.int, 40, .inl (qzf (α 88))),
  .inl (.int, 40, .inl (qzf (α 89))),
  .inl (.int, 40, .inl (qzf (α 90))),
  .inl (.int, 32, .inl (qzf (α 91))),
  .inl (.int, 32, .inl (qzf (α 92))),
  .inl (.int, 32, .inl (qzf (α 93))),
  .inl (.int, 61, .inl (qzf (α 94))),
  .inl (.int, 61, .inl (qzf (α 95))),
  .inl (.int, 1024, .inl (qzf (α 96))),
  .inl (.int, 40, .inl (qzf (α 97))),
  .inl (.int, 40, .inl (qzf (α 98))),
  .inl (.int, 40, .inl (qzf (α 99))),
  .inl (.int, 40, .inl (qzf (α 100))),
  .inl (.int, 40, .inl (qzf (α 101))),
  .inl (.int, 60, .inl (qzf (α 102))),
  .inl (.int, 60, .inl (qzf (α 103))),
  .inl (.int, 60, .inl (qzf (α 104))),
  .inl (.int, 60, .inl (qzf (α 105))),
  .inl (.int, 120, .inl (qzf (α 106))),
  .inl (.int, 240, .inl (qzf (α 107))),
  .inl (.int, 2, .inl (qzf (α 108))),
  .inl (.int, 9, .inl (qzf (α 109))),
  .inl (.int, 32, .inl (qzf (α 110))),
  .inl (.int, 12, .inl (qzf (α 111))),
  .inl (.int, 4096, .inl (qzf (α 112))),
  .inl (.int, 10, .inl (qzf (α 113))),
  .inl (.int, 6, .inl (qzf (α 114))),
  .inl (.int, 31, .inl (qzf (α 115))),
  .inl (.int, 31, .inl (qzf (α 116))),
  .inl (.int, 31, .inl (qzf (α 117))),
  .inl (.int, 31, .inl (qzf (α 118))),
  .inl (.boolean, 1024, .inl (qzf (α 119))),
  .inl (.int, 24, .inl (qzf (α 120))),
  .inl (.int, 6, .inl (qzf (α 121))),
  .inl (.int, 6, .inl (qzf (α 122))),
  .inl (.long, 360, .inr (.inl (qlf (α 123)))),
  .inl (.long, 60, .inr (.inl (qlf (α 124))))]
/-- a number of an object becomes another one -/
def qw_s (σ : Nat → Nat → Int) (a k : Nat) (v : Int) : Nat → Nat → Int := fun x y => if x = a then (if y = k then v else σ x y) else σ x y
/-- a row becomes another one -/
def qw_r (α : Nat → Nat → Int) (a : Nat) (f : Nat → Int) : Nat → Nat → Int := fun x => if x = a then f else α x
end
section
/-! what lies outside: the script, two rows of the class Acts, four texts; and the view of a world by one custom. -/
def qe_bytes : Nat → List Int
  | 3 => [102, 38, 33, 99]
  | 4 => [102, 110, 99, 119, 118, 108, 107, 111, 100]
  | 5 => [100, 60, 50, 38, 119]
  | 6 => [48]
  | _ => []
def qe_above : List Int := [-1, 0, 1, 0, 0, 4, 0]
def qe_bodies : List Int := [1, 10, 11, 2, 20, 0, 0, 0, 31, 0, 30, 0, 0, 40, 0, 0, 0, 0, 0, 50, 60, 0, 0, 0, 0, 71, 70, 0]
def qe_cells (L : Nat) (xs : Nat → Int) : Nat → Option qm_E
  | 0 => some (.inl (.int, L, .inl (qzf xs)))
  | 1 => some (.inl (.int, 7, .inl (qzf (fun k => qe_above.getD k 0))))
  | 2 => some (.inl (.int, 28, .inl (qzf (fun k => qe_bodies.getD k 0))))
  | 3 => some (.inr (13, [.ref 7, .int (qz 0)]))
  | 4 => some (.inr (13, [.ref 8, .int (qz 0)]))
  | 5 => some (.inr (13, [.ref 9, .int (qz 0)]))
  | 6 => some (.inr (13, [.ref 10, .int (qz 0)]))
  | 7 => some (.inl (.byte, 4, .inl (qzf (fun k => (qe_bytes 3).getD k 0))))
  | 8 => some (.inl (.byte, 9, .inl (qzf (fun k => (qe_bytes 4).getD k 0))))
  | 9 => some (.inl (.byte, 5, .inl (qzf (fun k => (qe_bytes 5).getD k 0))))
  | 10 => some (.inl (.byte, 1, .inl (qzf (fun k => (qe_bytes 6).getD k 0))))
  | _ => none
def qe_v (b : Bool) : Value := match b with | true => .null | false => .ref 11
def qe (L : Nat) (xs : Nat → Int) (b : Bool) : qm_X := (qe_cells L xs, qe_v b)
def qc_o (a : Nat) (ln at_ sz nm sk : Int) : qm_E := .inr (7, [.ref (a + 1), .ref (a + 2), .ref (a + 3), .int (qz ln), .int (qz at_), .int (qz sz), .int (qz nm), .int (qz sk)])
/-- a world with the custom at a (and its rows behind it) so -/
def qc (w : qm_W) (a : Nat) (ln at_ sz nm sk : Int) (t cd : Nat → Int) : qm_W := ((w.set (a - 16) (qc_o a ln at_ sz nm sk)).set (a - 16 + 1) (.inl (.int, 120, .inl (qzf t)))).set (a - 16 + 2) (.inl (.int, 122, .inl (qzf cd)))
def qc_in (w : qm_W) (a : Nat) : Prop := 16 ≤ a ∧ a - 16 + 3 < w.length
section QC
variable {X : qm_X} {w : qm_W} {a : Nat} {ln at_ sz nm sk : Int} {t cd : Nat → Int}
theorem qc_g0 (h : qc_in w a) : (qc w a ln at_ sz nm sk t cd)[a - 16]? = some (qc_o a ln at_ sz nm sk) := by
  obtain ⟨h1, h2⟩ := h
  unfold qc
  rw [List.getElem?_set_ne (by omega), List.getElem?_set_ne (by omega), List.getElem?_set_self (by omega)]
theorem qc_g1 (h : qc_in w a) : (qc w a ln at_ sz nm sk t cd)[a + 1 - 16]? = some (.inl (.int, 120, .inl (qzf t))) := by
  obtain ⟨h1, h2⟩ := h
  unfold qc
  rw [show a + 1 - 16 = a - 16 + 1 by omega, List.getElem?_set_ne (by omega), List.getElem?_set_self (by rw [List.length_set]; omega)]
theorem qc_g2 (h : qc_in w a) : (qc w a ln at_ sz nm sk t cd)[a + 2 - 16]? = some (.inl (.int, 122, .inl (qzf cd))) := by
  obtain ⟨h1, h2⟩ := h
  unfold qc
  rw [show a + 2 - 16 = a - 16 + 2 by omega, List.getElem?_set_self (by rw [List.length_set, List.length_set]; omega)]
theorem qc_s0 {ln' at_' sz' nm' sk' : Int} (h : qc_in w a) : (qc w a ln at_ sz nm sk t cd).set (a - 16) (qc_o a ln' at_' sz' nm' sk') = qc w a ln' at_' sz' nm' sk' t cd := by
  obtain ⟨h1, h2⟩ := h
  unfold qc
  rw [List.set_comm _ _ (by omega : a - 16 + 2 ≠ a - 16), List.set_comm _ _ (by omega : a - 16 + 1 ≠ a - 16), List.set_set]
theorem qc_s1 {t' : Nat → Int} (h : qc_in w a) : (qc w a ln at_ sz nm sk t cd).set (a + 1 - 16) (.inl (.int, 120, .inl (qzf t'))) = qc w a ln at_ sz nm sk t' cd := by
  obtain ⟨h1, h2⟩ := h
  unfold qc
  rw [show a + 1 - 16 = a - 16 + 1 by omega, List.set_comm _ _ (by omega : a - 16 + 2 ≠ a - 16 + 1), List.set_set]
theorem qc_s2 {cd' : Nat → Int} (h : qc_in w a) : (qc w a ln at_ sz nm sk t cd).set (a + 2 - 16) (.inl (.int, 122, .inl (qzf cd'))) = qc w a ln at_ sz nm sk t cd' := by
  obtain ⟨h1, h2⟩ := h
  unfold qc
  rw [show a + 2 - 16 = a - 16 + 2 by omega, List.set_set]
theorem qc_c {e : qm_E} {b : Nat} (hb : 16 ≤ b) (h : w[b - 16]? = some e) : qm_cell X w b = some e := by
  rw [qs_cell_hi hb]
  exact h
end QC
section QC2
variable {X : qm_X} {d : Nat} {x : qs_Ent} {Q : Option Value → qm_W → Prop} {pc : Nat} {ls : qm_L} {st : List Value} {w : qm_W} {c n r1 r2 r3 : Nat} {rv : Value} {a : Nat} {ln at_ sz nm sk : Int} {t cd : Nat → Int}
theorem qr_cget0 {z : Nat} (hi : qc_in w a) (p : Nat) (hq : qm_fetch x.2.2.2.2.2.2.2 pc = some (pc, .getfield z, 3, 7, 0, 0, rv)) (hp : pc + 3 = p) (k : qr_W X d x Q (p, ls, .ref (a + 1) :: st, qc w a ln at_ sz nm sk t cd, c, n)) : qr_W X d x Q (pc, ls, .ref a :: st, qc w a ln at_ sz nm sk t cd, c, n) :=
  qr_get p hq (qc_c hi.1 (qc_g0 hi)) rfl (by decide) hp k
theorem qr_cget1 {z : Nat} (hi : qc_in w a) (p : Nat) (hq : qm_fetch x.2.2.2.2.2.2.2 pc = some (pc, .getfield z, 3, 7, 1, 0, rv)) (hp : pc + 3 = p) (k : qr_W X d x Q (p, ls, .ref (a + 2) :: st, qc w a ln at_ sz nm sk t cd, c, n)) : qr_W X d x Q (pc, ls, .ref a :: st, qc w a ln at_ sz nm sk t cd, c, n) :=
  qr_get p hq (qc_c hi.1 (qc_g0 hi)) rfl (by decide) hp k
theorem qr_cget3 {z : Nat} (hi : qc_in w a) (p : Nat) (hq : qm_fetch x.2.2.2.2.2.2.2 pc = some (pc, .getfield z, 3, 7, 3, 0, rv)) (hp : pc + 3 = p) (k : qr_W X d x Q (p, ls, .int (qz ln) :: st, qc w a ln at_ sz nm sk t cd, c, n)) : qr_W X d x Q (pc, ls, .ref a :: st, qc w a ln at_ sz nm sk t cd, c, n) :=
  qr_get p hq (qc_c hi.1 (qc_g0 hi)) rfl (by decide) hp k
theorem qr_cget4 {z : Nat} (hi : qc_in w a) (p : Nat) (hq : qm_fetch x.2.2.2.2.2.2.2 pc = some (pc, .getfield z, 3, 7, 4, 0, rv)) (hp : pc + 3 = p) (k : qr_W X d x Q (p, ls, .int (qz at_) :: st, qc w a ln at_ sz nm sk t cd, c, n)) : qr_W X d x Q (pc, ls, .ref a :: st, qc w a ln at_ sz nm sk t cd, c, n) :=
  qr_get p hq (qc_c hi.1 (qc_g0 hi)) rfl (by decide) hp k
theorem qr_cget5 {z : Nat} (hi : qc_in w a) (p : Nat) (hq : qm_fetch x.2.2.2.2.2.2.2 pc = some (pc, .getfield z, 3, 7, 5, 0, rv)) (hp : pc + 3 = p) (k : qr_W X d x Q (p, ls, .int (qz sz) :: st, qc w a ln at_ sz nm sk t cd, c, n)) : qr_W X d x Q (pc, ls, .ref a :: st, qc w a ln at_ sz nm sk t cd, c, n) :=
  qr_get p hq (qc_c hi.1 (qc_g0 hi)) rfl (by decide) hp k
theorem qr_cget6 {z : Nat} (hi : qc_in w a) (p : Nat) (hq : qm_fetch x.2.2.2.2.2.2.2 pc = some (pc, .getfield z, 3, 7, 6, 0, rv)) (hp : pc + 3 = p) (k : qr_W X d x Q (p, ls, .int (qz nm) :: st, qc w a ln at_ sz nm sk t cd, c, n)) : qr_W X d x Q (pc, ls, .ref a :: st, qc w a ln at_ sz nm sk t cd, c, n) :=
  qr_get p hq (qc_c hi.1 (qc_g0 hi)) rfl (by decide) hp k
theorem qr_cget7 {z : Nat} (hi : qc_in w a) (p : Nat) (hq : qm_fetch x.2.2.2.2.2.2.2 pc = some (pc, .getfield z, 3, 7, 7, 0, rv)) (hp : pc + 3 = p) (k : qr_W X d x Q (p, ls, .int (qz sk) :: st, qc w a ln at_ sz nm sk t cd, c, n)) : qr_W X d x Q (pc, ls, .ref a :: st, qc w a ln at_ sz nm sk t cd, c, n) :=
  qr_get p hq (qc_c hi.1 (qc_g0 hi)) rfl (by decide) hp k
theorem qr_cput3 {z : Nat} {y : Int} (hi : qc_in w a) (p : Nat) (hq : qm_fetch x.2.2.2.2.2.2.2 pc = some (pc, .putfield z, 3, 7, 3, 0, rv)) (hp : pc + 3 = p) (k : qr_W X d x Q (p, ls, st, qc w a y at_ sz nm sk t cd, c, n)) : qr_W X d x Q (pc, ls, .int (qz y) :: .ref a :: st, qc w a ln at_ sz nm sk t cd, c, n) := by
  refine qr_put p hq hi.1 (qc_g0 hi) (Nat.le_of_ble_eq_true rfl) (by decide) (Or.inl rfl) (qr_fitI rfl _) hp ?_
  have e := qc_s0 (w := w) (a := a) (ln := ln) (at_ := at_) (sz := sz) (nm := nm) (sk := sk) (t := t) (cd := cd) (ln' := y) (at_' := at_) (sz' := sz) (nm' := nm) (sk' := sk) hi
  unfold qc_o at e
  show qr_W X d x Q (p, ls, st, (qc w a ln at_ sz nm sk t cd).set (a - 16) (.inr (7, [.ref (a + 1), .ref (a + 2), .ref (a + 3), .int (qz y), .int (qz at_), .int (qz sz), .int (qz nm), .int (qz sk)])), c, n)
  rw [e]
  exact k
theorem qr_cput4 {z : Nat} {y : Int} (hi : qc_in w a) (p : Nat) (hq : qm_fetch x.2.2.2.2.2.2.2 pc = some (pc, .putfield z, 3, 7, 4, 0, rv)) (hp : pc + 3 = p) (k : qr_W X d x Q (p, ls, st, qc w a ln y sz nm sk t cd, c, n)) : qr_W X d x Q (pc, ls, .int (qz y) :: .ref a :: st, qc w a ln at_ sz nm sk t cd, c, n) := by
  refine qr_put p hq hi.1 (qc_g0 hi) (Nat.le_of_ble_eq_true rfl) (by decide) (Or.inl rfl) (qr_fitI rfl _) hp ?_
  have e := qc_s0 (w := w) (a := a) (ln := ln) (at_ := at_) (sz := sz) (nm := nm) (sk := sk) (t := t) (cd := cd) (ln' := ln) (at_' := y) (sz' := sz) (nm' := nm) (sk' := sk) hi
  unfold qc_o at e
  show qr_W X d x Q (p, ls, st, (qc w a ln at_ sz nm sk t cd).set (a - 16) (.inr (7, [.ref (a + 1), .ref (a + 2), .ref (a + 3), .int (qz ln), .int (qz y), .int (qz sz), .int (qz nm), .int (qz sk)])), c, n)
  rw [e]
  exact k
theorem qr_cput5 {z : Nat} {y : Int} (hi : qc_in w a) (p : Nat) (hq : qm_fetch x.2.2.2.2.2.2.2 pc = some (pc, .putfield z, 3, 7, 5, 0, rv)) (hp : pc + 3 = p) (k : qr_W X d x Q (p, ls, st, qc w a ln at_ y nm sk t cd, c, n)) : qr_W X d x Q (pc, ls, .int (qz y) :: .ref a :: st, qc w a ln at_ sz nm sk t cd, c, n) := by
  refine qr_put p hq hi.1 (qc_g0 hi) (Nat.le_of_ble_eq_true rfl) (by decide) (Or.inl rfl) (qr_fitI rfl _) hp ?_
  have e := qc_s0 (w := w) (a := a) (ln := ln) (at_ := at_) (sz := sz) (nm := nm) (sk := sk) (t := t) (cd := cd) (ln' := ln) (at_' := at_) (sz' := y) (nm' := nm) (sk' := sk) hi
  unfold qc_o at e
  show qr_W X d x Q (p, ls, st, (qc w a ln at_ sz nm sk t cd).set (a - 16) (.inr (7, [.ref (a + 1), .ref (a + 2), .ref (a + 3), .int (qz ln), .int (qz at_), .int (qz y), .int (qz nm), .int (qz sk)])), c, n)
  rw [e]
  exact k
theorem qr_cput6 {z : Nat} {y : Int} (hi : qc_in w a) (p : Nat) (hq : qm_fetch x.2.2.2.2.2.2.2 pc = some (pc, .putfield z, 3, 7, 6, 0, rv)) (hp : pc + 3 = p) (k : qr_W X d x Q (p, ls, st, qc w a ln at_ sz y sk t cd, c, n)) : qr_W X d x Q (pc, ls, .int (qz y) :: .ref a :: st, qc w a ln at_ sz nm sk t cd, c, n) := by
  refine qr_put p hq hi.1 (qc_g0 hi) (Nat.le_of_ble_eq_true rfl) (by decide) (Or.inl rfl) (qr_fitI rfl _) hp ?_
  have e := qc_s0 (w := w) (a := a) (ln := ln) (at_ := at_) (sz := sz) (nm := nm) (sk := sk) (t := t) (cd := cd) (ln' := ln) (at_' := at_) (sz' := sz) (nm' := y) (sk' := sk) hi
  unfold qc_o at e
  show qr_W X d x Q (p, ls, st, (qc w a ln at_ sz nm sk t cd).set (a - 16) (.inr (7, [.ref (a + 1), .ref (a + 2), .ref (a + 3), .int (qz ln), .int (qz at_), .int (qz sz), .int (qz y), .int (qz sk)])), c, n)
  rw [e]
  exact k
theorem qr_cput7 {z : Nat} {y : Int} (hi : qc_in w a) (hy : y = 0 ∨ y = 1) (p : Nat) (hq : qm_fetch x.2.2.2.2.2.2.2 pc = some (pc, .putfield z, 3, 7, 7, 0, rv)) (hp : pc + 3 = p) (k : qr_W X d x Q (p, ls, st, qc w a ln at_ sz nm y t cd, c, n)) : qr_W X d x Q (pc, ls, .int (qz y) :: .ref a :: st, qc w a ln at_ sz nm sk t cd, c, n) := by
  refine qr_put p hq hi.1 (qc_g0 hi) (Nat.le_of_ble_eq_true rfl) (by decide) (Or.inl rfl) (qr_fitZ rfl hy) hp ?_
  have e := qc_s0 (w := w) (a := a) (ln := ln) (at_ := at_) (sz := sz) (nm := nm) (sk := sk) (t := t) (cd := cd) (ln' := ln) (at_' := at_) (sz' := sz) (nm' := nm) (sk' := y) hi
  unfold qc_o at e
  show qr_W X d x Q (p, ls, st, (qc w a ln at_ sz nm sk t cd).set (a - 16) (.inr (7, [.ref (a + 1), .ref (a + 2), .ref (a + 3), .int (qz ln), .int (qz at_), .int (qz sz), .int (qz nm), .int (qz y)])), c, n)
  rw [e]
  exact k
theorem qr_ctload {y : Int} (hi : qc_in w a) (p : Nat) (hq : qm_fetch x.2.2.2.2.2.2.2 pc = some (pc, .iaload, 1, r1, r2, r3, rv)) (hy : 0 ≤ y ∧ y < 120) (hp : pc + 1 = p) (k : qr_W X d x Q (p, ls, .int (qz (t y.toNat)) :: st, qc w a ln at_ sz nm sk t cd, c, n)) : qr_W X d x Q (pc, ls, .int (qz y) :: .ref (a + 1) :: st, qc w a ln at_ sz nm sk t cd, c, n) :=
  qr_iaload p hq (qc_c (by have := hi.1; omega) (qc_g1 hi)) hy (by decide) hp k
theorem qr_ctstore {y v : Int} (hi : qc_in w a) (p : Nat) (hq : qm_fetch x.2.2.2.2.2.2.2 pc = some (pc, .iastore, 1, r1, r2, r3, rv)) (hy : 0 ≤ y ∧ y < 120) (hp : pc + 1 = p) (k : qr_W X d x Q (p, ls, st, qc w a ln at_ sz nm sk (qzu t y.toNat v) cd, c, n)) : qr_W X d x Q (pc, ls, .int (qz v) :: .int (qz y) :: .ref (a + 1) :: st, qc w a ln at_ sz nm sk t cd, c, n) := by
  refine qr_iastore p hq (by have := hi.1; omega) (qc_g1 hi) hy (by decide) hp ?_
  rw [qc_s1 hi]
  exact k
theorem qr_ccstore {y v : Int} (hi : qc_in w a) (p : Nat) (hq : qm_fetch x.2.2.2.2.2.2.2 pc = some (pc, .iastore, 1, r1, r2, r3, rv)) (hy : 0 ≤ y ∧ y < 122) (hp : pc + 1 = p) (k : qr_W X d x Q (p, ls, st, qc w a ln at_ sz nm sk t (qzu cd y.toNat v), c, n)) : qr_W X d x Q (pc, ls, .int (qz v) :: .int (qz y) :: .ref (a + 2) :: st, qc w a ln at_ sz nm sk t cd, c, n) := by
  refine qr_iastore p hq (by have := hi.1; omega) (qc_g2 hi) hy (by decide) hp ?_
  rw [qc_s2 hi]
  exact k
theorem qr_ctlen (hi : qc_in w a) (p : Nat) (hq : qm_fetch x.2.2.2.2.2.2.2 pc = some (pc, .arraylength, 1, r1, r2, r3, rv)) (hp : pc + 1 = p) (k : qr_W X d x Q (p, ls, .int (qz 120) :: st, qc w a ln at_ sz nm sk t cd, c, n)) : qr_W X d x Q (pc, ls, .ref (a + 1) :: st, qc w a ln at_ sz nm sk t cd, c, n) :=
  qr_alen p hq (qc_c (by have := hi.1; omega) (qc_g1 hi)) (Or.inr (Or.inl rfl)) hp k
theorem qr_cclen (hi : qc_in w a) (p : Nat) (hq : qm_fetch x.2.2.2.2.2.2.2 pc = some (pc, .arraylength, 1, r1, r2, r3, rv)) (hp : pc + 1 = p) (k : qr_W X d x Q (p, ls, .int (qz 122) :: st, qc w a ln at_ sz nm sk t cd, c, n)) : qr_W X d x Q (pc, ls, .ref (a + 2) :: st, qc w a ln at_ sz nm sk t cd, c, n) :=
  qr_alen p hq (qc_c (by have := hi.1; omega) (qc_g2 hi)) (Or.inr (Or.inl rfl)) hp k
/-- a call on the custom -/
theorem qr_ccall {z k : Nat} {as rest : List Value} {Q' : Option Value → qm_W → Prop} (hi : qc_in w a) (p : Nat) (hq : qm_fetch x.2.2.2.2.2.2.2 pc = some (pc, .invokevirtual z, 3, k, as.length, 0, .ref 7)) (hb : qm_bud k = (0, 0)) (hs : qm_sum rest ≤ 8) (hp : pc + 3 = p) (hst : st = as.reverse ++ Value.ref a :: rest) (hT : qm_T X d k (Value.ref a :: as) (qc w a ln at_ sz nm sk t cd) Q') (kk : ∀ r w', Q' r w' → qr_W X d x Q (p, ls, r.toList ++ rest, w', 0, 0)) : qr_W X d x Q (pc, ls, st, qc w a ln at_ sz nm sk t cd, 0, 0) := by
  subst hst
  subst hp
  refine qr_callN (k := k) (as := Value.ref a :: as) (rest := rest) (pc + 3) hq ?_ hb hT kk
  have e1 : (as.reverse ++ Value.ref a :: rest)[as.length]? = some (Value.ref a) := by
    rw [List.getElem?_append_right (by rw [List.length_reverse]; exact Nat.le_refl _), List.length_reverse, Nat.sub_self]
    rfl
  have e2 : (as.reverse ++ Value.ref a :: rest).drop (as.length + 1) = rest := by
    rw [← List.length_reverse, List.drop_append]
    simp
  have e3 : (as.reverse ++ Value.ref a :: rest).take as.length = as.reverse := by
    rw [← List.length_reverse, List.take_left]
  have e4 := qc_c (X := X) hi.1 (qc_g0 (ln := ln) (at_ := at_) (sz := sz) (nm := nm) (sk := sk) (t := t) (cd := cd) hi)
  unfold qc_o at e4
  simp only [qm_call, e1, e2, e3, e4, List.reverse_reverse]
  exact if_pos ⟨by first | rfl | trivial, Or.inl (by first | rfl | trivial), by first | rfl | trivial, hs⟩
end QC2
end
section
section QN
variable {X : qm_X} {d : Nat} {x : qs_Ent} {Q : Option Value → qm_W → Prop} {pc : Nat} {ls : qm_L} {st : List Value} {w : qm_W} {c n r1 r2 r3 : Nat} {rv : Value}
theorem qr_topI {y : Int} (k : ∀ v : Int, v = y → qr_W X d x Q (pc, ls, .int (qz v) :: st, w, c, n)) : qr_W X d x Q (pc, ls, .int (qz y) :: st, w, c, n) := k y rfl
theorem qr_topL {y : Int} (k : ∀ v : Int, v = y → qr_W X d x Q (pc, ls, .long (ql v) :: st, w, c, n)) : qr_W X d x Q (pc, ls, .long (ql y) :: st, w, c, n) := k y rfl
theorem qr_look {dflt : Int} {ps : Array (Int × Int)} {len : Nat} {a off : Int} (t : Nat) (hq : qm_fetch x.2.2.2.2.2.2.2 pc = some (pc, .lookupswitch dflt ps, len, r1, r2, r3, rv)) (ra : -2147483648 ≤ a ∧ a ≤ 2147483647) (hs : (ps.toList.zip (ps.toList.drop 1)).all (fun (a, next) => a.1 < next.1) = true) (ho : Op.lookupswitch.offset ps.toList dflt a = off) (ht : qm_to pc off = some t) (k : qr_W X d x Q (t, ls, st, w, c, n)) : qr_W X d x Q (pc, ls, .int (qz a) :: st, w, c, n) := by
  refine qr_eff hq rfl rfl (s' := (t, ls, st, w, c, n)) ?_ k
  refine (if_pos hs).trans ?_
  rw [qz_ti ra, ho]
  unfold qm_jump
  rw [ht]
  rfl
theorem qz_and_r (a b : Int) : -2147483648 ≤ qz_and a b ∧ qz_and a b ≤ 2147483647 := qz_rng _
theorem qz_or_r (a b : Int) : -2147483648 ≤ qz_or a b ∧ qz_or a b ≤ 2147483647 := qz_rng _
theorem qz_shl_r (a b : Int) : -2147483648 ≤ qz_shl a b ∧ qz_shl a b ≤ 2147483647 := qz_rng _
theorem qz_shr_r (a b : Int) : -2147483648 ≤ qz_shr a b ∧ qz_shr a b ≤ 2147483647 := qz_rng _
theorem qz_ushr_r (a b : Int) : -2147483648 ≤ qz_ushr a b ∧ qz_ushr a b ≤ 2147483647 := qz_rng _
theorem qz_i2c_r (a : Int) : -2147483648 ≤ qz_i2c a ∧ qz_i2c a ≤ 2147483647 := qz_rng _
theorem qz_i2b_r (a : Int) : -2147483648 ≤ qz_i2b a ∧ qz_i2b a ≤ 2147483647 := qz_rng _
end QN

set_option maxHeartbeats 2000000 in
set_option maxRecDepth 20000 in
/-- Custom.isDigit -/
theorem sp_isDigit {X : qm_X} {d : Nat} {w : qm_W} {s : Int} (rs : -2147483648 ≤ s ∧ s ≤ 2147483647)  : qm_T X (d + 1) 23 [.int (qz s)] (w) (fun r w' => w' = w ∧ ∃ b : Int, r = some (.int (qz b)) ∧ (b = 0 ∨ b = 1) ∧ (b = 1 → 48 ≤ s ∧ s ≤ 57)) := by
  refine qr_start (d := d + 0) qv_e23 (Nat.le_of_ble_eq_true rfl) ?_
  show qr_W X (d + 0) qx_e23 _ (0, [(0, .int (qz s))], [], w, 0, 0)
  refine qr_iload_n 1 rfl rfl rfl ?_
  refine qr_bipush 3 rfl (by decide) rfl ?_
  refine qr_icmp_lt 16 6 rfl rfl rfl (by omega) (by omega) (fun h1 => ?_) (fun h1 => ?_)
  · skip
    refine qr_iconst 17 rfl rfl ?_
    refine qr_retZ rfl rfl (by omega) (Nat.zero_le _) (Nat.zero_le _) ?_
    exact ⟨rfl, _, rfl, by omega⟩
  · skip
    refine qr_iload_n 7 rfl rfl rfl ?_
    refine qr_bipush 9 rfl (by decide) rfl ?_
    refine qr_icmp_gt 16 12 rfl rfl rfl (by omega) (by omega) (fun h2 => ?_) (fun h2 => ?_)
    · skip
      refine qr_iconst 17 rfl rfl ?_
      refine qr_retZ rfl rfl (by omega) (Nat.zero_le _) (Nat.zero_le _) ?_
      exact ⟨rfl, _, rfl, by omega⟩
    · skip
      refine qr_iconst 13 rfl rfl ?_
      refine qr_goto 17 rfl rfl ?_
      refine qr_retZ rfl rfl (by omega) (Nat.zero_le _) (Nat.zero_le _) ?_
      exact ⟨rfl, _, rfl, by omega⟩

set_option maxHeartbeats 2000000 in
set_option maxRecDepth 20000 in
/-- Custom.levelOf -/
theorem sp_levelOf {X : qm_X} {d : Nat} {w : qm_W} {s : Int} (rs : -2147483648 ≤ s ∧ s ≤ 2147483647)  : qm_T X (d + 1) 33 [.int (qz s)] (w) (fun r w' => w' = w ∧ ∃ b : Int, r = some (.int (qz b)) ∧ (-1 ≤ b ∧ b ≤ 4) ∧ (s = -1 → b = -1)) := by
  refine qr_start (d := d + 0) qv_e33 (Nat.le_of_ble_eq_true rfl) ?_
  show qr_W X (d + 0) qx_e33 _ (0, [(0, .int (qz s))], [], w, 0, 0)
  refine qr_iload_n 1 rfl rfl rfl ?_
  by_cases k1 : (37 : Int) = s
  · refine qr_look (off := 99) 100 rfl (by omega) (by decide) (by rw [← k1] <;> decide) rfl ?_
    refine qr_iconst 101 rfl rfl ?_
    refine qr_retI rfl rfl (Nat.zero_le _) (Nat.zero_le _) ?_
    exact ⟨rfl, _, rfl, by omega⟩
  by_cases k2 : (38 : Int) = s
  · refine qr_look (off := 93) 94 rfl (by omega) (by decide) (by rw [← k2] <;> decide) rfl ?_
    refine qr_iconst 95 rfl rfl ?_
    refine qr_retI rfl rfl (Nat.zero_le _) (Nat.zero_le _) ?_
    exact ⟨rfl, _, rfl, by omega⟩
  by_cases k3 : (42 : Int) = s
  · refine qr_look (off := 99) 100 rfl (by omega) (by decide) (by rw [← k3] <;> decide) rfl ?_
    refine qr_iconst 101 rfl rfl ?_
    refine qr_retI rfl rfl (Nat.zero_le _) (Nat.zero_le _) ?_
    exact ⟨rfl, _, rfl, by omega⟩
  by_cases k4 : (43 : Int) = s
  · refine qr_look (off := 97) 98 rfl (by omega) (by decide) (by rw [← k4] <;> decide) rfl ?_
    refine qr_iconst 99 rfl rfl ?_
    refine qr_retI rfl rfl (Nat.zero_le _) (Nat.zero_le _) ?_
    exact ⟨rfl, _, rfl, by omega⟩
  by_cases k5 : (45 : Int) = s
  · refine qr_look (off := 97) 98 rfl (by omega) (by decide) (by rw [← k5] <;> decide) rfl ?_
    refine qr_iconst 99 rfl rfl ?_
    refine qr_retI rfl rfl (Nat.zero_le _) (Nat.zero_le _) ?_
    exact ⟨rfl, _, rfl, by omega⟩
  by_cases k6 : (47 : Int) = s
  · refine qr_look (off := 99) 100 rfl (by omega) (by decide) (by rw [← k6] <;> decide) rfl ?_
    refine qr_iconst 101 rfl rfl ?_
    refine qr_retI rfl rfl (Nat.zero_le _) (Nat.zero_le _) ?_
    exact ⟨rfl, _, rfl, by omega⟩
  by_cases k7 : (60 : Int) = s
  · refine qr_look (off := 95) 96 rfl (by omega) (by decide) (by rw [← k7] <;> decide) rfl ?_
    refine qr_iconst 97 rfl rfl ?_
    refine qr_retI rfl rfl (Nat.zero_le _) (Nat.zero_le _) ?_
    exact ⟨rfl, _, rfl, by omega⟩
  by_cases k8 : (61 : Int) = s
  · refine qr_look (off := 95) 96 rfl (by omega) (by decide) (by rw [← k8] <;> decide) rfl ?_
    refine qr_iconst 97 rfl rfl ?_
    refine qr_retI rfl rfl (Nat.zero_le _) (Nat.zero_le _) ?_
    exact ⟨rfl, _, rfl, by omega⟩
  by_cases k9 : (62 : Int) = s
  · refine qr_look (off := 95) 96 rfl (by omega) (by decide) (by rw [← k9] <;> decide) rfl ?_
    refine qr_iconst 97 rfl rfl ?_
    refine qr_retI rfl rfl (Nat.zero_le _) (Nat.zero_le _) ?_
    exact ⟨rfl, _, rfl, by omega⟩
  by_cases k10 : (124 : Int) = s
  · refine qr_look (off := 91) 92 rfl (by omega) (by decide) (by rw [← k10] <;> decide) rfl ?_
    refine qr_iconst 93 rfl rfl ?_
    refine qr_retI rfl rfl (Nat.zero_le _) (Nat.zero_le _) ?_
    exact ⟨rfl, _, rfl, by omega⟩
  refine qr_look (off := 101) 102 rfl (by omega) (by decide) (by simp [Op.lookupswitch.offset_cons, Op.lookupswitch.offset_nil, k1, k2, k3, k4, k5, k6, k7, k8, k9, k10]) rfl ?_
  refine qr_iconst 103 rfl rfl ?_
  refine qr_retI rfl rfl (Nat.zero_le _) (Nat.zero_le _) ?_
  exact ⟨rfl, _, rfl, by omega⟩

set_option maxHeartbeats 2000000 in
set_option maxRecDepth 20000 in
/-- Custom.next -/
theorem sp_next {X : qm_X} {d : Nat} {w : qm_W} {a : Nat} {ln at_ sz nm sk : Int} {t cd : Nat → Int} (hi : qc_in w a) (ht : ∀ j, -2147483648 ≤ t j ∧ t j ≤ 2147483647) (hl : 0 ≤ ln ∧ ln ≤ 120) (h0 : 0 ≤ at_ ∧ at_ ≤ ln ∧ 0 ≤ sz ∧ sz ≤ 122 ∧ -2147483648 ≤ nm ∧ nm ≤ 2147483647 ∧ (sk = 0 ∨ sk = 1))  : qm_T X (d + 1) 22 [.ref a] (qc w a ln at_ sz nm sk t cd) (fun r w' => w' = qc w a ln at_ sz nm sk t cd ∧ ∃ b : Int, r = some (.int (qz b)) ∧ (-2147483648 ≤ b ∧ b ≤ 2147483647) ∧ ((b = -1 ∧ ln ≤ at_) ∨ at_ < ln)) := by
  refine qr_start (d := d + 0) qv_e22 (Nat.le_of_ble_eq_true rfl) ?_
  show qr_W X (d + 0) qx_e22 _ (0, [(0, .ref a)], [], qc w a ln at_ sz nm sk t cd, 0, 0)
  refine qr_aload_n 1 rfl rfl rfl ?_
  refine qr_cget4 hi 4 rfl rfl ?_
  refine qr_aload_n 5 rfl rfl rfl ?_
  refine qr_cget3 hi 8 rfl rfl ?_
  refine qr_icmp_ge 23 11 rfl rfl rfl (by omega) (by omega) (fun h1 => ?_) (fun h1 => ?_)
  · skip
    refine qr_iconst 24 rfl rfl ?_
    refine qr_retI rfl rfl (Nat.zero_le _) (Nat.zero_le _) ?_
    exact ⟨rfl, _, rfl, by omega⟩
  · skip
    refine qr_aload_n 12 rfl rfl rfl ?_
    refine qr_cget0 hi 15 rfl rfl ?_
    refine qr_aload_n 16 rfl rfl rfl ?_
    refine qr_cget4 hi 19 rfl rfl ?_
    refine qr_ctload hi 20 rfl (by omega) rfl ?_
    refine qr_topI (fun v2 hv2 => ?_)
    have rv2 : -2147483648 ≤ v2 ∧ v2 ≤ 2147483647 := by rw [hv2]; exact ht _
    refine qr_goto 24 rfl rfl ?_
    refine qr_retI rfl rfl (Nat.zero_le _) (Nat.zero_le _) ?_
    exact ⟨rfl, _, rfl, by omega⟩

set_option maxHeartbeats 2000000 in
set_option maxRecDepth 20000 in
/-- Custom.emit -/
theorem sp_emit {X : qm_X} {d : Nat} {w : qm_W} {a : Nat} {ln at_ sz nm sk : Int} {t cd : Nat → Int} (hi : qc_in w a) (ht : ∀ j, -2147483648 ≤ t j ∧ t j ≤ 2147483647) (hl : 0 ≤ ln ∧ ln ≤ 120) (h0 : 0 ≤ at_ ∧ at_ ≤ ln ∧ 0 ≤ sz ∧ sz ≤ 122 ∧ -2147483648 ≤ nm ∧ nm ≤ 2147483647 ∧ (sk = 0 ∨ sk = 1)) {s u : Int}  : qm_T X (d + 1) 25 [.ref a, .int (qz s), .int (qz u)] (qc w a ln at_ sz nm sk t cd) (fun r w' => ∃ (b sz2 : Int) (cd2 : Nat → Int), r = some (.int (qz b)) ∧ w' = qc w a ln at_ sz2 nm sk t cd2 ∧ (0 ≤ b ∧ b < 122 ∧ 0 ≤ sz2 ∧ sz2 ≤ 122)) := by
  refine qr_start (d := d + 0) qv_e25 (Nat.le_of_ble_eq_true rfl) ?_
  show qr_W X (d + 0) qx_e25 _ (0, [(0, .ref a), (1, .int (qz s)), (2, .int (qz u))], [], qc w a ln at_ sz nm sk t cd, 0, 0)
  refine qr_aload_n 1 rfl rfl rfl ?_
  refine qr_cget5 hi 4 rfl rfl ?_
  refine qr_aload_n 5 rfl rfl rfl ?_
  refine qr_cget1 hi 8 rfl rfl ?_
  refine qr_cclen hi 9 rfl rfl ?_
  refine qr_icmp_lt 14 12 rfl rfl rfl (by omega) (by omega) (fun h1 => ?_) (fun h1 => ?_)
  · skip
    refine qr_aload_n 15 rfl rfl rfl ?_
    refine qr_cget1 hi 18 rfl rfl ?_
    refine qr_aload_n 19 rfl rfl rfl ?_
    refine qr_cget5 hi 22 rfl rfl ?_
    refine qr_iload_n 23 rfl rfl rfl ?_
    refine qr_bipush 25 rfl (by decide) rfl ?_
    refine qr_ishl 26 rfl rfl ?_
    refine qr_topI (fun v2 hv2 => ?_)
    have rv2 : -2147483648 ≤ v2 ∧ v2 ≤ 2147483647 := by rw [hv2]; exact qz_shl_r _ _
    refine qr_iload_n 27 rfl rfl rfl ?_
    refine qr_ior 28 rfl rfl ?_
    refine qr_topI (fun v3 hv3 => ?_)
    have rv3 : -2147483648 ≤ v3 ∧ v3 ≤ 2147483647 := by rw [hv3]; exact qz_or_r _ _
    refine qr_ccstore hi 29 rfl (by omega) rfl ?_
    refine qr_aload_n 30 rfl rfl rfl ?_
    refine qr_dup 31 rfl rfl rfl ?_
    refine qr_cget5 hi 34 rfl rfl ?_
    refine qr_dup_x1 35 rfl rfl rfl rfl ?_
    refine qr_iconst 36 rfl rfl ?_
    refine qr_iadd 37 rfl rfl ?_
    refine qr_topI (fun v4 hv4 => ?_)
    refine qr_cput5 hi 40 rfl rfl ?_
    refine qr_retI rfl rfl (Nat.zero_le _) (Nat.zero_le _) ?_
    exact ⟨_, _, _, rfl, rfl, by omega⟩
  · skip
    refine qr_iconst 13 rfl rfl ?_
    refine qr_retI rfl rfl (Nat.zero_le _) (Nat.zero_le _) ?_
    exact ⟨_, _, _, rfl, rfl, by omega⟩

set_option maxHeartbeats 2000000 in
set_option maxRecDepth 20000 in
/-- Custom.pass -/
theorem sp_pass {X : qm_X} {d : Nat} {w : qm_W} {a : Nat} {ln at_ sz nm sk : Int} {t cd : Nat → Int} (hi : qc_in w a) (ht : ∀ j, -2147483648 ≤ t j ∧ t j ≤ 2147483647) (hl : 0 ≤ ln ∧ ln ≤ 120) (h0 : 0 ≤ at_ ∧ at_ ≤ ln ∧ 0 ≤ sz ∧ sz ≤ 122 ∧ -2147483648 ≤ nm ∧ nm ≤ 2147483647 ∧ (sk = 0 ∨ sk = 1)) {s : Int} (rs : 0 ≤ s ∧ s ≤ 2147483647)  : qm_T X (d + 2) 32 [.ref a, .int (qz s)] (qc w a ln at_ sz nm sk t cd) (fun r w' => r = none ∧ ∃ (at2 sz2 nm2 sk2 : Int) (cd2 : Nat → Int), w' = qc w a ln at2 sz2 nm2 sk2 t cd2 ∧ (0 ≤ at2 ∧ at2 ≤ ln ∧ 0 ≤ sz2 ∧ sz2 ≤ 122 ∧ -2147483648 ≤ nm2 ∧ nm2 ≤ 2147483647 ∧ (sk2 = 0 ∨ sk2 = 1) ∧ (sk = 1 → sk2 = 1))) := by
  refine qr_start (d := d + 1) qv_e32 (Nat.le_of_ble_eq_true rfl) ?_
  show qr_W X (d + 1) qx_e32 _ (0, [(0, .ref a), (1, .int (qz s))], [], qc w a ln at_ sz nm sk t cd, 0, 0)
  refine qr_aload_n 1 rfl rfl rfl ?_
  refine qr_cget7 hi 4 rfl rfl ?_
  refine qr_if_ne 15 7 rfl rfl rfl (by omega) (fun h1 => ?_) (fun h1 => ?_)
  · skip
    refine qr_aload_n 16 rfl rfl rfl ?_
    refine qr_iconst 17 rfl rfl ?_
    refine qr_cput7 hi (by omega) 20 rfl rfl ?_
    refine qr_goto 33 rfl rfl ?_
    refine qr_retV rfl rfl (Nat.zero_le _) (Nat.zero_le _) ?_
    exact ⟨rfl, _, _, _, _, _, rfl, by omega⟩
  · skip
    refine qr_aload_n 8 rfl rfl rfl ?_
    refine qr_ccall (as := []) (rest := []) hi 11 rfl rfl (Nat.le_of_ble_eq_true rfl) rfl rfl (sp_next hi ht hl (by omega)) ?_
    rintro _ _ ⟨rfl, b2, rfl, hb3⟩
    simp only [Option.toList, List.cons_append, List.nil_append]
    refine qr_iload_n 12 rfl rfl rfl ?_
    refine qr_icmp_eq 23 15 rfl rfl rfl (by omega) (by omega) (fun h4 => ?_) (fun h4 => ?_)
    · skip
      refine qr_aload_n 24 rfl rfl rfl ?_
      refine qr_dup 25 rfl rfl rfl ?_
      refine qr_cget4 hi 28 rfl rfl ?_
      refine qr_iconst 29 rfl rfl ?_
      refine qr_iadd 30 rfl rfl ?_
      refine qr_topI (fun v5 hv5 => ?_)
      refine qr_cput4 hi 33 rfl rfl ?_
      refine qr_retV rfl rfl (Nat.zero_le _) (Nat.zero_le _) ?_
      exact ⟨rfl, _, _, _, _, _, rfl, by omega⟩
    · skip
      refine qr_aload_n 16 rfl rfl rfl ?_
      refine qr_iconst 17 rfl rfl ?_
      refine qr_cput7 hi (by omega) 20 rfl rfl ?_
      refine qr_goto 33 rfl rfl ?_
      refine qr_retV rfl rfl (Nat.zero_le _) (Nat.zero_le _) ?_
      exact ⟨rfl, _, _, _, _, _, rfl, by omega⟩
end
section
section QS9
variable {X : qm_X} {d : Nat} {x : qs_Ent} {Q : Option Value → qm_W → Prop} {pc : Nat} {ls : qm_L} {st : List Value} {w : qm_W} {c n r1 r2 r3 : Nat} {rv : Value}
theorem qr_retN {v : Int} {ty : FieldType} (hq : qm_fetch x.2.2.2.2.2.2.2 pc = some (pc, .ireturn, 1, r1, r2, r3, rv)) (hty : (qm_M1 x).2.1 = some ty) (hv : narrow ty (.int (qz v)) = .int (qz v)) (hc : c ≤ (qm_M1 x).2.2.2.2.1) (hn : n ≤ (qm_M1 x).2.2.2.2.2) (k : Q (some (.int (qz v))) w) : qr_W X d x Q (pc, ls, [.int (qz v)], w, c, n) := by
  refine qr_ret hq rfl ?_ hc hn k
  simp only [qm_retn, hty]
  exact if_pos ⟨by first | rfl | trivial, hv⟩
theorem qz_nc (y : Int) : narrow .char (.int (qz (qz_i2c y))) = .int (qz (qz_i2c y)) := by
  rw [show qz (qz_i2c y) = ((qz y).toUInt32 % 65536).toInt32 from (qz_of _).symm]
  exact pk_nc _
end QS9

set_option maxHeartbeats 2000000 in
set_option maxRecDepth 20000 in
/-- sp_coder3 -/
theorem sp_coder3 {L : Nat} {xs : Nat → Int} {vb : Bool} {d : Nat} {w : qm_W}  : qm_T (qe L xs vb) (d + 1) 11 [.ref 3] (w) (fun r w' => w' = w ∧ r = some (.int (qz 0))) := by
  refine qr_start (d := d + 0) qv_e11 (Nat.le_of_ble_eq_true rfl) ?_
  show qr_W (qe L xs vb) (d + 0) qx_e11 _ (0, [(0, .ref 3)], [], w, 0, 0)
  refine qr_getst 3 rfl rfl ?_
  refine qr_if_eq (a := 1) 13 6 rfl rfl rfl (by decide) (fun h => absurd h (by decide)) (fun _ => ?_)
  refine qr_aload_n 7 rfl rfl rfl ?_
  refine qr_get 10 rfl rfl rfl (by decide) rfl ?_
  refine qr_goto 14 rfl rfl ?_
  refine qr_retN (v := 0) rfl rfl (by decide +kernel) (Nat.zero_le _) (Nat.zero_le _) ?_
  exact ⟨rfl, rfl⟩

set_option maxHeartbeats 2000000 in
set_option maxRecDepth 20000 in
/-- sp_len3 -/
theorem sp_len3 {L : Nat} {xs : Nat → Int} {vb : Bool} {d : Nat} {w : qm_W}  : qm_T (qe L xs vb) (d + 2) 10 [.ref 3] (w) (fun r w' => w' = w ∧ r = some (.int (qz 4))) := by
  refine qr_start (d := d + 1) qv_e10 (Nat.le_of_ble_eq_true rfl) ?_
  show qr_W (qe L xs vb) (d + 1) qx_e10 _ (0, [(0, .ref 3)], [], w, 0, 0)
  refine qr_aload_n 1 rfl rfl rfl ?_
  refine qr_get 4 rfl rfl rfl (by decide) rfl ?_
  refine qr_alen 5 rfl rfl (Or.inl (by decide)) rfl ?_
  refine qr_aload_n 6 rfl rfl rfl ?_
  refine qr_callN 9 rfl rfl rfl (sp_coder3) ?_
  rintro _ _ ⟨rfl, rfl⟩
  simp only [Option.toList, List.drop, List.cons_append, List.nil_append]
  refine qr_ishr 10 rfl rfl ?_
  rw [show qz_shr ((4 : Nat) : Int) 0 = 4 from by decide +kernel]
  refine qr_retI rfl rfl (Nat.zero_le _) (Nat.zero_le _) ?_
  exact ⟨rfl, rfl⟩

set_option maxHeartbeats 2000000 in
set_option maxRecDepth 20000 in
/-- sp_lat3 -/
theorem sp_lat3 {L : Nat} {xs : Nat → Int} {vb : Bool} {d : Nat} {w : qm_W}  : qm_T (qe L xs vb) (d + 1) 14 [.ref 3] (w) (fun r w' => w' = w ∧ r = some (.int (qz 1))) := by
  refine qr_start (d := d + 0) qv_e14 (Nat.le_of_ble_eq_true rfl) ?_
  show qr_W (qe L xs vb) (d + 0) qx_e14 _ (0, [(0, .ref 3)], [], w, 0, 0)
  refine qr_getst 3 rfl rfl ?_
  refine qr_if_eq (a := 1) 17 6 rfl rfl rfl (by decide) (fun h => absurd h (by decide)) (fun _ => ?_)
  refine qr_aload_n 7 rfl rfl rfl ?_
  refine qr_get 10 rfl rfl rfl (by decide) rfl ?_
  refine qr_if_ne (a := 0) 17 13 rfl rfl rfl (by decide) (fun h => absurd rfl h) (fun _ => ?_)
  refine qr_iconst 14 rfl rfl ?_
  refine qr_goto 18 rfl rfl ?_
  refine qr_retZ (v := 1) rfl rfl (Or.inr rfl) (Nat.zero_le _) (Nat.zero_le _) ?_
  exact ⟨rfl, rfl⟩

set_option maxHeartbeats 2000000 in
set_option maxRecDepth 20000 in
/-- sp_coder4 -/
theorem sp_coder4 {L : Nat} {xs : Nat → Int} {vb : Bool} {d : Nat} {w : qm_W}  : qm_T (qe L xs vb) (d + 1) 11 [.ref 4] (w) (fun r w' => w' = w ∧ r = some (.int (qz 0))) := by
  refine qr_start (d := d + 0) qv_e11 (Nat.le_of_ble_eq_true rfl) ?_
  show qr_W (qe L xs vb) (d + 0) qx_e11 _ (0, [(0, .ref 4)], [], w, 0, 0)
  refine qr_getst 3 rfl rfl ?_
  refine qr_if_eq (a := 1) 13 6 rfl rfl rfl (by decide) (fun h => absurd h (by decide)) (fun _ => ?_)
  refine qr_aload_n 7 rfl rfl rfl ?_
  refine qr_get 10 rfl rfl rfl (by decide) rfl ?_
  refine qr_goto 14 rfl rfl ?_
  refine qr_retN (v := 0) rfl rfl (by decide +kernel) (Nat.zero_le _) (Nat.zero_le _) ?_
  exact ⟨rfl, rfl⟩

set_option maxHeartbeats 2000000 in
set_option maxRecDepth 20000 in
/-- sp_len4 -/
theorem sp_len4 {L : Nat} {xs : Nat → Int} {vb : Bool} {d : Nat} {w : qm_W}  : qm_T (qe L xs vb) (d + 2) 10 [.ref 4] (w) (fun r w' => w' = w ∧ r = some (.int (qz 9))) := by
  refine qr_start (d := d + 1) qv_e10 (Nat.le_of_ble_eq_true rfl) ?_
  show qr_W (qe L xs vb) (d + 1) qx_e10 _ (0, [(0, .ref 4)], [], w, 0, 0)
  refine qr_aload_n 1 rfl rfl rfl ?_
  refine qr_get 4 rfl rfl rfl (by decide) rfl ?_
  refine qr_alen 5 rfl rfl (Or.inl (by decide)) rfl ?_
  refine qr_aload_n 6 rfl rfl rfl ?_
  refine qr_callN 9 rfl rfl rfl (sp_coder4) ?_
  rintro _ _ ⟨rfl, rfl⟩
  simp only [Option.toList, List.drop, List.cons_append, List.nil_append]
  refine qr_ishr 10 rfl rfl ?_
  rw [show qz_shr ((9 : Nat) : Int) 0 = 9 from by decide +kernel]
  refine qr_retI rfl rfl (Nat.zero_le _) (Nat.zero_le _) ?_
  exact ⟨rfl, rfl⟩

set_option maxHeartbeats 2000000 in
set_option maxRecDepth 20000 in
/-- sp_lat4 -/
theorem sp_lat4 {L : Nat} {xs : Nat → Int} {vb : Bool} {d : Nat} {w : qm_W}  : qm_T (qe L xs vb) (d + 1) 14 [.ref 4] (w) (fun r w' => w' = w ∧ r = some (.int (qz 1))) := by
  refine qr_start (d := d + 0) qv_e14 (Nat.le_of_ble_eq_true rfl) ?_
  show qr_W (qe L xs vb) (d + 0) qx_e14 _ (0, [(0, .ref 4)], [], w, 0, 0)
  refine qr_getst 3 rfl rfl ?_
  refine qr_if_eq (a := 1) 17 6 rfl rfl rfl (by decide) (fun h => absurd h (by decide)) (fun _ => ?_)
  refine qr_aload_n 7 rfl rfl rfl ?_
  refine qr_get 10 rfl rfl rfl (by decide) rfl ?_
  refine qr_if_ne (a := 0) 17 13 rfl rfl rfl (by decide) (fun h => absurd rfl h) (fun _ => ?_)
  refine qr_iconst 14 rfl rfl ?_
  refine qr_goto 18 rfl rfl ?_
  refine qr_retZ (v := 1) rfl rfl (Or.inr rfl) (Nat.zero_le _) (Nat.zero_le _) ?_
  exact ⟨rfl, rfl⟩

set_option maxHeartbeats 2000000 in
set_option maxRecDepth 20000 in
/-- sp_coder5 -/
theorem sp_coder5 {L : Nat} {xs : Nat → Int} {vb : Bool} {d : Nat} {w : qm_W}  : qm_T (qe L xs vb) (d + 1) 11 [.ref 5] (w) (fun r w' => w' = w ∧ r = some (.int (qz 0))) := by
  refine qr_start (d := d + 0) qv_e11 (Nat.le_of_ble_eq_true rfl) ?_
  show qr_W (qe L xs vb) (d + 0) qx_e11 _ (0, [(0, .ref 5)], [], w, 0, 0)
  refine qr_getst 3 rfl rfl ?_
  refine qr_if_eq (a := 1) 13 6 rfl rfl rfl (by decide) (fun h => absurd h (by decide)) (fun _ => ?_)
  refine qr_aload_n 7 rfl rfl rfl ?_
  refine qr_get 10 rfl rfl rfl (by decide) rfl ?_
  refine qr_goto 14 rfl rfl ?_
  refine qr_retN (v := 0) rfl rfl (by decide +kernel) (Nat.zero_le _) (Nat.zero_le _) ?_
  exact ⟨rfl, rfl⟩

set_option maxHeartbeats 2000000 in
set_option maxRecDepth 20000 in
/-- sp_len5 -/
theorem sp_len5 {L : Nat} {xs : Nat → Int} {vb : Bool} {d : Nat} {w : qm_W}  : qm_T (qe L xs vb) (d + 2) 10 [.ref 5] (w) (fun r w' => w' = w ∧ r = some (.int (qz 5))) := by
  refine qr_start (d := d + 1) qv_e10 (Nat.le_of_ble_eq_true rfl) ?_
  show qr_W (qe L xs vb) (d + 1) qx_e10 _ (0, [(0, .ref 5)], [], w, 0, 0)
  refine qr_aload_n 1 rfl rfl rfl ?_
  refine qr_get 4 rfl rfl rfl (by decide) rfl ?_
  refine qr_alen 5 rfl rfl (Or.inl (by decide)) rfl ?_
  refine qr_aload_n 6 rfl rfl rfl ?_
  refine qr_callN 9 rfl rfl rfl (sp_coder5) ?_
  rintro _ _ ⟨rfl, rfl⟩
  simp only [Option.toList, List.drop, List.cons_append, List.nil_append]
  refine qr_ishr 10 rfl rfl ?_
  rw [show qz_shr ((5 : Nat) : Int) 0 = 5 from by decide +kernel]
  refine qr_retI rfl rfl (Nat.zero_le _) (Nat.zero_le _) ?_
  exact ⟨rfl, rfl⟩

set_option maxHeartbeats 2000000 in
set_option maxRecDepth 20000 in
/-- sp_lat5 -/
theorem sp_lat5 {L : Nat} {xs : Nat → Int} {vb : Bool} {d : Nat} {w : qm_W}  : qm_T (qe L xs vb) (d + 1) 14 [.ref 5] (w) (fun r w' => w' = w ∧ r = some (.int (qz 1))) := by
  refine qr_start (d := d + 0) qv_e14 (Nat.le_of_ble_eq_true rfl) ?_
  show qr_W (qe L xs vb) (d + 0) qx_e14 _ (0, [(0, .ref 5)], [], w, 0, 0)
  refine qr_getst 3 rfl rfl ?_
  refine qr_if_eq (a := 1) 17 6 rfl rfl rfl (by decide) (fun h => absurd h (by decide)) (fun _ => ?_)
  refine qr_aload_n 7 rfl rfl rfl ?_
  refine qr_get 10 rfl rfl rfl (by decide) rfl ?_
  refine qr_if_ne (a := 0) 17 13 rfl rfl rfl (by decide) (fun h => absurd rfl h) (fun _ => ?_)
  refine qr_iconst 14 rfl rfl ?_
  refine qr_goto 18 rfl rfl ?_
  refine qr_retZ (v := 1) rfl rfl (Or.inr rfl) (Nat.zero_le _) (Nat.zero_le _) ?_
  exact ⟨rfl, rfl⟩

set_option maxHeartbeats 2000000 in
set_option maxRecDepth 20000 in
/-- sp_coder6 -/
theorem sp_coder6 {L : Nat} {xs : Nat → Int} {vb : Bool} {d : Nat} {w : qm_W}  : qm_T (qe L xs vb) (d + 1) 11 [.ref 6] (w) (fun r w' => w' = w ∧ r = some (.int (qz 0))) := by
  refine qr_start (d := d + 0) qv_e11 (Nat.le_of_ble_eq_true rfl) ?_
  show qr_W (qe L xs vb) (d + 0) qx_e11 _ (0, [(0, .ref 6)], [], w, 0, 0)
  refine qr_getst 3 rfl rfl ?_
  refine qr_if_eq (a := 1) 13 6 rfl rfl rfl (by decide) (fun h => absurd h (by decide)) (fun _ => ?_)
  refine qr_aload_n 7 rfl rfl rfl ?_
  refine qr_get 10 rfl rfl rfl (by decide) rfl ?_
  refine qr_goto 14 rfl rfl ?_
  refine qr_retN (v := 0) rfl rfl (by decide +kernel) (Nat.zero_le _) (Nat.zero_le _) ?_
  exact ⟨rfl, rfl⟩

set_option maxHeartbeats 2000000 in
set_option maxRecDepth 20000 in
/-- sp_len6 -/
theorem sp_len6 {L : Nat} {xs : Nat → Int} {vb : Bool} {d : Nat} {w : qm_W}  : qm_T (qe L xs vb) (d + 2) 10 [.ref 6] (w) (fun r w' => w' = w ∧ r = some (.int (qz 1))) := by
  refine qr_start (d := d + 1) qv_e10 (Nat.le_of_ble_eq_true rfl) ?_
  show qr_W (qe L xs vb) (d + 1) qx_e10 _ (0, [(0, .ref 6)], [], w, 0, 0)
  refine qr_aload_n 1 rfl rfl rfl ?_
  refine qr_get 4 rfl rfl rfl (by decide) rfl ?_
  refine qr_alen 5 rfl rfl (Or.inl (by decide)) rfl ?_
  refine qr_aload_n 6 rfl rfl rfl ?_
  refine qr_callN 9 rfl rfl rfl (sp_coder6) ?_
  rintro _ _ ⟨rfl, rfl⟩
  simp only [Option.toList, List.drop, List.cons_append, List.nil_append]
  refine qr_ishr 10 rfl rfl ?_
  rw [show qz_shr ((1 : Nat) : Int) 0 = 1 from by decide +kernel]
  refine qr_retI rfl rfl (Nat.zero_le _) (Nat.zero_le _) ?_
  exact ⟨rfl, rfl⟩

set_option maxHeartbeats 2000000 in
set_option maxRecDepth 20000 in
/-- sp_lat6 -/
theorem sp_lat6 {L : Nat} {xs : Nat → Int} {vb : Bool} {d : Nat} {w : qm_W}  : qm_T (qe L xs vb) (d + 1) 14 [.ref 6] (w) (fun r w' => w' = w ∧ r = some (.int (qz 1))) := by
  refine qr_start (d := d + 0) qv_e14 (Nat.le_of_ble_eq_true rfl) ?_
  show qr_W (qe L xs vb) (d + 0) qx_e14 _ (0, [(0, .ref 6)], [], w, 0, 0)
  refine qr_getst 3 rfl rfl ?_
  refine qr_if_eq (a := 1) 17 6 rfl rfl rfl (by decide) (fun h => absurd h (by decide)) (fun _ => ?_)
  refine qr_aload_n 7 rfl rfl rfl ?_
  refine qr_get 10 rfl rfl rfl (by decide) rfl ?_
  refine qr_if_ne (a := 0) 17 13 rfl rfl rfl (by decide) (fun h => absurd rfl h) (fun _ => ?_)
  refine qr_iconst 14 rfl rfl ?_
  refine qr_goto 18 rfl rfl ?_
  refine qr_retZ (v := 1) rfl rfl (Or.inr rfl) (Nat.zero_le _) (Nat.zero_le _) ?_
  exact ⟨rfl, rfl⟩

set_option maxHeartbeats 2000000 in
set_option maxRecDepth 20000 in
/-- sp_pci -/
theorem sp_pci {L : Nat} {xs : Nat → Int} {vb : Bool} {d : Nat} {w : qm_W} {i n : Int} (h : 0 ≤ i ∧ i < n ∧ n ≤ 2147483647)  : qm_T (qe L xs vb) (d + 1) 17 [.int (qz i), .int (qz n), qe_v vb] (w) (fun r w' => w' = w ∧ r = some (.int (qz i))) := by
  refine qr_start (d := d + 0) qv_e17 (by cases vb <;> exact Nat.le_of_ble_eq_true rfl) ?_
  show qr_W (qe L xs vb) (d + 0) qx_e17 _ (0, [(0, .int (qz i)), (1, .int (qz n)), (2, qe_v vb)], [], w, 0, 0)
  refine qr_iload_n 1 rfl rfl rfl ?_
  refine qr_if_lt 9 4 rfl rfl rfl (by omega) (fun h1 => absurd h1 (by omega)) (fun _ => ?_)
  refine qr_iload_n 5 rfl rfl rfl ?_
  refine qr_iload_n 6 rfl rfl rfl ?_
  refine qr_icmp_lt 16 9 rfl rfl rfl (by omega) (by omega) (fun _ => ?_) (fun h1 => absurd h1 (by omega))
  refine qr_iload_n 17 rfl rfl rfl ?_
  refine qr_retI rfl rfl (Nat.zero_le _) (Nat.zero_le _) ?_
  exact ⟨rfl, rfl⟩

set_option maxHeartbeats 2000000 in
set_option maxRecDepth 20000 in
/-- sp_sci -/
theorem sp_sci {L : Nat} {xs : Nat → Int} {vb : Bool} {d : Nat} {w : qm_W} {i n : Int} (h : 0 ≤ i ∧ i < n ∧ n ≤ 2147483647)  : qm_T (qe L xs vb) (d + 2) 16 [.int (qz i), .int (qz n)] (w) (fun r w' => w' = w ∧ r = none) := by
  refine qr_start (d := d + 1) qv_e16 (Nat.le_of_ble_eq_true rfl) ?_
  show qr_W (qe L xs vb) (d + 1) qx_e16 _ (0, [(0, .int (qz i)), (1, .int (qz n))], [], w, 0, 0)
  refine qr_iload_n 1 rfl rfl rfl ?_
  refine qr_iload_n 2 rfl rfl rfl ?_
  refine qr_getst1 5 rfl rfl ?_
  refine qr_callN (k := 17) (as := [.int (qz i), .int (qz n), qe_v vb]) (rest := []) 8 rfl rfl rfl (sp_pci h) ?_
  rintro _ _ ⟨rfl, rfl⟩
  simp only [Option.toList, List.cons_append, List.nil_append]
  refine qr_pop 9 rfl rfl rfl ?_
  refine qr_retV rfl rfl (Nat.zero_le _) (Nat.zero_le _) ?_
  exact ⟨rfl, rfl⟩

set_option maxHeartbeats 2000000 in
set_option maxRecDepth 20000 in
/-- sp_lca3 -/
theorem sp_lca3 {L : Nat} {xs : Nat → Int} {vb : Bool} {d : Nat} {w : qm_W} {i : Int} (h : 0 ≤ i ∧ i < 4)  : qm_T (qe L xs vb) (d + 3) 15 [.ref 7, .int (qz i)] (w) (fun r w' => w' = w ∧ ∃ y : Int, r = some (.int (qz (qz_i2c y)))) := by
  refine qr_start (d := d + 2) qv_e15 (Nat.le_of_ble_eq_true rfl) ?_
  show qr_W (qe L xs vb) (d + 2) qx_e15 _ (0, [(0, .ref 7), (1, .int (qz i))], [], w, 0, 0)
  refine qr_iload_n 1 rfl rfl rfl ?_
  refine qr_aload_n 2 rfl rfl rfl ?_
  refine qr_alen 3 rfl rfl (Or.inl (by decide)) rfl ?_
  refine qr_callN 6 rfl rfl rfl (sp_sci (n := ((4 : Nat) : Int)) (by omega)) ?_
  rintro _ _ ⟨rfl, rfl⟩
  simp only [Option.toList, List.drop, List.cons_append, List.nil_append]
  refine qr_aload_n 7 rfl rfl rfl ?_
  refine qr_iload_n 8 rfl rfl rfl ?_
  refine qr_bbload 9 rfl (by decide) rfl (by omega) (by decide) rfl ?_
  refine qr_sipush 12 rfl (by decide) rfl ?_
  refine qr_iand 13 rfl rfl ?_
  refine qr_i2c 14 rfl rfl ?_
  refine qr_retN rfl rfl (qz_nc _) (Nat.zero_le _) (Nat.zero_le _) ?_
  exact ⟨rfl, _, rfl⟩

set_option maxHeartbeats 2000000 in
set_option maxRecDepth 20000 in
/-- sp_cha3 -/
theorem sp_cha3 {L : Nat} {xs : Nat → Int} {vb : Bool} {d : Nat} {w : qm_W} {i : Int} (h : 0 ≤ i ∧ i < 4)  : qm_T (qe L xs vb) (d + 4) 13 [.ref 3, .int (qz i)] (w) (fun r w' => w' = w ∧ ∃ y : Int, r = some (.int (qz (qz_i2c y)))) := by
  refine qr_start (d := d + 3) qv_e13 (Nat.le_of_ble_eq_true rfl) ?_
  show qr_W (qe L xs vb) (d + 3) qx_e13 _ (0, [(0, .ref 3), (1, .int (qz i))], [], w, 0, 0)
  refine qr_aload_n 1 rfl rfl rfl ?_
  refine qr_callN 4 rfl rfl rfl (sp_lat3) ?_
  rintro _ _ ⟨rfl, rfl⟩
  simp only [Option.toList, List.drop, List.cons_append, List.nil_append]
  refine qr_if_eq (a := 1) 16 7 rfl rfl rfl (by decide) (fun h => absurd h (by decide)) (fun _ => ?_)
  refine qr_aload_n 8 rfl rfl rfl ?_
  refine qr_get 11 rfl rfl rfl (by decide) rfl ?_
  refine qr_iload_n 12 rfl rfl rfl ?_
  refine qr_callN 15 rfl rfl rfl (sp_lca3 h) ?_
  rintro _ _ ⟨rfl, y, rfl⟩
  simp only [Option.toList, List.drop, List.cons_append, List.nil_append]
  refine qr_retN rfl rfl (qz_nc _) (Nat.zero_le _) (Nat.zero_le _) ?_
  exact ⟨rfl, _, rfl⟩

set_option maxHeartbeats 2000000 in
set_option maxRecDepth 20000 in
/-- sp_lca5 -/
theorem sp_lca5 {L : Nat} {xs : Nat → Int} {vb : Bool} {d : Nat} {w : qm_W} {i : Int} (h : 0 ≤ i ∧ i < 5)  : qm_T (qe L xs vb) (d + 3) 15 [.ref 9, .int (qz i)] (w) (fun r w' => w' = w ∧ ∃ y : Int, r = some (.int (qz (qz_i2c y)))) := by
  refine qr_start (d := d + 2) qv_e15 (Nat.le_of_ble_eq_true rfl) ?_
  show qr_W (qe L xs vb) (d + 2) qx_e15 _ (0, [(0, .ref 9), (1, .int (qz i))], [], w, 0, 0)
  refine qr_iload_n 1 rfl rfl rfl ?_
  refine qr_aload_n 2 rfl rfl rfl ?_
  refine qr_alen 3 rfl rfl (Or.inl (by decide)) rfl ?_
  refine qr_callN 6 rfl rfl rfl (sp_sci (n := ((5 : Nat) : Int)) (by omega)) ?_
  rintro _ _ ⟨rfl, rfl⟩
  simp only [Option.toList, List.drop, List.cons_append, List.nil_append]
  refine qr_aload_n 7 rfl rfl rfl ?_
  refine qr_iload_n 8 rfl rfl rfl ?_
  refine qr_bbload 9 rfl (by decide) rfl (by omega) (by decide) rfl ?_
  refine qr_sipush 12 rfl (by decide) rfl ?_
  refine qr_iand 13 rfl rfl ?_
  refine qr_i2c 14 rfl rfl ?_
  refine qr_retN rfl rfl (qz_nc _) (Nat.zero_le _) (Nat.zero_le _) ?_
  exact ⟨rfl, _, rfl⟩

set_option maxHeartbeats 2000000 in
set_option maxRecDepth 20000 in
/-- sp_cha5 -/
theorem sp_cha5 {L : Nat} {xs : Nat → Int} {vb : Bool} {d : Nat} {w : qm_W} {i : Int} (h : 0 ≤ i ∧ i < 5)  : qm_T (qe L xs vb) (d + 4) 13 [.ref 5, .int (qz i)] (w) (fun r w' => w' = w ∧ ∃ y : Int, r = some (.int (qz (qz_i2c y)))) := by
  refine qr_start (d := d + 3) qv_e13 (Nat.le_of_ble_eq_true rfl) ?_
  show qr_W (qe L xs vb) (d + 3) qx_e13 _ (0, [(0, .ref 5), (1, .int (qz i))], [], w, 0, 0)
  refine qr_aload_n 1 rfl rfl rfl ?_
  refine qr_callN 4 rfl rfl rfl (sp_lat5) ?_
  rintro _ _ ⟨rfl, rfl⟩
  simp only [Option.toList, List.drop, List.cons_append, List.nil_append]
  refine qr_if_eq (a := 1) 16 7 rfl rfl rfl (by decide) (fun h => absurd h (by decide)) (fun _ => ?_)
  refine qr_aload_n 8 rfl rfl rfl ?_
  refine qr_get 11 rfl rfl rfl (by decide) rfl ?_
  refine qr_iload_n 12 rfl rfl rfl ?_
  refine qr_callN 15 rfl rfl rfl (sp_lca5 h) ?_
  rintro _ _ ⟨rfl, y, rfl⟩
  simp only [Option.toList, List.drop, List.cons_append, List.nil_append]
  refine qr_retN rfl rfl (qz_nc _) (Nat.zero_le _) (Nat.zero_le _) ?_
  exact ⟨rfl, _, rfl⟩

set_option maxHeartbeats 2000000 in
set_option maxRecDepth 20000 in
/-- sp_lca6 -/
theorem sp_lca6 {L : Nat} {xs : Nat → Int} {vb : Bool} {d : Nat} {w : qm_W} {i : Int} (h : 0 ≤ i ∧ i < 1)  : qm_T (qe L xs vb) (d + 3) 15 [.ref 10, .int (qz i)] (w) (fun r w' => w' = w ∧ ∃ y : Int, r = some (.int (qz (qz_i2c y)))) := by
  refine qr_start (d := d + 2) qv_e15 (Nat.le_of_ble_eq_true rfl) ?_
  show qr_W (qe L xs vb) (d + 2) qx_e15 _ (0, [(0, .ref 10), (1, .int (qz i))], [], w, 0, 0)
  refine qr_iload_n 1 rfl rfl rfl ?_
  refine qr_aload_n 2 rfl rfl rfl ?_
  refine qr_alen 3 rfl rfl (Or.inl (by decide)) rfl ?_
  refine qr_callN 6 rfl rfl rfl (sp_sci (n := ((1 : Nat) : Int)) (by omega)) ?_
  rintro _ _ ⟨rfl, rfl⟩
  simp only [Option.toList, List.drop, List.cons_append, List.nil_append]
  refine qr_aload_n 7 rfl rfl rfl ?_
  refine qr_iload_n 8 rfl rfl rfl ?_
  refine qr_bbload 9 rfl (by decide) rfl (by omega) (by decide) rfl ?_
  refine qr_sipush 12 rfl (by decide) rfl ?_
  refine qr_iand 13 rfl rfl ?_
  refine qr_i2c 14 rfl rfl ?_
  refine qr_retN rfl rfl (qz_nc _) (Nat.zero_le _) (Nat.zero_le _) ?_
  exact ⟨rfl, _, rfl⟩

set_option maxHeartbeats 2000000 in
set_option maxRecDepth 20000 in
/-- sp_cha6 -/
theorem sp_cha6 {L : Nat} {xs : Nat → Int} {vb : Bool} {d : Nat} {w : qm_W} {i : Int} (h : 0 ≤ i ∧ i < 1)  : qm_T (qe L xs vb) (d + 4) 13 [.ref 6, .int (qz i)] (w) (fun r w' => w' = w ∧ ∃ y : Int, r = some (.int (qz (qz_i2c y)))) := by
  refine qr_start (d := d + 3) qv_e13 (Nat.le_of_ble_eq_true rfl) ?_
  show qr_W (qe L xs vb) (d + 3) qx_e13 _ (0, [(0, .ref 6), (1, .int (qz i))], [], w, 0, 0)
  refine qr_aload_n 1 rfl rfl rfl ?_
  refine qr_callN 4 rfl rfl rfl (sp_lat6) ?_
  rintro _ _ ⟨rfl, rfl⟩
  simp only [Option.toList, List.drop, List.cons_append, List.nil_append]
  refine qr_if_eq (a := 1) 16 7 rfl rfl rfl (by decide) (fun h => absurd h (by decide)) (fun _ => ?_)
  refine qr_aload_n 8 rfl rfl rfl ?_
  refine qr_get 11 rfl rfl rfl (by decide) rfl ?_
  refine qr_iload_n 12 rfl rfl rfl ?_
  refine qr_callN 15 rfl rfl rfl (sp_lca6 h) ?_
  rintro _ _ ⟨rfl, y, rfl⟩
  simp only [Option.toList, List.drop, List.cons_append, List.nil_append]
  refine qr_retN rfl rfl (qz_nc _) (Nat.zero_le _) (Nat.zero_le _) ?_
  exact ⟨rfl, _, rfl⟩

set_option maxHeartbeats 2000000 in
set_option maxRecDepth 20000 in
/-- sp_mmin -/
theorem sp_mmin {X : qm_X} {d : Nat} {w : qm_W} {a b : Int} (ra : -2147483648 ≤ a ∧ a ≤ 2147483647) (rb : -2147483648 ≤ b ∧ b ≤ 2147483647)  : qm_T X (d + 1) 12 [.int (qz a), .int (qz b)] (w) (fun r w' => w' = w ∧ ∃ v : Int, r = some (.int (qz v)) ∧ ((v = a ∧ a ≤ b) ∨ (v = b ∧ b ≤ a))) := by
  refine qr_start (d := d + 0) qv_e12 (Nat.le_of_ble_eq_true rfl) ?_
  show qr_W X (d + 0) qx_e12 _ (0, [(0, .int (qz a)), (1, .int (qz b))], [], w, 0, 0)
  refine qr_iload_n 1 rfl rfl rfl ?_
  refine qr_iload_n 2 rfl rfl rfl ?_
  refine qr_icmp_gt 9 5 rfl rfl rfl (by omega) (by omega) (fun h1 => ?_) (fun h1 => ?_)
  · skip
    refine qr_iload_n 10 rfl rfl rfl ?_
    refine qr_retI rfl rfl (by decide) (by decide) ?_
    exact ⟨rfl, _, rfl, by omega⟩
  · skip
    refine qr_iload_n 6 rfl rfl rfl ?_
    refine qr_goto 10 rfl rfl ?_
    refine qr_retI rfl rfl (by decide) (by decide) ?_
    exact ⟨rfl, _, rfl, by omega⟩

set_option maxHeartbeats 2000000 in
set_option maxRecDepth 20000 in
/-- sp_mmax -/
theorem sp_mmax {X : qm_X} {d : Nat} {w : qm_W} {a b : Int} (ra : -2147483648 ≤ a ∧ a ≤ 2147483647) (rb : -2147483648 ≤ b ∧ b ≤ 2147483647)  : qm_T X (d + 1) 30 [.int (qz a), .int (qz b)] (w) (fun r w' => w' = w ∧ ∃ v : Int, r = some (.int (qz v)) ∧ ((v = a ∧ b ≤ a) ∨ (v = b ∧ a ≤ b))) := by
  refine qr_start (d := d + 0) qv_e30 (Nat.le_of_ble_eq_true rfl) ?_
  show qr_W X (d + 0) qx_e30 _ (0, [(0, .int (qz a)), (1, .int (qz b))], [], w, 0, 0)
  refine qr_iload_n 1 rfl rfl rfl ?_
  refine qr_iload_n 2 rfl rfl rfl ?_
  refine qr_icmp_lt 9 5 rfl rfl rfl (by omega) (by omega) (fun h1 => ?_) (fun h1 => ?_)
  · skip
    refine qr_iload_n 10 rfl rfl rfl ?_
    refine qr_retI rfl rfl (by decide) (by decide) ?_
    exact ⟨rfl, _, rfl, by omega⟩
  · skip
    refine qr_iload_n 6 rfl rfl rfl ?_
    refine qr_goto 10 rfl rfl ?_
    refine qr_retI rfl rfl (by decide) (by decide) ?_
    exact ⟨rfl, _, rfl, by omega⟩

set_option maxHeartbeats 2000000 in
set_option maxRecDepth 20000 in
/-- sp_cen -/
theorem sp_cen {X : qm_X} {d : Nat} {w : qm_W} {a : Int} (ra : -2147483648 ≤ a ∧ a ≤ 2147483647)  : qm_T X (d + 1) 29 [.int (qz a)] (w) (fun r w' => w' = w ∧ ∃ v : Int, r = some (.int (qz v)) ∧ (v = 0 ∨ v = 1)) := by
  refine qr_start (d := d + 0) qv_e29 (Nat.le_of_ble_eq_true rfl) ?_
  show qr_W X (d + 0) qx_e29 _ (0, [(0, .int (qz a))], [], w, 0, 0)
  refine qr_iload_n 1 rfl rfl rfl ?_
  refine qr_if_lt 15 4 rfl rfl rfl (by omega) (fun h1 => ?_) (fun h1 => ?_)
  · skip
    refine qr_iconst 16 rfl rfl ?_
    refine qr_retZ rfl rfl (by omega) (by decide) (by decide) ?_
    exact ⟨rfl, _, rfl, by omega⟩
  · skip
    refine qr_iload_n 5 rfl rfl rfl ?_
    refine qr_sipush 8 rfl (by decide) rfl ?_
    refine qr_icmp_gt 15 11 rfl rfl rfl (by omega) (by omega) (fun h2 => ?_) (fun h2 => ?_)
    · skip
      refine qr_iconst 16 rfl rfl ?_
      refine qr_retZ rfl rfl (by omega) (by decide) (by decide) ?_
      exact ⟨rfl, _, rfl, by omega⟩
    · skip
      refine qr_iconst 12 rfl rfl ?_
      refine qr_goto 16 rfl rfl ?_
      refine qr_retZ rfl rfl (by omega) (by decide) (by decide) ?_
      exact ⟨rfl, _, rfl, by omega⟩

set_option maxHeartbeats 2000000 in
set_option maxRecDepth 20000 in
/-- sp_ixc -/
theorem sp_ixc {L : Nat} {xs : Nat → Int} {vb : Bool} {d : Nat} {w : qm_W} {c i0 : Int} (rc : -2147483648 ≤ c ∧ c ≤ 2147483647) (hi0 : 0 ≤ i0 ∧ i0 ≤ 9)  : qm_T (qe L xs vb) (d + 1) 31 [.ref 8, .int (qz c), .int (qz i0), .int (qz 9)] (w) (fun r w' => w' = w ∧ ∃ v : Int, r = some (.int (qz v)) ∧ -1 ≤ v ∧ v ≤ 8) := by
  refine qr_start (d := d + 0) qv_e31 (Nat.le_of_ble_eq_true rfl) ?_
  show qr_W (qe L xs vb) (d + 0) qx_e31 _ (0, [(0, .ref 8), (1, .int (qz c)), (2, .int (qz i0)), (3, .int (qz 9))], [], w, 0, 0)
  refine qr_iload_n 1 rfl rfl rfl ?_
  refine qr_i2b 2 rfl rfl ?_
  refine qr_topI (fun b hb => ?_)
  have rb : -2147483648 ≤ b ∧ b ≤ 2147483647 := by rw [hb]; exact qz_i2b_r _
  refine qr_istore [(4, .int (qz b)), (0, .ref 8), (1, .int (qz c)), (2, .int (qz i0)), (3, .int (qz 9))] 4 rfl (by decide) rfl rfl ?_
  refine qr_iload_n 5 rfl rfl rfl ?_
  refine qr_istore [(5, .int (qz i0)), (4, .int (qz b)), (0, .ref 8), (1, .int (qz c)), (2, .int (qz i0)), (3, .int (qz 9))] 7 rfl (by decide) rfl rfl ?_
  have loop : ∀ (n : Nat) (i : Int), 0 ≤ i ∧ i ≤ 9 → 9 - i < n → qr_W (qe L xs vb) (d + 0) qx_e31 (fun r w' => w' = w ∧ ∃ v : Int, r = some (.int (qz v)) ∧ -1 ≤ v ∧ v ≤ 8) (7, [(5, .int (qz i)), (4, .int (qz b)), (0, .ref 8), (1, .int (qz c)), (2, .int (qz i0)), (3, .int (qz 9))], [], w, 0, 0) := by
    intro n
    induction n with
    | zero => intro i h1 h2; omega
    | succ n ih =>
      intro i h1 h2
      refine qr_iload 9 rfl rfl rfl ?_
      refine qr_iload_n 10 rfl rfl rfl ?_
      refine qr_icmp_ge 31 13 rfl rfl rfl (by omega) (by omega) (fun h3 => ?_) (fun h3 => ?_)
      · refine qr_iconst 32 rfl rfl ?_
        refine qr_retI rfl rfl (Nat.zero_le _) (Nat.zero_le _) ?_
        exact ⟨rfl, _, rfl, by omega⟩
      · refine qr_aload_n 14 rfl rfl rfl ?_
        refine qr_iload 16 rfl rfl rfl ?_
        refine qr_bbload 17 rfl (by decide) rfl (by omega) (by decide) rfl ?_
        refine qr_topI (fun y hy => ?_)
        have ry : -2147483648 ≤ y ∧ y ≤ 2147483647 := by
          have h5 : ∀ k : Nat, k < 9 → -2147483648 ≤ (qe_bytes 4).getD k 0 ∧ (qe_bytes 4).getD k 0 ≤ 2147483647 := by decide +kernel
          rw [hy]
          exact h5 _ (by omega)
        refine qr_iload 19 rfl rfl rfl ?_
        refine qr_icmp_ne 25 22 rfl rfl rfl (by omega) (by omega) (fun h4 => ?_) (fun h4 => ?_)
        · refine qr_iincG (fun u => [(5, .int (qz u)), (4, .int (qz b)), (0, .ref 8), (1, .int (qz c)), (2, .int (qz i0)), (3, .int (qz 9))]) 28 rfl rfl (by decide) (fun _ => rfl) rfl (fun u hu => ?_)
          refine qr_goto 7 rfl rfl ?_
          exact ih u (by omega) (by omega)
        · refine qr_iload 24 rfl rfl rfl ?_
          refine qr_retI rfl rfl (Nat.zero_le _) (Nat.zero_le _) ?_
          exact ⟨rfl, _, rfl, by omega⟩
  exact loop 10 i0 hi0 (by omega)

set_option maxHeartbeats 2000000 in
set_option maxRecDepth 20000 in
/-- sp_lix -/
theorem sp_lix {L : Nat} {xs : Nat → Int} {vb : Bool} {d : Nat} {w : qm_W} {c : Int} (rc : -2147483648 ≤ c ∧ c ≤ 2147483647)  : qm_T (qe L xs vb) (d + 2) 28 [.ref 8, .int (qz c), .int (qz 0), .int (qz 9)] (w) (fun r w' => w' = w ∧ ∃ v : Int, r = some (.int (qz v)) ∧ -1 ≤ v ∧ v ≤ 8) := by
  refine qr_start (d := d + 1) qv_e28 (Nat.le_of_ble_eq_true rfl) ?_
  show qr_W (qe L xs vb) (d + 1) qx_e28 _ (0, [(0, .ref 8), (1, .int (qz c)), (2, .int (qz 0)), (3, .int (qz 9))], [], w, 0, 0)
  refine qr_iload_n 1 rfl rfl rfl ?_
  refine qr_callN 4 rfl rfl rfl (sp_cen rc) ?_
  rintro _ _ ⟨rfl, b, rfl, hb⟩
  simp only [Option.toList, List.drop, List.cons_append, List.nil_append]
  refine qr_if_ne 9 7 rfl rfl rfl (by omega) (fun h1 => ?_) (fun h1 => ?_)
  · refine qr_iload_n 10 rfl rfl rfl ?_
    refine qr_iconst 11 rfl rfl ?_
    refine qr_callN 14 rfl rfl rfl (sp_mmax (by decide) (by decide)) ?_
    rintro _ _ ⟨rfl, b2, rfl, hb2⟩
    simp only [Option.toList, List.drop, List.cons_append, List.nil_append]
    refine qr_istore_n [(2, .int (qz b2)), (0, .ref 8), (1, .int (qz c)), (3, .int (qz 9))] 15 rfl (by decide) rfl rfl ?_
    refine qr_iload_n 16 rfl rfl rfl ?_
    refine qr_aload_n 17 rfl rfl rfl ?_
    refine qr_alen 18 rfl rfl (Or.inl (by decide)) rfl ?_
    refine qr_callN 21 rfl rfl rfl (sp_mmin (by decide) (by omega)) ?_
    rintro _ _ ⟨rfl, b3, rfl, hb3⟩
    simp only [Option.toList, List.drop, List.cons_append, List.nil_append]
    have e3 : b3 = 9 := by omega
    subst e3
    refine qr_istore_n [(3, .int (qz 9)), (2, .int (qz b2)), (0, .ref 8), (1, .int (qz c))] 22 rfl (by decide) rfl rfl ?_
    refine qr_iload_n 23 rfl rfl rfl ?_
    refine qr_iload_n 24 rfl rfl rfl ?_
    refine qr_icmp_lt 29 27 rfl rfl rfl (by omega) (by omega) (fun h2 => ?_) (fun h2 => ?_)
    · refine qr_aload_n 30 rfl rfl rfl ?_
      refine qr_iload_n 31 rfl rfl rfl ?_
      refine qr_iload_n 32 rfl rfl rfl ?_
      refine qr_iload_n 33 rfl rfl rfl ?_
      refine qr_callN 36 rfl rfl rfl (sp_ixc rc (by omega)) ?_
      rintro _ _ ⟨rfl, v, rfl, hv⟩
      simp only [Option.toList, List.drop, List.cons_append, List.nil_append]
      refine qr_retI rfl rfl (Nat.zero_le _) (Nat.zero_le _) ?_
      exact ⟨rfl, _, rfl, by omega⟩
    · refine qr_iconst 28 rfl rfl ?_
      refine qr_retI rfl rfl (Nat.zero_le _) (Nat.zero_le _) ?_
      exact ⟨rfl, _, rfl, by omega⟩
  · refine qr_iconst 8 rfl rfl ?_
    refine qr_retI rfl rfl (Nat.zero_le _) (Nat.zero_le _) ?_
    exact ⟨rfl, _, rfl, by omega⟩

set_option maxHeartbeats 2000000 in
set_option maxRecDepth 20000 in
/-- sp_six -/
theorem sp_six {L : Nat} {xs : Nat → Int} {vb : Bool} {d : Nat} {w : qm_W} {c : Int} (rc : -2147483648 ≤ c ∧ c ≤ 2147483647)  : qm_T (qe L xs vb) (d + 3) 27 [.ref 4, .int (qz c), .int (qz 0)] (w) (fun r w' => w' = w ∧ ∃ v : Int, r = some (.int (qz v)) ∧ -1 ≤ v ∧ v ≤ 8) := by
  refine qr_start (d := d + 2) qv_e27 (Nat.le_of_ble_eq_true rfl) ?_
  show qr_W (qe L xs vb) (d + 2) qx_e27 _ (0, [(0, .ref 4), (1, .int (qz c)), (2, .int (qz 0))], [], w, 0, 0)
  refine qr_aload_n 1 rfl rfl rfl ?_
  refine qr_callN 4 rfl rfl rfl (sp_lat4) ?_
  rintro _ _ ⟨rfl, rfl⟩
  simp only [Option.toList, List.drop, List.cons_append, List.nil_append]
  refine qr_if_eq (a := 1) 23 7 rfl rfl rfl (by decide) (fun h => absurd h (by decide)) (fun _ => ?_)
  refine qr_aload_n 8 rfl rfl rfl ?_
  refine qr_get 11 rfl rfl rfl (by decide) rfl ?_
  refine qr_iload_n 12 rfl rfl rfl ?_
  refine qr_iload_n 13 rfl rfl rfl ?_
  refine qr_aload_n 14 rfl rfl rfl ?_
  refine qr_callN 17 rfl rfl rfl (sp_len4) ?_
  rintro _ _ ⟨rfl, rfl⟩
  simp only [Option.toList, List.drop, List.cons_append, List.nil_append]
  refine qr_callN 20 rfl rfl rfl (sp_lix rc) ?_
  rintro _ _ ⟨rfl, v, rfl, hv⟩
  simp only [Option.toList, List.drop, List.cons_append, List.nil_append]
  refine qr_goto 36 rfl rfl ?_
  refine qr_retI rfl rfl (Nat.zero_le _) (Nat.zero_le _) ?_
  exact ⟨rfl, _, rfl, by omega⟩

set_option maxHeartbeats 2000000 in
set_option maxRecDepth 20000 in
/-- sp_ix -/
theorem sp_ix {L : Nat} {xs : Nat → Int} {vb : Bool} {d : Nat} {w : qm_W} {c : Int} (rc : -2147483648 ≤ c ∧ c ≤ 2147483647)  : qm_T (qe L xs vb) (d + 4) 26 [.ref 4, .int (qz c)] (w) (fun r w' => w' = w ∧ ∃ v : Int, r = some (.int (qz v)) ∧ -1 ≤ v ∧ v ≤ 8) := by
  refine qr_start (d := d + 3) qv_e26 (Nat.le_of_ble_eq_true rfl) ?_
  show qr_W (qe L xs vb) (d + 3) qx_e26 _ (0, [(0, .ref 4), (1, .int (qz c))], [], w, 0, 0)
  refine qr_aload_n 1 rfl rfl rfl ?_
  refine qr_iload_n 2 rfl rfl rfl ?_
  refine qr_iconst 3 rfl rfl ?_
  refine qr_callN 6 rfl rfl rfl (sp_six rc) ?_
  rintro _ _ ⟨rfl, v, rfl, hv⟩
  simp only [Option.toList, List.drop, List.cons_append, List.nil_append]
  refine qr_retI rfl rfl (Nat.zero_le _) (Nat.zero_le _) ?_
  exact ⟨rfl, _, rfl, by omega⟩
end
