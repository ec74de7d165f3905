/-! stepping the small machine, in whole numbers. qz z is the int of z, ql z the long; qr_ rows: an instruction, a row; the first argument is the next place. -/
def qz (z : Int) : Int32 := Int32.ofInt z
def ql (z : Int) : Int64 := Int64.ofInt z
def qzf (f : Nat → Int) : Nat → Int32 := fun k => qz (f k)
def qlf (f : Nat → Int) : Nat → Int64 := fun k => ql (f k)
def qzu (f : Nat → Int) (j : Nat) (v : Int) : Nat → Int := fun k => if k = j then v else f k
theorem qz_of (x : Int32) : x = qz x.toInt := (Int32.ofInt_toInt x).symm
theorem ql_of (x : Int64) : x = ql x.toInt := (Int64.ofInt_toInt x).symm
theorem qz_rng (x : Int32) : -2147483648 ≤ x.toInt ∧ x.toInt ≤ 2147483647 := by have h1 := Int32.le_toInt x; have h2 := Int32.toInt_lt x; omega
theorem ql_rng (x : Int64) : -9223372036854775808 ≤ x.toInt ∧ x.toInt ≤ 9223372036854775807 := by have h1 := Int64.le_toInt x; have h2 := Int64.toInt_lt x; omega
theorem qz_ti {z : Int} (h : -2147483648 ≤ z ∧ z ≤ 2147483647) : (qz z).toInt = z := by
  unfold qz
  exact Int32.toInt_ofInt_of_le (by omega) (by omega)
theorem ql_ti {z : Int} (h : -9223372036854775808 ≤ z ∧ z ≤ 9223372036854775807) : (ql z).toInt = z := by
  unfold ql
  exact Int64.toInt_ofInt_of_le (by omega) (by omega)
theorem qz_add (a b : Int) : qz a + qz b = qz (a + b) := (Int32.ofInt_add a b).symm
theorem qz_mul (a b : Int) : qz a * qz b = qz (a * b) := (Int32.ofInt_mul a b).symm
theorem qz_sub (a b : Int) : qz a - qz b = qz (a - b) := (Int32.ofInt_sub a b).symm
theorem qz_neg (a : Int) : - qz a = qz (-a) := (Int32.ofInt_neg a).symm
theorem ql_add (a b : Int) : ql a + ql b = ql (a + b) := (Int64.ofInt_add a b).symm
theorem ql_mul (a b : Int) : ql a * ql b = ql (a * b) := (Int64.ofInt_mul a b).symm
theorem ql_sub (a b : Int) : ql a - ql b = ql (a - b) := (Int64.ofInt_sub a b).symm
theorem qz_lt {a b : Int} (ra : -2147483648 ≤ a ∧ a ≤ 2147483647) (rb : -2147483648 ≤ b ∧ b ≤ 2147483647) : qz a < qz b ↔ a < b := by rw [Int32.lt_iff_toInt_lt, qz_ti ra, qz_ti rb]
theorem qz_le {a b : Int} (ra : -2147483648 ≤ a ∧ a ≤ 2147483647) (rb : -2147483648 ≤ b ∧ b ≤ 2147483647) : qz a ≤ qz b ↔ a ≤ b := by rw [Int32.le_iff_toInt_le, qz_ti ra, qz_ti rb]
theorem qz_eq {a b : Int} (ra : -2147483648 ≤ a ∧ a ≤ 2147483647) (rb : -2147483648 ≤ b ∧ b ≤ 2147483647) : qz a = qz b ↔ a = b := ⟨fun h => by rw [← qz_ti ra, ← qz_ti rb, h], fun h => by rw [h]⟩
theorem ql_lt {a b : Int} (ra : -9223372036854775808 ≤ a ∧ a ≤ 9223372036854775807) (rb : -9223372036854775808 ≤ b ∧ b ≤ 9223372036854775807) : ql a < ql b ↔ a < b := by rw [Int64.lt_iff_toInt_lt, ql_ti ra, ql_ti rb]
theorem ql_eq {a b : Int} (ra : -9223372036854775808 ≤ a ∧ a ≤ 9223372036854775807) (rb : -9223372036854775808 ≤ b ∧ b ≤ 9223372036854775807) : ql a = ql b ↔ a = b := ⟨fun h => by rw [← ql_ti ra, ← ql_ti rb, h], fun h => by rw [h]⟩
theorem qz_clamp {z : Int} (h : 0 ≤ z ∧ z ≤ 2147483647) : (qz z).toNatClampNeg = z.toNat := by
  show (qz z).toInt.toNat = z.toNat
  rw [qz_ti (by omega)]
theorem qz_nat (n : Nat) : Int32.ofNat n = qz n := (Int32.ofInt_eq_ofNat (n := n)).symm
theorem qz_i2l {z : Int} (h : -2147483648 ≤ z ∧ z ≤ 2147483647) : (qz z).toInt64 = ql z := by
  rw [ql_of (qz z).toInt64, Int32.toInt_toInt64, qz_ti h]
theorem qz_l2i (z : Int) : (ql z).toInt32 = qz z := by
  unfold ql qz
  exact Int64.toInt32_ofInt
theorem qz_div {a b : Int} (ra : 0 ≤ a ∧ a ≤ 2147483647) (rb : 0 < b ∧ b ≤ 2147483647) : qz a / qz b = qz (a / b) := by
  rw [qz_of (qz a / qz b), Int32.toInt_div, qz_ti (by omega), qz_ti (by omega), Int.tdiv_eq_ediv_of_nonneg ra.1]
  congr 1
  have h1 : 0 ≤ a / b := Int.ediv_nonneg ra.1 (by omega)
  have h2 : a / b ≤ a := Int.ediv_le_self _ ra.1
  exact Int.bmod_eq_of_le (by omega) (by omega)
theorem qz_rem {a b : Int} (ra : 0 ≤ a ∧ a ≤ 2147483647) (rb : 0 < b ∧ b ≤ 2147483647) : qz a - qz a / qz b * qz b = qz (a % b) := by
  rw [qz_div ra rb, qz_mul, qz_sub]
  congr 1
  have := Int.mul_ediv_add_emod a b
  rw [Int.mul_comm] at this
  omega
theorem qz_u (f : Nat → Int) (j : Nat) (v : Int) : upd (qzf f) j (qz v) = qzf (qzu f j v) := by
  funext k
  unfold upd qzf qzu
  split <;> rfl
theorem ql_u (f : Nat → Int) (j : Nat) (v : Int) : vp_updL (qlf f) j (ql v) = qlf (qzu f j v) := by
  funext k
  unfold vp_updL qlf qzu
  split <;> rfl
theorem qz_cpy (f g : Nat → Int) (a b n : Nat) : va_cpy (qzf f) (qzf g) a b n = qzf (va_cpy f g a b n) := by
  funext k
  unfold va_cpy qzf
  by_cases h : b ≤ k ∧ k < b + n <;> simp [h]
theorem ql_cpy (f g : Nat → Int) (a b n : Nat) : va_cpy (qlf f) (qlf g) a b n = qlf (va_cpy f g a b n) := by
  funext k
  unfold va_cpy qlf
  by_cases h : b ≤ k ∧ k < b + n <;> simp [h]
def qz_and (a b : Int) : Int := (qz a &&& qz b).toInt
def qz_or (a b : Int) : Int := (qz a ||| qz b).toInt
def qz_xor (a b : Int) : Int := (qz a ^^^ qz b).toInt
def qz_shl (a b : Int) : Int := (qz a <<< (qz b &&& 31)).toInt
def qz_shr (a b : Int) : Int := (qz a >>> (qz b &&& 31)).toInt
def qz_ushr (a b : Int) : Int := ((qz a).toUInt32 >>> ((qz b).toUInt32 &&& Int32.toUInt32 31)).toInt32.toInt
def qz_tdiv (a b : Int) : Int := (qz a / qz b).toInt
def qz_trem (a b : Int) : Int := (qz a - qz a / qz b * qz b).toInt
def qz_i2b (a : Int) : Int := (qz a).toInt8.toInt32.toInt
def qz_i2s (a : Int) : Int := (qz a).toInt16.toInt32.toInt
def qz_i2c (a : Int) : Int := ((qz a).toUInt32 % 65536).toInt32.toInt
def ql_and (a b : Int) : Int := (ql a &&& ql b).toInt
def ql_or (a b : Int) : Int := (ql a ||| ql b).toInt
def ql_xor (a b : Int) : Int := (ql a ^^^ ql b).toInt
def ql_shl (a b : Int) : Int := (ql a <<< ((qz b).toInt64 &&& 63)).toInt
def ql_shr (a b : Int) : Int := (ql a >>> ((qz b).toInt64 &&& 63)).toInt
def ql_ushr (a b : Int) : Int := ((ql a).toUInt64 >>> ((qz b).toInt64.toUInt64 &&& Int64.toUInt64 63)).toInt64.toInt
abbrev qr_W (X : qm_X) (d : Nat) (x : qs_Ent) (Q : Option Value → qm_W → Prop) (s : qm_S) : Prop := qm_wp (qm_T X d) qm_bud X (qm_M1 x) x.2.2.2.2.2.2.2 Q s
theorem qr_start {X : qm_X} {d k : Nat} {x : qs_Ent} {as : List Value} {w : qm_W} {Q : Option Value → qm_W → Prop} (he : qm_ent k = some x) (hl : (lg_sl as).length ≤ x.2.2.2.1) (h : qr_W X d x Q (0, lv_args 0 as, [], w, 0, 0)) : qm_T X (d + 1) k as w Q := by
  unfold qm_T
  rw [he]
  exact ⟨hl, h⟩
theorem qr_mono {X : qm_X} {d k : Nat} {as : List Value} {w : qm_W} {Q Q' : Option Value → qm_W → Prop} (h : qm_T X d k as w Q) (hQ : ∀ r w', Q r w' → Q' r w') : qm_T X d k as w Q' := qm_T_mono X d k as w Q Q' hQ h
section QR
variable {X : qm_X} {d : Nat} {x : qs_Ent} {Q : Option Value → qm_W → Prop} {pc : Nat} {ls : qm_L} {st : List Value} {w : qm_W} {c n r1 r2 r3 : Nat} {rv : Value}
theorem qr_eff {s' : qm_S} {q : qm_I} (hq : qm_fetch x.2.2.2.2.2.2.2 pc = some q) (hc : qm_call X q st w = none) (hr : qm_retn (qm_M1 x) q st = none) (he : qm_eff X qx_T (qm_M1 x) q ls st w c n = some s') (k : qr_W X d x Q s') : qr_W X d x Q (pc, ls, st, w, c, n) := by
  refine qm_wp_go (qm_T_mono X d) ?_
  unfold qm_step
  simp only [hq, hc, hr, he]
  exact k
theorem qr_iconst {z : Int} (p : Nat) (hq : qm_fetch x.2.2.2.2.2.2.2 pc = some (pc, .iconst z, 1, r1, r2, r3, rv)) (hp : pc + 1 = p) (k : qr_W X d x Q (p, ls, .int (qz z) :: st, w, c, n)) : qr_W X d x Q (pc, ls, st, w, c, n) := by
  subst hp
  refine qr_eff hq rfl rfl (s' := (pc + 1, ls, .int (qz z) :: st, w, c, n)) ?_ k
  rfl
theorem qr_bipush {z : Int} (p : Nat) (hq : qm_fetch x.2.2.2.2.2.2.2 pc = some (pc, .bipush z, 2, r1, r2, r3, rv)) (hz : -128 ≤ z ∧ z ≤ 127) (hp : pc + 2 = p) (k : qr_W X d x Q (p, ls, .int (qz z) :: st, w, c, n)) : qr_W X d x Q (pc, ls, st, w, c, n) := by
  subst hp
  refine qr_eff hq rfl rfl (s' := (pc + 2, ls, .int (qz z) :: st, w, c, n)) ?_ k
  have e : (Int8.ofInt z).toInt32 = qz z := by
    rw [qz_of (Int8.ofInt z).toInt32, Int8.toInt_toInt32, Int8.toInt_ofInt_of_le (by omega) (by omega)]
  show some (pc + 2, ls, Value.int (Int8.ofInt z).toInt32 :: st, w, c, n) = _
  rw [e]
theorem qr_sipush {z : Int} (p : Nat) (hq : qm_fetch x.2.2.2.2.2.2.2 pc = some (pc, .sipush z, 3, r1, r2, r3, rv)) (hz : -32768 ≤ z ∧ z ≤ 32767) (hp : pc + 3 = p) (k : qr_W X d x Q (p, ls, .int (qz z) :: st, w, c, n)) : qr_W X d x Q (pc, ls, st, w, c, n) := by
  subst hp
  refine qr_eff hq rfl rfl (s' := (pc + 3, ls, .int (qz z) :: st, w, c, n)) ?_ k
  have e : (Int16.ofInt z).toInt32 = qz z := by
    rw [qz_of (Int16.ofInt z).toInt32, Int16.toInt_toInt32, Int16.toInt_ofInt_of_le (by omega) (by omega)]
  show some (pc + 3, ls, Value.int (Int16.ofInt z).toInt32 :: st, w, c, n) = _
  rw [e]
theorem qr_lconst {z : Fin 2} (p : Nat) (hq : qm_fetch x.2.2.2.2.2.2.2 pc = some (pc, .lconst z, 1, r1, r2, r3, rv)) (hp : pc + 1 = p) (k : qr_W X d x Q (p, ls, .long (ql ((z : Nat) : Int)) :: st, w, c, n)) : qr_W X d x Q (pc, ls, st, w, c, n) := by
  subst hp
  refine qr_eff hq rfl rfl (s' := (pc + 1, ls, .long (ql ((z : Nat) : Int)) :: st, w, c, n)) ?_ k
  show some (pc + 1, ls, Value.long (Int64.ofNat (z : Nat)) :: st, w, c, n) = _
  rw [show Int64.ofNat (z : Nat) = ql ((z : Nat) : Int) from (Int64.ofInt_eq_ofNat (n := (z : Nat))).symm]
theorem qr_ldc {z : Nat} (y : Int) (p : Nat) (hq : qm_fetch x.2.2.2.2.2.2.2 pc = some (pc, .ldc z, 2, r1, r2, 0, rv)) (hv : rv = .int (qz y)) (hp : pc + 2 = p) (k : qr_W X d x Q (p, ls, .int (qz y) :: st, w, c, n)) : qr_W X d x Q (pc, ls, st, w, c, n) := by
  subst hp
  subst hv
  exact qr_eff hq rfl rfl (s' := (pc + 2, ls, .int (qz y) :: st, w, c, n)) rfl k
theorem qr_ldcw {z : Nat} (y : Int) (p : Nat) (hq : qm_fetch x.2.2.2.2.2.2.2 pc = some (pc, .ldc_w z, 3, r1, r2, 0, rv)) (hv : rv = .int (qz y)) (hp : pc + 3 = p) (k : qr_W X d x Q (p, ls, .int (qz y) :: st, w, c, n)) : qr_W X d x Q (pc, ls, st, w, c, n) := by
  subst hp
  subst hv
  exact qr_eff hq rfl rfl (s' := (pc + 3, ls, .int (qz y) :: st, w, c, n)) rfl k
theorem qr_ldcs {z a : Nat} (p : Nat) (hq : qm_fetch x.2.2.2.2.2.2.2 pc = some (pc, .ldc z, 2, r1, r2, 1, .ref a)) (hp : pc + 2 = p) (k : qr_W X d x Q (p, ls, .ref a :: st, w, c, n)) : qr_W X d x Q (pc, ls, st, w, c, n) := by
  subst hp
  exact qr_eff hq rfl rfl (s' := (pc + 2, ls, .ref a :: st, w, c, n)) rfl k
theorem qr_ldc2 {z : Nat} (y : Int) (p : Nat) (hq : qm_fetch x.2.2.2.2.2.2.2 pc = some (pc, .ldc2_w z, 3, r1, r2, 2, rv)) (hv : rv = .long (ql y)) (hp : pc + 3 = p) (k : qr_W X d x Q (p, ls, .long (ql y) :: st, w, c, n)) : qr_W X d x Q (pc, ls, st, w, c, n) := by
  subst hp
  subst hv
  exact qr_eff hq rfl rfl (s' := (pc + 3, ls, .long (ql y) :: st, w, c, n)) rfl k
theorem qr_iload_n {z : Fin 4} {y : Int32} (p : Nat) (hq : qm_fetch x.2.2.2.2.2.2.2 pc = some (pc, .iload_n z, 1, r1, r2, r3, rv)) (hg : qm_get ls (z : Nat) = some (.int y)) (hp : pc + 1 = p) (k : qr_W X d x Q (p, ls, .int y :: st, w, c, n)) : qr_W X d x Q (pc, ls, st, w, c, n) := by
  subst hp
  refine qr_eff hq rfl rfl (s' := (pc + 1, ls, .int y :: st, w, c, n)) ?_ k
  simp only [qm_eff, hg, if_true, qm_go]
theorem qr_iload {z : Nat} {y : Int32} (p : Nat) (hq : qm_fetch x.2.2.2.2.2.2.2 pc = some (pc, .iload z, 2, r1, r2, r3, rv)) (hg : qm_get ls z = some (.int y)) (hp : pc + 2 = p) (k : qr_W X d x Q (p, ls, .int y :: st, w, c, n)) : qr_W X d x Q (pc, ls, st, w, c, n) := by
  subst hp
  refine qr_eff hq rfl rfl (s' := (pc + 2, ls, .int y :: st, w, c, n)) ?_ k
  simp only [qm_eff, hg, if_true, qm_go]
theorem qr_lload_n {z : Fin 4} {y : Int64} (p : Nat) (hq : qm_fetch x.2.2.2.2.2.2.2 pc = some (pc, .lload_n z, 1, r1, r2, r3, rv)) (hg : qm_get ls (z : Nat) = some (.long y)) (hp : pc + 1 = p) (k : qr_W X d x Q (p, ls, .long y :: st, w, c, n)) : qr_W X d x Q (pc, ls, st, w, c, n) := by
  subst hp
  refine qr_eff hq rfl rfl (s' := (pc + 1, ls, .long y :: st, w, c, n)) ?_ k
  simp only [qm_eff, hg, if_true, qm_go]
theorem qr_lload {z : Nat} {y : Int64} (p : Nat) (hq : qm_fetch x.2.2.2.2.2.2.2 pc = some (pc, .lload z, 2, r1, r2, r3, rv)) (hg : qm_get ls z = some (.long y)) (hp : pc + 2 = p) (k : qr_W X d x Q (p, ls, .long y :: st, w, c, n)) : qr_W X d x Q (pc, ls, st, w, c, n) := by
  subst hp
  refine qr_eff hq rfl rfl (s' := (pc + 2, ls, .long y :: st, w, c, n)) ?_ k
  simp only [qm_eff, hg, if_true, qm_go]
theorem qr_aload_n {z : Fin 4} {y : Nat} (p : Nat) (hq : qm_fetch x.2.2.2.2.2.2.2 pc = some (pc, .aload_n z, 1, r1, r2, r3, rv)) (hg : qm_get ls (z : Nat) = some (.ref y)) (hp : pc + 1 = p) (k : qr_W X d x Q (p, ls, .ref y :: st, w, c, n)) : qr_W X d x Q (pc, ls, st, w, c, n) := by
  subst hp
  refine qr_eff hq rfl rfl (s' := (pc + 1, ls, .ref y :: st, w, c, n)) ?_ k
  simp only [qm_eff, hg, if_true, qm_go]
theorem qr_aload {z : Nat} {y : Nat} (p : Nat) (hq : qm_fetch x.2.2.2.2.2.2.2 pc = some (pc, .aload z, 2, r1, r2, r3, rv)) (hg : qm_get ls z = some (.ref y)) (hp : pc + 2 = p) (k : qr_W X d x Q (p, ls, .ref y :: st, w, c, n)) : qr_W X d x Q (pc, ls, st, w, c, n) := by
  subst hp
  refine qr_eff hq rfl rfl (s' := (pc + 2, ls, .ref y :: st, w, c, n)) ?_ k
  simp only [qm_eff, hg, if_true, qm_go]
theorem qr_istore_n {z : Fin 4} {y : Int32} (ls' : qm_L) (p : Nat) (hq : qm_fetch x.2.2.2.2.2.2.2 pc = some (pc, .istore_n z, 1, r1, r2, r3, rv)) (hz : (z : Nat) < x.2.2.2.1) (hl : qm_put1 ls (z : Nat) (.int y) = ls') (hp : pc + 1 = p) (k : qr_W X d x Q (p, ls', st, w, c, n)) : qr_W X d x Q (pc, ls, .int y :: st, w, c, n) := by
  subst hp
  subst hl
  exact qr_eff hq rfl rfl (s' := (pc + 1, qm_put1 ls (z : Nat) (.int y), st, w, c, n)) (if_pos ⟨rfl, hz⟩) k
theorem qr_istore {z : Nat} {y : Int32} (ls' : qm_L) (p : Nat) (hq : qm_fetch x.2.2.2.2.2.2.2 pc = some (pc, .istore z, 2, r1, r2, r3, rv)) (hz : z < x.2.2.2.1) (hl : qm_put1 ls z (.int y) = ls') (hp : pc + 2 = p) (k : qr_W X d x Q (p, ls', st, w, c, n)) : qr_W X d x Q (pc, ls, .int y :: st, w, c, n) := by
  subst hp
  subst hl
  exact qr_eff hq rfl rfl (s' := (pc + 2, qm_put1 ls z (.int y), st, w, c, n)) (if_pos ⟨rfl, hz⟩) k
theorem qr_astore_n {z : Fin 4} {y : Nat} (ls' : qm_L) (p : Nat) (hq : qm_fetch x.2.2.2.2.2.2.2 pc = some (pc, .astore_n z, 1, r1, r2, r3, rv)) (hz : (z : Nat) < x.2.2.2.1) (hl : qm_put1 ls (z : Nat) (.ref y) = ls') (hp : pc + 1 = p) (k : qr_W X d x Q (p, ls', st, w, c, n)) : qr_W X d x Q (pc, ls, .ref y :: st, w, c, n) := by
  subst hp
  subst hl
  exact qr_eff hq rfl rfl (s' := (pc + 1, qm_put1 ls (z : Nat) (.ref y), st, w, c, n)) (if_pos ⟨rfl, hz⟩) k
theorem qr_astore {z : Nat} {y : Nat} (ls' : qm_L) (p : Nat) (hq : qm_fetch x.2.2.2.2.2.2.2 pc = some (pc, .astore z, 2, r1, r2, r3, rv)) (hz : z < x.2.2.2.1) (hl : qm_put1 ls z (.ref y) = ls') (hp : pc + 2 = p) (k : qr_W X d x Q (p, ls', st, w, c, n)) : qr_W X d x Q (pc, ls, .ref y :: st, w, c, n) := by
  subst hp
  subst hl
  exact qr_eff hq rfl rfl (s' := (pc + 2, qm_put1 ls z (.ref y), st, w, c, n)) (if_pos ⟨rfl, hz⟩) k
theorem qr_lstore_n {z : Fin 4} {y : Int64} (ls' : qm_L) (p : Nat) (hq : qm_fetch x.2.2.2.2.2.2.2 pc = some (pc, .lstore_n z, 1, r1, r2, r3, rv)) (hz : (z : Nat) + 1 < x.2.2.2.1) (hl : qm_put2 ls (z : Nat) (.long y) = ls') (hp : pc + 1 = p) (k : qr_W X d x Q (p, ls', st, w, c, n)) : qr_W X d x Q (pc, ls, .long y :: st, w, c, n) := by
  subst hp
  subst hl
  exact qr_eff hq rfl rfl (s' := (pc + 1, qm_put2 ls (z : Nat) (.long y), st, w, c, n)) (if_pos ⟨rfl, hz⟩) k
theorem qr_lstore {z : Nat} {y : Int64} (ls' : qm_L) (p : Nat) (hq : qm_fetch x.2.2.2.2.2.2.2 pc = some (pc, .lstore z, 2, r1, r2, r3, rv)) (hz : z + 1 < x.2.2.2.1) (hl : qm_put2 ls z (.long y) = ls') (hp : pc + 2 = p) (k : qr_W X d x Q (p, ls', st, w, c, n)) : qr_W X d x Q (pc, ls, .long y :: st, w, c, n) := by
  subst hp
  subst hl
  exact qr_eff hq rfl rfl (s' := (pc + 2, qm_put2 ls z (.long y), st, w, c, n)) (if_pos ⟨rfl, hz⟩) k
theorem qr_iinc {z : Nat} {v y : Int} (ls' : qm_L) (p : Nat) (hq : qm_fetch x.2.2.2.2.2.2.2 pc = some (pc, .iinc z v, 3, r1, r2, r3, rv)) (hg : qm_get ls z = some (.int (qz y))) (hz : z < x.2.2.2.1) (hl : qm_put1 ls z (.int (qz (y + v))) = ls') (hp : pc + 3 = p) (k : qr_W X d x Q (p, ls', st, w, c, n)) : qr_W X d x Q (pc, ls, st, w, c, n) := by
  subst hp
  subst hl
  refine qr_eff hq rfl rfl (s' := (pc + 3, qm_put1 ls z (.int (qz (y + v))), st, w, c, n)) ?_ k
  simp only [qm_eff, hg]
  rw [if_pos ⟨(by first | rfl | trivial), hz⟩]
  show qm_go (pc + 3) (qm_put1 ls z (.int (qz y + qz v))) st w c n = _
  rw [qz_add]
  rfl
theorem qr_iadd {a b : Int} (p : Nat) (hq : qm_fetch x.2.2.2.2.2.2.2 pc = some (pc, .iadd, 1, r1, r2, r3, rv)) (hp : pc + 1 = p) (k : qr_W X d x Q (p, ls, .int (qz (a + b)) :: st, w, c, n)) : qr_W X d x Q (pc, ls, .int (qz b) :: .int (qz a) :: st, w, c, n) := by
  subst hp
  refine qr_eff hq rfl rfl (s' := (pc + 1, ls, .int (qz (a + b)) :: st, w, c, n)) ?_ k
  show some (pc + 1, ls, Value.int (qz a + qz b) :: st, w, c, n) = _
  rw [qz_add]
theorem qr_isub {a b : Int} (p : Nat) (hq : qm_fetch x.2.2.2.2.2.2.2 pc = some (pc, .isub, 1, r1, r2, r3, rv)) (hp : pc + 1 = p) (k : qr_W X d x Q (p, ls, .int (qz (a - b)) :: st, w, c, n)) : qr_W X d x Q (pc, ls, .int (qz b) :: .int (qz a) :: st, w, c, n) := by
  subst hp
  refine qr_eff hq rfl rfl (s' := (pc + 1, ls, .int (qz (a - b)) :: st, w, c, n)) ?_ k
  show some (pc + 1, ls, Value.int (qz a - qz b) :: st, w, c, n) = _
  rw [qz_sub]
theorem qr_imul {a b : Int} (p : Nat) (hq : qm_fetch x.2.2.2.2.2.2.2 pc = some (pc, .imul, 1, r1, r2, r3, rv)) (hp : pc + 1 = p) (k : qr_W X d x Q (p, ls, .int (qz (a * b)) :: st, w, c, n)) : qr_W X d x Q (pc, ls, .int (qz b) :: .int (qz a) :: st, w, c, n) := by
  subst hp
  refine qr_eff hq rfl rfl (s' := (pc + 1, ls, .int (qz (a * b)) :: st, w, c, n)) ?_ k
  show some (pc + 1, ls, Value.int (qz a * qz b) :: st, w, c, n) = _
  rw [qz_mul]
theorem qr_iand {a b : Int} (p : Nat) (hq : qm_fetch x.2.2.2.2.2.2.2 pc = some (pc, .iand, 1, r1, r2, r3, rv)) (hp : pc + 1 = p) (k : qr_W X d x Q (p, ls, .int (qz (qz_and a b)) :: st, w, c, n)) : qr_W X d x Q (pc, ls, .int (qz b) :: .int (qz a) :: st, w, c, n) := by
  subst hp
  refine qr_eff hq rfl rfl (s' := (pc + 1, ls, .int (qz (qz_and a b)) :: st, w, c, n)) ?_ k
  show some (pc + 1, ls, Value.int (qz a &&& qz b) :: st, w, c, n) = _
  rw [show qz a &&& qz b = qz (qz_and a b) from qz_of _]
theorem qr_ior {a b : Int} (p : Nat) (hq : qm_fetch x.2.2.2.2.2.2.2 pc = some (pc, .ior, 1, r1, r2, r3, rv)) (hp : pc + 1 = p) (k : qr_W X d x Q (p, ls, .int (qz (qz_or a b)) :: st, w, c, n)) : qr_W X d x Q (pc, ls, .int (qz b) :: .int (qz a) :: st, w, c, n) := by
  subst hp
  refine qr_eff hq rfl rfl (s' := (pc + 1, ls, .int (qz (qz_or a b)) :: st, w, c, n)) ?_ k
  show some (pc + 1, ls, Value.int (qz a ||| qz b) :: st, w, c, n) = _
  rw [show qz a ||| qz b = qz (qz_or a b) from qz_of _]
theorem qr_ixor {a b : Int} (p : Nat) (hq : qm_fetch x.2.2.2.2.2.2.2 pc = some (pc, .ixor, 1, r1, r2, r3, rv)) (hp : pc + 1 = p) (k : qr_W X d x Q (p, ls, .int (qz (qz_xor a b)) :: st, w, c, n)) : qr_W X d x Q (pc, ls, .int (qz b) :: .int (qz a) :: st, w, c, n) := by
  subst hp
  refine qr_eff hq rfl rfl (s' := (pc + 1, ls, .int (qz (qz_xor a b)) :: st, w, c, n)) ?_ k
  show some (pc + 1, ls, Value.int (qz a ^^^ qz b) :: st, w, c, n) = _
  rw [show qz a ^^^ qz b = qz (qz_xor a b) from qz_of _]
theorem qr_ishl {a b : Int} (p : Nat) (hq : qm_fetch x.2.2.2.2.2.2.2 pc = some (pc, .ishl, 1, r1, r2, r3, rv)) (hp : pc + 1 = p) (k : qr_W X d x Q (p, ls, .int (qz (qz_shl a b)) :: st, w, c, n)) : qr_W X d x Q (pc, ls, .int (qz b) :: .int (qz a) :: st, w, c, n) := by
  subst hp
  refine qr_eff hq rfl rfl (s' := (pc + 1, ls, .int (qz (qz_shl a b)) :: st, w, c, n)) ?_ k
  show some (pc + 1, ls, Value.int (qz a <<< (qz b &&& 31)) :: st, w, c, n) = _
  rw [show qz a <<< (qz b &&& 31) = qz (qz_shl a b) from qz_of _]
theorem qr_ishr {a b : Int} (p : Nat) (hq : qm_fetch x.2.2.2.2.2.2.2 pc = some (pc, .ishr, 1, r1, r2, r3, rv)) (hp : pc + 1 = p) (k : qr_W X d x Q (p, ls, .int (qz (qz_shr a b)) :: st, w, c, n)) : qr_W X d x Q (pc, ls, .int (qz b) :: .int (qz a) :: st, w, c, n) := by
  subst hp
  refine qr_eff hq rfl rfl (s' := (pc + 1, ls, .int (qz (qz_shr a b)) :: st, w, c, n)) ?_ k
  show some (pc + 1, ls, Value.int (qz a >>> (qz b &&& 31)) :: st, w, c, n) = _
  rw [show qz a >>> (qz b &&& 31) = qz (qz_shr a b) from qz_of _]
theorem qr_iushr {a b : Int} (p : Nat) (hq : qm_fetch x.2.2.2.2.2.2.2 pc = some (pc, .iushr, 1, r1, r2, r3, rv)) (hp : pc + 1 = p) (k : qr_W X d x Q (p, ls, .int (qz (qz_ushr a b)) :: st, w, c, n)) : qr_W X d x Q (pc, ls, .int (qz b) :: .int (qz a) :: st, w, c, n) := by
  subst hp
  refine qr_eff hq rfl rfl (s' := (pc + 1, ls, .int (qz (qz_ushr a b)) :: st, w, c, n)) ?_ k
  show some (pc + 1, ls, Value.int (((qz a).toUInt32 >>> ((qz b).toUInt32 &&& Int32.toUInt32 31)).toInt32) :: st, w, c, n) = _
  rw [show ((qz a).toUInt32 >>> ((qz b).toUInt32 &&& Int32.toUInt32 31)).toInt32 = qz (qz_ushr a b) from qz_of _]
theorem qr_ladd {a b : Int} (p : Nat) (hq : qm_fetch x.2.2.2.2.2.2.2 pc = some (pc, .ladd, 1, r1, r2, r3, rv)) (hp : pc + 1 = p) (k : qr_W X d x Q (p, ls, .long (ql (a + b)) :: st, w, c, n)) : qr_W X d x Q (pc, ls, .long (ql b) :: .long (ql a) :: st, w, c, n) := by
  subst hp
  refine qr_eff hq rfl rfl (s' := (pc + 1, ls, .long (ql (a + b)) :: st, w, c, n)) ?_ k
  show some (pc + 1, ls, Value.long (ql a + ql b) :: st, w, c, n) = _
  rw [ql_add]
theorem qr_lsub {a b : Int} (p : Nat) (hq : qm_fetch x.2.2.2.2.2.2.2 pc = some (pc, .lsub, 1, r1, r2, r3, rv)) (hp : pc + 1 = p) (k : qr_W X d x Q (p, ls, .long (ql (a - b)) :: st, w, c, n)) : qr_W X d x Q (pc, ls, .long (ql b) :: .long (ql a) :: st, w, c, n) := by
  subst hp
  refine qr_eff hq rfl rfl (s' := (pc + 1, ls, .long (ql (a - b)) :: st, w, c, n)) ?_ k
  show some (pc + 1, ls, Value.long (ql a - ql b) :: st, w, c, n) = _
  rw [ql_sub]
theorem qr_lmul {a b : Int} (p : Nat) (hq : qm_fetch x.2.2.2.2.2.2.2 pc = some (pc, .lmul, 1, r1, r2, r3, rv)) (hp : pc + 1 = p) (k : qr_W X d x Q (p, ls, .long (ql (a * b)) :: st, w, c, n)) : qr_W X d x Q (pc, ls, .long (ql b) :: .long (ql a) :: st, w, c, n) := by
  subst hp
  refine qr_eff hq rfl rfl (s' := (pc + 1, ls, .long (ql (a * b)) :: st, w, c, n)) ?_ k
  show some (pc + 1, ls, Value.long (ql a * ql b) :: st, w, c, n) = _
  rw [ql_mul]
theorem qr_land {a b : Int} (p : Nat) (hq : qm_fetch x.2.2.2.2.2.2.2 pc = some (pc, .land, 1, r1, r2, r3, rv)) (hp : pc + 1 = p) (k : qr_W X d x Q (p, ls, .long (ql (ql_and a b)) :: st, w, c, n)) : qr_W X d x Q (pc, ls, .long (ql b) :: .long (ql a) :: st, w, c, n) := by
  subst hp
  refine qr_eff hq rfl rfl (s' := (pc + 1, ls, .long (ql (ql_and a b)) :: st, w, c, n)) ?_ k
  show some (pc + 1, ls, Value.long (ql a &&& ql b) :: st, w, c, n) = _
  rw [show ql a &&& ql b = ql (ql_and a b) from ql_of _]
theorem qr_lor {a b : Int} (p : Nat) (hq : qm_fetch x.2.2.2.2.2.2.2 pc = some (pc, .lor, 1, r1, r2, r3, rv)) (hp : pc + 1 = p) (k : qr_W X d x Q (p, ls, .long (ql (ql_or a b)) :: st, w, c, n)) : qr_W X d x Q (pc, ls, .long (ql b) :: .long (ql a) :: st, w, c, n) := by
  subst hp
  refine qr_eff hq rfl rfl (s' := (pc + 1, ls, .long (ql (ql_or a b)) :: st, w, c, n)) ?_ k
  show some (pc + 1, ls, Value.long (ql a ||| ql b) :: st, w, c, n) = _
  rw [show ql a ||| ql b = ql (ql_or a b) from ql_of _]
theorem qr_lxor {a b : Int} (p : Nat) (hq : qm_fetch x.2.2.2.2.2.2.2 pc = some (pc, .lxor, 1, r1, r2, r3, rv)) (hp : pc + 1 = p) (k : qr_W X d x Q (p, ls, .long (ql (ql_xor a b)) :: st, w, c, n)) : qr_W X d x Q (pc, ls, .long (ql b) :: .long (ql a) :: st, w, c, n) := by
  subst hp
  refine qr_eff hq rfl rfl (s' := (pc + 1, ls, .long (ql (ql_xor a b)) :: st, w, c, n)) ?_ k
  show some (pc + 1, ls, Value.long (ql a ^^^ ql b) :: st, w, c, n) = _
  rw [show ql a ^^^ ql b = ql (ql_xor a b) from ql_of _]
theorem qr_lshl {a b : Int} (p : Nat) (hq : qm_fetch x.2.2.2.2.2.2.2 pc = some (pc, .lshl, 1, r1, r2, r3, rv)) (hp : pc + 1 = p) (k : qr_W X d x Q (p, ls, .long (ql (ql_shl a b)) :: st, w, c, n)) : qr_W X d x Q (pc, ls, .int (qz b) :: .long (ql a) :: st, w, c, n) := by
  subst hp
  refine qr_eff hq rfl rfl (s' := (pc + 1, ls, .long (ql (ql_shl a b)) :: st, w, c, n)) ?_ k
  show some (pc + 1, ls, Value.long (ql a <<< ((qz b).toInt64 &&& 63)) :: st, w, c, n) = _
  rw [show ql a <<< ((qz b).toInt64 &&& 63) = ql (ql_shl a b) from ql_of _]
theorem qr_lshr {a b : Int} (p : Nat) (hq : qm_fetch x.2.2.2.2.2.2.2 pc = some (pc, .lshr, 1, r1, r2, r3, rv)) (hp : pc + 1 = p) (k : qr_W X d x Q (p, ls, .long (ql (ql_shr a b)) :: st, w, c, n)) : qr_W X d x Q (pc, ls, .int (qz b) :: .long (ql a) :: st, w, c, n) := by
  subst hp
  refine qr_eff hq rfl rfl (s' := (pc + 1, ls, .long (ql (ql_shr a b)) :: st, w, c, n)) ?_ k
  show some (pc + 1, ls, Value.long (ql a >>> ((qz b).toInt64 &&& 63)) :: st, w, c, n) = _
  rw [show ql a >>> ((qz b).toInt64 &&& 63) = ql (ql_shr a b) from ql_of _]
theorem qr_lushr {a b : Int} (p : Nat) (hq : qm_fetch x.2.2.2.2.2.2.2 pc = some (pc, .lushr, 1, r1, r2, r3, rv)) (hp : pc + 1 = p) (k : qr_W X d x Q (p, ls, .long (ql (ql_ushr a b)) :: st, w, c, n)) : qr_W X d x Q (pc, ls, .int (qz b) :: .long (ql a) :: st, w, c, n) := by
  subst hp
  refine qr_eff hq rfl rfl (s' := (pc + 1, ls, .long (ql (ql_ushr a b)) :: st, w, c, n)) ?_ k
  show some (pc + 1, ls, Value.long (((ql a).toUInt64 >>> ((qz b).toInt64.toUInt64 &&& Int64.toUInt64 63)).toInt64) :: st, w, c, n) = _
  rw [show ((ql a).toUInt64 >>> ((qz b).toInt64.toUInt64 &&& Int64.toUInt64 63)).toInt64 = ql (ql_ushr a b) from ql_of _]
theorem qr_idiv {a b : Int} (p : Nat) (hq : qm_fetch x.2.2.2.2.2.2.2 pc = some (pc, .idiv, 1, r1, r2, r3, rv)) (ra : 0 ≤ a ∧ a ≤ 2147483647) (rb : 0 < b ∧ b ≤ 2147483647) (hp : pc + 1 = p) (k : qr_W X d x Q (p, ls, .int (qz (a / b)) :: st, w, c, n)) : qr_W X d x Q (pc, ls, .int (qz b) :: .int (qz a) :: st, w, c, n) := by
  subst hp
  refine qr_eff hq rfl rfl (s' := (pc + 1, ls, .int (qz (a / b)) :: st, w, c, n)) ?_ k
  have hne : ¬ qz b = 0 := fun h => by
    have := (qz_eq (a := b) (b := 0) (by omega) (by omega)).mp h
    omega
  refine (if_pos ⟨rfl, hne⟩).trans ?_
  show some (pc + 1, ls, Value.int (qz a / qz b) :: st, w, c, n) = _
  rw [qz_div ra rb]
theorem qr_irem {a b : Int} (p : Nat) (hq : qm_fetch x.2.2.2.2.2.2.2 pc = some (pc, .irem, 1, r1, r2, r3, rv)) (ra : 0 ≤ a ∧ a ≤ 2147483647) (rb : 0 < b ∧ b ≤ 2147483647) (hp : pc + 1 = p) (k : qr_W X d x Q (p, ls, .int (qz (a % b)) :: st, w, c, n)) : qr_W X d x Q (pc, ls, .int (qz b) :: .int (qz a) :: st, w, c, n) := by
  subst hp
  refine qr_eff hq rfl rfl (s' := (pc + 1, ls, .int (qz (a % b)) :: st, w, c, n)) ?_ k
  have hne : ¬ qz b = 0 := fun h => by
    have := (qz_eq (a := b) (b := 0) (by omega) (by omega)).mp h
    omega
  refine (if_pos ⟨rfl, hne⟩).trans ?_
  show some (pc + 1, ls, Value.int (qz a - qz a / qz b * qz b) :: st, w, c, n) = _
  rw [qz_rem ra rb]
theorem qr_idivW {a b : Int} (p : Nat) (hq : qm_fetch x.2.2.2.2.2.2.2 pc = some (pc, .idiv, 1, r1, r2, r3, rv)) (rb : ¬ b = 0 ∧ -2147483648 ≤ b ∧ b ≤ 2147483647) (hp : pc + 1 = p) (k : qr_W X d x Q (p, ls, .int (qz (qz_tdiv a b)) :: st, w, c, n)) : qr_W X d x Q (pc, ls, .int (qz b) :: .int (qz a) :: st, w, c, n) := by
  subst hp
  refine qr_eff hq rfl rfl (s' := (pc + 1, ls, .int (qz (qz_tdiv a b)) :: st, w, c, n)) ?_ k
  have hne : ¬ qz b = 0 := fun h => by
    have := (qz_eq (a := b) (b := 0) (by omega) (by omega)).mp h
    omega
  refine (if_pos ⟨rfl, hne⟩).trans ?_
  show some (pc + 1, ls, Value.int (qz a / qz b) :: st, w, c, n) = _
  rw [show qz a / qz b = qz (qz_tdiv a b) from qz_of _]
theorem qr_iremW {a b : Int} (p : Nat) (hq : qm_fetch x.2.2.2.2.2.2.2 pc = some (pc, .irem, 1, r1, r2, r3, rv)) (rb : ¬ b = 0 ∧ -2147483648 ≤ b ∧ b ≤ 2147483647) (hp : pc + 1 = p) (k : qr_W X d x Q (p, ls, .int (qz (qz_trem a b)) :: st, w, c, n)) : qr_W X d x Q (pc, ls, .int (qz b) :: .int (qz a) :: st, w, c, n) := by
  subst hp
  refine qr_eff hq rfl rfl (s' := (pc + 1, ls, .int (qz (qz_trem a b)) :: st, w, c, n)) ?_ k
  have hne : ¬ qz b = 0 := fun h => by
    have := (qz_eq (a := b) (b := 0) (by omega) (by omega)).mp h
    omega
  refine (if_pos ⟨rfl, hne⟩).trans ?_
  show some (pc + 1, ls, Value.int (qz a - qz a / qz b * qz b) :: st, w, c, n) = _
  rw [show qz a - qz a / qz b * qz b = qz (qz_trem a b) from qz_of _]
theorem qr_ineg {a : Int} (p : Nat) (hq : qm_fetch x.2.2.2.2.2.2.2 pc = some (pc, .ineg, 1, r1, r2, r3, rv)) (hp : pc + 1 = p) (k : qr_W X d x Q (p, ls, .int (qz (-a)) :: st, w, c, n)) : qr_W X d x Q (pc, ls, .int (qz a) :: st, w, c, n) := by
  subst hp
  refine qr_eff hq rfl rfl (s' := (pc + 1, ls, .int (qz (-a)) :: st, w, c, n)) ?_ k
  show some (pc + 1, ls, Value.int (-qz a) :: st, w, c, n) = _
  rw [qz_neg]
theorem qr_i2l {a : Int} (p : Nat) (hq : qm_fetch x.2.2.2.2.2.2.2 pc = some (pc, .i2l, 1, r1, r2, r3, rv)) (ra : -2147483648 ≤ a ∧ a ≤ 2147483647) (hp : pc + 1 = p) (k : qr_W X d x Q (p, ls, .long (ql a) :: st, w, c, n)) : qr_W X d x Q (pc, ls, .int (qz a) :: st, w, c, n) := by
  subst hp
  refine qr_eff hq rfl rfl (s' := (pc + 1, ls, .long (ql a) :: st, w, c, n)) ?_ k
  show some (pc + 1, ls, Value.long ((qz a).toInt64) :: st, w, c, n) = _
  rw [qz_i2l ra]
theorem qr_l2i {a : Int} (p : Nat) (hq : qm_fetch x.2.2.2.2.2.2.2 pc = some (pc, .l2i, 1, r1, r2, r3, rv)) (hp : pc + 1 = p) (k : qr_W X d x Q (p, ls, .int (qz a) :: st, w, c, n)) : qr_W X d x Q (pc, ls, .long (ql a) :: st, w, c, n) := by
  subst hp
  refine qr_eff hq rfl rfl (s' := (pc + 1, ls, .int (qz a) :: st, w, c, n)) ?_ k
  show some (pc + 1, ls, Value.int ((ql a).toInt32) :: st, w, c, n) = _
  rw [qz_l2i]
theorem qr_i2b {a : Int} (p : Nat) (hq : qm_fetch x.2.2.2.2.2.2.2 pc = some (pc, .i2b, 1, r1, r2, r3, rv)) (hp : pc + 1 = p) (k : qr_W X d x Q (p, ls, .int (qz (qz_i2b a)) :: st, w, c, n)) : qr_W X d x Q (pc, ls, .int (qz a) :: st, w, c, n) := by
  subst hp
  refine qr_eff hq rfl rfl (s' := (pc + 1, ls, .int (qz (qz_i2b a)) :: st, w, c, n)) ?_ k
  show some (pc + 1, ls, Value.int ((qz a).toInt8.toInt32) :: st, w, c, n) = _
  rw [show (qz a).toInt8.toInt32 = qz (qz_i2b a) from qz_of _]
theorem qr_i2s {a : Int} (p : Nat) (hq : qm_fetch x.2.2.2.2.2.2.2 pc = some (pc, .i2s, 1, r1, r2, r3, rv)) (hp : pc + 1 = p) (k : qr_W X d x Q (p, ls, .int (qz (qz_i2s a)) :: st, w, c, n)) : qr_W X d x Q (pc, ls, .int (qz a) :: st, w, c, n) := by
  subst hp
  refine qr_eff hq rfl rfl (s' := (pc + 1, ls, .int (qz (qz_i2s a)) :: st, w, c, n)) ?_ k
  show some (pc + 1, ls, Value.int ((qz a).toInt16.toInt32) :: st, w, c, n) = _
  rw [show (qz a).toInt16.toInt32 = qz (qz_i2s a) from qz_of _]
theorem qr_i2c {a : Int} (p : Nat) (hq : qm_fetch x.2.2.2.2.2.2.2 pc = some (pc, .i2c, 1, r1, r2, r3, rv)) (hp : pc + 1 = p) (k : qr_W X d x Q (p, ls, .int (qz (qz_i2c a)) :: st, w, c, n)) : qr_W X d x Q (pc, ls, .int (qz a) :: st, w, c, n) := by
  subst hp
  refine qr_eff hq rfl rfl (s' := (pc + 1, ls, .int (qz (qz_i2c a)) :: st, w, c, n)) ?_ k
  show some (pc + 1, ls, Value.int (((qz a).toUInt32 % 65536).toInt32) :: st, w, c, n) = _
  rw [show ((qz a).toUInt32 % 65536).toInt32 = qz (qz_i2c a) from qz_of _]
theorem qr_dup {u : Value} (p : Nat) (hq : qm_fetch x.2.2.2.2.2.2.2 pc = some (pc, .dup, 1, r1, r2, r3, rv)) (h1 : u.category = 1) (hp : pc + 1 = p) (k : qr_W X d x Q (p, ls, u :: u :: st, w, c, n)) : qr_W X d x Q (pc, ls, u :: st, w, c, n) := by
  subst hp
  exact qr_eff hq rfl rfl (s' := (pc + 1, ls, u :: u :: st, w, c, n)) (if_pos ⟨rfl, h1⟩) k
theorem qr_pop {u : Value} (p : Nat) (hq : qm_fetch x.2.2.2.2.2.2.2 pc = some (pc, .pop, 1, r1, r2, r3, rv)) (h1 : u.category = 1) (hp : pc + 1 = p) (k : qr_W X d x Q (p, ls, st, w, c, n)) : qr_W X d x Q (pc, ls, u :: st, w, c, n) := by
  subst hp
  exact qr_eff hq rfl rfl (s' := (pc + 1, ls, st, w, c, n)) (if_pos ⟨rfl, h1⟩) k
theorem qr_pop2 {u : Value} (p : Nat) (hq : qm_fetch x.2.2.2.2.2.2.2 pc = some (pc, .pop2, 1, r1, r2, r3, rv)) (h1 : u.category = 2) (hp : pc + 1 = p) (k : qr_W X d x Q (p, ls, st, w, c, n)) : qr_W X d x Q (pc, ls, u :: st, w, c, n) := by
  subst hp
  exact qr_eff hq rfl rfl (s' := (pc + 1, ls, st, w, c, n)) (if_pos ⟨rfl, h1⟩) k
theorem qr_dup_x1 {u v : Value} (p : Nat) (hq : qm_fetch x.2.2.2.2.2.2.2 pc = some (pc, .dup_x1, 1, r1, r2, r3, rv)) (h1 : u.category = 1) (h2 : v.category = 1) (hp : pc + 1 = p) (k : qr_W X d x Q (p, ls, u :: v :: u :: st, w, c, n)) : qr_W X d x Q (pc, ls, u :: v :: st, w, c, n) := by
  subst hp
  exact qr_eff hq rfl rfl (s' := (pc + 1, ls, u :: v :: u :: st, w, c, n)) (if_pos ⟨rfl, h1, h2⟩) k
theorem qr_dup2 {u v : Value} (p : Nat) (hq : qm_fetch x.2.2.2.2.2.2.2 pc = some (pc, .dup2, 1, r1, r2, r3, rv)) (h1 : u.category = 1) (h2 : v.category = 1) (hp : pc + 1 = p) (k : qr_W X d x Q (p, ls, u :: v :: u :: v :: st, w, c, n)) : qr_W X d x Q (pc, ls, u :: v :: st, w, c, n) := by
  subst hp
  exact qr_eff hq rfl rfl (s' := (pc + 1, ls, u :: v :: u :: v :: st, w, c, n)) (if_pos ⟨rfl, h1, h2⟩) k
theorem qr_cond_eq {a b : Int} (ra : -2147483648 ≤ a ∧ a ≤ 2147483647) (rb : -2147483648 ≤ b ∧ b ≤ 2147483647) : (qm_cond .eq (qz a) (qz b) = true → a = b) ∧ (qm_cond .eq (qz a) (qz b) = false → ¬ a = b) := by
  unfold qm_cond
  have e := qz_eq ra rb
  constructor
  · intro h
    have h := of_decide_eq_true h
    exact e.mp h
  · intro h
    have h := of_decide_eq_false h
    exact fun g => h (e.mpr g)
theorem qr_icmp_eq {a b off : Int} (t p : Nat) (hq : qm_fetch x.2.2.2.2.2.2.2 pc = some (pc, .if_icmp .eq off, 3, r1, r2, r3, rv)) (ht : qm_to pc off = some t) (hp : pc + 3 = p) (ra : -2147483648 ≤ a ∧ a ≤ 2147483647) (rb : -2147483648 ≤ b ∧ b ≤ 2147483647) (kt : a = b → qr_W X d x Q (t, ls, st, w, c, n)) (kf : ¬ a = b → qr_W X d x Q (p, ls, st, w, c, n)) : qr_W X d x Q (pc, ls, .int (qz b) :: .int (qz a) :: st, w, c, n) := by
  subst hp
  have h2 := qr_cond_eq ra rb
  cases hc : qm_cond .eq (qz a) (qz b) with
  | true =>
    refine qr_eff hq rfl rfl (s' := (t, ls, st, w, c, n)) ?_ (kt (h2.1 hc))
    show (if (3 : Nat) = 3 then (if qm_cond .eq (qz a) (qz b) = true then qm_jump pc off ls st w c n else qm_go (pc + 3) ls st w c n) else none) = _
    rw [if_pos rfl, if_pos hc]
    unfold qm_jump
    rw [ht]
    rfl
  | false =>
    refine qr_eff hq rfl rfl (s' := (pc + 3, ls, st, w, c, n)) ?_ (kf (h2.2 hc))
    show (if (3 : Nat) = 3 then (if qm_cond .eq (qz a) (qz b) = true then qm_jump pc off ls st w c n else qm_go (pc + 3) ls st w c n) else none) = _
    rw [if_pos rfl, if_neg (by rw [hc]; decide)]
    rfl
theorem qr_if_eq {a off : Int} (t p : Nat) (hq : qm_fetch x.2.2.2.2.2.2.2 pc = some (pc, .ifCond .eq off, 3, r1, r2, r3, rv)) (ht : qm_to pc off = some t) (hp : pc + 3 = p) (ra : -2147483648 ≤ a ∧ a ≤ 2147483647) (kt : a = 0 → qr_W X d x Q (t, ls, st, w, c, n)) (kf : ¬ a = 0 → qr_W X d x Q (p, ls, st, w, c, n)) : qr_W X d x Q (pc, ls, .int (qz a) :: st, w, c, n) := by
  subst hp
  have h2 := qr_cond_eq ra (b := 0) ⟨by decide, by decide⟩
  rw [show qz 0 = 0 from rfl] at h2
  cases hc : qm_cond .eq (qz a) 0 with
  | true =>
    refine qr_eff hq rfl rfl (s' := (t, ls, st, w, c, n)) ?_ (kt (h2.1 hc))
    show (if (3 : Nat) = 3 then (if qm_cond .eq (qz a) 0 = true then qm_jump pc off ls st w c n else qm_go (pc + 3) ls st w c n) else none) = _
    rw [if_pos rfl, if_pos hc]
    unfold qm_jump
    rw [ht]
    rfl
  | false =>
    refine qr_eff hq rfl rfl (s' := (pc + 3, ls, st, w, c, n)) ?_ (kf (h2.2 hc))
    show (if (3 : Nat) = 3 then (if qm_cond .eq (qz a) 0 = true then qm_jump pc off ls st w c n else qm_go (pc + 3) ls st w c n) else none) = _
    rw [if_pos rfl, if_neg (by rw [hc]; decide)]
    rfl
theorem qr_cond_ne {a b : Int} (ra : -2147483648 ≤ a ∧ a ≤ 2147483647) (rb : -2147483648 ≤ b ∧ b ≤ 2147483647) : (qm_cond .ne (qz a) (qz b) = true → ¬ a = b) ∧ (qm_cond .ne (qz a) (qz b) = false → a = b) := by
  unfold qm_cond
  have e := qz_eq ra rb
  constructor
  · intro h
    have h := of_decide_eq_true h
    exact fun g => h (e.mpr g)
  · intro h
    have h := of_decide_eq_false h
    exact Classical.byContradiction fun g => h (fun z => g (e.mp z))
theorem qr_icmp_ne {a b off : Int} (t p : Nat) (hq : qm_fetch x.2.2.2.2.2.2.2 pc = some (pc, .if_icmp .ne off, 3, r1, r2, r3, rv)) (ht : qm_to pc off = some t) (hp : pc + 3 = p) (ra : -2147483648 ≤ a ∧ a ≤ 2147483647) (rb : -2147483648 ≤ b ∧ b ≤ 2147483647) (kt : ¬ a = b → qr_W X d x Q (t, ls, st, w, c, n)) (kf : a = b → qr_W X d x Q (p, ls, st, w, c, n)) : qr_W X d x Q (pc, ls, .int (qz b) :: .int (qz a) :: st, w, c, n) := by
  subst hp
  have h2 := qr_cond_ne ra rb
  cases hc : qm_cond .ne (qz a) (qz b) with
  | true =>
    refine qr_eff hq rfl rfl (s' := (t, ls, st, w, c, n)) ?_ (kt (h2.1 hc))
    show (if (3 : Nat) = 3 then (if qm_cond .ne (qz a) (qz b) = true then qm_jump pc off ls st w c n else qm_go (pc + 3) ls st w c n) else none) = _
    rw [if_pos rfl, if_pos hc]
    unfold qm_jump
    rw [ht]
    rfl
  | false =>
    refine qr_eff hq rfl rfl (s' := (pc + 3, ls, st, w, c, n)) ?_ (kf (h2.2 hc))
    show (if (3 : Nat) = 3 then (if qm_cond .ne (qz a) (qz b) = true then qm_jump pc off ls st w c n else qm_go (pc + 3) ls st w c n) else none) = _
    rw [if_pos rfl, if_neg (by rw [hc]; decide)]
    rfl
theorem qr_if_ne {a off : Int} (t p : Nat) (hq : qm_fetch x.2.2.2.2.2.2.2 pc = some (pc, .ifCond .ne off, 3, r1, r2, r3, rv)) (ht : qm_to pc off = some t) (hp : pc + 3 = p) (ra : -2147483648 ≤ a ∧ a ≤ 2147483647) (kt : ¬ a = 0 → qr_W X d x Q (t, ls, st, w, c, n)) (kf : a = 0 → qr_W X d x Q (p, ls, st, w, c, n)) : qr_W X d x Q (pc, ls, .int (qz a) :: st, w, c, n) := by
  subst hp
  have h2 := qr_cond_ne ra (b := 0) ⟨by decide, by decide⟩
  rw [show qz 0 = 0 from rfl] at h2
  cases hc : qm_cond .ne (qz a) 0 with
  | true =>
    refine qr_eff hq rfl rfl (s' := (t, ls, st, w, c, n)) ?_ (kt (h2.1 hc))
    show (if (3 : Nat) = 3 then (if qm_cond .ne (qz a) 0 = true then qm_jump pc off ls st w c n else qm_go (pc + 3) ls st w c n) else none) = _
    rw [if_pos rfl, if_pos hc]
    unfold qm_jump
    rw [ht]
    rfl
  | false =>
    refine qr_eff hq rfl rfl (s' := (pc + 3, ls, st, w, c, n)) ?_ (kf (h2.2 hc))
    show (if (3 : Nat) = 3 then (if qm_cond .ne (qz a) 0 = true then qm_jump pc off ls st w c n else qm_go (pc + 3) ls st w c n) else none) = _
    rw [if_pos rfl, if_neg (by rw [hc]; decide)]
    rfl
theorem qr_cond_lt {a b : Int} (ra : -2147483648 ≤ a ∧ a ≤ 2147483647) (rb : -2147483648 ≤ b ∧ b ≤ 2147483647) : (qm_cond .lt (qz a) (qz b) = true → a < b) ∧ (qm_cond .lt (qz a) (qz b) = false → b ≤ a) := by
  unfold qm_cond
  have e := qz_lt ra rb
  constructor
  · intro h
    have h := of_decide_eq_true h
    exact e.mp h
  · intro h
    have h := of_decide_eq_false h
    have : ¬ (a < b) := fun g => h (e.mpr g)
    omega
theorem qr_icmp_lt {a b off : Int} (t p : Nat) (hq : qm_fetch x.2.2.2.2.2.2.2 pc = some (pc, .if_icmp .lt off, 3, r1, r2, r3, rv)) (ht : qm_to pc off = some t) (hp : pc + 3 = p) (ra : -2147483648 ≤ a ∧ a ≤ 2147483647) (rb : -2147483648 ≤ b ∧ b ≤ 2147483647) (kt : a < b → qr_W X d x Q (t, ls, st, w, c, n)) (kf : b ≤ a → qr_W X d x Q (p, ls, st, w, c, n)) : qr_W X d x Q (pc, ls, .int (qz b) :: .int (qz a) :: st, w, c, n) := by
  subst hp
  have h2 := qr_cond_lt ra rb
  cases hc : qm_cond .lt (qz a) (qz b) with
  | true =>
    refine qr_eff hq rfl rfl (s' := (t, ls, st, w, c, n)) ?_ (kt (h2.1 hc))
    show (if (3 : Nat) = 3 then (if qm_cond .lt (qz a) (qz b) = true then qm_jump pc off ls st w c n else qm_go (pc + 3) ls st w c n) else none) = _
    rw [if_pos rfl, if_pos hc]
    unfold qm_jump
    rw [ht]
    rfl
  | false =>
    refine qr_eff hq rfl rfl (s' := (pc + 3, ls, st, w, c, n)) ?_ (kf (h2.2 hc))
    show (if (3 : Nat) = 3 then (if qm_cond .lt (qz a) (qz b) = true then qm_jump pc off ls st w c n else qm_go (pc + 3) ls st w c n) else none) = _
    rw [if_pos rfl, if_neg (by rw [hc]; decide)]
    rfl
theorem qr_if_lt {a off : Int} (t p : Nat) (hq : qm_fetch x.2.2.2.2.2.2.2 pc = some (pc, .ifCond .lt off, 3, r1, r2, r3, rv)) (ht : qm_to pc off = some t) (hp : pc + 3 = p) (ra : -2147483648 ≤ a ∧ a ≤ 2147483647) (kt : a < 0 → qr_W X d x Q (t, ls, st, w, c, n)) (kf : 0 ≤ a → qr_W X d x Q (p, ls, st, w, c, n)) : qr_W X d x Q (pc, ls, .int (qz a) :: st, w, c, n) := by
  subst hp
  have h2 := qr_cond_lt ra (b := 0) ⟨by decide, by decide⟩
  rw [show qz 0 = 0 from rfl] at h2
  cases hc : qm_cond .lt (qz a) 0 with
  | true =>
    refine qr_eff hq rfl rfl (s' := (t, ls, st, w, c, n)) ?_ (kt (h2.1 hc))
    show (if (3 : Nat) = 3 then (if qm_cond .lt (qz a) 0 = true then qm_jump pc off ls st w c n else qm_go (pc + 3) ls st w c n) else none) = _
    rw [if_pos rfl, if_pos hc]
    unfold qm_jump
    rw [ht]
    rfl
  | false =>
    refine qr_eff hq rfl rfl (s' := (pc + 3, ls, st, w, c, n)) ?_ (kf (h2.2 hc))
    show (if (3 : Nat) = 3 then (if qm_cond .lt (qz a) 0 = true then qm_jump pc off ls st w c n else qm_go (pc + 3) ls st w c n) else none) = _
    rw [if_pos rfl, if_neg (by rw [hc]; decide)]
    rfl
theorem qr_cond_ge {a b : Int} (ra : -2147483648 ≤ a ∧ a ≤ 2147483647) (rb : -2147483648 ≤ b ∧ b ≤ 2147483647) : (qm_cond .ge (qz a) (qz b) = true → b ≤ a) ∧ (qm_cond .ge (qz a) (qz b) = false → a < b) := by
  unfold qm_cond
  have e := qz_le rb ra
  constructor
  · intro h
    have h := of_decide_eq_true h
    exact e.mp h
  · intro h
    have h := of_decide_eq_false h
    have : ¬ (b ≤ a) := fun g => h (e.mpr g)
    omega
theorem qr_icmp_ge {a b off : Int} (t p : Nat) (hq : qm_fetch x.2.2.2.2.2.2.2 pc = some (pc, .if_icmp .ge off, 3, r1, r2, r3, rv)) (ht : qm_to pc off = some t) (hp : pc + 3 = p) (ra : -2147483648 ≤ a ∧ a ≤ 2147483647) (rb : -2147483648 ≤ b ∧ b ≤ 2147483647) (kt : b ≤ a → qr_W X d x Q (t, ls, st, w, c, n)) (kf : a < b → qr_W X d x Q (p, ls, st, w, c, n)) : qr_W X d x Q (pc, ls, .int (qz b) :: .int (qz a) :: st, w, c, n) := by
  subst hp
  have h2 := qr_cond_ge ra rb
  cases hc : qm_cond .ge (qz a) (qz b) with
  | true =>
    refine qr_eff hq rfl rfl (s' := (t, ls, st, w, c, n)) ?_ (kt (h2.1 hc))
    show (if (3 : Nat) = 3 then (if qm_cond .ge (qz a) (qz b) = true then qm_jump pc off ls st w c n else qm_go (pc + 3) ls st w c n) else none) = _
    rw [if_pos rfl, if_pos hc]
    unfold qm_jump
    rw [ht]
    rfl
  | false =>
    refine qr_eff hq rfl rfl (s' := (pc + 3, ls, st, w, c, n)) ?_ (kf (h2.2 hc))
    show (if (3 : Nat) = 3 then (if qm_cond .ge (qz a) (qz b) = true then qm_jump pc off ls st w c n else qm_go (pc + 3) ls st w c n) else none) = _
    rw [if_pos rfl, if_neg (by rw [hc]; decide)]
    rfl
theorem qr_if_ge {a off : Int} (t p : Nat) (hq : qm_fetch x.2.2.2.2.2.2.2 pc = some (pc, .ifCond .ge off, 3, r1, r2, r3, rv)) (ht : qm_to pc off = some t) (hp : pc + 3 = p) (ra : -2147483648 ≤ a ∧ a ≤ 2147483647) (kt : 0 ≤ a → qr_W X d x Q (t, ls, st, w, c, n)) (kf : a < 0 → qr_W X d x Q (p, ls, st, w, c, n)) : qr_W X d x Q (pc, ls, .int (qz a) :: st, w, c, n) := by
  subst hp
  have h2 := qr_cond_ge ra (b := 0) ⟨by decide, by decide⟩
  rw [show qz 0 = 0 from rfl] at h2
  cases hc : qm_cond .ge (qz a) 0 with
  | true =>
    refine qr_eff hq rfl rfl (s' := (t, ls, st, w, c, n)) ?_ (kt (h2.1 hc))
    show (if (3 : Nat) = 3 then (if qm_cond .ge (qz a) 0 = true then qm_jump pc off ls st w c n else qm_go (pc + 3) ls st w c n) else none) = _
    rw [if_pos rfl, if_pos hc]
    unfold qm_jump
    rw [ht]
    rfl
  | false =>
    refine qr_eff hq rfl rfl (s' := (pc + 3, ls, st, w, c, n)) ?_ (kf (h2.2 hc))
    show (if (3 : Nat) = 3 then (if qm_cond .ge (qz a) 0 = true then qm_jump pc off ls st w c n else qm_go (pc + 3) ls st w c n) else none) = _
    rw [if_pos rfl, if_neg (by rw [hc]; decide)]
    rfl
theorem qr_cond_gt {a b : Int} (ra : -2147483648 ≤ a ∧ a ≤ 2147483647) (rb : -2147483648 ≤ b ∧ b ≤ 2147483647) : (qm_cond .gt (qz a) (qz b) = true → b < a) ∧ (qm_cond .gt (qz a) (qz b) = false → a ≤ b) := by
  unfold qm_cond
  have e := qz_lt rb ra
  constructor
  · intro h
    have h := of_decide_eq_true h
    exact e.mp h
  · intro h
    have h := of_decide_eq_false h
    have : ¬ (b < a) := fun g => h (e.mpr g)
    omega
theorem qr_icmp_gt {a b off : Int} (t p : Nat) (hq : qm_fetch x.2.2.2.2.2.2.2 pc = some (pc, .if_icmp .gt off, 3, r1, r2, r3, rv)) (ht : qm_to pc off = some t) (hp : pc + 3 = p) (ra : -2147483648 ≤ a ∧ a ≤ 2147483647) (rb : -2147483648 ≤ b ∧ b ≤ 2147483647) (kt : b < a → qr_W X d x Q (t, ls, st, w, c, n)) (kf : a ≤ b → qr_W X d x Q (p, ls, st, w, c, n)) : qr_W X d x Q (pc, ls, .int (qz b) :: .int (qz a) :: st, w, c, n) := by
  subst hp
  have h2 := qr_cond_gt ra rb
  cases hc : qm_cond .gt (qz a) (qz b) with
  | true =>
    refine qr_eff hq rfl rfl (s' := (t, ls, st, w, c, n)) ?_ (kt (h2.1 hc))
    show (if (3 : Nat) = 3 then (if qm_cond .gt (qz a) (qz b) = true then qm_jump pc off ls st w c n else qm_go (pc + 3) ls st w c n) else none) = _
    rw [if_pos rfl, if_pos hc]
    unfold qm_jump
    rw [ht]
    rfl
  | false =>
    refine qr_eff hq rfl rfl (s' := (pc + 3, ls, st, w, c, n)) ?_ (kf (h2.2 hc))
    show (if (3 : Nat) = 3 then (if qm_cond .gt (qz a) (qz b) = true then qm_jump pc off ls st w c n else qm_go (pc + 3) ls st w c n) else none) = _
    rw [if_pos rfl, if_neg (by rw [hc]; decide)]
    rfl
theorem qr_if_gt {a off : Int} (t p : Nat) (hq : qm_fetch x.2.2.2.2.2.2.2 pc = some (pc, .ifCond .gt off, 3, r1, r2, r3, rv)) (ht : qm_to pc off = some t) (hp : pc + 3 = p) (ra : -2147483648 ≤ a ∧ a ≤ 2147483647) (kt : 0 < a → qr_W X d x Q (t, ls, st, w, c, n)) (kf : a ≤ 0 → qr_W X d x Q (p, ls, st, w, c, n)) : qr_W X d x Q (pc, ls, .int (qz a) :: st, w, c, n) := by
  subst hp
  have h2 := qr_cond_gt ra (b := 0) ⟨by decide, by decide⟩
  rw [show qz 0 = 0 from rfl] at h2
  cases hc : qm_cond .gt (qz a) 0 with
  | true =>
    refine qr_eff hq rfl rfl (s' := (t, ls, st, w, c, n)) ?_ (kt (h2.1 hc))
    show (if (3 : Nat) = 3 then (if qm_cond .gt (qz a) 0 = true then qm_jump pc off ls st w c n else qm_go (pc + 3) ls st w c n) else none) = _
    rw [if_pos rfl, if_pos hc]
    unfold qm_jump
    rw [ht]
    rfl
  | false =>
    refine qr_eff hq rfl rfl (s' := (pc + 3, ls, st, w, c, n)) ?_ (kf (h2.2 hc))
    show (if (3 : Nat) = 3 then (if qm_cond .gt (qz a) 0 = true then qm_jump pc off ls st w c n else qm_go (pc + 3) ls st w c n) else none) = _
    rw [if_pos rfl, if_neg (by rw [hc]; decide)]
    rfl
theorem qr_cond_le {a b : Int} (ra : -2147483648 ≤ a ∧ a ≤ 2147483647) (rb : -2147483648 ≤ b ∧ b ≤ 2147483647) : (qm_cond .le (qz a) (qz b) = true → a ≤ b) ∧ (qm_cond .le (qz a) (qz b) = false → b < a) := by
  unfold qm_cond
  have e := qz_le ra rb
  constructor
  · intro h
    have h := of_decide_eq_true h
    exact e.mp h
  · intro h
    have h := of_decide_eq_false h
    have : ¬ (a ≤ b) := fun g => h (e.mpr g)
    omega
theorem qr_icmp_le {a b off : Int} (t p : Nat) (hq : qm_fetch x.2.2.2.2.2.2.2 pc = some (pc, .if_icmp .le off, 3, r1, r2, r3, rv)) (ht : qm_to pc off = some t) (hp : pc + 3 = p) (ra : -2147483648 ≤ a ∧ a ≤ 2147483647) (rb : -2147483648 ≤ b ∧ b ≤ 2147483647) (kt : a ≤ b → qr_W X d x Q (t, ls, st, w, c, n)) (kf : b < a → qr_W X d x Q (p, ls, st, w, c, n)) : qr_W X d x Q (pc, ls, .int (qz b) :: .int (qz a) :: st, w, c, n) := by
  subst hp
  have h2 := qr_cond_le ra rb
  cases hc : qm_cond .le (qz a) (qz b) with
  | true =>
    refine qr_eff hq rfl rfl (s' := (t, ls, st, w, c, n)) ?_ (kt (h2.1 hc))
    show (if (3 : Nat) = 3 then (if qm_cond .le (qz a) (qz b) = true then qm_jump pc off ls st w c n else qm_go (pc + 3) ls st w c n) else none) = _
    rw [if_pos rfl, if_pos hc]
    unfold qm_jump
    rw [ht]
    rfl
  | false =>
    refine qr_eff hq rfl rfl (s' := (pc + 3, ls, st, w, c, n)) ?_ (kf (h2.2 hc))
    show (if (3 : Nat) = 3 then (if qm_cond .le (qz a) (qz b) = true then qm_jump pc off ls st w c n else qm_go (pc + 3) ls st w c n) else none) = _
    rw [if_pos rfl, if_neg (by rw [hc]; decide)]
    rfl
theorem qr_if_le {a off : Int} (t p : Nat) (hq : qm_fetch x.2.2.2.2.2.2.2 pc = some (pc, .ifCond .le off, 3, r1, r2, r3, rv)) (ht : qm_to pc off = some t) (hp : pc + 3 = p) (ra : -2147483648 ≤ a ∧ a ≤ 2147483647) (kt : a ≤ 0 → qr_W X d x Q (t, ls, st, w, c, n)) (kf : 0 < a → qr_W X d x Q (p, ls, st, w, c, n)) : qr_W X d x Q (pc, ls, .int (qz a) :: st, w, c, n) := by
  subst hp
  have h2 := qr_cond_le ra (b := 0) ⟨by decide, by decide⟩
  rw [show qz 0 = 0 from rfl] at h2
  cases hc : qm_cond .le (qz a) 0 with
  | true =>
    refine qr_eff hq rfl rfl (s' := (t, ls, st, w, c, n)) ?_ (kt (h2.1 hc))
    show (if (3 : Nat) = 3 then (if qm_cond .le (qz a) 0 = true then qm_jump pc off ls st w c n else qm_go (pc + 3) ls st w c n) else none) = _
    rw [if_pos rfl, if_pos hc]
    unfold qm_jump
    rw [ht]
    rfl
  | false =>
    refine qr_eff hq rfl rfl (s' := (pc + 3, ls, st, w, c, n)) ?_ (kf (h2.2 hc))
    show (if (3 : Nat) = 3 then (if qm_cond .le (qz a) 0 = true then qm_jump pc off ls st w c n else qm_go (pc + 3) ls st w c n) else none) = _
    rw [if_pos rfl, if_neg (by rw [hc]; decide)]
    rfl
theorem qr_goto {off : Int} (t : Nat) (hq : qm_fetch x.2.2.2.2.2.2.2 pc = some (pc, .goto off, 3, r1, r2, r3, rv)) (ht : qm_to pc off = some t) (k : qr_W X d x Q (t, ls, st, w, c, n)) : qr_W X d x Q (pc, ls, st, w, c, n) := by
  refine qr_eff hq rfl rfl (s' := (t, ls, st, w, c, n)) ?_ k
  show (if (3 : Nat) = 3 then qm_jump pc off ls st w c n else none) = _
  rw [if_pos rfl]
  unfold qm_jump
  rw [ht]
  rfl
theorem qr_lc_eq {a b off : Int} {s1 s2 s3 : Nat} {sv : Value} (t p : Nat) (hq : qm_fetch x.2.2.2.2.2.2.2 pc = some (pc, .lcmp, 1, r1, r2, r3, rv)) (hq2 : qm_fetch x.2.2.2.2.2.2.2 (pc + 1) = some (pc + 1, .ifCond .eq off, 3, s1, s2, s3, sv)) (ht : qm_to (pc + 1) off = some t) (hp : pc + 1 + 3 = p) (ra : -9223372036854775808 ≤ a ∧ a ≤ 9223372036854775807) (rb : -9223372036854775808 ≤ b ∧ b ≤ 9223372036854775807) (kt : a = b → qr_W X d x Q (t, ls, st, w, c, n)) (kf : ¬ a = b → qr_W X d x Q (p, ls, st, w, c, n)) : qr_W X d x Q (pc, ls, .long (ql b) :: .long (ql a) :: st, w, c, n) := by
  have e : lg_cmp (ql a) (ql b) = qz (if b < a then 1 else if a < b then -1 else 0) := by
    unfold lg_cmp
    by_cases h1 : b < a
    · rw [if_pos ((ql_lt rb ra).mpr h1), if_pos h1]
      rfl
    · rw [if_neg (fun h => h1 ((ql_lt rb ra).mp h)), if_neg h1]
      by_cases h2 : a < b
      · rw [if_pos h2]
        by_cases h3 : ql a = ql b
        · have := (ql_eq ra rb).mp h3
          omega
        · first
            | rw [if_neg h3]; rfl
            | rw [if_pos ((ql_lt ra rb).mpr h2)]; rfl
            | simp [h3]; rfl
      · rw [if_neg h2]
        have h3 : a = b := by omega
        subst h3
        first
          | rw [if_pos rfl]; rfl
          | rw [if_neg (fun h => h2 ((ql_lt ra ra).mp h))]; rfl
          | simp; rfl
  refine qr_eff hq rfl rfl (s' := (pc + 1, ls, .int (qz (if b < a then 1 else if a < b then -1 else 0)) :: st, w, c, n)) ?_ ?_
  · show some (pc + 1, ls, Value.int (lg_cmp (ql a) (ql b)) :: st, w, c, n) = _
    rw [e]
  · refine qr_if_eq t p hq2 ht hp ?_ (fun h => kt ?_) (fun h => kf ?_)
    · split
      · omega
      · split <;> omega
    · revert h
      split
      · intro h; omega
      · split <;> intro h <;> omega
    · revert h
      split
      · intro h; omega
      · split <;> intro h <;> omega
theorem qr_lc_ne {a b off : Int} {s1 s2 s3 : Nat} {sv : Value} (t p : Nat) (hq : qm_fetch x.2.2.2.2.2.2.2 pc = some (pc, .lcmp, 1, r1, r2, r3, rv)) (hq2 : qm_fetch x.2.2.2.2.2.2.2 (pc + 1) = some (pc + 1, .ifCond .ne off, 3, s1, s2, s3, sv)) (ht : qm_to (pc + 1) off = some t) (hp : pc + 1 + 3 = p) (ra : -9223372036854775808 ≤ a ∧ a ≤ 9223372036854775807) (rb : -9223372036854775808 ≤ b ∧ b ≤ 9223372036854775807) (kt : ¬ a = b → qr_W X d x Q (t, ls, st, w, c, n)) (kf : a = b → qr_W X d x Q (p, ls, st, w, c, n)) : qr_W X d x Q (pc, ls, .long (ql b) :: .long (ql a) :: st, w, c, n) := by
  have e : lg_cmp (ql a) (ql b) = qz (if b < a then 1 else if a < b then -1 else 0) := by
    unfold lg_cmp
    by_cases h1 : b < a
    · rw [if_pos ((ql_lt rb ra).mpr h1), if_pos h1]
      rfl
    · rw [if_neg (fun h => h1 ((ql_lt rb ra).mp h)), if_neg h1]
      by_cases h2 : a < b
      · rw [if_pos h2]
        by_cases h3 : ql a = ql b
        · have := (ql_eq ra rb).mp h3
          omega
        · first
            | rw [if_neg h3]; rfl
            | rw [if_pos ((ql_lt ra rb).mpr h2)]; rfl
            | simp [h3]; rfl
      · rw [if_neg h2]
        have h3 : a = b := by omega
        subst h3
        first
          | rw [if_pos rfl]; rfl
          | rw [if_neg (fun h => h2 ((ql_lt ra ra).mp h))]; rfl
          | simp; rfl
  refine qr_eff hq rfl rfl (s' := (pc + 1, ls, .int (qz (if b < a then 1 else if a < b then -1 else 0)) :: st, w, c, n)) ?_ ?_
  · show some (pc + 1, ls, Value.int (lg_cmp (ql a) (ql b)) :: st, w, c, n) = _
    rw [e]
  · refine qr_if_ne t p hq2 ht hp ?_ (fun h => kt ?_) (fun h => kf ?_)
    · split
      · omega
      · split <;> omega
    · revert h
      split
      · intro h; omega
      · split <;> intro h <;> omega
    · revert h
      split
      · intro h; omega
      · split <;> intro h <;> omega
theorem qr_lc_lt {a b off : Int} {s1 s2 s3 : Nat} {sv : Value} (t p : Nat) (hq : qm_fetch x.2.2.2.2.2.2.2 pc = some (pc, .lcmp, 1, r1, r2, r3, rv)) (hq2 : qm_fetch x.2.2.2.2.2.2.2 (pc + 1) = some (pc + 1, .ifCond .lt off, 3, s1, s2, s3, sv)) (ht : qm_to (pc + 1) off = some t) (hp : pc + 1 + 3 = p) (ra : -9223372036854775808 ≤ a ∧ a ≤ 9223372036854775807) (rb : -9223372036854775808 ≤ b ∧ b ≤ 9223372036854775807) (kt : a < b → qr_W X d x Q (t, ls, st, w, c, n)) (kf : b ≤ a → qr_W X d x Q (p, ls, st, w, c, n)) : qr_W X d x Q (pc, ls, .long (ql b) :: .long (ql a) :: st, w, c, n) := by
  have e : lg_cmp (ql a) (ql b) = qz (if b < a then 1 else if a < b then -1 else 0) := by
    unfold lg_cmp
    by_cases h1 : b < a
    · rw [if_pos ((ql_lt rb ra).mpr h1), if_pos h1]
      rfl
    · rw [if_neg (fun h => h1 ((ql_lt rb ra).mp h)), if_neg h1]
      by_cases h2 : a < b
      · rw [if_pos h2]
        by_cases h3 : ql a = ql b
        · have := (ql_eq ra rb).mp h3
          omega
        · first
            | rw [if_neg h3]; rfl
            | rw [if_pos ((ql_lt ra rb).mpr h2)]; rfl
            | simp [h3]; rfl
      · rw [if_neg h2]
        have h3 : a = b := by omega
        subst h3
        first
          | rw [if_pos rfl]; rfl
          | rw [if_neg (fun h => h2 ((ql_lt ra ra).mp h))]; rfl
          | simp; rfl
  refine qr_eff hq rfl rfl (s' := (pc + 1, ls, .int (qz (if b < a then 1 else if a < b then -1 else 0)) :: st, w, c, n)) ?_ ?_
  · show some (pc + 1, ls, Value.int (lg_cmp (ql a) (ql b)) :: st, w, c, n) = _
    rw [e]
  · refine qr_if_lt t p hq2 ht hp ?_ (fun h => kt ?_) (fun h => kf ?_)
    · split
      · omega
      · split <;> omega
    · revert h
      split
      · intro h; omega
      · split <;> intro h <;> omega
    · revert h
      split
      · intro h; omega
      · split <;> intro h <;> omega
theorem qr_lc_ge {a b off : Int} {s1 s2 s3 : Nat} {sv : Value} (t p : Nat) (hq : qm_fetch x.2.2.2.2.2.2.2 pc = some (pc, .lcmp, 1, r1, r2, r3, rv)) (hq2 : qm_fetch x.2.2.2.2.2.2.2 (pc + 1) = some (pc + 1, .ifCond .ge off, 3, s1, s2, s3, sv)) (ht : qm_to (pc + 1) off = some t) (hp : pc + 1 + 3 = p) (ra : -9223372036854775808 ≤ a ∧ a ≤ 9223372036854775807) (rb : -9223372036854775808 ≤ b ∧ b ≤ 9223372036854775807) (kt : b ≤ a → qr_W X d x Q (t, ls, st, w, c, n)) (kf : a < b → qr_W X d x Q (p, ls, st, w, c, n)) : qr_W X d x Q (pc, ls, .long (ql b) :: .long (ql a) :: st, w, c, n) := by
  have e : lg_cmp (ql a) (ql b) = qz (if b < a then 1 else if a < b then -1 else 0) := by
    unfold lg_cmp
    by_cases h1 : b < a
    · rw [if_pos ((ql_lt rb ra).mpr h1), if_pos h1]
      rfl
    · rw [if_neg (fun h => h1 ((ql_lt rb ra).mp h)), if_neg h1]
      by_cases h2 : a < b
      · rw [if_pos h2]
        by_cases h3 : ql a = ql b
        · have := (ql_eq ra rb).mp h3
          omega
        · first
            | rw [if_neg h3]; rfl
            | rw [if_pos ((ql_lt ra rb).mpr h2)]; rfl
            | simp [h3]; rfl
      · rw [if_neg h2]
        have h3 : a = b := by omega
        subst h3
        first
          | rw [if_pos rfl]; rfl
          | rw [if_neg (fun h => h2 ((ql_lt ra ra).mp h))]; rfl
          | simp; rfl
  refine qr_eff hq rfl rfl (s' := (pc + 1, ls, .int (qz (if b < a then 1 else if a < b then -1 else 0)) :: st, w, c, n)) ?_ ?_
  · show some (pc + 1, ls, Value.int (lg_cmp (ql a) (ql b)) :: st, w, c, n) = _
    rw [e]
  · refine qr_if_ge t p hq2 ht hp ?_ (fun h => kt ?_) (fun h => kf ?_)
    · split
      · omega
      · split <;> omega
    · revert h
      split
      · intro h; omega
      · split <;> intro h <;> omega
    · revert h
      split
      · intro h; omega
      · split <;> intro h <;> omega
theorem qr_lc_gt {a b off : Int} {s1 s2 s3 : Nat} {sv : Value} (t p : Nat) (hq : qm_fetch x.2.2.2.2.2.2.2 pc = some (pc, .lcmp, 1, r1, r2, r3, rv)) (hq2 : qm_fetch x.2.2.2.2.2.2.2 (pc + 1) = some (pc + 1, .ifCond .gt off, 3, s1, s2, s3, sv)) (ht : qm_to (pc + 1) off = some t) (hp : pc + 1 + 3 = p) (ra : -9223372036854775808 ≤ a ∧ a ≤ 9223372036854775807) (rb : -9223372036854775808 ≤ b ∧ b ≤ 9223372036854775807) (kt : b < a → qr_W X d x Q (t, ls, st, w, c, n)) (kf : a ≤ b → qr_W X d x Q (p, ls, st, w, c, n)) : qr_W X d x Q (pc, ls, .long (ql b) :: .long (ql a) :: st, w, c, n) := by
  have e : lg_cmp (ql a) (ql b) = qz (if b < a then 1 else if a < b then -1 else 0) := by
    unfold lg_cmp
    by_cases h1 : b < a
    · rw [if_pos ((ql_lt rb ra).mpr h1), if_pos h1]
      rfl
    · rw [if_neg (fun h => h1 ((ql_lt rb ra).mp h)), if_neg h1]
      by_cases h2 : a < b
      · rw [if_pos h2]
        by_cases h3 : ql a = ql b
        · have := (ql_eq ra rb).mp h3
          omega
        · first
            | rw [if_neg h3]; rfl
            | rw [if_pos ((ql_lt ra rb).mpr h2)]; rfl
            | simp [h3]; rfl
      · rw [if_neg h2]
        have h3 : a = b := by omega
        subst h3
        first
          | rw [if_pos rfl]; rfl
          | rw [if_neg (fun h => h2 ((ql_lt ra ra).mp h))]; rfl
          | simp; rfl
  refine qr_eff hq rfl rfl (s' := (pc + 1, ls, .int (qz (if b < a then 1 else if a < b then -1 else 0)) :: st, w, c, n)) ?_ ?_
  · show some (pc + 1, ls, Value.int (lg_cmp (ql a) (ql b)) :: st, w, c, n) = _
    rw [e]
  · refine qr_if_gt t p hq2 ht hp ?_ (fun h => kt ?_) (fun h => kf ?_)
    · split
      · omega
      · split <;> omega
    · revert h
      split
      · intro h; omega
      · split <;> intro h <;> omega
    · revert h
      split
      · intro h; omega
      · split <;> intro h <;> omega
theorem qr_getst {z : Nat} (p : Nat) (hq : qm_fetch x.2.2.2.2.2.2.2 pc = some (pc, .getstatic z, 3, r1, r2, 0, rv)) (hp : pc + 3 = p) (k : qr_W X d x Q (p, ls, rv :: st, w, c, n)) : qr_W X d x Q (pc, ls, st, w, c, n) := by
  subst hp
  exact qr_eff hq rfl rfl (s' := (pc + 3, ls, rv :: st, w, c, n)) rfl k
theorem qr_getst1 {z : Nat} (p : Nat) (hq : qm_fetch x.2.2.2.2.2.2.2 pc = some (pc, .getstatic z, 3, r1, r2, 1, rv)) (hp : pc + 3 = p) (k : qr_W X d x Q (p, ls, X.2 :: st, w, c, n)) : qr_W X d x Q (pc, ls, st, w, c, n) := by
  subst hp
  exact qr_eff hq rfl rfl (s' := (pc + 3, ls, X.2 :: st, w, c, n)) rfl k
theorem qr_get {z a : Nat} {fs : List Value} {v : Value} (p : Nat) (hq : qm_fetch x.2.2.2.2.2.2.2 pc = some (pc, .getfield z, 3, r1, r2, r3, rv)) (hc : qm_cell X w a = some (.inr (r1, fs))) (hv : fs[r2]? = some v) (h9 : ¬ r3 = 9) (hp : pc + 3 = p) (k : qr_W X d x Q (p, ls, v :: st, w, c, n)) : qr_W X d x Q (pc, ls, .ref a :: st, w, c, n) := by
  subst hp
  refine qr_eff hq rfl rfl (s' := (pc + 3, ls, v :: st, w, c, n)) ?_ k
  simp only [qm_eff, hc, hv, qm_go]
  exact if_pos ⟨(by first | rfl | trivial), (by first | rfl | trivial), h9⟩
def qr_N (ci : Nat) : Nat := match qx_cl[ci]? with | some q => q.2.2 | none => 0
theorem qr_pty {ci k : Nat} (h : k < qr_N ci) : parseFieldDescriptor (qx_T ci k).2.2.1 = some (qx_ty ci k) := by
  unfold qr_N at h
  split at h
  · rename_i q hq
    obtain ⟨h1, -, h2, -⟩ := qv_cls ci q hq
    rw [← h1]
    exact h2 k h
  · omega
theorem qr_put {z a : Nat} {fs : List Value} {v : Value} (p : Nat) (hq : qm_fetch x.2.2.2.2.2.2.2 pc = some (pc, .putfield z, 3, r1, r2, 0, rv)) (ha : 16 ≤ a) (hc : w[a - 16]? = some (.inr (r1, fs))) (hl : r2 < fs.length) (hN : r2 < qr_N r1) (hfin : (qx_T r1 r2).2.2.2 = false ∨ ((qm_M1 x).2.2.1 = true ∧ (qm_M1 x).2.2.2.1 = r1)) (hfit : qm_fitb (qx_ty r1 r2) v = true) (hp : pc + 3 = p) (k : qr_W X d x Q (p, ls, st, w.set (a - 16) (.inr (r1, fs.set r2 v)), c, n)) : qr_W X d x Q (pc, ls, v :: .ref a :: st, w, c, n) := by
  subst hp
  refine qr_eff hq rfl rfl (s' := (pc + 3, ls, st, w.set (a - 16) (.inr (r1, fs.set r2 v)), c, n)) ?_ k
  simp only [qm_eff, hc, qm_go]
  refine if_pos ⟨(by first | rfl | trivial), ha, (by first | rfl | trivial), (by first | rfl | trivial), hl, fun h => ?_, ?_⟩
  · rcases hfin with h1 | h1
    · rw [h] at h1; cases h1
    · exact h1
  · rw [qr_pty hN]
    exact hfit
theorem qr_fitI {ty : FieldType} (h : ty = .int) (v : Int32) : qm_fitb ty (.int v) = true := by
  subst h
  unfold qm_fitb
  rw [Bool.and_eq_true, decide_eq_true_eq]
  exact ⟨rfl, rfl⟩
theorem qr_fitL {ty : FieldType} (h : ty = .long) (v : Int64) : qm_fitb ty (.long v) = true := by
  subst h
  unfold qm_fitb
  rw [Bool.and_eq_true, decide_eq_true_eq]
  exact ⟨rfl, rfl⟩
theorem qr_fitZ {ty : FieldType} (h : ty = .boolean) {v : Int} (hv : v = 0 ∨ v = 1) : qm_fitb ty (.int (qz v)) = true := by
  subst h
  rcases hv with rfl | rfl <;> decide +kernel
theorem qr_fitR {ty : FieldType} (h : (∃ C, ty = .object C) ∨ ∃ t, ty = .array t) (a : Nat) : qm_fitb ty (.ref a) = true := by
  unfold qm_fitb
  rw [Bool.and_eq_true, decide_eq_true_eq]
  rcases h with ⟨C, rfl⟩ | ⟨t, rfl⟩ <;> exact ⟨rfl, rfl⟩
theorem qr_in {y : Int} {N : Nat} (hz : 0 ≤ y ∧ y < (N : Int)) (hN : N ≤ 1000000) : qm_in (qz y) N = true ∧ (qz y).toNatClampNeg = y.toNat := by
  have e := qz_clamp (z := y) (by omega)
  refine ⟨?_, e⟩
  unfold qm_in
  rw [Bool.and_eq_true, decide_eq_true_eq, decide_eq_true_eq, e]
  refine ⟨fun h => ?_, by omega⟩
  have := (qz_lt (a := y) (b := 0) (by omega) (by omega)).mp h
  omega
theorem qr_iaload {a N : Nat} {y : Int} {f : Nat → Int} (p : Nat) (hq : qm_fetch x.2.2.2.2.2.2.2 pc = some (pc, .iaload, 1, r1, r2, r3, rv)) (hc : qm_cell X w a = some (.inl (.int, N, .inl (qzf f)))) (hz : 0 ≤ y ∧ y < (N : Int)) (hN : N ≤ 1000000) (hp : pc + 1 = p) (k : qr_W X d x Q (p, ls, .int (qz (f y.toNat)) :: st, w, c, n)) : qr_W X d x Q (pc, ls, .int (qz y) :: .ref a :: st, w, c, n) := by
  subst hp
  obtain ⟨h1, h2⟩ := qr_in hz hN
  refine qr_eff hq rfl rfl (s' := (pc + 1, ls, .int (qz (f y.toNat)) :: st, w, c, n)) ?_ k
  simp only [qm_eff, hc, qm_go]
  rw [if_pos ⟨(by first | rfl | trivial), h1⟩, h2]
  rfl
theorem qr_baload {a N : Nat} {y : Int} {f : Nat → Int} (p : Nat) (hq : qm_fetch x.2.2.2.2.2.2.2 pc = some (pc, .baload, 1, r1, r2, r3, rv)) (ha : 16 ≤ a) (hc : qm_cell X w a = some (.inl (.boolean, N, .inl (qzf f)))) (hz : 0 ≤ y ∧ y < (N : Int)) (hN : N ≤ 1000000) (hp : pc + 1 = p) (k : qr_W X d x Q (p, ls, .int (qz (f y.toNat)) :: st, w, c, n)) : qr_W X d x Q (pc, ls, .int (qz y) :: .ref a :: st, w, c, n) := by
  subst hp
  obtain ⟨h1, h2⟩ := qr_in hz hN
  refine qr_eff hq rfl rfl (s' := (pc + 1, ls, .int (qz (f y.toNat)) :: st, w, c, n)) ?_ k
  simp only [qm_eff, hc, qm_go]
  rw [if_pos ⟨(by first | rfl | trivial), ha, h1⟩, h2]
  rfl
theorem qr_bbload {a N : Nat} {y : Int} {f : Nat → Int} (p : Nat) (hq : qm_fetch x.2.2.2.2.2.2.2 pc = some (pc, .baload, 1, r1, r2, r3, rv)) (ha : a < 16) (hc : qm_cell X w a = some (.inl (.byte, N, .inl (qzf f)))) (hz : 0 ≤ y ∧ y < (N : Int)) (hN : N ≤ 1000000) (hp : pc + 1 = p) (k : qr_W X d x Q (p, ls, .int (qz (f y.toNat)) :: st, w, c, n)) : qr_W X d x Q (pc, ls, .int (qz y) :: .ref a :: st, w, c, n) := by
  subst hp
  obtain ⟨h1, h2⟩ := qr_in hz hN
  refine qr_eff hq rfl rfl (s' := (pc + 1, ls, .int (qz (f y.toNat)) :: st, w, c, n)) ?_ k
  simp only [qm_eff, hc, qm_go]
  rw [if_pos ⟨(by first | rfl | trivial), ha, h1⟩, h2]
  rfl
theorem qr_laload {a N : Nat} {y : Int} {f : Nat → Int} (p : Nat) (hq : qm_fetch x.2.2.2.2.2.2.2 pc = some (pc, .laload, 1, r1, r2, r3, rv)) (ha : 16 ≤ a) (hc : w[a - 16]? = some (.inl (.long, N, .inr (.inl (qlf f))))) (hz : 0 ≤ y ∧ y < (N : Int)) (hN : N ≤ 1000000) (hp : pc + 1 = p) (k : qr_W X d x Q (p, ls, .long (ql (f y.toNat)) :: st, w, c, n)) : qr_W X d x Q (pc, ls, .int (qz y) :: .ref a :: st, w, c, n) := by
  subst hp
  obtain ⟨h1, h2⟩ := qr_in hz hN
  refine qr_eff hq rfl rfl (s' := (pc + 1, ls, .long (ql (f y.toNat)) :: st, w, c, n)) ?_ k
  simp only [qm_eff, hc, qm_go]
  rw [if_pos ⟨(by first | rfl | trivial), ha, h1⟩, h2]
  rfl
theorem qr_aaload {a N b : Nat} {y : Int} {f : Nat → Option Nat} (p : Nat) (hq : qm_fetch x.2.2.2.2.2.2.2 pc = some (pc, .aaload, 1, r1, r2, r3, rv)) (ha : 16 ≤ a) (hc : w[a - 16]? = some (.inl (.object "OneRoof$Custom", N, .inr (.inr (.inr (.inr f)))))) (hz : 0 ≤ y ∧ y < (N : Int)) (hN : N ≤ 1000000) (hf : f y.toNat = some b) (hp : pc + 1 = p) (k : qr_W X d x Q (p, ls, .ref b :: st, w, c, n)) : qr_W X d x Q (pc, ls, .int (qz y) :: .ref a :: st, w, c, n) := by
  subst hp
  obtain ⟨h1, h2⟩ := qr_in hz hN
  refine qr_eff hq rfl rfl (s' := (pc + 1, ls, .ref b :: st, w, c, n)) ?_ k
  simp only [qm_eff, hc, qm_go]
  rw [if_pos ⟨(by first | rfl | trivial), ha, (by first | rfl | trivial), h1⟩, h2, hf]
  rfl
theorem qr_iastore {a N : Nat} {y v : Int} {f : Nat → Int} (p : Nat) (hq : qm_fetch x.2.2.2.2.2.2.2 pc = some (pc, .iastore, 1, r1, r2, r3, rv)) (ha : 16 ≤ a) (hc : w[a - 16]? = some (.inl (.int, N, .inl (qzf f)))) (hz : 0 ≤ y ∧ y < (N : Int)) (hN : N ≤ 1000000) (hp : pc + 1 = p) (k : qr_W X d x Q (p, ls, st, w.set (a - 16) (.inl (.int, N, .inl (qzf (qzu f y.toNat v)))), c, n)) : qr_W X d x Q (pc, ls, .int (qz v) :: .int (qz y) :: .ref a :: st, w, c, n) := by
  subst hp
  obtain ⟨h1, h2⟩ := qr_in hz hN
  refine qr_eff hq rfl rfl (s' := (pc + 1, ls, st, w.set (a - 16) (.inl (.int, N, .inl (qzf (qzu f y.toNat v)))), c, n)) ?_ k
  simp only [qm_eff, hc, qm_go]
  rw [if_pos ⟨(by first | rfl | trivial), ha, h1⟩, h2, qz_u]
theorem qr_lastore {a N : Nat} {y v : Int} {f : Nat → Int} (p : Nat) (hq : qm_fetch x.2.2.2.2.2.2.2 pc = some (pc, .lastore, 1, r1, r2, r3, rv)) (ha : 16 ≤ a) (hc : w[a - 16]? = some (.inl (.long, N, .inr (.inl (qlf f))))) (hz : 0 ≤ y ∧ y < (N : Int)) (hN : N ≤ 1000000) (hp : pc + 1 = p) (k : qr_W X d x Q (p, ls, st, w.set (a - 16) (.inl (.long, N, .inr (.inl (qlf (qzu f y.toNat v))))), c, n)) : qr_W X d x Q (pc, ls, .long (ql v) :: .int (qz y) :: .ref a :: st, w, c, n) := by
  subst hp
  obtain ⟨h1, h2⟩ := qr_in hz hN
  refine qr_eff hq rfl rfl (s' := (pc + 1, ls, st, w.set (a - 16) (.inl (.long, N, .inr (.inl (qlf (qzu f y.toNat v))))), c, n)) ?_ k
  simp only [qm_eff, hc, qm_go]
  rw [if_pos ⟨(by first | rfl | trivial), ha, h1⟩, h2, ql_u]
theorem qr_bastore {a N : Nat} {y v : Int} {f : Nat → Int} (p : Nat) (hq : qm_fetch x.2.2.2.2.2.2.2 pc = some (pc, .bastore, 1, r1, r2, r3, rv)) (ha : 16 ≤ a) (hc : w[a - 16]? = some (.inl (.boolean, N, .inl (qzf f)))) (hz : 0 ≤ y ∧ y < (N : Int)) (hN : N ≤ 1000000) (hv : v = 0 ∨ v = 1) (hp : pc + 1 = p) (k : qr_W X d x Q (p, ls, st, w.set (a - 16) (.inl (.boolean, N, .inl (qzf (qzu f y.toNat v)))), c, n)) : qr_W X d x Q (pc, ls, .int (qz v) :: .int (qz y) :: .ref a :: st, w, c, n) := by
  subst hp
  obtain ⟨h1, h2⟩ := qr_in hz hN
  have e : vp_nar .boolean (qz v) = qz v := by rcases hv with rfl | rfl <;> decide +kernel
  refine qr_eff hq rfl rfl (s' := (pc + 1, ls, st, w.set (a - 16) (.inl (.boolean, N, .inl (qzf (qzu f y.toNat v)))), c, n)) ?_ k
  simp only [qm_eff, hc, qm_go]
  rw [if_pos ⟨(by first | rfl | trivial), ha, h1⟩, h2, e, qz_u]
theorem qr_aastore {a N b : Nat} {y : Int} {vs : List Value} {f : Nat → Option Nat} (p : Nat) (hq : qm_fetch x.2.2.2.2.2.2.2 pc = some (pc, .aastore, 1, r1, r2, r3, rv)) (ha : 16 ≤ a) (hb : 16 ≤ b) (hc : w[a - 16]? = some (.inl (.object "OneRoof$Custom", N, .inr (.inr (.inr (.inr f)))))) (hv : w[b - 16]? = some (.inr (7, vs))) (hz : 0 ≤ y ∧ y < (N : Int)) (hN : N ≤ 1000000) (hp : pc + 1 = p) (k : qr_W X d x Q (p, ls, st, w.set (a - 16) (.inl (.object "OneRoof$Custom", N, .inr (.inr (.inr (.inr (va_up f y.toNat (some b))))))), c, n)) : qr_W X d x Q (pc, ls, .ref b :: .int (qz y) :: .ref a :: st, w, c, n) := by
  subst hp
  obtain ⟨h1, h2⟩ := qr_in hz hN
  refine qr_eff hq rfl rfl (s' := (pc + 1, ls, st, w.set (a - 16) (.inl (.object "OneRoof$Custom", N, .inr (.inr (.inr (.inr (va_up f y.toNat (some b))))))), c, n)) ?_ k
  simp only [qm_eff, hc, hv, qm_go]
  rw [if_pos ⟨(by first | rfl | trivial), ha, hb, (by first | rfl | trivial), (by first | rfl | trivial), h1⟩, h2]
theorem qr_alen {a N : Nat} {ty : FieldType} {g : (Nat → Int32) ⊕ (Nat → Int64) ⊕ (Nat → UInt32) ⊕ (Nat → UInt64) ⊕ (Nat → Option Nat)} (p : Nat) (hq : qm_fetch x.2.2.2.2.2.2.2 pc = some (pc, .arraylength, 1, r1, r2, r3, rv)) (hc : qm_cell X w a = some (.inl (ty, N, g))) (hty : a < 16 ∨ ty = .int ∨ ty = .long ∨ ty = .boolean ∨ ty = .object "OneRoof$Custom") (hp : pc + 1 = p) (k : qr_W X d x Q (p, ls, .int (qz (N : Int)) :: st, w, c, n)) : qr_W X d x Q (pc, ls, .ref a :: st, w, c, n) := by
  subst hp
  refine qr_eff hq rfl rfl (s' := (pc + 1, ls, .int (qz (N : Int)) :: st, w, c, n)) ?_ k
  simp only [qm_eff, hc, qm_go]
  rw [if_pos ⟨(by first | rfl | trivial), hty⟩, qz_nat]
theorem qr_newI {y : Int} (w' : qm_W) (p c' n' : Nat) (hq : qm_fetch x.2.2.2.2.2.2.2 pc = some (pc, .newarray .int, 2, r1, r2, r3, rv)) (hy : 0 ≤ y ∧ y ≤ 1000000) (hc : c + 1 ≤ (qm_M1 x).2.2.2.2.1) (hn : n + y.toNat ≤ (qm_M1 x).2.2.2.2.2) (hw : w ++ [.inl (.int, y.toNat, .inl (qzf (fun _ => 0)))] = w') (hc2 : c + 1 = c') (hn2 : n + y.toNat = n') (a : Nat) (ha : 16 + w.length = a) (hp : pc + 2 = p) (k : qr_W X d x Q (p, ls, .ref a :: st, w', c', n')) : qr_W X d x Q (pc, ls, .int (qz y) :: st, w, c, n) := by
  subst hp
  subst hw
  subst ha
  subst hc2
  subst hn2
  have e := qz_clamp (z := y) (by omega)
  have h0 : ¬ qz y < 0 := fun h => by
    have := (qz_lt (a := y) (b := 0) (by omega) (by omega)).mp h
    omega
  refine qr_eff hq rfl rfl (s' := (pc + 2, ls, .ref (16 + w.length) :: st, w ++ [.inl (.int, y.toNat, .inl (qzf (fun _ => 0)))], c + 1, n + y.toNat)) ?_ k
  refine (if_pos ⟨rfl, h0, by rw [e]; omega, hc, by rw [e]; exact hn⟩).trans ?_
  rw [e]
  rfl
theorem qr_newL {y : Int} (w' : qm_W) (p c' n' : Nat) (hq : qm_fetch x.2.2.2.2.2.2.2 pc = some (pc, .newarray .long, 2, r1, r2, r3, rv)) (hy : 0 ≤ y ∧ y ≤ 1000000) (hc : c + 1 ≤ (qm_M1 x).2.2.2.2.1) (hn : n + y.toNat ≤ (qm_M1 x).2.2.2.2.2) (hw : w ++ [.inl (.long, y.toNat, .inr (.inl (qlf (fun _ => 0))))] = w') (hc2 : c + 1 = c') (hn2 : n + y.toNat = n') (a : Nat) (ha : 16 + w.length = a) (hp : pc + 2 = p) (k : qr_W X d x Q (p, ls, .ref a :: st, w', c', n')) : qr_W X d x Q (pc, ls, .int (qz y) :: st, w, c, n) := by
  subst hp
  subst hw
  subst ha
  subst hc2
  subst hn2
  have e := qz_clamp (z := y) (by omega)
  have h0 : ¬ qz y < 0 := fun h => by
    have := (qz_lt (a := y) (b := 0) (by omega) (by omega)).mp h
    omega
  refine qr_eff hq rfl rfl (s' := (pc + 2, ls, .ref (16 + w.length) :: st, w ++ [.inl (.long, y.toNat, .inr (.inl (qlf (fun _ => 0))))], c + 1, n + y.toNat)) ?_ k
  refine (if_pos ⟨rfl, h0, by rw [e]; omega, hc, by rw [e]; exact hn⟩).trans ?_
  rw [e]
  rfl
theorem qr_newZ {y : Int} (w' : qm_W) (p c' n' : Nat) (hq : qm_fetch x.2.2.2.2.2.2.2 pc = some (pc, .newarray .boolean, 2, r1, r2, r3, rv)) (hy : 0 ≤ y ∧ y ≤ 1000000) (hc : c + 1 ≤ (qm_M1 x).2.2.2.2.1) (hn : n + y.toNat ≤ (qm_M1 x).2.2.2.2.2) (hw : w ++ [.inl (.boolean, y.toNat, .inl (qzf (fun _ => 0)))] = w') (hc2 : c + 1 = c') (hn2 : n + y.toNat = n') (a : Nat) (ha : 16 + w.length = a) (hp : pc + 2 = p) (k : qr_W X d x Q (p, ls, .ref a :: st, w', c', n')) : qr_W X d x Q (pc, ls, .int (qz y) :: st, w, c, n) := by
  subst hp
  subst hw
  subst ha
  subst hc2
  subst hn2
  have e := qz_clamp (z := y) (by omega)
  have h0 : ¬ qz y < 0 := fun h => by
    have := (qz_lt (a := y) (b := 0) (by omega) (by omega)).mp h
    omega
  refine qr_eff hq rfl rfl (s' := (pc + 2, ls, .ref (16 + w.length) :: st, w ++ [.inl (.boolean, y.toNat, .inl (qzf (fun _ => 0)))], c + 1, n + y.toNat)) ?_ k
  refine (if_pos ⟨rfl, h0, by rw [e]; omega, hc, by rw [e]; exact hn⟩).trans ?_
  rw [e]
  rfl
theorem qr_newQ {z : Nat} {y : Int} (w' : qm_W) (p c' n' : Nat) (hq : qm_fetch x.2.2.2.2.2.2.2 pc = some (pc, .anewarray z, 3, 7, r2, 0, rv)) (hy : 0 ≤ y ∧ y ≤ 1000000) (hc : c + 1 ≤ (qm_M1 x).2.2.2.2.1) (hn : n + y.toNat ≤ (qm_M1 x).2.2.2.2.2) (hw : w ++ [.inl (.object "OneRoof$Custom", y.toNat, .inr (.inr (.inr (.inr (fun _ => none)))))] = w') (hc2 : c + 1 = c') (hn2 : n + y.toNat = n') (a : Nat) (ha : 16 + w.length = a) (hp : pc + 3 = p) (k : qr_W X d x Q (p, ls, .ref a :: st, w', c', n')) : qr_W X d x Q (pc, ls, .int (qz y) :: st, w, c, n) := by
  subst hp
  subst hw
  subst ha
  subst hc2
  subst hn2
  have e := qz_clamp (z := y) (by omega)
  have h0 : ¬ qz y < 0 := fun h => by
    have := (qz_lt (a := y) (b := 0) (by omega) (by omega)).mp h
    omega
  refine qr_eff hq rfl rfl (s' := (pc + 3, ls, .ref (16 + w.length) :: st, w ++ [.inl (.object "OneRoof$Custom", y.toNat, .inr (.inr (.inr (.inr (fun _ => none)))))], c + 1, n + y.toNat)) ?_ k
  refine (if_pos ⟨rfl, rfl, rfl, h0, by rw [e]; omega, hc, by rw [e]; exact hn⟩).trans ?_
  rw [e]
  rfl
theorem qr_new {z : Nat} {C : String} {T : u_T} {N : Nat} (w' : qm_W) (p c' n' : Nat) (hq : qm_fetch x.2.2.2.2.2.2.2 pc = some (pc, .new z, 3, r1, r2, 0, rv)) (hcl : qx_cl[r1]? = some (C, T, N)) (hc : c + 1 ≤ (qm_M1 x).2.2.2.2.1) (hn : n + N ≤ (qm_M1 x).2.2.2.2.2) (hw : w ++ [.inr (r1, (List.range N).map (fun j => defaultValue (qx_ty r1 j)))] = w') (hc2 : c + 1 = c') (hn2 : n + N = n') (a : Nat) (ha : 16 + w.length = a) (hp : pc + 3 = p) (k : qr_W X d x Q (p, ls, .ref a :: st, w', c', n')) : qr_W X d x Q (pc, ls, st, w, c, n) := by
  subst hp
  subst hw
  subst ha
  subst hc2
  subst hn2
  refine qr_eff hq rfl rfl (s' := (pc + 3, ls, .ref (16 + w.length) :: st, w ++ [.inr (r1, (List.range N).map (fun j => defaultValue (qx_ty r1 j)))], c + 1, n + N)) ?_ k
  simp only [qm_eff, hcl, qm_go]
  exact if_pos ⟨(by first | rfl | trivial), (by first | rfl | trivial), hc, hn⟩
theorem qr_call {q : qm_I} {k : Nat} {as rest : List Value} {Q' : Option Value → qm_W → Prop} (p c' n' : Nat) (hq : qm_fetch x.2.2.2.2.2.2.2 pc = some q) (hcall : qm_call X q st w = some (k, as, p, rest)) (hc : c + (qm_bud k).1 ≤ (qm_M1 x).2.2.2.2.1) (hn : n + (qm_bud k).2 ≤ (qm_M1 x).2.2.2.2.2) (hc2 : c + (qm_bud k).1 = c') (hn2 : n + (qm_bud k).2 = n') (hT : qm_T X d k as w Q') (kk : ∀ r w', Q' r w' → qr_W X d x Q (p, ls, r.toList ++ rest, w', c', n')) : qr_W X d x Q (pc, ls, st, w, c, n) := by
  subst hc2
  subst hn2
  refine qm_wp_go (qm_T_mono X d) ?_
  unfold qm_step
  simp only [hq, hcall]
  exact ⟨hc, hn, qr_mono hT kk⟩
/-- a call that makes nothing -/
theorem qr_callN {q : qm_I} {k : Nat} {as rest : List Value} {Q' : Option Value → qm_W → Prop} (p : Nat) (hq : qm_fetch x.2.2.2.2.2.2.2 pc = some q) (hcall : qm_call X q st w = some (k, as, p, rest)) (hb : qm_bud k = (0, 0)) (hT : qm_T X d k as w Q') (kk : ∀ r w', Q' r w' → qr_W X d x Q (p, ls, r.toList ++ rest, w', 0, 0)) : qr_W X d x Q (pc, ls, st, w, 0, 0) :=
  qr_call p 0 0 hq hcall (by rw [hb]; exact Nat.zero_le _) (by rw [hb]; exact Nat.zero_le _) (by rw [hb]; rfl) (by rw [hb]; rfl) hT kk
theorem qr_objinit {z a : Nat} (p : Nat) (hq : qm_fetch x.2.2.2.2.2.2.2 pc = some (pc, .invokespecial z, 3, r1, 0, 6, rv)) (hs : qm_sum st ≤ 8) (hp : pc + 3 = p) (k : qr_W X d x Q (p, ls, st, w, c, n)) : qr_W X d x Q (pc, ls, .ref a :: st, w, c, n) := by
  subst hp
  exact qr_eff hq rfl rfl (s' := (pc + 3, ls, st, w, c, n)) (if_pos ⟨rfl, rfl, rfl, hs⟩) k
theorem qr_ret {q : qm_I} {r : Option Value} (hq : qm_fetch x.2.2.2.2.2.2.2 pc = some q) (hcall : qm_call X q st w = none) (hr : qm_retn (qm_M1 x) q st = some r) (hc : c ≤ (qm_M1 x).2.2.2.2.1) (hn : n ≤ (qm_M1 x).2.2.2.2.2) (k : Q r w) : qr_W X d x Q (pc, ls, st, w, c, n) := by
  refine qm_wp_go (qm_T_mono X d) ?_
  unfold qm_step
  simp only [hq, hcall, hr]
  exact ⟨hc, hn, k⟩
theorem qr_retI {v : Int} (hq : qm_fetch x.2.2.2.2.2.2.2 pc = some (pc, .ireturn, 1, r1, r2, r3, rv)) (hty : (qm_M1 x).2.1 = some .int) (hc : c ≤ (qm_M1 x).2.2.2.2.1) (hn : n ≤ (qm_M1 x).2.2.2.2.2) (k : Q (some (.int (qz v))) w) : qr_W X d x Q (pc, ls, [.int (qz v)], w, c, n) := by
  refine qr_ret hq rfl ?_ hc hn k
  simp only [qm_retn, hty]
  exact if_pos ⟨(by first | rfl | trivial), (by first | rfl | trivial)⟩
theorem qr_retZ {v : Int} (hq : qm_fetch x.2.2.2.2.2.2.2 pc = some (pc, .ireturn, 1, r1, r2, r3, rv)) (hty : (qm_M1 x).2.1 = some .boolean) (hv : v = 0 ∨ v = 1) (hc : c ≤ (qm_M1 x).2.2.2.2.1) (hn : n ≤ (qm_M1 x).2.2.2.2.2) (k : Q (some (.int (qz v))) w) : qr_W X d x Q (pc, ls, [.int (qz v)], w, c, n) := by
  refine qr_ret hq rfl ?_ hc hn k
  simp only [qm_retn, hty]
  exact if_pos ⟨(by first | rfl | trivial), by rcases hv with rfl | rfl <;> decide +kernel⟩
theorem qr_retL {v : Int64} (hq : qm_fetch x.2.2.2.2.2.2.2 pc = some (pc, .lreturn, 1, r1, r2, r3, rv)) (hty : (qm_M1 x).2.1 = some .long) (hc : c ≤ (qm_M1 x).2.2.2.2.1) (hn : n ≤ (qm_M1 x).2.2.2.2.2) (k : Q (some (.long v)) w) : qr_W X d x Q (pc, ls, [.long v], w, c, n) := by
  refine qr_ret hq rfl ?_ hc hn k
  simp only [qm_retn]
  exact if_pos ⟨(by first | rfl | trivial), hty⟩
theorem qr_retV (hq : qm_fetch x.2.2.2.2.2.2.2 pc = some (pc, .return_, 1, r1, r2, r3, rv)) (hty : (qm_M1 x).2.1 = none) (hc : c ≤ (qm_M1 x).2.2.2.2.1) (hn : n ≤ (qm_M1 x).2.2.2.2.2) (k : Q none w) : qr_W X d x Q (pc, ls, [], w, c, n) := by
  refine qr_ret hq rfl ?_ hc hn k
  simp only [qm_retn]
  exact if_pos ⟨(by first | rfl | trivial), hty⟩
theorem qr_tabOut {dflt lo hi : Int} {offs : Array Int} {len : Nat} {a : Int} (t : Nat) (hq : qm_fetch x.2.2.2.2.2.2.2 pc = some (pc, .tableswitch dflt lo hi offs, len, r1, r2, r3, rv)) (ra : -2147483648 ≤ a ∧ a ≤ 2147483647) (h : a < lo ∨ hi < a) (ht : qm_to pc dflt = some t) (k : qr_W X d x Q (t, ls, st, w, c, n)) : qr_W X d x Q (pc, ls, .int (qz a) :: st, w, c, n) := by
  refine qr_eff hq rfl rfl (s' := (t, ls, st, w, c, n)) ?_ k
  refine (if_pos (by rw [qz_ti ra]; exact h)).trans ?_
  unfold qm_jump
  rw [ht]
  rfl
theorem qr_tabIn {dflt lo hi : Int} {offs : Array Int} {len : Nat} {a off : Int} (t : Nat) (hq : qm_fetch x.2.2.2.2.2.2.2 pc = some (pc, .tableswitch dflt lo hi offs, len, r1, r2, r3, rv)) (ra : -2147483648 ≤ a ∧ a ≤ 2147483647) (h : lo ≤ a ∧ a ≤ hi) (ho : offs[(a - lo).toNat]? = some off) (ht : qm_to pc off = some t) (k : qr_W X d x Q (t, ls, st, w, c, n)) : qr_W X d x Q (pc, ls, .int (qz a) :: st, w, c, n) := by
  refine qr_eff hq rfl rfl (s' := (t, ls, st, w, c, n)) ?_ k
  refine (if_neg (by rw [qz_ti ra]; omega)).trans ?_
  rw [qz_ti ra, ho]
  show qm_jump pc off ls st w c n = _
  unfold qm_jump
  rw [ht]
  rfl
end QR
