/-! what lies outside: the script, two rows of the class Acts, four texts; and the view of a world by one custom. -/
def qe_bytes : Nat → List Int
  | 3 => [102, 38, 33, 99]
  | 4 => [102, 110, 99, 119, 118, 108, 107, 111, 100]
  | 5 => [100, 60, 50, 38, 119]
  | 6 => [48]
  | _ => []
def qe_above : List Int := [-1, 0, 1, 0, 0, 4, 0]
def qe_bodies : List Int := [1, 10, 11, 2, 20, 0, 0, 0, 31, 0, 30, 0, 0, 40, 0, 0, 0, 0, 0, 50, 60, 0, 0, 0, 0, 71, 70, 0]
def qe_cells (L : Nat) (xs : Nat → Int) : Nat → Option qm_E
  | 0 => some (.inl (.int, L, .inl (qzf xs)))
  | 1 => some (.inl (.int, 7, .inl (qzf (fun k => qe_above.getD k 0))))
  | 2 => some (.inl (.int, 28, .inl (qzf (fun k => qe_bodies.getD k 0))))
  | 3 => some (.inr (13, [.ref 7, .int (qz 0)]))
  | 4 => some (.inr (13, [.ref 8, .int (qz 0)]))
  | 5 => some (.inr (13, [.ref 9, .int (qz 0)]))
  | 6 => some (.inr (13, [.ref 10, .int (qz 0)]))
  | 7 => some (.inl (.byte, 4, .inl (qzf (fun k => (qe_bytes 3).getD k 0))))
  | 8 => some (.inl (.byte, 9, .inl (qzf (fun k => (qe_bytes 4).getD k 0))))
  | 9 => some (.inl (.byte, 5, .inl (qzf (fun k => (qe_bytes 5).getD k 0))))
  | 10 => some (.inl (.byte, 1, .inl (qzf (fun k => (qe_bytes 6).getD k 0))))
  | _ => none
def qe_v (b : Bool) : Value := match b with | true => .null | false => .ref 11
def qe (L : Nat) (xs : Nat → Int) (b : Bool) : qm_X := (qe_cells L xs, qe_v b)
def qc_o (a : Nat) (ln at_ sz nm sk : Int) : qm_E := .inr (7, [.ref (a + 1), .ref (a + 2), .ref (a + 3), .int (qz ln), .int (qz at_), .int (qz sz), .int (qz nm), .int (qz sk)])
/-- a world with the custom at a (and its rows behind it) so -/
def qc (w : qm_W) (a : Nat) (ln at_ sz nm sk : Int) (t cd : Nat → Int) : qm_W := ((w.set (a - 16) (qc_o a ln at_ sz nm sk)).set (a - 16 + 1) (.inl (.int, 120, .inl (qzf t)))).set (a - 16 + 2) (.inl (.int, 122, .inl (qzf cd)))
def qc_in (w : qm_W) (a : Nat) : Prop := 16 ≤ a ∧ a - 16 + 3 < w.length
section QC
variable {X : qm_X} {w : qm_W} {a : Nat} {ln at_ sz nm sk : Int} {t cd : Nat → Int}
theorem qc_g0 (h : qc_in w a) : (qc w a ln at_ sz nm sk t cd)[a - 16]? = some (qc_o a ln at_ sz nm sk) := by
  obtain ⟨h1, h2⟩ := h
  unfold qc
  rw [List.getElem?_set_ne (by omega), List.getElem?_set_ne (by omega), List.getElem?_set_self (by omega)]
theorem qc_g1 (h : qc_in w a) : (qc w a ln at_ sz nm sk t cd)[a + 1 - 16]? = some (.inl (.int, 120, .inl (qzf t))) := by
  obtain ⟨h1, h2⟩ := h
  unfold qc
  rw [show a + 1 - 16 = a - 16 + 1 by omega, List.getElem?_set_ne (by omega), List.getElem?_set_self (by rw [List.length_set]; omega)]
theorem qc_g2 (h : qc_in w a) : (qc w a ln at_ sz nm sk t cd)[a + 2 - 16]? = some (.inl (.int, 122, .inl (qzf cd))) := by
  obtain ⟨h1, h2⟩ := h
  unfold qc
  rw [show a + 2 - 16 = a - 16 + 2 by omega, List.getElem?_set_self (by rw [List.length_set, List.length_set]; omega)]
theorem qc_s0 {ln' at_' sz' nm' sk' : Int} (h : qc_in w a) : (qc w a ln at_ sz nm sk t cd).set (a - 16) (qc_o a ln' at_' sz' nm' sk') = qc w a ln' at_' sz' nm' sk' t cd := by
  obtain ⟨h1, h2⟩ := h
  unfold qc
  rw [List.set_comm _ _ (by omega : a - 16 + 2 ≠ a - 16), List.set_comm _ _ (by omega : a - 16 + 1 ≠ a - 16), List.set_set]
theorem qc_s1 {t' : Nat → Int} (h : qc_in w a) : (qc w a ln at_ sz nm sk t cd).set (a + 1 - 16) (.inl (.int, 120, .inl (qzf t'))) = qc w a ln at_ sz nm sk t' cd := by
  obtain ⟨h1, h2⟩ := h
  unfold qc
  rw [show a + 1 - 16 = a - 16 + 1 by omega, List.set_comm _ _ (by omega : a - 16 + 2 ≠ a - 16 + 1), List.set_set]
theorem qc_s2 {cd' : Nat → Int} (h : qc_in w a) : (qc w a ln at_ sz nm sk t cd).set (a + 2 - 16) (.inl (.int, 122, .inl (qzf cd'))) = qc w a ln at_ sz nm sk t cd' := by
  obtain ⟨h1, h2⟩ := h
  unfold qc
  rw [show a + 2 - 16 = a - 16 + 2 by omega, List.set_set]
theorem qc_c {e : qm_E} {b : Nat} (hb : 16 ≤ b) (h : w[b - 16]? = some e) : qm_cell X w b = some e := by
  rw [qs_cell_hi hb]
  exact h
end QC
section QC2
variable {X : qm_X} {d : Nat} {x : qs_Ent} {Q : Option Value → qm_W → Prop} {pc : Nat} {ls : qm_L} {st : List Value} {w : qm_W} {c n r1 r2 r3 : Nat} {rv : Value} {a : Nat} {ln at_ sz nm sk : Int} {t cd : Nat → Int}
theorem qr_cget0 {z : Nat} (hi : qc_in w a) (p : Nat) (hq : qm_fetch x.2.2.2.2.2.2.2 pc = some (pc, .getfield z, 3, 7, 0, 0, rv)) (hp : pc + 3 = p) (k : qr_W X d x Q (p, ls, .ref (a + 1) :: st, qc w a ln at_ sz nm sk t cd, c, n)) : qr_W X d x Q (pc, ls, .ref a :: st, qc w a ln at_ sz nm sk t cd, c, n) :=
  qr_get p hq (qc_c hi.1 (qc_g0 hi)) rfl (by decide) hp k
theorem qr_cget1 {z : Nat} (hi : qc_in w a) (p : Nat) (hq : qm_fetch x.2.2.2.2.2.2.2 pc = some (pc, .getfield z, 3, 7, 1, 0, rv)) (hp : pc + 3 = p) (k : qr_W X d x Q (p, ls, .ref (a + 2) :: st, qc w a ln at_ sz nm sk t cd, c, n)) : qr_W X d x Q (pc, ls, .ref a :: st, qc w a ln at_ sz nm sk t cd, c, n) :=
  qr_get p hq (qc_c hi.1 (qc_g0 hi)) rfl (by decide) hp k
theorem qr_cget3 {z : Nat} (hi : qc_in w a) (p : Nat) (hq : qm_fetch x.2.2.2.2.2.2.2 pc = some (pc, .getfield z, 3, 7, 3, 0, rv)) (hp : pc + 3 = p) (k : qr_W X d x Q (p, ls, .int (qz ln) :: st, qc w a ln at_ sz nm sk t cd, c, n)) : qr_W X d x Q (pc, ls, .ref a :: st, qc w a ln at_ sz nm sk t cd, c, n) :=
  qr_get p hq (qc_c hi.1 (qc_g0 hi)) rfl (by decide) hp k
theorem qr_cget4 {z : Nat} (hi : qc_in w a) (p : Nat) (hq : qm_fetch x.2.2.2.2.2.2.2 pc = some (pc, .getfield z, 3, 7, 4, 0, rv)) (hp : pc + 3 = p) (k : qr_W X d x Q (p, ls, .int (qz at_) :: st, qc w a ln at_ sz nm sk t cd, c, n)) : qr_W X d x Q (pc, ls, .ref a :: st, qc w a ln at_ sz nm sk t cd, c, n) :=
  qr_get p hq (qc_c hi.1 (qc_g0 hi)) rfl (by decide) hp k
theorem qr_cget5 {z : Nat} (hi : qc_in w a) (p : Nat) (hq : qm_fetch x.2.2.2.2.2.2.2 pc = some (pc, .getfield z, 3, 7, 5, 0, rv)) (hp : pc + 3 = p) (k : qr_W X d x Q (p, ls, .int (qz sz) :: st, qc w a ln at_ sz nm sk t cd, c, n)) : qr_W X d x Q (pc, ls, .ref a :: st, qc w a ln at_ sz nm sk t cd, c, n) :=
  qr_get p hq (qc_c hi.1 (qc_g0 hi)) rfl (by decide) hp k
theorem qr_cget6 {z : Nat} (hi : qc_in w a) (p : Nat) (hq : qm_fetch x.2.2.2.2.2.2.2 pc = some (pc, .getfield z, 3, 7, 6, 0, rv)) (hp : pc + 3 = p) (k : qr_W X d x Q (p, ls, .int (qz nm) :: st, qc w a ln at_ sz nm sk t cd, c, n)) : qr_W X d x Q (pc, ls, .ref a :: st, qc w a ln at_ sz nm sk t cd, c, n) :=
  qr_get p hq (qc_c hi.1 (qc_g0 hi)) rfl (by decide) hp k
theorem qr_cget7 {z : Nat} (hi : qc_in w a) (p : Nat) (hq : qm_fetch x.2.2.2.2.2.2.2 pc = some (pc, .getfield z, 3, 7, 7, 0, rv)) (hp : pc + 3 = p) (k : qr_W X d x Q (p, ls, .int (qz sk) :: st, qc w a ln at_ sz nm sk t cd, c, n)) : qr_W X d x Q (pc, ls, .ref a :: st, qc w a ln at_ sz nm sk t cd, c, n) :=
  qr_get p hq (qc_c hi.1 (qc_g0 hi)) rfl (by decide) hp k
theorem qr_cput3 {z : Nat} {y : Int} (hi : qc_in w a) (p : Nat) (hq : qm_fetch x.2.2.2.2.2.2.2 pc = some (pc, .putfield z, 3, 7, 3, 0, rv)) (hp : pc + 3 = p) (k : qr_W X d x Q (p, ls, st, qc w a y at_ sz nm sk t cd, c, n)) : qr_W X d x Q (pc, ls, .int (qz y) :: .ref a :: st, qc w a ln at_ sz nm sk t cd, c, n) := by
  refine qr_put p hq hi.1 (qc_g0 hi) (Nat.le_of_ble_eq_true rfl) (by decide) (Or.inl rfl) (qr_fitI rfl _) hp ?_
  have e := qc_s0 (w := w) (a := a) (ln := ln) (at_ := at_) (sz := sz) (nm := nm) (sk := sk) (t := t) (cd := cd) (ln' := y) (at_' := at_) (sz' := sz) (nm' := nm) (sk' := sk) hi
  unfold qc_o at e
  show qr_W X d x Q (p, ls, st, (qc w a ln at_ sz nm sk t cd).set (a - 16) (.inr (7, [.ref (a + 1), .ref (a + 2), .ref (a + 3), .int (qz y), .int (qz at_), .int (qz sz), .int (qz nm), .int (qz sk)])), c, n)
  rw [e]
  exact k
theorem qr_cput4 {z : Nat} {y : Int} (hi : qc_in w a) (p : Nat) (hq : qm_fetch x.2.2.2.2.2.2.2 pc = some (pc, .putfield z, 3, 7, 4, 0, rv)) (hp : pc + 3 = p) (k : qr_W X d x Q (p, ls, st, qc w a ln y sz nm sk t cd, c, n)) : qr_W X d x Q (pc, ls, .int (qz y) :: .ref a :: st, qc w a ln at_ sz nm sk t cd, c, n) := by
  refine qr_put p hq hi.1 (qc_g0 hi) (Nat.le_of_ble_eq_true rfl) (by decide) (Or.inl rfl) (qr_fitI rfl _) hp ?_
  have e := qc_s0 (w := w) (a := a) (ln := ln) (at_ := at_) (sz := sz) (nm := nm) (sk := sk) (t := t) (cd := cd) (ln' := ln) (at_' := y) (sz' := sz) (nm' := nm) (sk' := sk) hi
  unfold qc_o at e
  show qr_W X d x Q (p, ls, st, (qc w a ln at_ sz nm sk t cd).set (a - 16) (.inr (7, [.ref (a + 1), .ref (a + 2), .ref (a + 3), .int (qz ln), .int (qz y), .int (qz sz), .int (qz nm), .int (qz sk)])), c, n)
  rw [e]
  exact k
theorem qr_cput5 {z : Nat} {y : Int} (hi : qc_in w a) (p : Nat) (hq : qm_fetch x.2.2.2.2.2.2.2 pc = some (pc, .putfield z, 3, 7, 5, 0, rv)) (hp : pc + 3 = p) (k : qr_W X d x Q (p, ls, st, qc w a ln at_ y nm sk t cd, c, n)) : qr_W X d x Q (pc, ls, .int (qz y) :: .ref a :: st, qc w a ln at_ sz nm sk t cd, c, n) := by
  refine qr_put p hq hi.1 (qc_g0 hi) (Nat.le_of_ble_eq_true rfl) (by decide) (Or.inl rfl) (qr_fitI rfl _) hp ?_
  have e := qc_s0 (w := w) (a := a) (ln := ln) (at_ := at_) (sz := sz) (nm := nm) (sk := sk) (t := t) (cd := cd) (ln' := ln) (at_' := at_) (sz' := y) (nm' := nm) (sk' := sk) hi
  unfold qc_o at e
  show qr_W X d x Q (p, ls, st, (qc w a ln at_ sz nm sk t cd).set (a - 16) (.inr (7, [.ref (a + 1), .ref (a + 2), .ref (a + 3), .int (qz ln), .int (qz at_), .int (qz y), .int (qz nm), .int (qz sk)])), c, n)
  rw [e]
  exact k
theorem qr_cput6 {z : Nat} {y : Int} (hi : qc_in w a) (p : Nat) (hq : qm_fetch x.2.2.2.2.2.2.2 pc = some (pc, .putfield z, 3, 7, 6, 0, rv)) (hp : pc + 3 = p) (k : qr_W X d x Q (p, ls, st, qc w a ln at_ sz y sk t cd, c, n)) : qr_W X d x Q (pc, ls, .int (qz y) :: .ref a :: st, qc w a ln at_ sz nm sk t cd, c, n) := by
  refine qr_put p hq hi.1 (qc_g0 hi) (Nat.le_of_ble_eq_true rfl) (by decide) (Or.inl rfl) (qr_fitI rfl _) hp ?_
  have e := qc_s0 (w := w) (a := a) (ln := ln) (at_ := at_) (sz := sz) (nm := nm) (sk := sk) (t := t) (cd := cd) (ln' := ln) (at_' := at_) (sz' := sz) (nm' := y) (sk' := sk) hi
  unfold qc_o at e
  show qr_W X d x Q (p, ls, st, (qc w a ln at_ sz nm sk t cd).set (a - 16) (.inr (7, [.ref (a + 1), .ref (a + 2), .ref (a + 3), .int (qz ln), .int (qz at_), .int (qz sz), .int (qz y), .int (qz sk)])), c, n)
  rw [e]
  exact k
theorem qr_cput7 {z : Nat} {y : Int} (hi : qc_in w a) (hy : y = 0 ∨ y = 1) (p : Nat) (hq : qm_fetch x.2.2.2.2.2.2.2 pc = some (pc, .putfield z, 3, 7, 7, 0, rv)) (hp : pc + 3 = p) (k : qr_W X d x Q (p, ls, st, qc w a ln at_ sz nm y t cd, c, n)) : qr_W X d x Q (pc, ls, .int (qz y) :: .ref a :: st, qc w a ln at_ sz nm sk t cd, c, n) := by
  refine qr_put p hq hi.1 (qc_g0 hi) (Nat.le_of_ble_eq_true rfl) (by decide) (Or.inl rfl) (qr_fitZ rfl hy) hp ?_
  have e := qc_s0 (w := w) (a := a) (ln := ln) (at_ := at_) (sz := sz) (nm := nm) (sk := sk) (t := t) (cd := cd) (ln' := ln) (at_' := at_) (sz' := sz) (nm' := nm) (sk' := y) hi
  unfold qc_o at e
  show qr_W X d x Q (p, ls, st, (qc w a ln at_ sz nm sk t cd).set (a - 16) (.inr (7, [.ref (a + 1), .ref (a + 2), .ref (a + 3), .int (qz ln), .int (qz at_), .int (qz sz), .int (qz nm), .int (qz y)])), c, n)
  rw [e]
  exact k
theorem qr_ctload {y : Int} (hi : qc_in w a) (p : Nat) (hq : qm_fetch x.2.2.2.2.2.2.2 pc = some (pc, .iaload, 1, r1, r2, r3, rv)) (hy : 0 ≤ y ∧ y < 120) (hp : pc + 1 = p) (k : qr_W X d x Q (p, ls, .int (qz (t y.toNat)) :: st, qc w a ln at_ sz nm sk t cd, c, n)) : qr_W X d x Q (pc, ls, .int (qz y) :: .ref (a + 1) :: st, qc w a ln at_ sz nm sk t cd, c, n) :=
  qr_iaload p hq (qc_c (by have := hi.1; omega) (qc_g1 hi)) hy (by decide) hp k
theorem qr_ctstore {y v : Int} (hi : qc_in w a) (p : Nat) (hq : qm_fetch x.2.2.2.2.2.2.2 pc = some (pc, .iastore, 1, r1, r2, r3, rv)) (hy : 0 ≤ y ∧ y < 120) (hp : pc + 1 = p) (k : qr_W X d x Q (p, ls, st, qc w a ln at_ sz nm sk (qzu t y.toNat v) cd, c, n)) : qr_W X d x Q (pc, ls, .int (qz v) :: .int (qz y) :: .ref (a + 1) :: st, qc w a ln at_ sz nm sk t cd, c, n) := by
  refine qr_iastore p hq (by have := hi.1; omega) (qc_g1 hi) hy (by decide) hp ?_
  rw [qc_s1 hi]
  exact k
theorem qr_ccstore {y v : Int} (hi : qc_in w a) (p : Nat) (hq : qm_fetch x.2.2.2.2.2.2.2 pc = some (pc, .iastore, 1, r1, r2, r3, rv)) (hy : 0 ≤ y ∧ y < 122) (hp : pc + 1 = p) (k : qr_W X d x Q (p, ls, st, qc w a ln at_ sz nm sk t (qzu cd y.toNat v), c, n)) : qr_W X d x Q (pc, ls, .int (qz v) :: .int (qz y) :: .ref (a + 2) :: st, qc w a ln at_ sz nm sk t cd, c, n) := by
  refine qr_iastore p hq (by have := hi.1; omega) (qc_g2 hi) hy (by decide) hp ?_
  rw [qc_s2 hi]
  exact k
theorem qr_ctlen (hi : qc_in w a) (p : Nat) (hq : qm_fetch x.2.2.2.2.2.2.2 pc = some (pc, .arraylength, 1, r1, r2, r3, rv)) (hp : pc + 1 = p) (k : qr_W X d x Q (p, ls, .int (qz 120) :: st, qc w a ln at_ sz nm sk t cd, c, n)) : qr_W X d x Q (pc, ls, .ref (a + 1) :: st, qc w a ln at_ sz nm sk t cd, c, n) :=
  qr_alen p hq (qc_c (by have := hi.1; omega) (qc_g1 hi)) (Or.inr (Or.inl rfl)) hp k
theorem qr_cclen (hi : qc_in w a) (p : Nat) (hq : qm_fetch x.2.2.2.2.2.2.2 pc = some (pc, .arraylength, 1, r1, r2, r3, rv)) (hp : pc + 1 = p) (k : qr_W X d x Q (p, ls, .int (qz 122) :: st, qc w a ln at_ sz nm sk t cd, c, n)) : qr_W X d x Q (pc, ls, .ref (a + 2) :: st, qc w a ln at_ sz nm sk t cd, c, n) :=
  qr_alen p hq (qc_c (by have := hi.1; omega) (qc_g2 hi)) (Or.inr (Or.inl rfl)) hp k
/-- a call on the custom -/
theorem qr_ccall {z k : Nat} {as rest : List Value} {Q' : Option Value → qm_W → Prop} (hi : qc_in w a) (p : Nat) (hq : qm_fetch x.2.2.2.2.2.2.2 pc = some (pc, .invokevirtual z, 3, k, as.length, 0, .ref 7)) (hb : qm_bud k = (0, 0)) (hs : qm_sum rest ≤ 8) (hp : pc + 3 = p) (hst : st = as.reverse ++ Value.ref a :: rest) (hT : qm_T X d k (Value.ref a :: as) (qc w a ln at_ sz nm sk t cd) Q') (kk : ∀ r w', Q' r w' → qr_W X d x Q (p, ls, r.toList ++ rest, w', 0, 0)) : qr_W X d x Q (pc, ls, st, qc w a ln at_ sz nm sk t cd, 0, 0) := by
  subst hst
  subst hp
  refine qr_callN (k := k) (as := Value.ref a :: as) (rest := rest) (pc + 3) hq ?_ hb hT kk
  have e1 : (as.reverse ++ Value.ref a :: rest)[as.length]? = some (Value.ref a) := by
    rw [List.getElem?_append_right (by rw [List.length_reverse]; exact Nat.le_refl _), List.length_reverse, Nat.sub_self]
    rfl
  have e2 : (as.reverse ++ Value.ref a :: rest).drop (as.length + 1) = rest := by
    rw [← List.length_reverse, List.drop_append]
    simp
  have e3 : (as.reverse ++ Value.ref a :: rest).take as.length = as.reverse := by
    rw [← List.length_reverse, List.take_left]
  have e4 := qc_c (X := X) hi.1 (qc_g0 (ln := ln) (at_ := at_) (sz := sz) (nm := nm) (sk := sk) (t := t) (cd := cd) hi)
  unfold qc_o at e4
  simp only [qm_call, e1, e2, e3, e4, List.reverse_reverse]
  exact if_pos ⟨by first | rfl | trivial, Or.inl (by first | rfl | trivial), by first | rfl | trivial, hs⟩
end QC2
