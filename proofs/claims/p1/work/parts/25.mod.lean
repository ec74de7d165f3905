section QK
variable {X : qm_X} {d : Nat} {x : qs_Ent} {Q : Option Value → qm_W → Prop} {pc : Nat} {ls : qm_L} {st : List Value} {u w : qm_W} {c n r1 r2 r3 : Nat} {rv : Value} {a : Nat}
theorem qi_gk (u : qm_W) {a b m : Nat} (ha : a = 16 + u.length) (hb : a + m = b) (l : qm_W) : (u ++ l)[b - 16]? = l[m]? := by
  subst ha
  subst hb
  rw [show 16 + u.length + m - 16 = u.length + m by omega, List.getElem?_append_right (Nat.le_add_right _ _), Nat.add_sub_cancel_left]
theorem qi_sk (u : qm_W) {a b m : Nat} (ha : a = 16 + u.length) (hb : a + m = b) (l : qm_W) (e : qm_E) : (u ++ l).set (b - 16) e = u ++ l.set m e := by
  subst ha
  subst hb
  rw [show 16 + u.length + m - 16 = u.length + m by omega, List.set_append_right _ _ (Nat.le_add_right _ _), Nat.add_sub_cancel_left]
theorem qr_iistk {l : qm_W} {N m b : Nat} {y v : Int} {f : Nat → Int} (ha : a = 16 + u.length) (hb : a + m = b) (l' : qm_W) (p : Nat) (hq : qm_fetch x.2.2.2.2.2.2.2 pc = some (pc, .iastore, 1, r1, r2, r3, rv)) (hl : l[m]? = some (.inl (.int, N, .inl (qzf f)))) (hz : 0 ≤ y ∧ y < (N : Int)) (hN : N ≤ 1000000) (hs : l.set m (.inl (.int, N, .inl (qzf (qzu f y.toNat v)))) = l') (hp : pc + 1 = p) (k : qr_W X d x Q (p, ls, st, u ++ l', c, n)) : qr_W X d x Q (pc, ls, .int (qz v) :: .int (qz y) :: .ref b :: st, u ++ l, c, n) := by
  subst hs
  refine qr_iastore p hq (by omega) ((qi_gk u ha hb l).trans hl) hz hN hp ?_
  rw [qi_sk u ha hb]
  exact k
theorem qr_iput0 {z : Nat} {fs : List Value} {r : qm_W} {v : Value} (ha : a = 16 + u.length) (p : Nat) (hq : qm_fetch x.2.2.2.2.2.2.2 pc = some (pc, .putfield z, 3, r1, r2, 0, rv)) (hl : r2 < fs.length) (hN : r2 < qr_N r1) (hfin : (qx_T r1 r2).2.2.2 = false ∨ ((qm_M1 x).2.2.1 = true ∧ (qm_M1 x).2.2.2.1 = r1)) (hfit : qm_fitb (qx_ty r1 r2) v = true) (hp : pc + 3 = p) (k : qr_W X d x Q (p, ls, st, u ++ .inr (r1, fs.set r2 v) :: r, c, n)) : qr_W X d x Q (pc, ls, v :: .ref a :: st, u ++ .inr (r1, fs) :: r, c, n) :=
  qr_iput ha _ p hq hl hN hfin hfit rfl hp k
end QK
