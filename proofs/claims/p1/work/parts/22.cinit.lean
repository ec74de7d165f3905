section QI
variable {X : qm_X} {d : Nat} {x : qs_Ent} {Q : Option Value → qm_W → Prop} {pc : Nat} {ls : qm_L} {st : List Value} {u w : qm_W} {c n r1 r2 r3 : Nat} {rv : Value} {a : Nat}
theorem qi_g (u : qm_W) {a : Nat} (ha : a = 16 + u.length) (e : qm_E) (r : qm_W) : (u ++ e :: r)[a - 16]? = some e := by
  subst ha
  rw [Nat.add_sub_cancel_left, List.getElem?_append_right (Nat.le_refl _), Nat.sub_self]
  rfl
theorem qi_s (u : qm_W) {a : Nat} (ha : a = 16 + u.length) (e e' : qm_E) (r : qm_W) : (u ++ e :: r).set (a - 16) e' = u ++ e' :: r := by
  subst ha
  rw [Nat.add_sub_cancel_left, List.set_append_right _ _ (Nat.le_refl _), Nat.sub_self]
  rfl
theorem qi_s1 (u : qm_W) {a : Nat} (ha : a = 16 + u.length) (e e1 e' : qm_E) (r : qm_W) : (u ++ e :: e1 :: r).set (a - 16 + 1) e' = u ++ e :: e' :: r := by
  subst ha
  rw [Nat.add_sub_cancel_left, List.set_append_right _ _ (Nat.le_add_right _ _), Nat.add_sub_cancel_left]
  rfl
theorem qi_s2 (u : qm_W) {a : Nat} (ha : a = 16 + u.length) (e e1 e2 e' : qm_E) (r : qm_W) : (u ++ e :: e1 :: e2 :: r).set (a - 16 + 2) e' = u ++ e :: e1 :: e' :: r := by
  subst ha
  rw [Nat.add_sub_cancel_left, List.set_append_right _ _ (Nat.le_add_right _ _), Nat.add_sub_cancel_left]
  rfl
theorem qi_qc (u : qm_W) {a : Nat} (ha : a = 16 + u.length) (o e1 e2 e3 : qm_E) (ln at_ sz nm sk : Int) (t cd : Nat → Int) : qc (u ++ [o, e1, e2, e3]) a ln at_ sz nm sk t cd = u ++ [qc_o a ln at_ sz nm sk, .inl (.int, 120, .inl (qzf t)), .inl (.int, 122, .inl (qzf cd)), e3] := by
  unfold qc
  rw [qi_s u ha, qi_s1 u ha, qi_s2 u ha]
theorem qi_in (u : qm_W) {a : Nat} (ha : a = 16 + u.length) (o e1 e2 e3 : qm_E) : qc_in (u ++ [o, e1, e2, e3]) a := by
  unfold qc_in
  rw [List.length_append]
  show 16 ≤ a ∧ a - 16 + 3 < u.length + 4
  omega
theorem qr_iput {z : Nat} {fs : List Value} {r : qm_W} {v : Value} (ha : a = 16 + u.length) (fs' : List Value) (p : Nat) (hq : qm_fetch x.2.2.2.2.2.2.2 pc = some (pc, .putfield z, 3, r1, r2, 0, rv)) (hl : r2 < fs.length) (hN : r2 < qr_N r1) (hfin : (qx_T r1 r2).2.2.2 = false ∨ ((qm_M1 x).2.2.1 = true ∧ (qm_M1 x).2.2.2.1 = r1)) (hfit : qm_fitb (qx_ty r1 r2) v = true) (hs : fs.set r2 v = fs') (hp : pc + 3 = p) (k : qr_W X d x Q (p, ls, st, u ++ .inr (r1, fs') :: r, c, n)) : qr_W X d x Q (pc, ls, v :: .ref a :: st, u ++ .inr (r1, fs) :: r, c, n) := by
  subst hs
  refine qr_put p hq (by omega) (qi_g u ha _ _) hl hN hfin hfit hp ?_
  rw [qi_s u ha]
  exact k
theorem qr_inewI {y : Int} {r : qm_W} (ha : a = 16 + u.length) (r' : qm_W) (p c' n' b : Nat) (hq : qm_fetch x.2.2.2.2.2.2.2 pc = some (pc, .newarray .int, 2, r1, r2, r3, rv)) (hy : 0 ≤ y ∧ y ≤ 1000000) (hc : c + 1 ≤ (qm_M1 x).2.2.2.2.1) (hn : n + y.toNat ≤ (qm_M1 x).2.2.2.2.2) (hr : r ++ [.inl (.int, y.toNat, .inl (qzf (fun _ => 0)))] = r') (hb : r.length = b) (hc2 : c + 1 = c') (hn2 : n + y.toNat = n') (hp : pc + 2 = p) (k : qr_W X d x Q (p, ls, .ref (a + b) :: st, u ++ r', c', n')) : qr_W X d x Q (pc, ls, .int (qz y) :: st, u ++ r, c, n) := by
  subst hr
  subst hb
  refine qr_newI (u ++ (r ++ [.inl (.int, y.toNat, .inl (qzf (fun _ => 0)))])) p c' n' hq hy hc hn (List.append_assoc _ _ _) hc2 hn2 (a + r.length) (by rw [List.length_append]; omega) hp k
theorem qr_callC {q : qm_I} {k : Nat} {as rest : List Value} {Q' : Option Value → qm_W → Prop} (p : Nat) (hq : qm_fetch x.2.2.2.2.2.2.2 pc = some q) (hcall : qm_call X q st w = some (k, as, p, rest)) (hb : qm_bud k = (0, 0)) (hc : c ≤ (qm_M1 x).2.2.2.2.1) (hn : n ≤ (qm_M1 x).2.2.2.2.2) (hT : qm_T X d k as w Q') (kk : ∀ r w', Q' r w' → qr_W X d x Q (p, ls, r.toList ++ rest, w', c, n)) : qr_W X d x Q (pc, ls, st, w, c, n) :=
  qr_call p c n hq hcall (by rw [hb]; exact hc) (by rw [hb]; exact hn) (by rw [hb]; rfl) (by rw [hb]; rfl) hT kk
end QI
