section
section QK
variable {X : qm_X} {d : Nat} {x : qs_Ent} {Q : Option Value → qm_W → Prop} {pc : Nat} {ls : qm_L} {st : List Value} {u w : qm_W} {c n r1 r2 r3 : Nat} {rv : Value} {a : Nat}
theorem qi_gk (u : qm_W) {a b m : Nat} (ha : a = 16 + u.length) (hb : a + m = b) (l : qm_W) : (u ++ l)[b - 16]? = l[m]? := by
  subst ha
  subst hb
  rw [show 16 + u.length + m - 16 = u.length + m by omega, List.getElem?_append_right (Nat.le_add_right _ _), Nat.add_sub_cancel_left]
theorem qi_sk (u : qm_W) {a b m : Nat} (ha : a = 16 + u.length) (hb : a + m = b) (l : qm_W) (e : qm_E) : (u ++ l).set (b - 16) e = u ++ l.set m e := by
  subst ha
  subst hb
  rw [show 16 + u.length + m - 16 = u.length + m by omega, List.set_append_right _ _ (Nat.le_add_right _ _), Nat.add_sub_cancel_left]
theorem qr_iistk {l : qm_W} {N m b : Nat} {y v : Int} {f : Nat → Int} (ha : a = 16 + u.length) (hb : a + m = b) (l' : qm_W) (p : Nat) (hq : qm_fetch x.2.2.2.2.2.2.2 pc = some (pc, .iastore, 1, r1, r2, r3, rv)) (hl : l[m]? = some (.inl (.int, N, .inl (qzf f)))) (hz : 0 ≤ y ∧ y < (N : Int)) (hN : N ≤ 1000000) (hs : l.set m (.inl (.int, N, .inl (qzf (qzu f y.toNat v)))) = l') (hp : pc + 1 = p) (k : qr_W X d x Q (p, ls, st, u ++ l', c, n)) : qr_W X d x Q (pc, ls, .int (qz v) :: .int (qz y) :: .ref b :: st, u ++ l, c, n) := by
  subst hs
  refine qr_iastore p hq (by omega) ((qi_gk u ha hb l).trans hl) hz hN hp ?_
  rw [qi_sk u ha hb]
  exact k
end QK

section QK2
variable {X : qm_X} {d : Nat} {x : qs_Ent} {Q : Option Value → qm_W → Prop} {pc : Nat} {ls : qm_L} {st : List Value} {u w : qm_W} {c n r1 r2 r3 : Nat} {rv : Value} {a : Nat}
theorem qr_inewZ {y : Int} {r : qm_W} (ha : a = 16 + u.length) (r' : qm_W) (p c' n' b : Nat) (hq : qm_fetch x.2.2.2.2.2.2.2 pc = some (pc, .newarray .boolean, 2, r1, r2, r3, rv)) (hy : 0 ≤ y ∧ y ≤ 1000000) (hc : c + 1 ≤ (qm_M1 x).2.2.2.2.1) (hn : n + y.toNat ≤ (qm_M1 x).2.2.2.2.2) (hr : r ++ [.inl (.boolean, y.toNat, .inl (qzf (fun _ => 0)))] = r') (hb : r.length = b) (hc2 : c + 1 = c') (hn2 : n + y.toNat = n') (hp : pc + 2 = p) (k : qr_W X d x Q (p, ls, .ref (a + b) :: st, u ++ r', c', n')) : qr_W X d x Q (pc, ls, .int (qz y) :: st, u ++ r, c, n) := by
  subst hr
  subst hb
  refine qr_newZ (u ++ (r ++ [.inl (.boolean, y.toNat, .inl (qzf (fun _ => 0)))])) p c' n' hq hy hc hn (List.append_assoc _ _ _) hc2 hn2 (a + r.length) (by rw [List.length_append]; omega) hp k
end QK2

set_option maxHeartbeats 2000000 in
set_option maxRecDepth 20000 in
/-- OneRoofModel.<init> -/
theorem si_Model {X : qm_X} {d : Nat} {u : qm_W} {a : Nat} (ha : a = 16 + u.length)  : qm_T X (d + 1) 171 [.ref a] (u ++ [.inr (12, [.null, .null, .null, .null, .int (qz 0), .int (qz 0), .int (qz 0), .null, .null, .null, .long (ql 0), .int (qz 0), .null, .null, .null, .int (qz 0), .int (qz 0), .null, .null, .null, .null, .null, .long (ql 0), .int (qz 0), .int (qz 0), .null, .null, .null, .null, .long (ql 0), .int (qz 0), .null, .int (qz 0), .null, .null, .int (qz 0), .int (qz 0), .int (qz 0), .int (qz 0), .int (qz 0), .null, .int (qz 0), .null, .int (qz 0), .null, .null, .null, .null, .null, .null, .int (qz 0), .long (ql 0), .null, .null, .null, .null, .int (qz 0), .int (qz 0), .int (qz 0), .null, .null, .null, .null])]) (fun r w' => r = none ∧ w' = u ++ [.inr (12, [.ref (a + 1), .ref (a + 2), .ref (a + 3), .ref (a + 4), .int (qz 0), .int (qz 0), .int (qz 0), .ref (a + 5), .ref (a + 6), .ref (a + 7), .long (ql 0), .int (qz 0), .ref (a + 8), .ref (a + 9), .ref (a + 10), .int (qz 0), .int (qz 0), .ref (a + 11), .ref (a + 12), .ref (a + 13), .ref (a + 14), .ref (a + 15), .long (ql 0), .int (qz 0), .int (qz 0), .ref (a + 16), .ref (a + 17), .ref (a + 18), .ref (a + 19), .long (ql 0), .int (qz 0), .ref (a + 20), .int (qz 0), .ref (a + 21), .ref (a + 22), .int (qz 0), .int (qz 0), .int (qz 0), .int (qz 0), .int (qz 0), .ref (a + 23), .int (qz 0), .ref (a + 24), .int (qz 0), .ref (a + 25), .ref (a + 26), .ref (a + 27), .ref (a + 28), .ref (a + 29), .ref (a + 30), .int (qz 0), .long (ql (-1)), .ref (a + 31), .ref (a + 32), .ref (a + 33), .ref (a + 34), .int (qz 0), .int (qz 0), .int (qz 0), .ref (a + 35), .ref (a + 36), .ref (a + 37), .ref (a + 38)]), .inl (.int, 252, .inl (qzf (fun _ => 0))), .inl (.int, 40, .inl (qzf (fun _ => 0))), .inl (.int, 40, .inl (qzf (fun _ => 0))), .inl (.int, 40, .inl (qzf (fun _ => 0))), .inl (.int, 32, .inl (qzf (fun _ => 0))), .inl (.int, 32, .inl (qzf (fun _ => 0))), .inl (.int, 32, .inl (qzf (fun _ => 0))), .inl (.int, 61, .inl (qzf (fun _ => 0))), .inl (.int, 61, .inl (qzf (fun _ => 0))), .inl (.int, 1024, .inl (qzf (fun _ => 0))), .inl (.int, 40, .inl (qzf (fun _ => 0))), .inl (.int, 40, .inl (qzf (fun _ => 0))), .inl (.int, 40, .inl (qzf (fun _ => 0))), .inl (.int, 40, .inl (qzf (fun _ => 0))), .inl (.int, 40, .inl (qzf (fun _ => 0))), .inl (.int, 60, .inl (qzf (fun _ => 0))), .inl (.int, 60, .inl (qzf (fun _ => 0))), .inl (.int, 60, .inl (qzf (fun _ => 0))), .inl (.int, 60, .inl (qzf (fun _ => 0))), .inl (.int, 120, .inl (qzf (fun _ => 0))), .inl (.int, 240, .inl (qzf (fun _ => 0))), .inl (.int, 2, .inl (qzf (qzu (qzu (fun _ => 0) (0 : Int).toNat (-1)) (1 : Int).toNat (-1)))), .inl (.int, 9, .inl (qzf (fun _ => 0))), .inl (.int, 32, .inl (qzf (fun _ => 0))), .inl (.int, 12, .inl (qzf (fun _ => 0))), .inl (.int, 4096, .inl (qzf (fun _ => 0))), .inl (.int, 10, .inl (qzf (fun _ => 0))), .inl (.int, 6, .inl (qzf (fun _ => 0))), .inl (.int, 31, .inl (qzf (fun _ => 0))), .inl (.int, 31, .inl (qzf (fun _ => 0))), .inl (.int, 31, .inl (qzf (fun _ => 0))), .inl (.int, 31, .inl (qzf (fun _ => 0))), .inl (.boolean, 1024, .inl (qzf (fun _ => 0))), .inl (.int, 24, .inl (qzf (fun _ => 0))), .inl (.int, 6, .inl (qzf (qzu (qzu (qzu (qzu (qzu (qzu (fun _ => 0) (0 : Int).toNat (-1)) (1 : Int).toNat (-1)) (2 : Int).toNat (-1)) (3 : Int).toNat (-1)) (4 : Int).toNat (-1)) (5 : Int).toNat (-1)))), .inl (.int, 6, .inl (qzf (fun _ => 0))), .inl (.long, 360, .inr (.inl (qlf (fun _ => 0)))), .inl (.long, 60, .inr (.inl (qlf (fun _ => 0))))]) := by
  refine qr_start (d := d + 0) qv_e171 (Nat.le_of_ble_eq_true rfl) ?_
  show qr_W X (d + 0) qx_e171 _ (0, [(0, .ref a)], [], u ++ [.inr (12, [.null, .null, .null, .null, .int (qz 0), .int (qz 0), .int (qz 0), .null, .null, .null, .long (ql 0), .int (qz 0), .null, .null, .null, .int (qz 0), .int (qz 0), .null, .null, .null, .null, .null, .long (ql 0), .int (qz 0), .int (qz 0), .null, .null, .null, .null, .long (ql 0), .int (qz 0), .null, .int (qz 0), .null, .null, .int (qz 0), .int (qz 0), .int (qz 0), .int (qz 0), .int (qz 0), .null, .int (qz 0), .null, .int (qz 0), .null, .null, .null, .null, .null, .null, .int (qz 0), .long (ql 0), .null, .null, .null, .null, .int (qz 0), .int (qz 0), .int (qz 0), .null, .null, .null, .null])], 0, 0)
  refine qr_aload_n 1 rfl rfl rfl ?_
  refine qr_objinit 4 rfl (by decide) rfl ?_
  refine qr_aload_n 5 rfl rfl rfl ?_
  refine qr_sipush 8 rfl (by decide) rfl ?_
  refine qr_inewI ha [.inr (12, [.null, .null, .null, .null, .int (qz 0), .int (qz 0), .int (qz 0), .null, .null, .null, .long (ql 0), .int (qz 0), .null, .null, .null, .int (qz 0), .int (qz 0), .null, .null, .null, .null, .null, .long (ql 0), .int (qz 0), .int (qz 0), .null, .null, .null, .null, .long (ql 0), .int (qz 0), .null, .int (qz 0), .null, .null, .int (qz 0), .int (qz 0), .int (qz 0), .int (qz 0), .int (qz 0), .null, .int (qz 0), .null, .int (qz 0), .null, .null, .null, .null, .null, .null, .int (qz 0), .long (ql 0), .null, .null, .null, .null, .int (qz 0), .int (qz 0), .int (qz 0), .null, .null, .null, .null]), .inl (.int, 252, .inl (qzf (fun _ => 0)))] 10 1 252 1 rfl (by decide) (Nat.le_of_ble_eq_true rfl) (Nat.le_of_ble_eq_true rfl) rfl rfl rfl rfl rfl ?_
  refine qr_iput ha [.ref (a + 1), .null, .null, .null, .int (qz 0), .int (qz 0), .int (qz 0), .null, .null, .null, .long (ql 0), .int (qz 0), .null, .null, .null, .int (qz 0), .int (qz 0), .null, .null, .null, .null, .null, .long (ql 0), .int (qz 0), .int (qz 0), .null, .null, .null, .null, .long (ql 0), .int (qz 0), .null, .int (qz 0), .null, .null, .int (qz 0), .int (qz 0), .int (qz 0), .int (qz 0), .int (qz 0), .null, .int (qz 0), .null, .int (qz 0), .null, .null, .null, .null, .null, .null, .int (qz 0), .long (ql 0), .null, .null, .null, .null, .int (qz 0), .int (qz 0), .int (qz 0), .null, .null, .null, .null] 13 rfl (Nat.le_of_ble_eq_true rfl) (Nat.le_of_ble_eq_true rfl) (Or.inr ⟨by decide, rfl⟩) (qr_fitR (Or.inr ⟨_, rfl⟩) _) rfl rfl ?_
  refine qr_aload_n 14 rfl rfl rfl ?_
  refine qr_bipush 16 rfl (by decide) rfl ?_
  refine qr_inewI ha [.inr (12, [.ref (a + 1), .null, .null, .null, .int (qz 0), .int (qz 0), .int (qz 0), .null, .null, .null, .long (ql 0), .int (qz 0), .null, .null, .null, .int (qz 0), .int (qz 0), .null, .null, .null, .null, .null, .long (ql 0), .int (qz 0), .int (qz 0), .null, .null, .null, .null, .long (ql 0), .int (qz 0), .null, .int (qz 0), .null, .null, .int (qz 0), .int (qz 0), .int (qz 0), .int (qz 0), .int (qz 0), .null, .int (qz 0), .null, .int (qz 0), .null, .null, .null, .null, .null, .null, .int (qz 0), .long (ql 0), .null, .null, .null, .null, .int (qz 0), .int (qz 0), .int (qz 0), .null, .null, .null, .null]), .inl (.int, 252, .inl (qzf (fun _ => 0))), .inl (.int, 40, .inl (qzf (fun _ => 0)))] 18 2 292 2 rfl (by decide) (Nat.le_of_ble_eq_true rfl) (Nat.le_of_ble_eq_true rfl) rfl rfl rfl rfl rfl ?_
  refine qr_iput ha [.ref (a + 1), .ref (a + 2), .null, .null, .int (qz 0), .int (qz 0), .int (qz 0), .null, .null, .null, .long (ql 0), .int (qz 0), .null, .null, .null, .int (qz 0), .int (qz 0), .null, .null, .null, .null, .null, .long (ql 0), .int (qz 0), .int (qz 0), .null, .null, .null, .null, .long (ql 0), .int (qz 0), .null, .int (qz 0), .null, .null, .int (qz 0), .int (qz 0), .int (qz 0), .int (qz 0), .int (qz 0), .null, .int (qz 0), .null, .int (qz 0), .null, .null, .null, .null, .null, .null, .int (qz 0), .long (ql 0), .null, .null, .null, .null, .int (qz 0), .int (qz 0), .int (qz 0), .null, .null, .null, .null] 21 rfl (Nat.le_of_ble_eq_true rfl) (Nat.le_of_ble_eq_true rfl) (Or.inr ⟨by decide, rfl⟩) (qr_fitR (Or.inr ⟨_, rfl⟩) _) rfl rfl ?_
  refine qr_aload_n 22 rfl rfl rfl ?_
  refine qr_bipush 24 rfl (by decide) rfl ?_
  refine qr_inewI ha [.inr (12, [.ref (a + 1), .ref (a + 2), .null, .null, .int (qz 0), .int (qz 0), .int (qz 0), .null, .null, .null, .long (ql 0), .int (qz 0), .null, .null, .null, .int (qz 0), .int (qz 0), .null, .null, .null, .null, .null, .long (ql 0), .int (qz 0), .int (qz 0), .null, .null, .null, .null, .long (ql 0), .int (qz 0), .null, .int (qz 0), .null, .null, .int (qz 0), .int (qz 0), .int (qz 0), .int (qz 0), .int (qz 0), .null, .int (qz 0), .null, .int (qz 0), .null, .null, .null, .null, .null, .null, .int (qz 0), .long (ql 0), .null, .null, .null, .null, .int (qz 0), .int (qz 0), .int (qz 0), .null, .null, .null, .null]), .inl (.int, 252, .inl (qzf (fun _ => 0))), .inl (.int, 40, .inl (qzf (fun _ => 0))), .inl (.int, 40, .inl (qzf (fun _ => 0)))] 26 3 332 3 rfl (by decide) (Nat.le_of_ble_eq_true rfl) (Nat.le_of_ble_eq_true rfl) rfl rfl rfl rfl rfl ?_
  refine qr_iput ha [.ref (a + 1), .ref (a + 2), .ref (a + 3), .null, .int (qz 0), .int (qz 0), .int (qz 0), .null, .null, .null, .long (ql 0), .int (qz 0), .null, .null, .null, .int (qz 0), .int (qz 0), .null, .null, .null, .null, .null, .long (ql 0), .int (qz 0), .int (qz 0), .null, .null, .null, .null, .long (ql 0), .int (qz 0), .null, .int (qz 0), .null, .null, .int (qz 0), .int (qz 0), .int (qz 0), .int (qz 0), .int (qz 0), .null, .int (qz 0), .null, .int (qz 0), .null, .null, .null, .null, .null, .null, .int (qz 0), .long (ql 0), .null, .null, .null, .null, .int (qz 0), .int (qz 0), .int (qz 0), .null, .null, .null, .null] 29 rfl (Nat.le_of_ble_eq_true rfl) (Nat.le_of_ble_eq_true rfl) (Or.inr ⟨by decide, rfl⟩) (qr_fitR (Or.inr ⟨_, rfl⟩) _) rfl rfl ?_
  refine qr_aload_n 30 rfl rfl rfl ?_
  refine qr_bipush 32 rfl (by decide) rfl ?_
  refine qr_inewI ha [.inr (12, [.ref (a + 1), .ref (a + 2), .ref (a + 3), .null, .int (qz 0), .int (qz 0), .int (qz 0), .null, .null, .null, .long (ql 0), .int (qz 0), .null, .null, .null, .int (qz 0), .int (qz 0), .null, .null, .null, .null, .null, .long (ql 0), .int (qz 0), .int (qz 0), .null, .null, .null, .null, .long (ql 0), .int (qz 0), .null, .int (qz 0), .null, .null, .int (qz 0), .int (qz 0), .int (qz 0), .int (qz 0), .int (qz 0), .null, .int (qz 0), .null, .int (qz 0), .null, .null, .null, .null, .null, .null, .int (qz 0), .long (ql 0), .null, .null, .null, .null, .int (qz 0), .int (qz 0), .int (qz 0), .null, .null, .null, .null]), .inl (.int, 252, .inl (qzf (fun _ => 0))), .inl (.int, 40, .inl (qzf (fun _ => 0))), .inl (.int, 40, .inl (qzf (fun _ => 0))), .inl (.int, 40, .inl (qzf (fun _ => 0)))] 34 4 372 4 rfl (by decide) (Nat.le_of_ble_eq_true rfl) (Nat.le_of_ble_eq_true rfl) rfl rfl rfl rfl rfl ?_
  refine qr_iput ha [.ref (a + 1), .ref (a + 2), .ref (a + 3), .ref (a + 4), .int (qz 0), .int (qz 0), .int (qz 0), .null, .null, .null, .long (ql 0), .int (qz 0), .null, .null, .null, .int (qz 0), .int (qz 0), .null, .null, .null, .null, .null, .long (ql 0), .int (qz 0), .int (qz 0), .null, .null, .null, .null, .long (ql 0), .int (qz 0), .null, .int (qz 0), .null, .null, .int (qz 0), .int (qz 0), .int (qz 0), .int (qz 0), .int (qz 0), .null, .int (qz 0), .null, .int (qz 0), .null, .null, .null, .null, .null, .null, .int (qz 0), .long (ql 0), .null, .null, .null, .null, .int (qz 0), .int (qz 0), .int (qz 0), .null, .null, .null, .null] 37 rfl (Nat.le_of_ble_eq_true rfl) (Nat.le_of_ble_eq_true rfl) (Or.inr ⟨by decide, rfl⟩) (qr_fitR (Or.inr ⟨_, rfl⟩) _) rfl rfl ?_
  refine qr_aload_n 38 rfl rfl rfl ?_
  refine qr_bipush 40 rfl (by decide) rfl ?_
  refine qr_inewI ha [.inr (12, [.ref (a + 1), .ref (a + 2), .ref (a + 3), .ref (a + 4), .int (qz 0), .int (qz 0), .int (qz 0), .null, .null, .null, .long (ql 0), .int (qz 0), .null, .null, .null, .int (qz 0), .int (qz 0), .null, .null, .null, .null, .null, .long (ql 0), .int (qz 0), .int (qz 0), .null, .null, .null, .null, .long (ql 0), .int (qz 0), .null, .int (qz 0), .null, .null, .int (qz 0), .int (qz 0), .int (qz 0), .int (qz 0), .int (qz 0), .null, .int (qz 0), .null, .int (qz 0), .null, .null, .null, .null, .null, .null, .int (qz 0), .long (ql 0), .null, .null, .null, .null, .int (qz 0), .int (qz 0), .int (qz 0), .null, .null, .null, .null]), .inl (.int, 252, .inl (qzf (fun _ => 0))), .inl (.int, 40, .inl (qzf (fun _ => 0))), .inl (.int, 40, .inl (qzf (fun _ => 0))), .inl (.int, 40, .inl (qzf (fun _ => 0))), .inl (.int, 32, .inl (qzf (fun _ => 0)))] 42 5 404 5 rfl (by decide) (Nat.le_of_ble_eq_true rfl) (Nat.le_of_ble_eq_true rfl) rfl rfl rfl rfl rfl ?_
  refine qr_iput ha [.ref (a + 1), .ref (a + 2), .ref (a + 3), .ref (a + 4), .int (qz 0), .int (qz 0), .int (qz 0), .ref (a + 5), .null, .null, .long (ql 0), .int (qz 0), .null, .null, .null, .int (qz 0), .int (qz 0), .null, .null, .null, .null, .null, .long (ql 0), .int (qz 0), .int (qz 0), .null, .null, .null, .null, .long (ql 0), .int (qz 0), .null, .int (qz 0), .null, .null, .int (qz 0), .int (qz 0), .int (qz 0), .int (qz 0), .int (qz 0), .null, .int (qz 0), .null, .int (qz 0), .null, .null, .null, .null, .null, .null, .int (qz 0), .long (ql 0), .null, .null, .null, .null, .int (qz 0), .int (qz 0), .int (qz 0), .null, .null, .null, .null] 45 rfl (Nat.le_of_ble_eq_true rfl) (Nat.le_of_ble_eq_true rfl) (Or.inr ⟨by decide, rfl⟩) (qr_fitR (Or.inr ⟨_, rfl⟩) _) rfl rfl ?_
  refine qr_aload_n 46 rfl rfl rfl ?_
  refine qr_bipush 48 rfl (by decide) rfl ?_
  refine qr_inewI ha [.inr (12, [.ref (a + 1), .ref (a + 2), .ref (a + 3), .ref (a + 4), .int (qz 0), .int (qz 0), .int (qz 0), .ref (a + 5), .null, .null, .long (ql 0), .int (qz 0), .null, .null, .null, .int (qz 0), .int (qz 0), .null, .null, .null, .null, .null, .long (ql 0), .int (qz 0), .int (qz 0), .null, .null, .null, .null, .long (ql 0), .int (qz 0), .null, .int (qz 0), .null, .null, .int (qz 0), .int (qz 0), .int (qz 0), .int (qz 0), .int (qz 0), .null, .int (qz 0), .null, .int (qz 0), .null, .null, .null, .null, .null, .null, .int (qz 0), .long (ql 0), .null, .null, .null, .null, .int (qz 0), .int (qz 0), .int (qz 0), .null, .null, .null, .null]), .inl (.int, 252, .inl (qzf (fun _ => 0))), .inl (.int, 40, .inl (qzf (fun _ => 0))), .inl (.int, 40, .inl (qzf (fun _ => 0))), .inl (.int, 40, .inl (qzf (fun _ => 0))), .inl (.int, 32, .inl (qzf (fun _ => 0))), .inl (.int, 32, .inl (qzf (fun _ => 0)))] 50 6 436 6 rfl (by decide) (Nat.le_of_ble_eq_true rfl) (Nat.le_of_ble_eq_true rfl) rfl rfl rfl rfl rfl ?_
  refine qr_iput ha [.ref (a + 1), .ref (a + 2), .ref (a + 3), .ref (a + 4), .int (qz 0), .int (qz 0), .int (qz 0), .ref (a + 5), .ref (a + 6), .null, .long (ql 0), .int (qz 0), .null, .null, .null, .int (qz 0), .int (qz 0), .null, .null, .null, .null, .null, .long (ql 0), .int (qz 0), .int (qz 0), .null, .null, .null, .null, .long (ql 0), .int (qz 0), .null, .int (qz 0), .null, .null, .int (qz 0), .int (qz 0), .int (qz 0), .int (qz 0), .int (qz 0), .null, .int (qz 0), .null, .int (qz 0), .null, .null, .null, .null, .null, .null, .int (qz 0), .long (ql 0), .null, .null, .null, .null, .int (qz 0), .int (qz 0), .int (qz 0), .null, .null, .null, .null] 53 rfl (Nat.le_of_ble_eq_true rfl) (Nat.le_of_ble_eq_true rfl) (Or.inr ⟨by decide, rfl⟩) (qr_fitR (Or.inr ⟨_, rfl⟩) _) rfl rfl ?_
  refine qr_aload_n 54 rfl rfl rfl ?_
  refine qr_bipush 56 rfl (by decide) rfl ?_
  refine qr_inewI ha [.inr (12, [.ref (a + 1), .ref (a + 2), .ref (a + 3), .ref (a + 4), .int (qz 0), .int (qz 0), .int (qz 0), .ref (a + 5), .ref (a + 6), .null, .long (ql 0), .int (qz 0), .null, .null, .null, .int (qz 0), .int (qz 0), .null, .null, .null, .null, .null, .long (ql 0), .int (qz 0), .int (qz 0), .null, .null, .null, .null, .long (ql 0), .int (qz 0), .null, .int (qz 0), .null, .null, .int (qz 0), .int (qz 0), .int (qz 0), .int (qz 0), .int (qz 0), .null, .int (qz 0), .null, .int (qz 0), .null, .null, .null, .null, .null, .null, .int (qz 0), .long (ql 0), .null, .null, .null, .null, .int (qz 0), .int (qz 0), .int (qz 0), .null, .null, .null, .null]), .inl (.int, 252, .inl (qzf (fun _ => 0))), .inl (.int, 40, .inl (qzf (fun _ => 0))), .inl (.int, 40, .inl (qzf (fun _ => 0))), .inl (.int, 40, .inl (qzf (fun _ => 0))), .inl (.int, 32, .inl (qzf (fun _ => 0))), .inl (.int, 32, .inl (qzf (fun _ => 0))), .inl (.int, 32, .inl (qzf (fun _ => 0)))] 58 7 468 7 rfl (by decide) (Nat.le_of_ble_eq_true rfl) (Nat.le_of_ble_eq_true rfl) rfl rfl rfl rfl rfl ?_
  refine qr_iput ha [.ref (a + 1), .ref (a + 2), .ref (a + 3), .ref (a + 4), .int (qz 0), .int (qz 0), .int (qz 0), .ref (a + 5), .ref (a + 6), .ref (a + 7), .long (ql 0), .int (qz 0), .null, .null, .null, .int (qz 0), .int (qz 0), .null, .null, .null, .null, .null, .long (ql 0), .int (qz 0), .int (qz 0), .null, .null, .null, .null, .long (ql 0), .int (qz 0), .null, .int (qz 0), .null, .null, .int (qz 0), .int (qz 0), .int (qz 0), .int (qz 0), .int (qz 0), .null, .int (qz 0), .null, .int (qz 0), .null, .null, .null, .null, .null, .null, .int (qz 0), .long (ql 0), .null, .null, .null, .null, .int (qz 0), .int (qz 0), .int (qz 0), .null, .null, .null, .null] 61 rfl (Nat.le_of_ble_eq_true rfl) (Nat.le_of_ble_eq_true rfl) (Or.inr ⟨by decide, rfl⟩) (qr_fitR (Or.inr ⟨_, rfl⟩) _) rfl rfl ?_
  refine qr_aload_n 62 rfl rfl rfl ?_
  refine qr_bipush 64 rfl (by decide) rfl ?_
  refine qr_inewI ha [.inr (12, [.ref (a + 1), .ref (a + 2), .ref (a + 3), .ref (a + 4), .int (qz 0), .int (qz 0), .int (qz 0), .ref (a + 5), .ref (a + 6), .ref (a + 7), .long (ql 0), .int (qz 0), .null, .null, .null, .int (qz 0), .int (qz 0), .null, .null, .null, .null, .null, .long (ql 0), .int (qz 0), .int (qz 0), .null, .null, .null, .null, .long (ql 0), .int (qz 0), .null, .int (qz 0), .null, .null, .int (qz 0), .int (qz 0), .int (qz 0), .int (qz 0), .int (qz 0), .null, .int (qz 0), .null, .int (qz 0), .null, .null, .null, .null, .null, .null, .int (qz 0), .long (ql 0), .null, .null, .null, .null, .int (qz 0), .int (qz 0), .int (qz 0), .null, .null, .null, .null]), .inl (.int, 252, .inl (qzf (fun _ => 0))), .inl (.int, 40, .inl (qzf (fun _ => 0))), .inl (.int, 40, .inl (qzf (fun _ => 0))), .inl (.int, 40, .inl (qzf (fun _ => 0))), .inl (.int, 32, .inl (qzf (fun _ => 0))), .inl (.int, 32, .inl (qzf (fun _ => 0))), .inl (.int, 32, .inl (qzf (fun _ => 0))), .inl (.int, 61, .inl (qzf (fun _ => 0)))] 66 8 529 8 rfl (by decide) (Nat.le_of_ble_eq_true rfl) (Nat.le_of_ble_eq_true rfl) rfl rfl rfl rfl rfl ?_
  refine qr_iput ha [.ref (a + 1), .ref (a + 2), .ref (a + 3), .ref (a + 4), .int (qz 0), .int (qz 0), .int (qz 0), .ref (a + 5), .ref (a + 6), .ref (a + 7), .long (ql 0), .int (qz 0), .ref (a + 8), .null, .null, .int (qz 0), .int (qz 0), .null, .null, .null, .null, .null, .long (ql 0), .int (qz 0), .int (qz 0), .null, .null, .null, .null, .long (ql 0), .int (qz 0), .null, .int (qz 0), .null, .null, .int (qz 0), .int (qz 0), .int (qz 0), .int (qz 0), .int (qz 0), .null, .int (qz 0), .null, .int (qz 0), .null, .null, .null, .null, .null, .null, .int (qz 0), .long (ql 0), .null, .null, .null, .null, .int (qz 0), .int (qz 0), .int (qz 0), .null, .null, .null, .null] 69 rfl (Nat.le_of_ble_eq_true rfl) (Nat.le_of_ble_eq_true rfl) (Or.inr ⟨by decide, rfl⟩) (qr_fitR (Or.inr ⟨_, rfl⟩) _) rfl rfl ?_
  refine qr_aload_n 70 rfl rfl rfl ?_
  refine qr_bipush 72 rfl (by decide) rfl ?_
  refine qr_inewI ha [.inr (12, [.ref (a + 1), .ref (a + 2), .ref (a + 3), .ref (a + 4), .int (qz 0), .int (qz 0), .int (qz 0), .ref (a + 5), .ref (a + 6), .ref (a + 7), .long (ql 0), .int (qz 0), .ref (a + 8), .null, .null, .int (qz 0), .int (qz 0), .null, .null, .null, .null, .null, .long (ql 0), .int (qz 0), .int (qz 0), .null, .null, .null, .null, .long (ql 0), .int (qz 0), .null, .int (qz 0), .null, .null, .int (qz 0), .int (qz 0), .int (qz 0), .int (qz 0), .int (qz 0), .null, .int (qz 0), .null, .int (qz 0), .null, .null, .null, .null, .null, .null, .int (qz 0), .long (ql 0), .null, .null, .null, .null, .int (qz 0), .int (qz 0), .int (qz 0), .null, .null, .null, .null]), .inl (.int, 252, .inl (qzf (fun _ => 0))), .inl (.int, 40, .inl (qzf (fun _ => 0))), .inl (.int, 40, .inl (qzf (fun _ => 0))), .inl (.int, 40, .inl (qzf (fun _ => 0))), .inl (.int, 32, .inl (qzf (fun _ => 0))), .inl (.int, 32, .inl (qzf (fun _ => 0))), .inl (.int, 32, .inl (qzf (fun _ => 0))), .inl (.int, 61, .inl (qzf (fun _ => 0))), .inl (.int, 61, .inl (qzf (fun _ => 0)))] 74 9 590 9 rfl (by decide) (Nat.le_of_ble_eq_true rfl) (Nat.le_of_ble_eq_true rfl) rfl rfl rfl rfl rfl ?_
  refine qr_iput ha [.ref (a + 1), .ref (a + 2), .ref (a + 3), .ref (a + 4), .int (qz 0), .int (qz 0), .int (qz 0), .ref (a + 5), .ref (a + 6), .ref (a + 7), .long (ql 0), .int (qz 0), .ref (a + 8), .ref (a + 9), .null, .int (qz 0), .int (qz 0), .null, .null, .null, .null, .null, .long (ql 0), .int (qz 0), .int (qz 0), .null, .null, .null, .null, .long (ql 0), .int (qz 0), .null, .int (qz 0), .null, .null, .int (qz 0), .int (qz 0), .int (qz 0), .int (qz 0), .int (qz 0), .null, .int (qz 0), .null, .int (qz 0), .null, .null, .null, .null, .null, .null, .int (qz 0), .long (ql 0), .null, .null, .null, .null, .int (qz 0), .int (qz 0), .int (qz 0), .null, .null, .null, .null] 77 rfl (Nat.le_of_ble_eq_true rfl) (Nat.le_of_ble_eq_true rfl) (Or.inr ⟨by decide, rfl⟩) (qr_fitR (Or.inr ⟨_, rfl⟩) _) rfl rfl ?_
  refine qr_aload_n 78 rfl rfl rfl ?_
  refine qr_sipush 81 rfl (by decide) rfl ?_
  refine qr_inewI ha [.inr (12, [.ref (a + 1), .ref (a + 2), .ref (a + 3), .ref (a + 4), .int (qz 0), .int (qz 0), .int (qz 0), .ref (a + 5), .ref (a + 6), .ref (a + 7), .long (ql 0), .int (qz 0), .ref (a + 8), .ref (a + 9), .null, .int (qz 0), .int (qz 0), .null, .null, .null, .null, .null, .long (ql 0), .int (qz 0), .int (qz 0), .null, .null, .null, .null, .long (ql 0), .int (qz 0), .null, .int (qz 0), .null, .null, .int (qz 0), .int (qz 0), .int (qz 0), .int (qz 0), .int (qz 0), .null, .int (qz 0), .null, .int (qz 0), .null, .null, .null, .null, .null, .null, .int (qz 0), .long (ql 0), .null, .null, .null, .null, .int (qz 0), .int (qz 0), .int (qz 0), .null, .null, .null, .null]), .inl (.int, 252, .inl (qzf (fun _ => 0))), .inl (.int, 40, .inl (qzf (fun _ => 0))), .inl (.int, 40, .inl (qzf (fun _ => 0))), .inl (.int, 40, .inl (qzf (fun _ => 0))), .inl (.int, 32, .inl (qzf (fun _ => 0))), .inl (.int, 32, .inl (qzf (fun _ => 0))), .inl (.int, 32, .inl (qzf (fun _ => 0))), .inl (.int, 61, .inl (qzf (fun _ => 0))), .inl (.int, 61, .inl (qzf (fun _ => 0))), .inl (.int, 1024, .inl (qzf (fun _ => 0)))] 83 10 1614 10 rfl (by decide) (Nat.le_of_ble_eq_true rfl) (Nat.le_of_ble_eq_true rfl) rfl rfl rfl rfl rfl ?_
  refine qr_iput ha [.ref (a + 1), .ref (a + 2), .ref (a + 3), .ref (a + 4), .int (qz 0), .int (qz 0), .int (qz 0), .ref (a + 5), .ref (a + 6), .ref (a + 7), .long (ql 0), .int (qz 0), .ref (a + 8), .ref (a + 9), .ref (a + 10), .int (qz 0), .int (qz 0), .null, .null, .null, .null, .null, .long (ql 0), .int (qz 0), .int (qz 0), .null, .null, .null, .null, .long (ql 0), .int (qz 0), .null, .int (qz 0), .null, .null, .int (qz 0), .int (qz 0), .int (qz 0), .int (qz 0), .int (qz 0), .null, .int (qz 0), .null, .int (qz 0), .null, .null, .null, .null, .null, .null, .int (qz 0), .long (ql 0), .null, .null, .null, .null, .int (qz 0), .int (qz 0), .int (qz 0), .null, .null, .null, .null] 86 rfl (Nat.le_of_ble_eq_true rfl) (Nat.le_of_ble_eq_true rfl) (Or.inr ⟨by decide, rfl⟩) (qr_fitR (Or.inr ⟨_, rfl⟩) _) rfl rfl ?_
  refine qr_aload_n 87 rfl rfl rfl ?_
  refine qr_bipush 89 rfl (by decide) rfl ?_
  refine qr_inewI ha [.inr (12, [.ref (a + 1), .ref (a + 2), .ref (a + 3), .ref (a + 4), .int (qz 0), .int (qz 0), .int (qz 0), .ref (a + 5), .ref (a + 6), .ref (a + 7), .long (ql 0), .int (qz 0), .ref (a + 8), .ref (a + 9), .ref (a + 10), .int (qz 0), .int (qz 0), .null, .null, .null, .null, .null, .long (ql 0), .int (qz 0), .int (qz 0), .null, .null, .null, .null, .long (ql 0), .int (qz 0), .null, .int (qz 0), .null, .null, .int (qz 0), .int (qz 0), .int (qz 0), .int (qz 0), .int (qz 0), .null, .int (qz 0), .null, .int (qz 0), .null, .null, .null, .null, .null, .null, .int (qz 0), .long (ql 0), .null, .null, .null, .null, .int (qz 0), .int (qz 0), .int (qz 0), .null, .null, .null, .null]), .inl (.int, 252, .inl (qzf (fun _ => 0))), .inl (.int, 40, .inl (qzf (fun _ => 0))), .inl (.int, 40, .inl (qzf (fun _ => 0))), .inl (.int, 40, .inl (qzf (fun _ => 0))), .inl (.int, 32, .inl (qzf (fun _ => 0))), .inl (.int, 32, .inl (qzf (fun _ => 0))), .inl (.int, 32, .inl (qzf (fun _ => 0))), .inl (.int, 61, .inl (qzf (fun _ => 0))), .inl (.int, 61, .inl (qzf (fun _ => 0))), .inl (.int, 1024, .inl (qzf (fun _ => 0))), .inl (.int, 40, .inl (qzf (fun _ => 0)))] 91 11 1654 11 rfl (by decide) (Nat.le_of_ble_eq_true rfl) (Nat.le_of_ble_eq_true rfl) rfl rfl rfl rfl rfl ?_
  refine qr_iput ha [.ref (a + 1), .ref (a + 2), .ref (a + 3), .ref (a + 4), .int (qz 0), .int (qz 0), .int (qz 0), .ref (a + 5), .ref (a + 6), .ref (a + 7), .long (ql 0), .int (qz 0), .ref (a + 8), .ref (a + 9), .ref (a + 10), .int (qz 0), .int (qz 0), .ref (a + 11), .null, .null, .null, .null, .long (ql 0), .int (qz 0), .int (qz 0), .null, .null, .null, .null, .long (ql 0), .int (qz 0), .null, .int (qz 0), .null, .null, .int (qz 0), .int (qz 0), .int (qz 0), .int (qz 0), .int (qz 0), .null, .int (qz 0), .null, .int (qz 0), .null, .null, .null, .null, .null, .null, .int (qz 0), .long (ql 0), .null, .null, .null, .null, .int (qz 0), .int (qz 0), .int (qz 0), .null, .null, .null, .null] 94 rfl (Nat.le_of_ble_eq_true rfl) (Nat.le_of_ble_eq_true rfl) (Or.inr ⟨by decide, rfl⟩) (qr_fitR (Or.inr ⟨_, rfl⟩) _) rfl rfl ?_
  refine qr_aload_n 95 rfl rfl rfl ?_
  refine qr_bipush 97 rfl (by decide) rfl ?_
  refine qr_inewI ha [.inr (12, [.ref (a + 1), .ref (a + 2), .ref (a + 3), .ref (a + 4), .int (qz 0), .int (qz 0), .int (qz 0), .ref (a + 5), .ref (a + 6), .ref (a + 7), .long (ql 0), .int (qz 0), .ref (a + 8), .ref (a + 9), .ref (a + 10), .int (qz 0), .int (qz 0), .ref (a + 11), .null, .null, .null, .null, .long (ql 0), .int (qz 0), .int (qz 0), .null, .null, .null, .null, .long (ql 0), .int (qz 0), .null, .int (qz 0), .null, .null, .int (qz 0), .int (qz 0), .int (qz 0), .int (qz 0), .int (qz 0), .null, .int (qz 0), .null, .int (qz 0), .null, .null, .null, .null, .null, .null, .int (qz 0), .long (ql 0), .null, .null, .null, .null, .int (qz 0), .int (qz 0), .int (qz 0), .null, .null, .null, .null]), .inl (.int, 252, .inl (qzf (fun _ => 0))), .inl (.int, 40, .inl (qzf (fun _ => 0))), .inl (.int, 40, .inl (qzf (fun _ => 0))), .inl (.int, 40, .inl (qzf (fun _ => 0))), .inl (.int, 32, .inl (qzf (fun _ => 0))), .inl (.int, 32, .inl (qzf (fun _ => 0))), .inl (.int, 32, .inl (qzf (fun _ => 0))), .inl (.int, 61, .inl (qzf (fun _ => 0))), .inl (.int, 61, .inl (qzf (fun _ => 0))), .inl (.int, 1024, .inl (qzf (fun _ => 0))), .inl (.int, 40, .inl (qzf (fun _ => 0))), .inl (.int, 40, .inl (qzf (fun _ => 0)))] 99 12 1694 12 rfl (by decide) (Nat.le_of_ble_eq_true rfl) (Nat.le_of_ble_eq_true rfl) rfl rfl rfl rfl rfl ?_
  refine qr_iput ha [.ref (a + 1), .ref (a + 2), .ref (a + 3), .ref (a + 4), .int (qz 0), .int (qz 0), .int (qz 0), .ref (a + 5), .ref (a + 6), .ref (a + 7), .long (ql 0), .int (qz 0), .ref (a + 8), .ref (a + 9), .ref (a + 10), .int (qz 0), .int (qz 0), .ref (a + 11), .ref (a + 12), .null, .null, .null, .long (ql 0), .int (qz 0), .int (qz 0), .null, .null, .null, .null, .long (ql 0), .int (qz 0), .null, .int (qz 0), .null, .null, .int (qz 0), .int (qz 0), .int (qz 0), .int (qz 0), .int (qz 0), .null, .int (qz 0), .null, .int (qz 0), .null, .null, .null, .null, .null, .null, .int (qz 0), .long (ql 0), .null, .null, .null, .null, .int (qz 0), .int (qz 0), .int (qz 0), .null, .null, .null, .null] 102 rfl (Nat.le_of_ble_eq_true rfl) (Nat.le_of_ble_eq_true rfl) (Or.inr ⟨by decide, rfl⟩) (qr_fitR (Or.inr ⟨_, rfl⟩) _) rfl rfl ?_
  refine qr_aload_n 103 rfl rfl rfl ?_
  refine qr_bipush 105 rfl (by decide) rfl ?_
  refine qr_inewI ha [.inr (12, [.ref (a + 1), .ref (a + 2), .ref (a + 3), .ref (a + 4), .int (qz 0), .int (qz 0), .int (qz 0), .ref (a + 5), .ref (a + 6), .ref (a + 7), .long (ql 0), .int (qz 0), .ref (a + 8), .ref (a + 9), .ref (a + 10), .int (qz 0), .int (qz 0), .ref (a + 11), .ref (a + 12), .null, .null, .null, .long (ql 0), .int (qz 0), .int (qz 0), .null, .null, .null, .null, .long (ql 0), .int (qz 0), .null, .int (qz 0), .null, .null, .int (qz 0), .int (qz 0), .int (qz 0), .int (qz 0), .int (qz 0), .null, .int (qz 0), .null, .int (qz 0), .null, .null, .null, .null, .null, .null, .int (qz 0), .long (ql 0), .null, .null, .null, .null, .int (qz 0), .int (qz 0), .int (qz 0), .null, .null, .null, .null]), .inl (.int, 252, .inl (qzf (fun _ => 0))), .inl (.int, 40, .inl (qzf (fun _ => 0))), .inl (.int, 40, .inl (qzf (fun _ => 0))), .inl (.int, 40, .inl (qzf (fun _ => 0))), .inl (.int, 32, .inl (qzf (fun _ => 0))), .inl (.int, 32, .inl (qzf (fun _ => 0))), .inl (.int, 32, .inl (qzf (fun _ => 0))), .inl (.int, 61, .inl (qzf (fun _ => 0))), .inl (.int, 61, .inl (qzf (fun _ => 0))), .inl (.int, 1024, .inl (qzf (fun _ => 0))), .inl (.int, 40, .inl (qzf (fun _ => 0))), .inl (.int, 40, .inl (qzf (fun _ => 0))), .inl (.int, 40, .inl (qzf (fun _ => 0)))] 107 13 1734 13 rfl (by decide) (Nat.le_of_ble_eq_true rfl) (Nat.le_of_ble_eq_true rfl) rfl rfl rfl rfl rfl ?_
  refine qr_iput ha [.ref (a + 1), .ref (a + 2), .ref (a + 3), .ref (a + 4), .int (qz 0), .int (qz 0), .int (qz 0), .ref (a + 5), .ref (a + 6), .ref (a + 7), .long (ql 0), .int (qz 0), .ref (a + 8), .ref (a + 9), .ref (a + 10), .int (qz 0), .int (qz 0), .ref (a + 11), .ref (a + 12), .ref (a + 13), .null, .null, .long (ql 0), .int (qz 0), .int (qz 0), .null, .null, .null, .null, .long (ql 0), .int (qz 0), .null, .int (qz 0), .null, .null, .int (qz 0), .int (qz 0), .int (qz 0), .int (qz 0), .int (qz 0), .null, .int (qz 0), .null, .int (qz 0), .null, .null, .null, .null, .null, .null, .int (qz 0), .long (ql 0), .null, .null, .null, .null, .int (qz 0), .int (qz 0), .int (qz 0), .null, .null, .null, .null] 110 rfl (Nat.le_of_ble_eq_true rfl) (Nat.le_of_ble_eq_true rfl) (Or.inr ⟨by decide, rfl⟩) (qr_fitR (Or.inr ⟨_, rfl⟩) _) rfl rfl ?_
  refine qr_aload_n 111 rfl rfl rfl ?_
  refine qr_bipush 113 rfl (by decide) rfl ?_
  refine qr_inewI ha [.inr (12, [.ref (a + 1), .ref (a + 2), .ref (a + 3), .ref (a + 4), .int (qz 0), .int (qz 0), .int (qz 0), .ref (a + 5), .ref (a + 6), .ref (a + 7), .long (ql 0), .int (qz 0), .ref (a + 8), .ref (a + 9), .ref (a + 10), .int (qz 0), .int (qz 0), .ref (a + 11), .ref (a + 12), .ref (a + 13), .null, .null, .long (ql 0), .int (qz 0), .int (qz 0), .null, .null, .null, .null, .long (ql 0), .int (qz 0), .null, .int (qz 0), .null, .null, .int (qz 0), .int (qz 0), .int (qz 0), .int (qz 0), .int (qz 0), .null, .int (qz 0), .null, .int (qz 0), .null, .null, .null, .null, .null, .null, .int (qz 0), .long (ql 0), .null, .null, .null, .null, .int (qz 0), .int (qz 0), .int (qz 0), .null, .null, .null, .null]), .inl (.int, 252, .inl (qzf (fun _ => 0))), .inl (.int, 40, .inl (qzf (fun _ => 0))), .inl (.int, 40, .inl (qzf (fun _ => 0))), .inl (.int, 40, .inl (qzf (fun _ => 0))), .inl (.int, 32, .inl (qzf (fun _ => 0))), .inl (.int, 32, .inl (qzf (fun _ => 0))), .inl (.int, 32, .inl (qzf (fun _ => 0))), .inl (.int, 61, .inl (qzf (fun _ => 0))), .inl (.int, 61, .inl (qzf (fun _ => 0))), .inl (.int, 1024, .inl (qzf (fun _ => 0))), .inl (.int, 40, .inl (qzf (fun _ => 0))), .inl (.int, 40, .inl (qzf (fun _ => 0))), .inl (.int, 40, .inl (qzf (fun _ => 0))), .inl (.int, 40, .inl (qzf (fun _ => 0)))] 115 14 1774 14 rfl (by decide) (Nat.le_of_ble_eq_true rfl) (Nat.le_of_ble_eq_true rfl) rfl rfl rfl rfl rfl ?_
  refine qr_iput ha [.ref (a + 1), .ref (a + 2), .ref (a + 3), .ref (a + 4), .int (qz 0), .int (qz 0), .int (qz 0), .ref (a + 5), .ref (a + 6), .ref (a + 7), .long (ql 0), .int (qz 0), .ref (a + 8), .ref (a + 9), .ref (a + 10), .int (qz 0), .int (qz 0), .ref (a + 11), .ref (a + 12), .ref (a + 13), .ref (a + 14), .null, .long (ql 0), .int (qz 0), .int (qz 0), .null, .null, .null, .null, .long (ql 0), .int (qz 0), .null, .int (qz 0), .null, .null, .int (qz 0), .int (qz 0), .int (qz 0), .int (qz 0), .int (qz 0), .null, .int (qz 0), .null, .int (qz 0), .null, .null, .null, .null, .null, .null, .int (qz 0), .long (ql 0), .null, .null, .null, .null, .int (qz 0), .int (qz 0), .int (qz 0), .null, .null, .null, .null] 118 rfl (Nat.le_of_ble_eq_true rfl) (Nat.le_of_ble_eq_true rfl) (Or.inr ⟨by decide, rfl⟩) (qr_fitR (Or.inr ⟨_, rfl⟩) _) rfl rfl ?_
  refine qr_aload_n 119 rfl rfl rfl ?_
  refine qr_bipush 121 rfl (by decide) rfl ?_
  refine qr_inewI ha [.inr (12, [.ref (a + 1), .ref (a + 2), .ref (a + 3), .ref (a + 4), .int (qz 0), .int (qz 0), .int (qz 0), .ref (a + 5), .ref (a + 6), .ref (a + 7), .long (ql 0), .int (qz 0), .ref (a + 8), .ref (a + 9), .ref (a + 10), .int (qz 0), .int (qz 0), .ref (a + 11), .ref (a + 12), .ref (a + 13), .ref (a + 14), .null, .long (ql 0), .int (qz 0), .int (qz 0), .null, .null, .null, .null, .long (ql 0), .int (qz 0), .null, .int (qz 0), .null, .null, .int (qz 0), .int (qz 0), .int (qz 0), .int (qz 0), .int (qz 0), .null, .int (qz 0), .null, .int (qz 0), .null, .null, .null, .null, .null, .null, .int (qz 0), .long (ql 0), .null, .null, .null, .null, .int (qz 0), .int (qz 0), .int (qz 0), .null, .null, .null, .null]), .inl (.int, 252, .inl (qzf (fun _ => 0))), .inl (.int, 40, .inl (qzf (fun _ => 0))), .inl (.int, 40, .inl (qzf (fun _ => 0))), .inl (.int, 40, .inl (qzf (fun _ => 0))), .inl (.int, 32, .inl (qzf (fun _ => 0))), .inl (.int, 32, .inl (qzf (fun _ => 0))), .inl (.int, 32, .inl (qzf (fun _ => 0))), .inl (.int, 61, .inl (qzf (fun _ => 0))), .inl (.int, 61, .inl (qzf (fun _ => 0))), .inl (.int, 1024, .inl (qzf (fun _ => 0))), .inl (.int, 40, .inl (qzf (fun _ => 0))), .inl (.int, 40, .inl (qzf (fun _ => 0))), .inl (.int, 40, .inl (qzf (fun _ => 0))), .inl (.int, 40, .inl (qzf (fun _ => 0))), .inl (.int, 40, .inl (qzf (fun _ => 0)))] 123 15 1814 15 rfl (by decide) (Nat.le_of_ble_eq_true rfl) (Nat.le_of_ble_eq_true rfl) rfl rfl rfl rfl rfl ?_
  refine qr_iput ha [.ref (a + 1), .ref (a + 2), .ref (a + 3), .ref (a + 4), .int (qz 0), .int (qz 0), .int (qz 0), .ref (a + 5), .ref (a + 6), .ref (a + 7), .long (ql 0), .int (qz 0), .ref (a + 8), .ref (a + 9), .ref (a + 10), .int (qz 0), .int (qz 0), .ref (a + 11), .ref (a + 12), .ref (a + 13), .ref (a + 14), .ref (a + 15), .long (ql 0), .int (qz 0), .int (qz 0), .null, .null, .null, .null, .long (ql 0), .int (qz 0), .null, .int (qz 0), .null, .null, .int (qz 0), .int (qz 0), .int (qz 0), .int (qz 0), .int (qz 0), .null, .int (qz 0), .null, .int (qz 0), .null, .null, .null, .null, .null, .null, .int (qz 0), .long (ql 0), .null, .null, .null, .null, .int (qz 0), .int (qz 0), .int (qz 0), .null, .null, .null, .null] 126 rfl (Nat.le_of_ble_eq_true rfl) (Nat.le_of_ble_eq_true rfl) (Or.inr ⟨by decide, rfl⟩) (qr_fitR (Or.inr ⟨_, rfl⟩) _) rfl rfl ?_
  refine qr_aload_n 127 rfl rfl rfl ?_
  refine qr_bipush 129 rfl (by decide) rfl ?_
  refine qr_inewI ha [.inr (12, [.ref (a + 1), .ref (a + 2), .ref (a + 3), .ref (a + 4), .int (qz 0), .int (qz 0), .int (qz 0), .ref (a + 5), .ref (a + 6), .ref (a + 7), .long (ql 0), .int (qz 0), .ref (a + 8), .ref (a + 9), .ref (a + 10), .int (qz 0), .int (qz 0), .ref (a + 11), .ref (a + 12), .ref (a + 13), .ref (a + 14), .ref (a + 15), .long (ql 0), .int (qz 0), .int (qz 0), .null, .null, .null, .null, .long (ql 0), .int (qz 0), .null, .int (qz 0), .null, .null, .int (qz 0), .int (qz 0), .int (qz 0), .int (qz 0), .int (qz 0), .null, .int (qz 0), .null, .int (qz 0), .null, .null, .null, .null, .null, .null, .int (qz 0), .long (ql 0), .null, .null, .null, .null, .int (qz 0), .int (qz 0), .int (qz 0), .null, .null, .null, .null]), .inl (.int, 252, .inl (qzf (fun _ => 0))), .inl (.int, 40, .inl (qzf (fun _ => 0))), .inl (.int, 40, .inl (qzf (fun _ => 0))), .inl (.int, 40, .inl (qzf (fun _ => 0))), .inl (.int, 32, .inl (qzf (fun _ => 0))), .inl (.int, 32, .inl (qzf (fun _ => 0))), .inl (.int, 32, .inl (qzf (fun _ => 0))), .inl (.int, 61, .inl (qzf (fun _ => 0))), .inl (.int, 61, .inl (qzf (fun _ => 0))), .inl (.int, 1024, .inl (qzf (fun _ => 0))), .inl (.int, 40, .inl (qzf (fun _ => 0))), .inl (.int, 40, .inl (qzf (fun _ => 0))), .inl (.int, 40, .inl (qzf (fun _ => 0))), .inl (.int, 40, .inl (qzf (fun _ => 0))), .inl (.int, 40, .inl (qzf (fun _ => 0))), .inl (.int, 60, .inl (qzf (fun _ => 0)))] 131 16 1874 16 rfl (by decide) (Nat.le_of_ble_eq_true rfl) (Nat.le_of_ble_eq_true rfl) rfl rfl rfl rfl rfl ?_
  refine qr_iput ha [.ref (a + 1), .ref (a + 2), .ref (a + 3), .ref (a + 4), .int (qz 0), .int (qz 0), .int (qz 0), .ref (a + 5), .ref (a + 6), .ref (a + 7), .long (ql 0), .int (qz 0), .ref (a + 8), .ref (a + 9), .ref (a + 10), .int (qz 0), .int (qz 0), .ref (a + 11), .ref (a + 12), .ref (a + 13), .ref (a + 14), .ref (a + 15), .long (ql 0), .int (qz 0), .int (qz 0), .ref (a + 16), .null, .null, .null, .long (ql 0), .int (qz 0), .null, .int (qz 0), .null, .null, .int (qz 0), .int (qz 0), .int (qz 0), .int (qz 0), .int (qz 0), .null, .int (qz 0), .null, .int (qz 0), .null, .null, .null, .null, .null, .null, .int (qz 0), .long (ql 0), .null, .null, .null, .null, .int (qz 0), .int (qz 0), .int (qz 0), .null, .null, .null, .null] 134 rfl (Nat.le_of_ble_eq_true rfl) (Nat.le_of_ble_eq_true rfl) (Or.inr ⟨by decide, rfl⟩) (qr_fitR (Or.inr ⟨_, rfl⟩) _) rfl rfl ?_
  refine qr_aload_n 135 rfl rfl rfl ?_
  refine qr_bipush 137 rfl (by decide) rfl ?_
  refine qr_inewI ha [.inr (12, [.ref (a + 1), .ref (a + 2), .ref (a + 3), .ref (a + 4), .int (qz 0), .int (qz 0), .int (qz 0), .ref (a + 5), .ref (a + 6), .ref (a + 7), .long (ql 0), .int (qz 0), .ref (a + 8), .ref (a + 9), .ref (a + 10), .int (qz 0), .int (qz 0), .ref (a + 11), .ref (a + 12), .ref (a + 13), .ref (a + 14), .ref (a + 15), .long (ql 0), .int (qz 0), .int (qz 0), .ref (a + 16), .null, .null, .null, .long (ql 0), .int (qz 0), .null, .int (qz 0), .null, .null, .int (qz 0), .int (qz 0), .int (qz 0), .int (qz 0), .int (qz 0), .null, .int (qz 0), .null, .int (qz 0), .null, .null, .null, .null, .null, .null, .int (qz 0), .long (ql 0), .null, .null, .null, .null, .int (qz 0), .int (qz 0), .int (qz 0), .null, .null, .null, .null]), .inl (.int, 252, .inl (qzf (fun _ => 0))), .inl (.int, 40, .inl (qzf (fun _ => 0))), .inl (.int, 40, .inl (qzf (fun _ => 0))), .inl (.int, 40, .inl (qzf (fun _ => 0))), .inl (.int, 32, .inl (qzf (fun _ => 0))), .inl (.int, 32, .inl (qzf (fun _ => 0))), .inl (.int, 32, .inl (qzf (fun _ => 0))), .inl (.int, 61, .inl (qzf (fun _ => 0))), .inl (.int, 61, .inl (qzf (fun _ => 0))), .inl (.int, 1024, .inl (qzf (fun _ => 0))), .inl (.int, 40, .inl (qzf (fun _ => 0))), .inl (.int, 40, .inl (qzf (fun _ => 0))), .inl (.int, 40, .inl (qzf (fun _ => 0))), .inl (.int, 40, .inl (qzf (fun _ => 0))), .inl (.int, 40, .inl (qzf (fun _ => 0))), .inl (.int, 60, .inl (qzf (fun _ => 0))), .inl (.int, 60, .inl (qzf (fun _ => 0)))] 139 17 1934 17 rfl (by decide) (Nat.le_of_ble_eq_true rfl) (Nat.le_of_ble_eq_true rfl) rfl rfl rfl rfl rfl ?_
  refine qr_iput ha [.ref (a + 1), .ref (a + 2), .ref (a + 3), .ref (a + 4), .int (qz 0), .int (qz 0), .int (qz 0), .ref (a + 5), .ref (a + 6), .ref (a + 7), .long (ql 0), .int (qz 0), .ref (a + 8), .ref (a + 9), .ref (a + 10), .int (qz 0), .int (qz 0), .ref (a + 11), .ref (a + 12), .ref (a + 13), .ref (a + 14), .ref (a + 15), .long (ql 0), .int (qz 0), .int (qz 0), .ref (a + 16), .ref (a + 17), .null, .null, .long (ql 0), .int (qz 0), .null, .int (qz 0), .null, .null, .int (qz 0), .int (qz 0), .int (qz 0), .int (qz 0), .int (qz 0), .null, .int (qz 0), .null, .int (qz 0), .null, .null, .null, .null, .null, .null, .int (qz 0), .long (ql 0), .null, .null, .null, .null, .int (qz 0), .int (qz 0), .int (qz 0), .null, .null, .null, .null] 142 rfl (Nat.le_of_ble_eq_true rfl) (Nat.le_of_ble_eq_true rfl) (Or.inr ⟨by decide, rfl⟩) (qr_fitR (Or.inr ⟨_, rfl⟩) _) rfl rfl ?_
  refine qr_aload_n 143 rfl rfl rfl ?_
  refine qr_bipush 145 rfl (by decide) rfl ?_
  refine qr_inewI ha [.inr (12, [.ref (a + 1), .ref (a + 2), .ref (a + 3), .ref (a + 4), .int (qz 0), .int (qz 0), .int (qz 0), .ref (a + 5), .ref (a + 6), .ref (a + 7), .long (ql 0), .int (qz 0), .ref (a + 8), .ref (a + 9), .ref (a + 10), .int (qz 0), .int (qz 0), .ref (a + 11), .ref (a + 12), .ref (a + 13), .ref (a + 14), .ref (a + 15), .long (ql 0), .int (qz 0), .int (qz 0), .ref (a + 16), .ref (a + 17), .null, .null, .long (ql 0), .int (qz 0), .null, .int (qz 0), .null, .null, .int (qz 0), .int (qz 0), .int (qz 0), .int (qz 0), .int (qz 0), .null, .int (qz 0), .null, .int (qz 0), .null, .null, .null, .null, .null, .null, .int (qz 0), .long (ql 0), .null, .null, .null, .null, .int (qz 0), .int (qz 0), .int (qz 0), .null, .null, .null, .null]), .inl (.int, 252, .inl (qzf (fun _ => 0))), .inl (.int, 40, .inl (qzf (fun _ => 0))), .inl (.int, 40, .inl (qzf (fun _ => 0))), .inl (.int, 40, .inl (qzf (fun _ => 0))), .inl (.int, 32, .inl (qzf (fun _ => 0))), .inl (.int, 32, .inl (qzf (fun _ => 0))), .inl (.int, 32, .inl (qzf (fun _ => 0))), .inl (.int, 61, .inl (qzf (fun _ => 0))), .inl (.int, 61, .inl (qzf (fun _ => 0))), .inl (.int, 1024, .inl (qzf (fun _ => 0))), .inl (.int, 40, .inl (qzf (fun _ => 0))), .inl (.int, 40, .inl (qzf (fun _ => 0))), .inl (.int, 40, .inl (qzf (fun _ => 0))), .inl (.int, 40, .inl (qzf (fun _ => 0))), .inl (.int, 40, .inl (qzf (fun _ => 0))), .inl (.int, 60, .inl (qzf (fun _ => 0))), .inl (.int, 60, .inl (qzf (fun _ => 0))), .inl (.int, 60, .inl (qzf (fun _ => 0)))] 147 18 1994 18 rfl (by decide) (Nat.le_of_ble_eq_true rfl) (Nat.le_of_ble_eq_true rfl) rfl rfl rfl rfl rfl ?_
  refine qr_iput ha [.ref (a + 1), .ref (a + 2), .ref (a + 3), .ref (a + 4), .int (qz 0), .int (qz 0), .int (qz 0), .ref (a + 5), .ref (a + 6), .ref (a + 7), .long (ql 0), .int (qz 0), .ref (a + 8), .ref (a + 9), .ref (a + 10), .int (qz 0), .int (qz 0), .ref (a + 11), .ref (a + 12), .ref (a + 13), .ref (a + 14), .ref (a + 15), .long (ql 0), .int (qz 0), .int (qz 0), .ref (a + 16), .ref (a + 17), .ref (a + 18), .null, .long (ql 0), .int (qz 0), .null, .int (qz 0), .null, .null, .int (qz 0), .int (qz 0), .int (qz 0), .int (qz 0), .int (qz 0), .null, .int (qz 0), .null, .int (qz 0), .null, .null, .null, .null, .null, .null, .int (qz 0), .long (ql 0), .null, .null, .null, .null, .int (qz 0), .int (qz 0), .int (qz 0), .null, .null, .null, .null] 150 rfl (Nat.le_of_ble_eq_true rfl) (Nat.le_of_ble_eq_true rfl) (Or.inr ⟨by decide, rfl⟩) (qr_fitR (Or.inr ⟨_, rfl⟩) _) rfl rfl ?_
  refine qr_aload_n 151 rfl rfl rfl ?_
  refine qr_bipush 153 rfl (by decide) rfl ?_
  refine qr_inewI ha [.inr (12, [.ref (a + 1), .ref (a + 2), .ref (a + 3), .ref (a + 4), .int (qz 0), .int (qz 0), .int (qz 0), .ref (a + 5), .ref (a + 6), .ref (a + 7), .long (ql 0), .int (qz 0), .ref (a + 8), .ref (a + 9), .ref (a + 10), .int (qz 0), .int (qz 0), .ref (a + 11), .ref (a + 12), .ref (a + 13), .ref (a + 14), .ref (a + 15), .long (ql 0), .int (qz 0), .int (qz 0), .ref (a + 16), .ref (a + 17), .ref (a + 18), .null, .long (ql 0), .int (qz 0), .null, .int (qz 0), .null, .null, .int (qz 0), .int (qz 0), .int (qz 0), .int (qz 0), .int (qz 0), .null, .int (qz 0), .null, .int (qz 0), .null, .null, .null, .null, .null, .null, .int (qz 0), .long (ql 0), .null, .null, .null, .null, .int (qz 0), .int (qz 0), .int (qz 0), .null, .null, .null, .null]), .inl (.int, 252, .inl (qzf (fun _ => 0))), .inl (.int, 40, .inl (qzf (fun _ => 0))), .inl (.int, 40, .inl (qzf (fun _ => 0))), .inl (.int, 40, .inl (qzf (fun _ => 0))), .inl (.int, 32, .inl (qzf (fun _ => 0))), .inl (.int, 32, .inl (qzf (fun _ => 0))), .inl (.int, 32, .inl (qzf (fun _ => 0))), .inl (.int, 61, .inl (qzf (fun _ => 0))), .inl (.int, 61, .inl (qzf (fun _ => 0))), .inl (.int, 1024, .inl (qzf (fun _ => 0))), .inl (.int, 40, .inl (qzf (fun _ => 0))), .inl (.int, 40, .inl (qzf (fun _ => 0))), .inl (.int, 40, .inl (qzf (fun _ => 0))), .inl (.int, 40, .inl (qzf (fun _ => 0))), .inl (.int, 40, .inl (qzf (fun _ => 0))), .inl (.int, 60, .inl (qzf (fun _ => 0))), .inl (.int, 60, .inl (qzf (fun _ => 0))), .inl (.int, 60, .inl (qzf (fun _ => 0))), .inl (.int, 60, .inl (qzf (fun _ => 0)))] 155 19 2054 19 rfl (by decide) (Nat.le_of_ble_eq_true rfl) (Nat.le_of_ble_eq_true rfl) rfl rfl rfl rfl rfl ?_
  refine qr_iput ha [.ref (a + 1), .ref (a + 2), .ref (a + 3), .ref (a + 4), .int (qz 0), .int (qz 0), .int (qz 0), .ref (a + 5), .ref (a + 6), .ref (a + 7), .long (ql 0), .int (qz 0), .ref (a + 8), .ref (a + 9), .ref (a + 10), .int (qz 0), .int (qz 0), .ref (a + 11), .ref (a + 12), .ref (a + 13), .ref (a + 14), .ref (a + 15), .long (ql 0), .int (qz 0), .int (qz 0), .ref (a + 16), .ref (a + 17), .ref (a + 18), .ref (a + 19), .long (ql 0), .int (qz 0), .null, .int (qz 0), .null, .null, .int (qz 0), .int (qz 0), .int (qz 0), .int (qz 0), .int (qz 0), .null, .int (qz 0), .null, .int (qz 0), .null, .null, .null, .null, .null, .null, .int (qz 0), .long (ql 0), .null, .null, .null, .null, .int (qz 0), .int (qz 0), .int (qz 0), .null, .null, .null, .null] 158 rfl (Nat.le_of_ble_eq_true rfl) (Nat.le_of_ble_eq_true rfl) (Or.inr ⟨by decide, rfl⟩) (qr_fitR (Or.inr ⟨_, rfl⟩) _) rfl rfl ?_
  refine qr_aload_n 159 rfl rfl rfl ?_
  refine qr_bipush 161 rfl (by decide) rfl ?_
  refine qr_inewI ha [.inr (12, [.ref (a + 1), .ref (a + 2), .ref (a + 3), .ref (a + 4), .int (qz 0), .int (qz 0), .int (qz 0), .ref (a + 5), .ref (a + 6), .ref (a + 7), .long (ql 0), .int (qz 0), .ref (a + 8), .ref (a + 9), .ref (a + 10), .int (qz 0), .int (qz 0), .ref (a + 11), .ref (a + 12), .ref (a + 13), .ref (a + 14), .ref (a + 15), .long (ql 0), .int (qz 0), .int (qz 0), .ref (a + 16), .ref (a + 17), .ref (a + 18), .ref (a + 19), .long (ql 0), .int (qz 0), .null, .int (qz 0), .null, .null, .int (qz 0), .int (qz 0), .int (qz 0), .int (qz 0), .int (qz 0), .null, .int (qz 0), .null, .int (qz 0), .null, .null, .null, .null, .null, .null, .int (qz 0), .long (ql 0), .null, .null, .null, .null, .int (qz 0), .int (qz 0), .int (qz 0), .null, .null, .null, .null]), .inl (.int, 252, .inl (qzf (fun _ => 0))), .inl (.int, 40, .inl (qzf (fun _ => 0))), .inl (.int, 40, .inl (qzf (fun _ => 0))), .inl (.int, 40, .inl (qzf (fun _ => 0))), .inl (.int, 32, .inl (qzf (fun _ => 0))), .inl (.int, 32, .inl (qzf (fun _ => 0))), .inl (.int, 32, .inl (qzf (fun _ => 0))), .inl (.int, 61, .inl (qzf (fun _ => 0))), .inl (.int, 61, .inl (qzf (fun _ => 0))), .inl (.int, 1024, .inl (qzf (fun _ => 0))), .inl (.int, 40, .inl (qzf (fun _ => 0))), .inl (.int, 40, .inl (qzf (fun _ => 0))), .inl (.int, 40, .inl (qzf (fun _ => 0))), .inl (.int, 40, .inl (qzf (fun _ => 0))), .inl (.int, 40, .inl (qzf (fun _ => 0))), .inl (.int, 60, .inl (qzf (fun _ => 0))), .inl (.int, 60, .inl (qzf (fun _ => 0))), .inl (.int, 60, .inl (qzf (fun _ => 0))), .inl (.int, 60, .inl (qzf (fun _ => 0))), .inl (.int, 120, .inl (qzf (fun _ => 0)))] 163 20 2174 20 rfl (by decide) (Nat.le_of_ble_eq_true rfl) (Nat.le_of_ble_eq_true rfl) rfl rfl rfl rfl rfl ?_
  refine qr_iput ha [.ref (a + 1), .ref (a + 2), .ref (a + 3), .ref (a + 4), .int (qz 0), .int (qz 0), .int (qz 0), .ref (a + 5), .ref (a + 6), .ref (a + 7), .long (ql 0), .int (qz 0), .ref (a + 8), .ref (a + 9), .ref (a + 10), .int (qz 0), .int (qz 0), .ref (a + 11), .ref (a + 12), .ref (a + 13), .ref (a + 14), .ref (a + 15), .long (ql 0), .int (qz 0), .int (qz 0), .ref (a + 16), .ref (a + 17), .ref (a + 18), .ref (a + 19), .long (ql 0), .int (qz 0), .ref (a + 20), .int (qz 0), .null, .null, .int (qz 0), .int (qz 0), .int (qz 0), .int (qz 0), .int (qz 0), .null, .int (qz 0), .null, .int (qz 0), .null, .null, .null, .null, .null, .null, .int (qz 0), .long (ql 0), .null, .null, .null, .null, .int (qz 0), .int (qz 0), .int (qz 0), .null, .null, .null, .null] 166 rfl (Nat.le_of_ble_eq_true rfl) (Nat.le_of_ble_eq_true rfl) (Or.inr ⟨by decide, rfl⟩) (qr_fitR (Or.inr ⟨_, rfl⟩) _) rfl rfl ?_
  refine qr_aload_n 167 rfl rfl rfl ?_
  refine qr_sipush 170 rfl (by decide) rfl ?_
  refine qr_inewI ha [.inr (12, [.ref (a + 1), .ref (a + 2), .ref (a + 3), .ref (a + 4), .int (qz 0), .int (qz 0), .int (qz 0), .ref (a + 5), .ref (a + 6), .ref (a + 7), .long (ql 0), .int (qz 0), .ref (a + 8), .ref (a + 9), .ref (a + 10), .int (qz 0), .int (qz 0), .ref (a + 11), .ref (a + 12), .ref (a + 13), .ref (a + 14), .ref (a + 15), .long (ql 0), .int (qz 0), .int (qz 0), .ref (a + 16), .ref (a + 17), .ref (a + 18), .ref (a + 19), .long (ql 0), .int (qz 0), .ref (a + 20), .int (qz 0), .null, .null, .int (qz 0), .int (qz 0), .int (qz 0), .int (qz 0), .int (qz 0), .null, .int (qz 0), .null, .int (qz 0), .null, .null, .null, .null, .null, .null, .int (qz 0), .long (ql 0), .null, .null, .null, .null, .int (qz 0), .int (qz 0), .int (qz 0), .null, .null, .null, .null]), .inl (.int, 252, .inl (qzf (fun _ => 0))), .inl (.int, 40, .inl (qzf (fun _ => 0))), .inl (.int, 40, .inl (qzf (fun _ => 0))), .inl (.int, 40, .inl (qzf (fun _ => 0))), .inl (.int, 32, .inl (qzf (fun _ => 0))), .inl (.int, 32, .inl (qzf (fun _ => 0))), .inl (.int, 32, .inl (qzf (fun _ => 0))), .inl (.int, 61, .inl (qzf (fun _ => 0))), .inl (.int, 61, .inl (qzf (fun _ => 0))), .inl (.int, 1024, .inl (qzf (fun _ => 0))), .inl (.int, 40, .inl (qzf (fun _ => 0))), .inl (.int, 40, .inl (qzf (fun _ => 0))), .inl (.int, 40, .inl (qzf (fun _ => 0))), .inl (.int, 40, .inl (qzf (fun _ => 0))), .inl (.int, 40, .inl (qzf (fun _ => 0))), .inl (.int, 60, .inl (qzf (fun _ => 0))), .inl (.int, 60, .inl (qzf (fun _ => 0))), .inl (.int, 60, .inl (qzf (fun _ => 0))), .inl (.int, 60, .inl (qzf (fun _ => 0))), .inl (.int, 120, .inl (qzf (fun _ => 0))), .inl (.int, 240, .inl (qzf (fun _ => 0)))] 172 21 2414 21 rfl (by decide) (Nat.le_of_ble_eq_true rfl) (Nat.le_of_ble_eq_true rfl) rfl rfl rfl rfl rfl ?_
  refine qr_iput ha [.ref (a + 1), .ref (a + 2), .ref (a + 3), .ref (a + 4), .int (qz 0), .int (qz 0), .int (qz 0), .ref (a + 5), .ref (a + 6), .ref (a + 7), .long (ql 0), .int (qz 0), .ref (a + 8), .ref (a + 9), .ref (a + 10), .int (qz 0), .int (qz 0), .ref (a + 11), .ref (a + 12), .ref (a + 13), .ref (a + 14), .ref (a + 15), .long (ql 0), .int (qz 0), .int (qz 0), .ref (a + 16), .ref (a + 17), .ref (a + 18), .ref (a + 19), .long (ql 0), .int (qz 0), .ref (a + 20), .int (qz 0), .ref (a + 21), .null, .int (qz 0), .int (qz 0), .int (qz 0), .int (qz 0), .int (qz 0), .null, .int (qz 0), .null, .int (qz 0), .null, .null, .null, .null, .null, .null, .int (qz 0), .long (ql 0), .null, .null, .null, .null, .int (qz 0), .int (qz 0), .int (qz 0), .null, .null, .null, .null] 175 rfl (Nat.le_of_ble_eq_true rfl) (Nat.le_of_ble_eq_true rfl) (Or.inr ⟨by decide, rfl⟩) (qr_fitR (Or.inr ⟨_, rfl⟩) _) rfl rfl ?_
  refine qr_aload_n 176 rfl rfl rfl ?_
  refine qr_iconst 177 rfl rfl ?_
  refine qr_inewI ha [.inr (12, [.ref (a + 1), .ref (a + 2), .ref (a + 3), .ref (a + 4), .int (qz 0), .int (qz 0), .int (qz 0), .ref (a + 5), .ref (a + 6), .ref (a + 7), .long (ql 0), .int (qz 0), .ref (a + 8), .ref (a + 9), .ref (a + 10), .int (qz 0), .int (qz 0), .ref (a + 11), .ref (a + 12), .ref (a + 13), .ref (a + 14), .ref (a + 15), .long (ql 0), .int (qz 0), .int (qz 0), .ref (a + 16), .ref (a + 17), .ref (a + 18), .ref (a + 19), .long (ql 0), .int (qz 0), .ref (a + 20), .int (qz 0), .ref (a + 21), .null, .int (qz 0), .int (qz 0), .int (qz 0), .int (qz 0), .int (qz 0), .null, .int (qz 0), .null, .int (qz 0), .null, .null, .null, .null, .null, .null, .int (qz 0), .long (ql 0), .null, .null, .null, .null, .int (qz 0), .int (qz 0), .int (qz 0), .null, .null, .null, .null]), .inl (.int, 252, .inl (qzf (fun _ => 0))), .inl (.int, 40, .inl (qzf (fun _ => 0))), .inl (.int, 40, .inl (qzf (fun _ => 0))), .inl (.int, 40, .inl (qzf (fun _ => 0))), .inl (.int, 32, .inl (qzf (fun _ => 0))), .inl (.int, 32, .inl (qzf (fun _ => 0))), .inl (.int, 32, .inl (qzf (fun _ => 0))), .inl (.int, 61, .inl (qzf (fun _ => 0))), .inl (.int, 61, .inl (qzf (fun _ => 0))), .inl (.int, 1024, .inl (qzf (fun _ => 0))), .inl (.int, 40, .inl (qzf (fun _ => 0))), .inl (.int, 40, .inl (qzf (fun _ => 0))), .inl (.int, 40, .inl (qzf (fun _ => 0))), .inl (.int, 40, .inl (qzf (fun _ => 0))), .inl (.int, 40, .inl (qzf (fun _ => 0))), .inl (.int, 60, .inl (qzf (fun _ => 0))), .inl (.int, 60, .inl (qzf (fun _ => 0))), .inl (.int, 60, .inl (qzf (fun _ => 0))), .inl (.int, 60, .inl (qzf (fun _ => 0))), .inl (.int, 120, .inl (qzf (fun _ => 0))), .inl (.int, 240, .inl (qzf (fun _ => 0))), .inl (.int, 2, .inl (qzf (fun _ => 0)))] 179 22 2416 22 rfl (by decide) (Nat.le_of_ble_eq_true rfl) (Nat.le_of_ble_eq_true rfl) rfl rfl rfl rfl rfl ?_
  refine qr_iput ha [.ref (a + 1), .ref (a + 2), .ref (a + 3), .ref (a + 4), .int (qz 0), .int (qz 0), .int (qz 0), .ref (a + 5), .ref (a + 6), .ref (a + 7), .long (ql 0), .int (qz 0), .ref (a + 8), .ref (a + 9), .ref (a + 10), .int (qz 0), .int (qz 0), .ref (a + 11), .ref (a + 12), .ref (a + 13), .ref (a + 14), .ref (a + 15), .long (ql 0), .int (qz 0), .int (qz 0), .ref (a + 16), .ref (a + 17), .ref (a + 18), .ref (a + 19), .long (ql 0), .int (qz 0), .ref (a + 20), .int (qz 0), .ref (a + 21), .ref (a + 22), .int (qz 0), .int (qz 0), .int (qz 0), .int (qz 0), .int (qz 0), .null, .int (qz 0), .null, .int (qz 0), .null, .null, .null, .null, .null, .null, .int (qz 0), .long (ql 0), .null, .null, .null, .null, .int (qz 0), .int (qz 0), .int (qz 0), .null, .null, .null, .null] 182 rfl (Nat.le_of_ble_eq_true rfl) (Nat.le_of_ble_eq_true rfl) (Or.inr ⟨by decide, rfl⟩) (qr_fitR (Or.inr ⟨_, rfl⟩) _) rfl rfl ?_
  refine qr_aload_n 183 rfl rfl rfl ?_
  refine qr_bipush 185 rfl (by decide) rfl ?_
  refine qr_inewI ha [.inr (12, [.ref (a + 1), .ref (a + 2), .ref (a + 3), .ref (a + 4), .int (qz 0), .int (qz 0), .int (qz 0), .ref (a + 5), .ref (a + 6), .ref (a + 7), .long (ql 0), .int (qz 0), .ref (a + 8), .ref (a + 9), .ref (a + 10), .int (qz 0), .int (qz 0), .ref (a + 11), .ref (a + 12), .ref (a + 13), .ref (a + 14), .ref (a + 15), .long (ql 0), .int (qz 0), .int (qz 0), .ref (a + 16), .ref (a + 17), .ref (a + 18), .ref (a + 19), .long (ql 0), .int (qz 0), .ref (a + 20), .int (qz 0), .ref (a + 21), .ref (a + 22), .int (qz 0), .int (qz 0), .int (qz 0), .int (qz 0), .int (qz 0), .null, .int (qz 0), .null, .int (qz 0), .null, .null, .null, .null, .null, .null, .int (qz 0), .long (ql 0), .null, .null, .null, .null, .int (qz 0), .int (qz 0), .int (qz 0), .null, .null, .null, .null]), .inl (.int, 252, .inl (qzf (fun _ => 0))), .inl (.int, 40, .inl (qzf (fun _ => 0))), .inl (.int, 40, .inl (qzf (fun _ => 0))), .inl (.int, 40, .inl (qzf (fun _ => 0))), .inl (.int, 32, .inl (qzf (fun _ => 0))), .inl (.int, 32, .inl (qzf (fun _ => 0))), .inl (.int, 32, .inl (qzf (fun _ => 0))), .inl (.int, 61, .inl (qzf (fun _ => 0))), .inl (.int, 61, .inl (qzf (fun _ => 0))), .inl (.int, 1024, .inl (qzf (fun _ => 0))), .inl (.int, 40, .inl (qzf (fun _ => 0))), .inl (.int, 40, .inl (qzf (fun _ => 0))), .inl (.int, 40, .inl (qzf (fun _ => 0))), .inl (.int, 40, .inl (qzf (fun _ => 0))), .inl (.int, 40, .inl (qzf (fun _ => 0))), .inl (.int, 60, .inl (qzf (fun _ => 0))), .inl (.int, 60, .inl (qzf (fun _ => 0))), .inl (.int, 60, .inl (qzf (fun _ => 0))), .inl (.int, 60, .inl (qzf (fun _ => 0))), .inl (.int, 120, .inl (qzf (fun _ => 0))), .inl (.int, 240, .inl (qzf (fun _ => 0))), .inl (.int, 2, .inl (qzf (fun _ => 0))), .inl (.int, 9, .inl (qzf (fun _ => 0)))] 187 23 2425 23 rfl (by decide) (Nat.le_of_ble_eq_true rfl) (Nat.le_of_ble_eq_true rfl) rfl rfl rfl rfl rfl ?_
  refine qr_iput ha [.ref (a + 1), .ref (a + 2), .ref (a + 3), .ref (a + 4), .int (qz 0), .int (qz 0), .int (qz 0), .ref (a + 5), .ref (a + 6), .ref (a + 7), .long (ql 0), .int (qz 0), .ref (a + 8), .ref (a + 9), .ref (a + 10), .int (qz 0), .int (qz 0), .ref (a + 11), .ref (a + 12), .ref (a + 13), .ref (a + 14), .ref (a + 15), .long (ql 0), .int (qz 0), .int (qz 0), .ref (a + 16), .ref (a + 17), .ref (a + 18), .ref (a + 19), .long (ql 0), .int (qz 0), .ref (a + 20), .int (qz 0), .ref (a + 21), .ref (a + 22), .int (qz 0), .int (qz 0), .int (qz 0), .int (qz 0), .int (qz 0), .ref (a + 23), .int (qz 0), .null, .int (qz 0), .null, .null, .null, .null, .null, .null, .int (qz 0), .long (ql 0), .null, .null, .null, .null, .int (qz 0), .int (qz 0), .int (qz 0), .null, .null, .null, .null] 190 rfl (Nat.le_of_ble_eq_true rfl) (Nat.le_of_ble_eq_true rfl) (Or.inr ⟨by decide, rfl⟩) (qr_fitR (Or.inr ⟨_, rfl⟩) _) rfl rfl ?_
  refine qr_aload_n 191 rfl rfl rfl ?_
  refine qr_bipush 193 rfl (by decide) rfl ?_
  refine qr_inewI ha [.inr (12, [.ref (a + 1), .ref (a + 2), .ref (a + 3), .ref (a + 4), .int (qz 0), .int (qz 0), .int (qz 0), .ref (a + 5), .ref (a + 6), .ref (a + 7), .long (ql 0), .int (qz 0), .ref (a + 8), .ref (a + 9), .ref (a + 10), .int (qz 0), .int (qz 0), .ref (a + 11), .ref (a + 12), .ref (a + 13), .ref (a + 14), .ref (a + 15), .long (ql 0), .int (qz 0), .int (qz 0), .ref (a + 16), .ref (a + 17), .ref (a + 18), .ref (a + 19), .long (ql 0), .int (qz 0), .ref (a + 20), .int (qz 0), .ref (a + 21), .ref (a + 22), .int (qz 0), .int (qz 0), .int (qz 0), .int (qz 0), .int (qz 0), .ref (a + 23), .int (qz 0), .null, .int (qz 0), .null, .null, .null, .null, .null, .null, .int (qz 0), .long (ql 0), .null, .null, .null, .null, .int (qz 0), .int (qz 0), .int (qz 0), .null, .null, .null, .null]), .inl (.int, 252, .inl (qzf (fun _ => 0))), .inl (.int, 40, .inl (qzf (fun _ => 0))), .inl (.int, 40, .inl (qzf (fun _ => 0))), .inl (.int, 40, .inl (qzf (fun _ => 0))), .inl (.int, 32, .inl (qzf (fun _ => 0))), .inl (.int, 32, .inl (qzf (fun _ => 0))), .inl (.int, 32, .inl (qzf (fun _ => 0))), .inl (.int, 61, .inl (qzf (fun _ => 0))), .inl (.int, 61, .inl (qzf (fun _ => 0))), .inl (.int, 1024, .inl (qzf (fun _ => 0))), .inl (.int, 40, .inl (qzf (fun _ => 0))), .inl (.int, 40, .inl (qzf (fun _ => 0))), .inl (.int, 40, .inl (qzf (fun _ => 0))), .inl (.int, 40, .inl (qzf (fun _ => 0))), .inl (.int, 40, .inl (qzf (fun _ => 0))), .inl (.int, 60, .inl (qzf (fun _ => 0))), .inl (.int, 60, .inl (qzf (fun _ => 0))), .inl (.int, 60, .inl (qzf (fun _ => 0))), .inl (.int, 60, .inl (qzf (fun _ => 0))), .inl (.int, 120, .inl (qzf (fun _ => 0))), .inl (.int, 240, .inl (qzf (fun _ => 0))), .inl (.int, 2, .inl (qzf (fun _ => 0))), .inl (.int, 9, .inl (qzf (fun _ => 0))), .inl (.int, 32, .inl (qzf (fun _ => 0)))] 195 24 2457 24 rfl (by decide) (Nat.le_of_ble_eq_true rfl) (Nat.le_of_ble_eq_true rfl) rfl rfl rfl rfl rfl ?_
  refine qr_iput ha [.ref (a + 1), .ref (a + 2), .ref (a + 3), .ref (a + 4), .int (qz 0), .int (qz 0), .int (qz 0), .ref (a + 5), .ref (a + 6), .ref (a + 7), .long (ql 0), .int (qz 0), .ref (a + 8), .ref (a + 9), .ref (a + 10), .int (qz 0), .int (qz 0), .ref (a + 11), .ref (a + 12), .ref (a + 13), .ref (a + 14), .ref (a + 15), .long (ql 0), .int (qz 0), .int (qz 0), .ref (a + 16), .ref (a + 17), .ref (a + 18), .ref (a + 19), .long (ql 0), .int (qz 0), .ref (a + 20), .int (qz 0), .ref (a + 21), .ref (a + 22), .int (qz 0), .int (qz 0), .int (qz 0), .int (qz 0), .int (qz 0), .ref (a + 23), .int (qz 0), .ref (a + 24), .int (qz 0), .null, .null, .null, .null, .null, .null, .int (qz 0), .long (ql 0), .null, .null, .null, .null, .int (qz 0), .int (qz 0), .int (qz 0), .null, .null, .null, .null] 198 rfl (Nat.le_of_ble_eq_true rfl) (Nat.le_of_ble_eq_true rfl) (Or.inr ⟨by decide, rfl⟩) (qr_fitR (Or.inr ⟨_, rfl⟩) _) rfl rfl ?_
  refine qr_aload_n 199 rfl rfl rfl ?_
  refine qr_bipush 201 rfl (by decide) rfl ?_
  refine qr_inewI ha [.inr (12, [.ref (a + 1), .ref (a + 2), .ref (a + 3), .ref (a + 4), .int (qz 0), .int (qz 0), .int (qz 0), .ref (a + 5), .ref (a + 6), .ref (a + 7), .long (ql 0), .int (qz 0), .ref (a + 8), .ref (a + 9), .ref (a + 10), .int (qz 0), .int (qz 0), .ref (a + 11), .ref (a + 12), .ref (a + 13), .ref (a + 14), .ref (a + 15), .long (ql 0), .int (qz 0), .int (qz 0), .ref (a + 16), .ref (a + 17), .ref (a + 18), .ref (a + 19), .long (ql 0), .int (qz 0), .ref (a + 20), .int (qz 0), .ref (a + 21), .ref (a + 22), .int (qz 0), .int (qz 0), .int (qz 0), .int (qz 0), .int (qz 0), .ref (a + 23), .int (qz 0), .ref (a + 24), .int (qz 0), .null, .null, .null, .null, .null, .null, .int (qz 0), .long (ql 0), .null, .null, .null, .null, .int (qz 0), .int (qz 0), .int (qz 0), .null, .null, .null, .null]), .inl (.int, 252, .inl (qzf (fun _ => 0))), .inl (.int, 40, .inl (qzf (fun _ => 0))), .inl (.int, 40, .inl (qzf (fun _ => 0))), .inl (.int, 40, .inl (qzf (fun _ => 0))), .inl (.int, 32, .inl (qzf (fun _ => 0))), .inl (.int, 32, .inl (qzf (fun _ => 0))), .inl (.int, 32, .inl (qzf (fun _ => 0))), .inl (.int, 61, .inl (qzf (fun _ => 0))), .inl (.int, 61, .inl (qzf (fun _ => 0))), .inl (.int, 1024, .inl (qzf (fun _ => 0))), .inl (.int, 40, .inl (qzf (fun _ => 0))), .inl (.int, 40, .inl (qzf (fun _ => 0))), .inl (.int, 40, .inl (qzf (fun _ => 0))), .inl (.int, 40, .inl (qzf (fun _ => 0))), .inl (.int, 40, .inl (qzf (fun _ => 0))), .inl (.int, 60, .inl (qzf (fun _ => 0))), .inl (.int, 60, .inl (qzf (fun _ => 0))), .inl (.int, 60, .inl (qzf (fun _ => 0))), .inl (.int, 60, .inl (qzf (fun _ => 0))), .inl (.int, 120, .inl (qzf (fun _ => 0))), .inl (.int, 240, .inl (qzf (fun _ => 0))), .inl (.int, 2, .inl (qzf (fun _ => 0))), .inl (.int, 9, .inl (qzf (fun _ => 0))), .inl (.int, 32, .inl (qzf (fun _ => 0))), .inl (.int, 12, .inl (qzf (fun _ => 0)))] 203 25 2469 25 rfl (by decide) (Nat.le_of_ble_eq_true rfl) (Nat.le_of_ble_eq_true rfl) rfl rfl rfl rfl rfl ?_
  refine qr_iput ha [.ref (a + 1), .ref (a + 2), .ref (a + 3), .ref (a + 4), .int (qz 0), .int (qz 0), .int (qz 0), .ref (a + 5), .ref (a + 6), .ref (a + 7), .long (ql 0), .int (qz 0), .ref (a + 8), .ref (a + 9), .ref (a + 10), .int (qz 0), .int (qz 0), .ref (a + 11), .ref (a + 12), .ref (a + 13), .ref (a + 14), .ref (a + 15), .long (ql 0), .int (qz 0), .int (qz 0), .ref (a + 16), .ref (a + 17), .ref (a + 18), .ref (a + 19), .long (ql 0), .int (qz 0), .ref (a + 20), .int (qz 0), .ref (a + 21), .ref (a + 22), .int (qz 0), .int (qz 0), .int (qz 0), .int (qz 0), .int (qz 0), .ref (a + 23), .int (qz 0), .ref (a + 24), .int (qz 0), .ref (a + 25), .null, .null, .null, .null, .null, .int (qz 0), .long (ql 0), .null, .null, .null, .null, .int (qz 0), .int (qz 0), .int (qz 0), .null, .null, .null, .null] 206 rfl (Nat.le_of_ble_eq_true rfl) (Nat.le_of_ble_eq_true rfl) (Or.inr ⟨by decide, rfl⟩) (qr_fitR (Or.inr ⟨_, rfl⟩) _) rfl rfl ?_
  refine qr_aload_n 207 rfl rfl rfl ?_
  refine qr_sipush 210 rfl (by decide) rfl ?_
  refine qr_inewI ha [.inr (12, [.ref (a + 1), .ref (a + 2), .ref (a + 3), .ref (a + 4), .int (qz 0), .int (qz 0), .int (qz 0), .ref (a + 5), .ref (a + 6), .ref (a + 7), .long (ql 0), .int (qz 0), .ref (a + 8), .ref (a + 9), .ref (a + 10), .int (qz 0), .int (qz 0), .ref (a + 11), .ref (a + 12), .ref (a + 13), .ref (a + 14), .ref (a + 15), .long (ql 0), .int (qz 0), .int (qz 0), .ref (a + 16), .ref (a + 17), .ref (a + 18), .ref (a + 19), .long (ql 0), .int (qz 0), .ref (a + 20), .int (qz 0), .ref (a + 21), .ref (a + 22), .int (qz 0), .int (qz 0), .int (qz 0), .int (qz 0), .int (qz 0), .ref (a + 23), .int (qz 0), .ref (a + 24), .int (qz 0), .ref (a + 25), .null, .null, .null, .null, .null, .int (qz 0), .long (ql 0), .null, .null, .null, .null, .int (qz 0), .int (qz 0), .int (qz 0), .null, .null, .null, .null]), .inl (.int, 252, .inl (qzf (fun _ => 0))), .inl (.int, 40, .inl (qzf (fun _ => 0))), .inl (.int, 40, .inl (qzf (fun _ => 0))), .inl (.int, 40, .inl (qzf (fun _ => 0))), .inl (.int, 32, .inl (qzf (fun _ => 0))), .inl (.int, 32, .inl (qzf (fun _ => 0))), .inl (.int, 32, .inl (qzf (fun _ => 0))), .inl (.int, 61, .inl (qzf (fun _ => 0))), .inl (.int, 61, .inl (qzf (fun _ => 0))), .inl (.int, 1024, .inl (qzf (fun _ => 0))), .inl (.int, 40, .inl (qzf (fun _ => 0))), .inl (.int, 40, .inl (qzf (fun _ => 0))), .inl (.int, 40, .inl (qzf (fun _ => 0))), .inl (.int, 40, .inl (qzf (fun _ => 0))), .inl (.int, 40, .inl (qzf (fun _ => 0))), .inl (.int, 60, .inl (qzf (fun _ => 0))), .inl (.int, 60, .inl (qzf (fun _ => 0))), .inl (.int, 60, .inl (qzf (fun _ => 0))), .inl (.int, 60, .inl (qzf (fun _ => 0))), .inl (.int, 120, .inl (qzf (fun _ => 0))), .inl (.int, 240, .inl (qzf (fun _ => 0))), .inl (.int, 2, .inl (qzf (fun _ => 0))), .inl (.int, 9, .inl (qzf (fun _ => 0))), .inl (.int, 32, .inl (qzf (fun _ => 0))), .inl (.int, 12, .inl (qzf (fun _ => 0))), .inl (.int, 4096, .inl (qzf (fun _ => 0)))] 212 26 6565 26 rfl (by decide) (Nat.le_of_ble_eq_true rfl) (Nat.le_of_ble_eq_true rfl) rfl rfl rfl rfl rfl ?_
  refine qr_iput ha [.ref (a + 1), .ref (a + 2), .ref (a + 3), .ref (a + 4), .int (qz 0), .int (qz 0), .int (qz 0), .ref (a + 5), .ref (a + 6), .ref (a + 7), .long (ql 0), .int (qz 0), .ref (a + 8), .ref (a + 9), .ref (a + 10), .int (qz 0), .int (qz 0), .ref (a + 11), .ref (a + 12), .ref (a + 13), .ref (a + 14), .ref (a + 15), .long (ql 0), .int (qz 0), .int (qz 0), .ref (a + 16), .ref (a + 17), .ref (a + 18), .ref (a + 19), .long (ql 0), .int (qz 0), .ref (a + 20), .int (qz 0), .ref (a + 21), .ref (a + 22), .int (qz 0), .int (qz 0), .int (qz 0), .int (qz 0), .int (qz 0), .ref (a + 23), .int (qz 0), .ref (a + 24), .int (qz 0), .ref (a + 25), .ref (a + 26), .null, .null, .null, .null, .int (qz 0), .long (ql 0), .null, .null, .null, .null, .int (qz 0), .int (qz 0), .int (qz 0), .null, .null, .null, .null] 215 rfl (Nat.le_of_ble_eq_true rfl) (Nat.le_of_ble_eq_true rfl) (Or.inr ⟨by decide, rfl⟩) (qr_fitR (Or.inr ⟨_, rfl⟩) _) rfl rfl ?_
  refine qr_aload_n 216 rfl rfl rfl ?_
  refine qr_bipush 218 rfl (by decide) rfl ?_
  refine qr_inewI ha [.inr (12, [.ref (a + 1), .ref (a + 2), .ref (a + 3), .ref (a + 4), .int (qz 0), .int (qz 0), .int (qz 0), .ref (a + 5), .ref (a + 6), .ref (a + 7), .long (ql 0), .int (qz 0), .ref (a + 8), .ref (a + 9), .ref (a + 10), .int (qz 0), .int (qz 0), .ref (a + 11), .ref (a + 12), .ref (a + 13), .ref (a + 14), .ref (a + 15), .long (ql 0), .int (qz 0), .int (qz 0), .ref (a + 16), .ref (a + 17), .ref (a + 18), .ref (a + 19), .long (ql 0), .int (qz 0), .ref (a + 20), .int (qz 0), .ref (a + 21), .ref (a + 22), .int (qz 0), .int (qz 0), .int (qz 0), .int (qz 0), .int (qz 0), .ref (a + 23), .int (qz 0), .ref (a + 24), .int (qz 0), .ref (a + 25), .ref (a + 26), .null, .null, .null, .null, .int (qz 0), .long (ql 0), .null, .null, .null, .null, .int (qz 0), .int (qz 0), .int (qz 0), .null, .null, .null, .null]), .inl (.int, 252, .inl (qzf (fun _ => 0))), .inl (.int, 40, .inl (qzf (fun _ => 0))), .inl (.int, 40, .inl (qzf (fun _ => 0))), .inl (.int, 40, .inl (qzf (fun _ => 0))), .inl (.int, 32, .inl (qzf (fun _ => 0))), .inl (.int, 32, .inl (qzf (fun _ => 0))), .inl (.int, 32, .inl (qzf (fun _ => 0))), .inl (.int, 61, .inl (qzf (fun _ => 0))), .inl (.int, 61, .inl (qzf (fun _ => 0))), .inl (.int, 1024, .inl (qzf (fun _ => 0))), .inl (.int, 40, .inl (qzf (fun _ => 0))), .inl (.int, 40, .inl (qzf (fun _ => 0))), .inl (.int, 40, .inl (qzf (fun _ => 0))), .inl (.int, 40, .inl (qzf (fun _ => 0))), .inl (.int, 40, .inl (qzf (fun _ => 0))), .inl (.int, 60, .inl (qzf (fun _ => 0))), .inl (.int, 60, .inl (qzf (fun _ => 0))), .inl (.int, 60, .inl (qzf (fun _ => 0))), .inl (.int, 60, .inl (qzf (fun _ => 0))), .inl (.int, 120, .inl (qzf (fun _ => 0))), .inl (.int, 240, .inl (qzf (fun _ => 0))), .inl (.int, 2, .inl (qzf (fun _ => 0))), .inl (.int, 9, .inl (qzf (fun _ => 0))), .inl (.int, 32, .inl (qzf (fun _ => 0))), .inl (.int, 12, .inl (qzf (fun _ => 0))), .inl (.int, 4096, .inl (qzf (fun _ => 0))), .inl (.int, 10, .inl (qzf (fun _ => 0)))] 220 27 6575 27 rfl (by decide) (Nat.le_of_ble_eq_true rfl) (Nat.le_of_ble_eq_true rfl) rfl rfl rfl rfl rfl ?_
  refine qr_iput ha [.ref (a + 1), .ref (a + 2), .ref (a + 3), .ref (a + 4), .int (qz 0), .int (qz 0), .int (qz 0), .ref (a + 5), .ref (a + 6), .ref (a + 7), .long (ql 0), .int (qz 0), .ref (a + 8), .ref (a + 9), .ref (a + 10), .int (qz 0), .int (qz 0), .ref (a + 11), .ref (a + 12), .ref (a + 13), .ref (a + 14), .ref (a + 15), .long (ql 0), .int (qz 0), .int (qz 0), .ref (a + 16), .ref (a + 17), .ref (a + 18), .ref (a + 19), .long (ql 0), .int (qz 0), .ref (a + 20), .int (qz 0), .ref (a + 21), .ref (a + 22), .int (qz 0), .int (qz 0), .int (qz 0), .int (qz 0), .int (qz 0), .ref (a + 23), .int (qz 0), .ref (a + 24), .int (qz 0), .ref (a + 25), .ref (a + 26), .ref (a + 27), .null, .null, .null, .int (qz 0), .long (ql 0), .null, .null, .null, .null, .int (qz 0), .int (qz 0), .int (qz 0), .null, .null, .null, .null] 223 rfl (Nat.le_of_ble_eq_true rfl) (Nat.le_of_ble_eq_true rfl) (Or.inr ⟨by decide, rfl⟩) (qr_fitR (Or.inr ⟨_, rfl⟩) _) rfl rfl ?_
  refine qr_aload_n 224 rfl rfl rfl ?_
  refine qr_bipush 226 rfl (by decide) rfl ?_
  refine qr_inewI ha [.inr (12, [.ref (a + 1), .ref (a + 2), .ref (a + 3), .ref (a + 4), .int (qz 0), .int (qz 0), .int (qz 0), .ref (a + 5), .ref (a + 6), .ref (a + 7), .long (ql 0), .int (qz 0), .ref (a + 8), .ref (a + 9), .ref (a + 10), .int (qz 0), .int (qz 0), .ref (a + 11), .ref (a + 12), .ref (a + 13), .ref (a + 14), .ref (a + 15), .long (ql 0), .int (qz 0), .int (qz 0), .ref (a + 16), .ref (a + 17), .ref (a + 18), .ref (a + 19), .long (ql 0), .int (qz 0), .ref (a + 20), .int (qz 0), .ref (a + 21), .ref (a + 22), .int (qz 0), .int (qz 0), .int (qz 0), .int (qz 0), .int (qz 0), .ref (a + 23), .int (qz 0), .ref (a + 24), .int (qz 0), .ref (a + 25), .ref (a + 26), .ref (a + 27), .null, .null, .null, .int (qz 0), .long (ql 0), .null, .null, .null, .null, .int (qz 0), .int (qz 0), .int (qz 0), .null, .null, .null, .null]), .inl (.int, 252, .inl (qzf (fun _ => 0))), .inl (.int, 40, .inl (qzf (fun _ => 0))), .inl (.int, 40, .inl (qzf (fun _ => 0))), .inl (.int, 40, .inl (qzf (fun _ => 0))), .inl (.int, 32, .inl (qzf (fun _ => 0))), .inl (.int, 32, .inl (qzf (fun _ => 0))), .inl (.int, 32, .inl (qzf (fun _ => 0))), .inl (.int, 61, .inl (qzf (fun _ => 0))), .inl (.int, 61, .inl (qzf (fun _ => 0))), .inl (.int, 1024, .inl (qzf (fun _ => 0))), .inl (.int, 40, .inl (qzf (fun _ => 0))), .inl (.int, 40, .inl (qzf (fun _ => 0))), .inl (.int, 40, .inl (qzf (fun _ => 0))), .inl (.int, 40, .inl (qzf (fun _ => 0))), .inl (.int, 40, .inl (qzf (fun _ => 0))), .inl (.int, 60, .inl (qzf (fun _ => 0))), .inl (.int, 60, .inl (qzf (fun _ => 0))), .inl (.int, 60, .inl (qzf (fun _ => 0))), .inl (.int, 60, .inl (qzf (fun _ => 0))), .inl (.int, 120, .inl (qzf (fun _ => 0))), .inl (.int, 240, .inl (qzf (fun _ => 0))), .inl (.int, 2, .inl (qzf (fun _ => 0))), .inl (.int, 9, .inl (qzf (fun _ => 0))), .inl (.int, 32, .inl (qzf (fun _ => 0))), .inl (.int, 12, .inl (qzf (fun _ => 0))), .inl (.int, 4096, .inl (qzf (fun _ => 0))), .inl (.int, 10, .inl (qzf (fun _ => 0))), .inl (.int, 6, .inl (qzf (fun _ => 0)))] 228 28 6581 28 rfl (by decide) (Nat.le_of_ble_eq_true rfl) (Nat.le_of_ble_eq_true rfl) rfl rfl rfl rfl rfl ?_
  refine qr_iput ha [.ref (a + 1), .ref (a + 2), .ref (a + 3), .ref (a + 4), .int (qz 0), .int (qz 0), .int (qz 0), .ref (a + 5), .ref (a + 6), .ref (a + 7), .long (ql 0), .int (qz 0), .ref (a + 8), .ref (a + 9), .ref (a + 10), .int (qz 0), .int (qz 0), .ref (a + 11), .ref (a + 12), .ref (a + 13), .ref (a + 14), .ref (a + 15), .long (ql 0), .int (qz 0), .int (qz 0), .ref (a + 16), .ref (a + 17), .ref (a + 18), .ref (a + 19), .long (ql 0), .int (qz 0), .ref (a + 20), .int (qz 0), .ref (a + 21), .ref (a + 22), .int (qz 0), .int (qz 0), .int (qz 0), .int (qz 0), .int (qz 0), .ref (a + 23), .int (qz 0), .ref (a + 24), .int (qz 0), .ref (a + 25), .ref (a + 26), .ref (a + 27), .ref (a + 28), .null, .null, .int (qz 0), .long (ql 0), .null, .null, .null, .null, .int (qz 0), .int (qz 0), .int (qz 0), .null, .null, .null, .null] 231 rfl (Nat.le_of_ble_eq_true rfl) (Nat.le_of_ble_eq_true rfl) (Or.inr ⟨by decide, rfl⟩) (qr_fitR (Or.inr ⟨_, rfl⟩) _) rfl rfl ?_
  refine qr_aload_n 232 rfl rfl rfl ?_
  refine qr_bipush 234 rfl (by decide) rfl ?_
  refine qr_inewI ha [.inr (12, [.ref (a + 1), .ref (a + 2), .ref (a + 3), .ref (a + 4), .int (qz 0), .int (qz 0), .int (qz 0), .ref (a + 5), .ref (a + 6), .ref (a + 7), .long (ql 0), .int (qz 0), .ref (a + 8), .ref (a + 9), .ref (a + 10), .int (qz 0), .int (qz 0), .ref (a + 11), .ref (a + 12), .ref (a + 13), .ref (a + 14), .ref (a + 15), .long (ql 0), .int (qz 0), .int (qz 0), .ref (a + 16), .ref (a + 17), .ref (a + 18), .ref (a + 19), .long (ql 0), .int (qz 0), .ref (a + 20), .int (qz 0), .ref (a + 21), .ref (a + 22), .int (qz 0), .int (qz 0), .int (qz 0), .int (qz 0), .int (qz 0), .ref (a + 23), .int (qz 0), .ref (a + 24), .int (qz 0), .ref (a + 25), .ref (a + 26), .ref (a + 27), .ref (a + 28), .null, .null, .int (qz 0), .long (ql 0), .null, .null, .null, .null, .int (qz 0), .int (qz 0), .int (qz 0), .null, .null, .null, .null]), .inl (.int, 252, .inl (qzf (fun _ => 0))), .inl (.int, 40, .inl (qzf (fun _ => 0))), .inl (.int, 40, .inl (qzf (fun _ => 0))), .inl (.int, 40, .inl (qzf (fun _ => 0))), .inl (.int, 32, .inl (qzf (fun _ => 0))), .inl (.int, 32, .inl (qzf (fun _ => 0))), .inl (.int, 32, .inl (qzf (fun _ => 0))), .inl (.int, 61, .inl (qzf (fun _ => 0))), .inl (.int, 61, .inl (qzf (fun _ => 0))), .inl (.int, 1024, .inl (qzf (fun _ => 0))), .inl (.int, 40, .inl (qzf (fun _ => 0))), .inl (.int, 40, .inl (qzf (fun _ => 0))), .inl (.int, 40, .inl (qzf (fun _ => 0))), .inl (.int, 40, .inl (qzf (fun _ => 0))), .inl (.int, 40, .inl (qzf (fun _ => 0))), .inl (.int, 60, .inl (qzf (fun _ => 0))), .inl (.int, 60, .inl (qzf (fun _ => 0))), .inl (.int, 60, .inl (qzf (fun _ => 0))), .inl (.int, 60, .inl (qzf (fun _ => 0))), .inl (.int, 120, .inl (qzf (fun _ => 0))), .inl (.int, 240, .inl (qzf (fun _ => 0))), .inl (.int, 2, .inl (qzf (fun _ => 0))), .inl (.int, 9, .inl (qzf (fun _ => 0))), .inl (.int, 32, .inl (qzf (fun _ => 0))), .inl (.int, 12, .inl (qzf (fun _ => 0))), .inl (.int, 4096, .inl (qzf (fun _ => 0))), .inl (.int, 10, .inl (qzf (fun _ => 0))), .inl (.int, 6, .inl (qzf (fun _ => 0))), .inl (.int, 31, .inl (qzf (fun _ => 0)))] 236 29 6612 29 rfl (by decide) (Nat.le_of_ble_eq_true rfl) (Nat.le_of_ble_eq_true rfl) rfl rfl rfl rfl rfl ?_
  refine qr_iput ha [.ref (a + 1), .ref (a + 2), .ref (a + 3), .ref (a + 4), .int (qz 0), .int (qz 0), .int (qz 0), .ref (a + 5), .ref (a + 6), .ref (a + 7), .long (ql 0), .int (qz 0), .ref (a + 8), .ref (a + 9), .ref (a + 10), .int (qz 0), .int (qz 0), .ref (a + 11), .ref (a + 12), .ref (a + 13), .ref (a + 14), .ref (a + 15), .long (ql 0), .int (qz 0), .int (qz 0), .ref (a + 16), .ref (a + 17), .ref (a + 18), .ref (a + 19), .long (ql 0), .int (qz 0), .ref (a + 20), .int (qz 0), .ref (a + 21), .ref (a + 22), .int (qz 0), .int (qz 0), .int (qz 0), .int (qz 0), .int (qz 0), .ref (a + 23), .int (qz 0), .ref (a + 24), .int (qz 0), .ref (a + 25), .ref (a + 26), .ref (a + 27), .ref (a + 28), .ref (a + 29), .null, .int (qz 0), .long (ql 0), .null, .null, .null, .null, .int (qz 0), .int (qz 0), .int (qz 0), .null, .null, .null, .null] 239 rfl (Nat.le_of_ble_eq_true rfl) (Nat.le_of_ble_eq_true rfl) (Or.inr ⟨by decide, rfl⟩) (qr_fitR (Or.inr ⟨_, rfl⟩) _) rfl rfl ?_
  refine qr_aload_n 240 rfl rfl rfl ?_
  refine qr_bipush 242 rfl (by decide) rfl ?_
  refine qr_inewI ha [.inr (12, [.ref (a + 1), .ref (a + 2), .ref (a + 3), .ref (a + 4), .int (qz 0), .int (qz 0), .int (qz 0), .ref (a + 5), .ref (a + 6), .ref (a + 7), .long (ql 0), .int (qz 0), .ref (a + 8), .ref (a + 9), .ref (a + 10), .int (qz 0), .int (qz 0), .ref (a + 11), .ref (a + 12), .ref (a + 13), .ref (a + 14), .ref (a + 15), .long (ql 0), .int (qz 0), .int (qz 0), .ref (a + 16), .ref (a + 17), .ref (a + 18), .ref (a + 19), .long (ql 0), .int (qz 0), .ref (a + 20), .int (qz 0), .ref (a + 21), .ref (a + 22), .int (qz 0), .int (qz 0), .int (qz 0), .int (qz 0), .int (qz 0), .ref (a + 23), .int (qz 0), .ref (a + 24), .int (qz 0), .ref (a + 25), .ref (a + 26), .ref (a + 27), .ref (a + 28), .ref (a + 29), .null, .int (qz 0), .long (ql 0), .null, .null, .null, .null, .int (qz 0), .int (qz 0), .int (qz 0), .null, .null, .null, .null]), .inl (.int, 252, .inl (qzf (fun _ => 0))), .inl (.int, 40, .inl (qzf (fun _ => 0))), .inl (.int, 40, .inl (qzf (fun _ => 0))), .inl (.int, 40, .inl (qzf (fun _ => 0))), .inl (.int, 32, .inl (qzf (fun _ => 0))), .inl (.int, 32, .inl (qzf (fun _ => 0))), .inl (.int, 32, .inl (qzf (fun _ => 0))), .inl (.int, 61, .inl (qzf (fun _ => 0))), .inl (.int, 61, .inl (qzf (fun _ => 0))), .inl (.int, 1024, .inl (qzf (fun _ => 0))), .inl (.int, 40, .inl (qzf (fun _ => 0))), .inl (.int, 40, .inl (qzf (fun _ => 0))), .inl (.int, 40, .inl (qzf (fun _ => 0))), .inl (.int, 40, .inl (qzf (fun _ => 0))), .inl (.int, 40, .inl (qzf (fun _ => 0))), .inl (.int, 60, .inl (qzf (fun _ => 0))), .inl (.int, 60, .inl (qzf (fun _ => 0))), .inl (.int, 60, .inl (qzf (fun _ => 0))), .inl (.int, 60, .inl (qzf (fun _ => 0))), .inl (.int, 120, .inl (qzf (fun _ => 0))), .inl (.int, 240, .inl (qzf (fun _ => 0))), .inl (.int, 2, .inl (qzf (fun _ => 0))), .inl (.int, 9, .inl (qzf (fun _ => 0))), .inl (.int, 32, .inl (qzf (fun _ => 0))), .inl (.int, 12, .inl (qzf (fun _ => 0))), .inl (.int, 4096, .inl (qzf (fun _ => 0))), .inl (.int, 10, .inl (qzf (fun _ => 0))), .inl (.int, 6, .inl (qzf (fun _ => 0))), .inl (.int, 31, .inl (qzf (fun _ => 0))), .inl (.int, 31, .inl (qzf (fun _ => 0)))] 244 30 6643 30 rfl (by decide) (Nat.le_of_ble_eq_true rfl) (Nat.le_of_ble_eq_true rfl) rfl rfl rfl rfl rfl ?_
  refine qr_iput ha [.ref (a + 1), .ref (a + 2), .ref (a + 3), .ref (a + 4), .int (qz 0), .int (qz 0), .int (qz 0), .ref (a + 5), .ref (a + 6), .ref (a + 7), .long (ql 0), .int (qz 0), .ref (a + 8), .ref (a + 9), .ref (a + 10), .int (qz 0), .int (qz 0), .ref (a + 11), .ref (a + 12), .ref (a + 13), .ref (a + 14), .ref (a + 15), .long (ql 0), .int (qz 0), .int (qz 0), .ref (a + 16), .ref (a + 17), .ref (a + 18), .ref (a + 19), .long (ql 0), .int (qz 0), .ref (a + 20), .int (qz 0), .ref (a + 21), .ref (a + 22), .int (qz 0), .int (qz 0), .int (qz 0), .int (qz 0), .int (qz 0), .ref (a + 23), .int (qz 0), .ref (a + 24), .int (qz 0), .ref (a + 25), .ref (a + 26), .ref (a + 27), .ref (a + 28), .ref (a + 29), .ref (a + 30), .int (qz 0), .long (ql 0), .null, .null, .null, .null, .int (qz 0), .int (qz 0), .int (qz 0), .null, .null, .null, .null] 247 rfl (Nat.le_of_ble_eq_true rfl) (Nat.le_of_ble_eq_true rfl) (Or.inr ⟨by decide, rfl⟩) (qr_fitR (Or.inr ⟨_, rfl⟩) _) rfl rfl ?_
  refine qr_aload_n 248 rfl rfl rfl ?_
  refine qr_ldc2 (-1) 251 rfl (by decide) rfl ?_
  refine qr_iput ha [.ref (a + 1), .ref (a + 2), .ref (a + 3), .ref (a + 4), .int (qz 0), .int (qz 0), .int (qz 0), .ref (a + 5), .ref (a + 6), .ref (a + 7), .long (ql 0), .int (qz 0), .ref (a + 8), .ref (a + 9), .ref (a + 10), .int (qz 0), .int (qz 0), .ref (a + 11), .ref (a + 12), .ref (a + 13), .ref (a + 14), .ref (a + 15), .long (ql 0), .int (qz 0), .int (qz 0), .ref (a + 16), .ref (a + 17), .ref (a + 18), .ref (a + 19), .long (ql 0), .int (qz 0), .ref (a + 20), .int (qz 0), .ref (a + 21), .ref (a + 22), .int (qz 0), .int (qz 0), .int (qz 0), .int (qz 0), .int (qz 0), .ref (a + 23), .int (qz 0), .ref (a + 24), .int (qz 0), .ref (a + 25), .ref (a + 26), .ref (a + 27), .ref (a + 28), .ref (a + 29), .ref (a + 30), .int (qz 0), .long (ql (-1)), .null, .null, .null, .null, .int (qz 0), .int (qz 0), .int (qz 0), .null, .null, .null, .null] 254 rfl (Nat.le_of_ble_eq_true rfl) (Nat.le_of_ble_eq_true rfl) (Or.inl rfl) (qr_fitL rfl _) rfl rfl ?_
  refine qr_aload_n 255 rfl rfl rfl ?_
  refine qr_bipush 257 rfl (by decide) rfl ?_
  refine qr_inewI ha [.inr (12, [.ref (a + 1), .ref (a + 2), .ref (a + 3), .ref (a + 4), .int (qz 0), .int (qz 0), .int (qz 0), .ref (a + 5), .ref (a + 6), .ref (a + 7), .long (ql 0), .int (qz 0), .ref (a + 8), .ref (a + 9), .ref (a + 10), .int (qz 0), .int (qz 0), .ref (a + 11), .ref (a + 12), .ref (a + 13), .ref (a + 14), .ref (a + 15), .long (ql 0), .int (qz 0), .int (qz 0), .ref (a + 16), .ref (a + 17), .ref (a + 18), .ref (a + 19), .long (ql 0), .int (qz 0), .ref (a + 20), .int (qz 0), .ref (a + 21), .ref (a + 22), .int (qz 0), .int (qz 0), .int (qz 0), .int (qz 0), .int (qz 0), .ref (a + 23), .int (qz 0), .ref (a + 24), .int (qz 0), .ref (a + 25), .ref (a + 26), .ref (a + 27), .ref (a + 28), .ref (a + 29), .ref (a + 30), .int (qz 0), .long (ql (-1)), .null, .null, .null, .null, .int (qz 0), .int (qz 0), .int (qz 0), .null, .null, .null, .null]), .inl (.int, 252, .inl (qzf (fun _ => 0))), .inl (.int, 40, .inl (qzf (fun _ => 0))), .inl (.int, 40, .inl (qzf (fun _ => 0))), .inl (.int, 40, .inl (qzf (fun _ => 0))), .inl (.int, 32, .inl (qzf (fun _ => 0))), .inl (.int, 32, .inl (qzf (fun _ => 0))), .inl (.int, 32, .inl (qzf (fun _ => 0))), .inl (.int, 61, .inl (qzf (fun _ => 0))), .inl (.int, 61, .inl (qzf (fun _ => 0))), .inl (.int, 1024, .inl (qzf (fun _ => 0))), .inl (.int, 40, .inl (qzf (fun _ => 0))), .inl (.int, 40, .inl (qzf (fun _ => 0))), .inl (.int, 40, .inl (qzf (fun _ => 0))), .inl (.int, 40, .inl (qzf (fun _ => 0))), .inl (.int, 40, .inl (qzf (fun _ => 0))), .inl (.int, 60, .inl (qzf (fun _ => 0))), .inl (.int, 60, .inl (qzf (fun _ => 0))), .inl (.int, 60, .inl (qzf (fun _ => 0))), .inl (.int, 60, .inl (qzf (fun _ => 0))), .inl (.int, 120, .inl (qzf (fun _ => 0))), .inl (.int, 240, .inl (qzf (fun _ => 0))), .inl (.int, 2, .inl (qzf (fun _ => 0))), .inl (.int, 9, .inl (qzf (fun _ => 0))), .inl (.int, 32, .inl (qzf (fun _ => 0))), .inl (.int, 12, .inl (qzf (fun _ => 0))), .inl (.int, 4096, .inl (qzf (fun _ => 0))), .inl (.int, 10, .inl (qzf (fun _ => 0))), .inl (.int, 6, .inl (qzf (fun _ => 0))), .inl (.int, 31, .inl (qzf (fun _ => 0))), .inl (.int, 31, .inl (qzf (fun _ => 0))), .inl (.int, 31, .inl (qzf (fun _ => 0)))] 259 31 6674 31 rfl (by decide) (Nat.le_of_ble_eq_true rfl) (Nat.le_of_ble_eq_true rfl) rfl rfl rfl rfl rfl ?_
  refine qr_iput ha [.ref (a + 1), .ref (a + 2), .ref (a + 3), .ref (a + 4), .int (qz 0), .int (qz 0), .int (qz 0), .ref (a + 5), .ref (a + 6), .ref (a + 7), .long (ql 0), .int (qz 0), .ref (a + 8), .ref (a + 9), .ref (a + 10), .int (qz 0), .int (qz 0), .ref (a + 11), .ref (a + 12), .ref (a + 13), .ref (a + 14), .ref (a + 15), .long (ql 0), .int (qz 0), .int (qz 0), .ref (a + 16), .ref (a + 17), .ref (a + 18), .ref (a + 19), .long (ql 0), .int (qz 0), .ref (a + 20), .int (qz 0), .ref (a + 21), .ref (a + 22), .int (qz 0), .int (qz 0), .int (qz 0), .int (qz 0), .int (qz 0), .ref (a + 23), .int (qz 0), .ref (a + 24), .int (qz 0), .ref (a + 25), .ref (a + 26), .ref (a + 27), .ref (a + 28), .ref (a + 29), .ref (a + 30), .int (qz 0), .long (ql (-1)), .ref (a + 31), .null, .null, .null, .int (qz 0), .int (qz 0), .int (qz 0), .null, .null, .null, .null] 262 rfl (Nat.le_of_ble_eq_true rfl) (Nat.le_of_ble_eq_true rfl) (Or.inr ⟨by decide, rfl⟩) (qr_fitR (Or.inr ⟨_, rfl⟩) _) rfl rfl ?_
  refine qr_aload_n 263 rfl rfl rfl ?_
  refine qr_bipush 265 rfl (by decide) rfl ?_
  refine qr_inewI ha [.inr (12, [.ref (a + 1), .ref (a + 2), .ref (a + 3), .ref (a + 4), .int (qz 0), .int (qz 0), .int (qz 0), .ref (a + 5), .ref (a + 6), .ref (a + 7), .long (ql 0), .int (qz 0), .ref (a + 8), .ref (a + 9), .ref (a + 10), .int (qz 0), .int (qz 0), .ref (a + 11), .ref (a + 12), .ref (a + 13), .ref (a + 14), .ref (a + 15), .long (ql 0), .int (qz 0), .int (qz 0), .ref (a + 16), .ref (a + 17), .ref (a + 18), .ref (a + 19), .long (ql 0), .int (qz 0), .ref (a + 20), .int (qz 0), .ref (a + 21), .ref (a + 22), .int (qz 0), .int (qz 0), .int (qz 0), .int (qz 0), .int (qz 0), .ref (a + 23), .int (qz 0), .ref (a + 24), .int (qz 0), .ref (a + 25), .ref (a + 26), .ref (a + 27), .ref (a + 28), .ref (a + 29), .ref (a + 30), .int (qz 0), .long (ql (-1)), .ref (a + 31), .null, .null, .null, .int (qz 0), .int (qz 0), .int (qz 0), .null, .null, .null, .null]), .inl (.int, 252, .inl (qzf (fun _ => 0))), .inl (.int, 40, .inl (qzf (fun _ => 0))), .inl (.int, 40, .inl (qzf (fun _ => 0))), .inl (.int, 40, .inl (qzf (fun _ => 0))), .inl (.int, 32, .inl (qzf (fun _ => 0))), .inl (.int, 32, .inl (qzf (fun _ => 0))), .inl (.int, 32, .inl (qzf (fun _ => 0))), .inl (.int, 61, .inl (qzf (fun _ => 0))), .inl (.int, 61, .inl (qzf (fun _ => 0))), .inl (.int, 1024, .inl (qzf (fun _ => 0))), .inl (.int, 40, .inl (qzf (fun _ => 0))), .inl (.int, 40, .inl (qzf (fun _ => 0))), .inl (.int, 40, .inl (qzf (fun _ => 0))), .inl (.int, 40, .inl (qzf (fun _ => 0))), .inl (.int, 40, .inl (qzf (fun _ => 0))), .inl (.int, 60, .inl (qzf (fun _ => 0))), .inl (.int, 60, .inl (qzf (fun _ => 0))), .inl (.int, 60, .inl (qzf (fun _ => 0))), .inl (.int, 60, .inl (qzf (fun _ => 0))), .inl (.int, 120, .inl (qzf (fun _ => 0))), .inl (.int, 240, .inl (qzf (fun _ => 0))), .inl (.int, 2, .inl (qzf (fun _ => 0))), .inl (.int, 9, .inl (qzf (fun _ => 0))), .inl (.int, 32, .inl (qzf (fun _ => 0))), .inl (.int, 12, .inl (qzf (fun _ => 0))), .inl (.int, 4096, .inl (qzf (fun _ => 0))), .inl (.int, 10, .inl (qzf (fun _ => 0))), .inl (.int, 6, .inl (qzf (fun _ => 0))), .inl (.int, 31, .inl (qzf (fun _ => 0))), .inl (.int, 31, .inl (qzf (fun _ => 0))), .inl (.int, 31, .inl (qzf (fun _ => 0))), .inl (.int, 31, .inl (qzf (fun _ => 0)))] 267 32 6705 32 rfl (by decide) (Nat.le_of_ble_eq_true rfl) (Nat.le_of_ble_eq_true rfl) rfl rfl rfl rfl rfl ?_
  refine qr_iput ha [.ref (a + 1), .ref (a + 2), .ref (a + 3), .ref (a + 4), .int (qz 0), .int (qz 0), .int (qz 0), .ref (a + 5), .ref (a + 6), .ref (a + 7), .long (ql 0), .int (qz 0), .ref (a + 8), .ref (a + 9), .ref (a + 10), .int (qz 0), .int (qz 0), .ref (a + 11), .ref (a + 12), .ref (a + 13), .ref (a + 14), .ref (a + 15), .long (ql 0), .int (qz 0), .int (qz 0), .ref (a + 16), .ref (a + 17), .ref (a + 18), .ref (a + 19), .long (ql 0), .int (qz 0), .ref (a + 20), .int (qz 0), .ref (a + 21), .ref (a + 22), .int (qz 0), .int (qz 0), .int (qz 0), .int (qz 0), .int (qz 0), .ref (a + 23), .int (qz 0), .ref (a + 24), .int (qz 0), .ref (a + 25), .ref (a + 26), .ref (a + 27), .ref (a + 28), .ref (a + 29), .ref (a + 30), .int (qz 0), .long (ql (-1)), .ref (a + 31), .ref (a + 32), .null, .null, .int (qz 0), .int (qz 0), .int (qz 0), .null, .null, .null, .null] 270 rfl (Nat.le_of_ble_eq_true rfl) (Nat.le_of_ble_eq_true rfl) (Or.inr ⟨by decide, rfl⟩) (qr_fitR (Or.inr ⟨_, rfl⟩) _) rfl rfl ?_
  refine qr_aload_n 271 rfl rfl rfl ?_
  refine qr_sipush 274 rfl (by decide) rfl ?_
  refine qr_inewZ ha [.inr (12, [.ref (a + 1), .ref (a + 2), .ref (a + 3), .ref (a + 4), .int (qz 0), .int (qz 0), .int (qz 0), .ref (a + 5), .ref (a + 6), .ref (a + 7), .long (ql 0), .int (qz 0), .ref (a + 8), .ref (a + 9), .ref (a + 10), .int (qz 0), .int (qz 0), .ref (a + 11), .ref (a + 12), .ref (a + 13), .ref (a + 14), .ref (a + 15), .long (ql 0), .int (qz 0), .int (qz 0), .ref (a + 16), .ref (a + 17), .ref (a + 18), .ref (a + 19), .long (ql 0), .int (qz 0), .ref (a + 20), .int (qz 0), .ref (a + 21), .ref (a + 22), .int (qz 0), .int (qz 0), .int (qz 0), .int (qz 0), .int (qz 0), .ref (a + 23), .int (qz 0), .ref (a + 24), .int (qz 0), .ref (a + 25), .ref (a + 26), .ref (a + 27), .ref (a + 28), .ref (a + 29), .ref (a + 30), .int (qz 0), .long (ql (-1)), .ref (a + 31), .ref (a + 32), .null, .null, .int (qz 0), .int (qz 0), .int (qz 0), .null, .null, .null, .null]), .inl (.int, 252, .inl (qzf (fun _ => 0))), .inl (.int, 40, .inl (qzf (fun _ => 0))), .inl (.int, 40, .inl (qzf (fun _ => 0))), .inl (.int, 40, .inl (qzf (fun _ => 0))), .inl (.int, 32, .inl (qzf (fun _ => 0))), .inl (.int, 32, .inl (qzf (fun _ => 0))), .inl (.int, 32, .inl (qzf (fun _ => 0))), .inl (.int, 61, .inl (qzf (fun _ => 0))), .inl (.int, 61, .inl (qzf (fun _ => 0))), .inl (.int, 1024, .inl (qzf (fun _ => 0))), .inl (.int, 40, .inl (qzf (fun _ => 0))), .inl (.int, 40, .inl (qzf (fun _ => 0))), .inl (.int, 40, .inl (qzf (fun _ => 0))), .inl (.int, 40, .inl (qzf (fun _ => 0))), .inl (.int, 40, .inl (qzf (fun _ => 0))), .inl (.int, 60, .inl (qzf (fun _ => 0))), .inl (.int, 60, .inl (qzf (fun _ => 0))), .inl (.int, 60, .inl (qzf (fun _ => 0))), .inl (.int, 60, .inl (qzf (fun _ => 0))), .inl (.int, 120, .inl (qzf (fun _ => 0))), .inl (.int, 240, .inl (qzf (fun _ => 0))), .inl (.int, 2, .inl (qzf (fun _ => 0))), .inl (.int, 9, .inl (qzf (fun _ => 0))), .inl (.int, 32, .inl (qzf (fun _ => 0))), .inl (.int, 12, .inl (qzf (fun _ => 0))), .inl (.int, 4096, .inl (qzf (fun _ => 0))), .inl (.int, 10, .inl (qzf (fun _ => 0))), .inl (.int, 6, .inl (qzf (fun _ => 0))), .inl (.int, 31, .inl (qzf (fun _ => 0))), .inl (.int, 31, .inl (qzf (fun _ => 0))), .inl (.int, 31, .inl (qzf (fun _ => 0))), .inl (.int, 31, .inl (qzf (fun _ => 0))), .inl (.boolean, 1024, .inl (qzf (fun _ => 0)))] 276 33 7729 33 rfl (by decide) (Nat.le_of_ble_eq_true rfl) (Nat.le_of_ble_eq_true rfl) rfl rfl rfl rfl rfl ?_
  refine qr_iput ha [.ref (a + 1), .ref (a + 2), .ref (a + 3), .ref (a + 4), .int (qz 0), .int (qz 0), .int (qz 0), .ref (a + 5), .ref (a + 6), .ref (a + 7), .long (ql 0), .int (qz 0), .ref (a + 8), .ref (a + 9), .ref (a + 10), .int (qz 0), .int (qz 0), .ref (a + 11), .ref (a + 12), .ref (a + 13), .ref (a + 14), .ref (a + 15), .long (ql 0), .int (qz 0), .int (qz 0), .ref (a + 16), .ref (a + 17), .ref (a + 18), .ref (a + 19), .long (ql 0), .int (qz 0), .ref (a + 20), .int (qz 0), .ref (a + 21), .ref (a + 22), .int (qz 0), .int (qz 0), .int (qz 0), .int (qz 0), .int (qz 0), .ref (a + 23), .int (qz 0), .ref (a + 24), .int (qz 0), .ref (a + 25), .ref (a + 26), .ref (a + 27), .ref (a + 28), .ref (a + 29), .ref (a + 30), .int (qz 0), .long (ql (-1)), .ref (a + 31), .ref (a + 32), .ref (a + 33), .null, .int (qz 0), .int (qz 0), .int (qz 0), .null, .null, .null, .null] 279 rfl (Nat.le_of_ble_eq_true rfl) (Nat.le_of_ble_eq_true rfl) (Or.inr ⟨by decide, rfl⟩) (qr_fitR (Or.inr ⟨_, rfl⟩) _) rfl rfl ?_
  refine qr_aload_n 280 rfl rfl rfl ?_
  refine qr_bipush 282 rfl (by decide) rfl ?_
  refine qr_inewI ha [.inr (12, [.ref (a + 1), .ref (a + 2), .ref (a + 3), .ref (a + 4), .int (qz 0), .int (qz 0), .int (qz 0), .ref (a + 5), .ref (a + 6), .ref (a + 7), .long (ql 0), .int (qz 0), .ref (a + 8), .ref (a + 9), .ref (a + 10), .int (qz 0), .int (qz 0), .ref (a + 11), .ref (a + 12), .ref (a + 13), .ref (a + 14), .ref (a + 15), .long (ql 0), .int (qz 0), .int (qz 0), .ref (a + 16), .ref (a + 17), .ref (a + 18), .ref (a + 19), .long (ql 0), .int (qz 0), .ref (a + 20), .int (qz 0), .ref (a + 21), .ref (a + 22), .int (qz 0), .int (qz 0), .int (qz 0), .int (qz 0), .int (qz 0), .ref (a + 23), .int (qz 0), .ref (a + 24), .int (qz 0), .ref (a + 25), .ref (a + 26), .ref (a + 27), .ref (a + 28), .ref (a + 29), .ref (a + 30), .int (qz 0), .long (ql (-1)), .ref (a + 31), .ref (a + 32), .ref (a + 33), .null, .int (qz 0), .int (qz 0), .int (qz 0), .null, .null, .null, .null]), .inl (.int, 252, .inl (qzf (fun _ => 0))), .inl (.int, 40, .inl (qzf (fun _ => 0))), .inl (.int, 40, .inl (qzf (fun _ => 0))), .inl (.int, 40, .inl (qzf (fun _ => 0))), .inl (.int, 32, .inl (qzf (fun _ => 0))), .inl (.int, 32, .inl (qzf (fun _ => 0))), .inl (.int, 32, .inl (qzf (fun _ => 0))), .inl (.int, 61, .inl (qzf (fun _ => 0))), .inl (.int, 61, .inl (qzf (fun _ => 0))), .inl (.int, 1024, .inl (qzf (fun _ => 0))), .inl (.int, 40, .inl (qzf (fun _ => 0))), .inl (.int, 40, .inl (qzf (fun _ => 0))), .inl (.int, 40, .inl (qzf (fun _ => 0))), .inl (.int, 40, .inl (qzf (fun _ => 0))), .inl (.int, 40, .inl (qzf (fun _ => 0))), .inl (.int, 60, .inl (qzf (fun _ => 0))), .inl (.int, 60, .inl (qzf (fun _ => 0))), .inl (.int, 60, .inl (qzf (fun _ => 0))), .inl (.int, 60, .inl (qzf (fun _ => 0))), .inl (.int, 120, .inl (qzf (fun _ => 0))), .inl (.int, 240, .inl (qzf (fun _ => 0))), .inl (.int, 2, .inl (qzf (fun _ => 0))), .inl (.int, 9, .inl (qzf (fun _ => 0))), .inl (.int, 32, .inl (qzf (fun _ => 0))), .inl (.int, 12, .inl (qzf (fun _ => 0))), .inl (.int, 4096, .inl (qzf (fun _ => 0))), .inl (.int, 10, .inl (qzf (fun _ => 0))), .inl (.int, 6, .inl (qzf (fun _ => 0))), .inl (.int, 31, .inl (qzf (fun _ => 0))), .inl (.int, 31, .inl (qzf (fun _ => 0))), .inl (.int, 31, .inl (qzf (fun _ => 0))), .inl (.int, 31, .inl (qzf (fun _ => 0))), .inl (.boolean, 1024, .inl (qzf (fun _ => 0))), .inl (.int, 24, .inl (qzf (fun _ => 0)))] 284 34 7753 34 rfl (by decide) (Nat.le_of_ble_eq_true rfl) (Nat.le_of_ble_eq_true rfl) rfl rfl rfl rfl rfl ?_
  refine qr_iput ha [.ref (a + 1), .ref (a + 2), .ref (a + 3), .ref (a + 4), .int (qz 0), .int (qz 0), .int (qz 0), .ref (a + 5), .ref (a + 6), .ref (a + 7), .long (ql 0), .int (qz 0), .ref (a + 8), .ref (a + 9), .ref (a + 10), .int (qz 0), .int (qz 0), .ref (a + 11), .ref (a + 12), .ref (a + 13), .ref (a + 14), .ref (a + 15), .long (ql 0), .int (qz 0), .int (qz 0), .ref (a + 16), .ref (a + 17), .ref (a + 18), .ref (a + 19), .long (ql 0), .int (qz 0), .ref (a + 20), .int (qz 0), .ref (a + 21), .ref (a + 22), .int (qz 0), .int (qz 0), .int (qz 0), .int (qz 0), .int (qz 0), .ref (a + 23), .int (qz 0), .ref (a + 24), .int (qz 0), .ref (a + 25), .ref (a + 26), .ref (a + 27), .ref (a + 28), .ref (a + 29), .ref (a + 30), .int (qz 0), .long (ql (-1)), .ref (a + 31), .ref (a + 32), .ref (a + 33), .ref (a + 34), .int (qz 0), .int (qz 0), .int (qz 0), .null, .null, .null, .null] 287 rfl (Nat.le_of_ble_eq_true rfl) (Nat.le_of_ble_eq_true rfl) (Or.inr ⟨by decide, rfl⟩) (qr_fitR (Or.inr ⟨_, rfl⟩) _) rfl rfl ?_
  refine qr_aload_n 288 rfl rfl rfl ?_
  refine qr_bipush 290 rfl (by decide) rfl ?_
  refine qr_inewI ha [.inr (12, [.ref (a + 1), .ref (a + 2), .ref (a + 3), .ref (a + 4), .int (qz 0), .int (qz 0), .int (qz 0), .ref (a + 5), .ref (a + 6), .ref (a + 7), .long (ql 0), .int (qz 0), .ref (a + 8), .ref (a + 9), .ref (a + 10), .int (qz 0), .int (qz 0), .ref (a + 11), .ref (a + 12), .ref (a + 13), .ref (a + 14), .ref (a + 15), .long (ql 0), .int (qz 0), .int (qz 0), .ref (a + 16), .ref (a + 17), .ref (a + 18), .ref (a + 19), .long (ql 0), .int (qz 0), .ref (a + 20), .int (qz 0), .ref (a + 21), .ref (a + 22), .int (qz 0), .int (qz 0), .int (qz 0), .int (qz 0), .int (qz 0), .ref (a + 23), .int (qz 0), .ref (a + 24), .int (qz 0), .ref (a + 25), .ref (a + 26), .ref (a + 27), .ref (a + 28), .ref (a + 29), .ref (a + 30), .int (qz 0), .long (ql (-1)), .ref (a + 31), .ref (a + 32), .ref (a + 33), .ref (a + 34), .int (qz 0), .int (qz 0), .int (qz 0), .null, .null, .null, .null]), .inl (.int, 252, .inl (qzf (fun _ => 0))), .inl (.int, 40, .inl (qzf (fun _ => 0))), .inl (.int, 40, .inl (qzf (fun _ => 0))), .inl (.int, 40, .inl (qzf (fun _ => 0))), .inl (.int, 32, .inl (qzf (fun _ => 0))), .inl (.int, 32, .inl (qzf (fun _ => 0))), .inl (.int, 32, .inl (qzf (fun _ => 0))), .inl (.int, 61, .inl (qzf (fun _ => 0))), .inl (.int, 61, .inl (qzf (fun _ => 0))), .inl (.int, 1024, .inl (qzf (fun _ => 0))), .inl (.int, 40, .inl (qzf (fun _ => 0))), .inl (.int, 40, .inl (qzf (fun _ => 0))), .inl (.int, 40, .inl (qzf (fun _ => 0))), .inl (.int, 40, .inl (qzf (fun _ => 0))), .inl (.int, 40, .inl (qzf (fun _ => 0))), .inl (.int, 60, .inl (qzf (fun _ => 0))), .inl (.int, 60, .inl (qzf (fun _ => 0))), .inl (.int, 60, .inl (qzf (fun _ => 0))), .inl (.int, 60, .inl (qzf (fun _ => 0))), .inl (.int, 120, .inl (qzf (fun _ => 0))), .inl (.int, 240, .inl (qzf (fun _ => 0))), .inl (.int, 2, .inl (qzf (fun _ => 0))), .inl (.int, 9, .inl (qzf (fun _ => 0))), .inl (.int, 32, .inl (qzf (fun _ => 0))), .inl (.int, 12, .inl (qzf (fun _ => 0))), .inl (.int, 4096, .inl (qzf (fun _ => 0))), .inl (.int, 10, .inl (qzf (fun _ => 0))), .inl (.int, 6, .inl (qzf (fun _ => 0))), .inl (.int, 31, .inl (qzf (fun _ => 0))), .inl (.int, 31, .inl (qzf (fun _ => 0))), .inl (.int, 31, .inl (qzf (fun _ => 0))), .inl (.int, 31, .inl (qzf (fun _ => 0))), .inl (.boolean, 1024, .inl (qzf (fun _ => 0))), .inl (.int, 24, .inl (qzf (fun _ => 0))), .inl (.int, 6, .inl (qzf (fun _ => 0)))] 292 35 7759 35 rfl (by decide) (Nat.le_of_ble_eq_true rfl) (Nat.le_of_ble_eq_true rfl) rfl rfl rfl rfl rfl ?_
  refine qr_iput ha [.ref (a + 1), .ref (a + 2), .ref (a + 3), .ref (a + 4), .int (qz 0), .int (qz 0), .int (qz 0), .ref (a + 5), .ref (a + 6), .ref (a + 7), .long (ql 0), .int (qz 0), .ref (a + 8), .ref (a + 9), .ref (a + 10), .int (qz 0), .int (qz 0), .ref (a + 11), .ref (a + 12), .ref (a + 13), .ref (a + 14), .ref (a + 15), .long (ql 0), .int (qz 0), .int (qz 0), .ref (a + 16), .ref (a + 17), .ref (a + 18), .ref (a + 19), .long (ql 0), .int (qz 0), .ref (a + 20), .int (qz 0), .ref (a + 21), .ref (a + 22), .int (qz 0), .int (qz 0), .int (qz 0), .int (qz 0), .int (qz 0), .ref (a + 23), .int (qz 0), .ref (a + 24), .int (qz 0), .ref (a + 25), .ref (a + 26), .ref (a + 27), .ref (a + 28), .ref (a + 29), .ref (a + 30), .int (qz 0), .long (ql (-1)), .ref (a + 31), .ref (a + 32), .ref (a + 33), .ref (a + 34), .int (qz 0), .int (qz 0), .int (qz 0), .ref (a + 35), .null, .null, .null] 295 rfl (Nat.le_of_ble_eq_true rfl) (Nat.le_of_ble_eq_true rfl) (Or.inr ⟨by decide, rfl⟩) (qr_fitR (Or.inr ⟨_, rfl⟩) _) rfl rfl ?_
  refine qr_aload_n 296 rfl rfl rfl ?_
  refine qr_bipush 298 rfl (by decide) rfl ?_
  refine qr_inewI ha [.inr (12, [.ref (a + 1), .ref (a + 2), .ref (a + 3), .ref (a + 4), .int (qz 0), .int (qz 0), .int (qz 0), .ref (a + 5), .ref (a + 6), .ref (a + 7), .long (ql 0), .int (qz 0), .ref (a + 8), .ref (a + 9), .ref (a + 10), .int (qz 0), .int (qz 0), .ref (a + 11), .ref (a + 12), .ref (a + 13), .ref (a + 14), .ref (a + 15), .long (ql 0), .int (qz 0), .int (qz 0), .ref (a + 16), .ref (a + 17), .ref (a + 18), .ref (a + 19), .long (ql 0), .int (qz 0), .ref (a + 20), .int (qz 0), .ref (a + 21), .ref (a + 22), .int (qz 0), .int (qz 0), .int (qz 0), .int (qz 0), .int (qz 0), .ref (a + 23), .int (qz 0), .ref (a + 24), .int (qz 0), .ref (a + 25), .ref (a + 26), .ref (a + 27), .ref (a + 28), .ref (a + 29), .ref (a + 30), .int (qz 0), .long (ql (-1)), .ref (a + 31), .ref (a + 32), .ref (a + 33), .ref (a + 34), .int (qz 0), .int (qz 0), .int (qz 0), .ref (a + 35), .null, .null, .null]), .inl (.int, 252, .inl (qzf (fun _ => 0))), .inl (.int, 40, .inl (qzf (fun _ => 0))), .inl (.int, 40, .inl (qzf (fun _ => 0))), .inl (.int, 40, .inl (qzf (fun _ => 0))), .inl (.int, 32, .inl (qzf (fun _ => 0))), .inl (.int, 32, .inl (qzf (fun _ => 0))), .inl (.int, 32, .inl (qzf (fun _ => 0))), .inl (.int, 61, .inl (qzf (fun _ => 0))), .inl (.int, 61, .inl (qzf (fun _ => 0))), .inl (.int, 1024, .inl (qzf (fun _ => 0))), .inl (.int, 40, .inl (qzf (fun _ => 0))), .inl (.int, 40, .inl (qzf (fun _ => 0))), .inl (.int, 40, .inl (qzf (fun _ => 0))), .inl (.int, 40, .inl (qzf (fun _ => 0))), .inl (.int, 40, .inl (qzf (fun _ => 0))), .inl (.int, 60, .inl (qzf (fun _ => 0))), .inl (.int, 60, .inl (qzf (fun _ => 0))), .inl (.int, 60, .inl (qzf (fun _ => 0))), .inl (.int, 60, .inl (qzf (fun _ => 0))), .inl (.int, 120, .inl (qzf (fun _ => 0))), .inl (.int, 240, .inl (qzf (fun _ => 0))), .inl (.int, 2, .inl (qzf (fun _ => 0))), .inl (.int, 9, .inl (qzf (fun _ => 0))), .inl (.int, 32, .inl (qzf (fun _ => 0))), .inl (.int, 12, .inl (qzf (fun _ => 0))), .inl (.int, 4096, .inl (qzf (fun _ => 0))), .inl (.int, 10, .inl (qzf (fun _ => 0))), .inl (.int, 6, .inl (qzf (fun _ => 0))), .inl (.int, 31, .inl (qzf (fun _ => 0))), .inl (.int, 31, .inl (qzf (fun _ => 0))), .inl (.int, 31, .inl (qzf (fun _ => 0))), .inl (.int, 31, .inl (qzf (fun _ => 0))), .inl (.boolean, 1024, .inl (qzf (fun _ => 0))), .inl (.int, 24, .inl (qzf (fun _ => 0))), .inl (.int, 6, .inl (qzf (fun _ => 0))), .inl (.int, 6, .inl (qzf (fun _ => 0)))] 300 36 7765 36 rfl (by decide) (Nat.le_of_ble_eq_true rfl) (Nat.le_of_ble_eq_true rfl) rfl rfl rfl rfl rfl ?_
  refine qr_iput ha [.ref (a + 1), .ref (a + 2), .ref (a + 3), .ref (a + 4), .int (qz 0), .int (qz 0), .int (qz 0), .ref (a + 5), .ref (a + 6), .ref (a + 7), .long (ql 0), .int (qz 0), .ref (a + 8), .ref (a + 9), .ref (a + 10), .int (qz 0), .int (qz 0), .ref (a + 11), .ref (a + 12), .ref (a + 13), .ref (a + 14), .ref (a + 15), .long (ql 0), .int (qz 0), .int (qz 0), .ref (a + 16), .ref (a + 17), .ref (a + 18), .ref (a + 19), .long (ql 0), .int (qz 0), .ref (a + 20), .int (qz 0), .ref (a + 21), .ref (a + 22), .int (qz 0), .int (qz 0), .int (qz 0), .int (qz 0), .int (qz 0), .ref (a + 23), .int (qz 0), .ref (a + 24), .int (qz 0), .ref (a + 25), .ref (a + 26), .ref (a + 27), .ref (a + 28), .ref (a + 29), .ref (a + 30), .int (qz 0), .long (ql (-1)), .ref (a + 31), .ref (a + 32), .ref (a + 33), .ref (a + 34), .int (qz 0), .int (qz 0), .int (qz 0), .ref (a + 35), .ref (a + 36), .null, .null] 303 rfl (Nat.le_of_ble_eq_true rfl) (Nat.le_of_ble_eq_true rfl) (Or.inr ⟨by decide, rfl⟩) (qr_fitR (Or.inr ⟨_, rfl⟩) _) rfl rfl ?_
  refine qr_aload_n 304 rfl rfl rfl ?_
  refine qr_sipush 307 rfl (by decide) rfl ?_
  refine qr_inewL ha [.inr (12, [.ref (a + 1), .ref (a + 2), .ref (a + 3), .ref (a + 4), .int (qz 0), .int (qz 0), .int (qz 0), .ref (a + 5), .ref (a + 6), .ref (a + 7), .long (ql 0), .int (qz 0), .ref (a + 8), .ref (a + 9), .ref (a + 10), .int (qz 0), .int (qz 0), .ref (a + 11), .ref (a + 12), .ref (a + 13), .ref (a + 14), .ref (a + 15), .long (ql 0), .int (qz 0), .int (qz 0), .ref (a + 16), .ref (a + 17), .ref (a + 18), .ref (a + 19), .long (ql 0), .int (qz 0), .ref (a + 20), .int (qz 0), .ref (a + 21), .ref (a + 22), .int (qz 0), .int (qz 0), .int (qz 0), .int (qz 0), .int (qz 0), .ref (a + 23), .int (qz 0), .ref (a + 24), .int (qz 0), .ref (a + 25), .ref (a + 26), .ref (a + 27), .ref (a + 28), .ref (a + 29), .ref (a + 30), .int (qz 0), .long (ql (-1)), .ref (a + 31), .ref (a + 32), .ref (a + 33), .ref (a + 34), .int (qz 0), .int (qz 0), .int (qz 0), .ref (a + 35), .ref (a + 36), .null, .null]), .inl (.int, 252, .inl (qzf (fun _ => 0))), .inl (.int, 40, .inl (qzf (fun _ => 0))), .inl (.int, 40, .inl (qzf (fun _ => 0))), .inl (.int, 40, .inl (qzf (fun _ => 0))), .inl (.int, 32, .inl (qzf (fun _ => 0))), .inl (.int, 32, .inl (qzf (fun _ => 0))), .inl (.int, 32, .inl (qzf (fun _ => 0))), .inl (.int, 61, .inl (qzf (fun _ => 0))), .inl (.int, 61, .inl (qzf (fun _ => 0))), .inl (.int, 1024, .inl (qzf (fun _ => 0))), .inl (.int, 40, .inl (qzf (fun _ => 0))), .inl (.int, 40, .inl (qzf (fun _ => 0))), .inl (.int, 40, .inl (qzf (fun _ => 0))), .inl (.int, 40, .inl (qzf (fun _ => 0))), .inl (.int, 40, .inl (qzf (fun _ => 0))), .inl (.int, 60, .inl (qzf (fun _ => 0))), .inl (.int, 60, .inl (qzf (fun _ => 0))), .inl (.int, 60, .inl (qzf (fun _ => 0))), .inl (.int, 60, .inl (qzf (fun _ => 0))), .inl (.int, 120, .inl (qzf (fun _ => 0))), .inl (.int, 240, .inl (qzf (fun _ => 0))), .inl (.int, 2, .inl (qzf (fun _ => 0))), .inl (.int, 9, .inl (qzf (fun _ => 0))), .inl (.int, 32, .inl (qzf (fun _ => 0))), .inl (.int, 12, .inl (qzf (fun _ => 0))), .inl (.int, 4096, .inl (qzf (fun _ => 0))), .inl (.int, 10, .inl (qzf (fun _ => 0))), .inl (.int, 6, .inl (qzf (fun _ => 0))), .inl (.int, 31, .inl (qzf (fun _ => 0))), .inl (.int, 31, .inl (qzf (fun _ => 0))), .inl (.int, 31, .inl (qzf (fun _ => 0))), .inl (.int, 31, .inl (qzf (fun _ => 0))), .inl (.boolean, 1024, .inl (qzf (fun _ => 0))), .inl (.int, 24, .inl (qzf (fun _ => 0))), .inl (.int, 6, .inl (qzf (fun _ => 0))), .inl (.int, 6, .inl (qzf (fun _ => 0))), .inl (.long, 360, .inr (.inl (qlf (fun _ => 0))))] 309 37 8125 37 rfl (by decide) (Nat.le_of_ble_eq_true rfl) (Nat.le_of_ble_eq_true rfl) rfl rfl rfl rfl rfl ?_
  refine qr_iput ha [.ref (a + 1), .ref (a + 2), .ref (a + 3), .ref (a + 4), .int (qz 0), .int (qz 0), .int (qz 0), .ref (a + 5), .ref (a + 6), .ref (a + 7), .long (ql 0), .int (qz 0), .ref (a + 8), .ref (a + 9), .ref (a + 10), .int (qz 0), .int (qz 0), .ref (a + 11), .ref (a + 12), .ref (a + 13), .ref (a + 14), .ref (a + 15), .long (ql 0), .int (qz 0), .int (qz 0), .ref (a + 16), .ref (a + 17), .ref (a + 18), .ref (a + 19), .long (ql 0), .int (qz 0), .ref (a + 20), .int (qz 0), .ref (a + 21), .ref (a + 22), .int (qz 0), .int (qz 0), .int (qz 0), .int (qz 0), .int (qz 0), .ref (a + 23), .int (qz 0), .ref (a + 24), .int (qz 0), .ref (a + 25), .ref (a + 26), .ref (a + 27), .ref (a + 28), .ref (a + 29), .ref (a + 30), .int (qz 0), .long (ql (-1)), .ref (a + 31), .ref (a + 32), .ref (a + 33), .ref (a + 34), .int (qz 0), .int (qz 0), .int (qz 0), .ref (a + 35), .ref (a + 36), .ref (a + 37), .null] 312 rfl (Nat.le_of_ble_eq_true rfl) (Nat.le_of_ble_eq_true rfl) (Or.inr ⟨by decide, rfl⟩) (qr_fitR (Or.inr ⟨_, rfl⟩) _) rfl rfl ?_
  refine qr_aload_n 313 rfl rfl rfl ?_
  refine qr_bipush 315 rfl (by decide) rfl ?_
  refine qr_inewL ha [.inr (12, [.ref (a + 1), .ref (a + 2), .ref (a + 3), .ref (a + 4), .int (qz 0), .int (qz 0), .int (qz 0), .ref (a + 5), .ref (a + 6), .ref (a + 7), .long (ql 0), .int (qz 0), .ref (a + 8), .ref (a + 9), .ref (a + 10), .int (qz 0), .int (qz 0), .ref (a + 11), .ref (a + 12), .ref (a + 13), .ref (a + 14), .ref (a + 15), .long (ql 0), .int (qz 0), .int (qz 0), .ref (a + 16), .ref (a + 17), .ref (a + 18), .ref (a + 19), .long (ql 0), .int (qz 0), .ref (a + 20), .int (qz 0), .ref (a + 21), .ref (a + 22), .int (qz 0), .int (qz 0), .int (qz 0), .int (qz 0), .int (qz 0), .ref (a + 23), .int (qz 0), .ref (a + 24), .int (qz 0), .ref (a + 25), .ref (a + 26), .ref (a + 27), .ref (a + 28), .ref (a + 29), .ref (a + 30), .int (qz 0), .long (ql (-1)), .ref (a + 31), .ref (a + 32), .ref (a + 33), .ref (a + 34), .int (qz 0), .int (qz 0), .int (qz 0), .ref (a + 35), .ref (a + 36), .ref (a + 37), .null]), .inl (.int, 252, .inl (qzf (fun _ => 0))), .inl (.int, 40, .inl (qzf (fun _ => 0))), .inl (.int, 40, .inl (qzf (fun _ => 0))), .inl (.int, 40, .inl (qzf (fun _ => 0))), .inl (.int, 32, .inl (qzf (fun _ => 0))), .inl (.int, 32, .inl (qzf (fun _ => 0))), .inl (.int, 32, .inl (qzf (fun _ => 0))), .inl (.int, 61, .inl (qzf (fun _ => 0))), .inl (.int, 61, .inl (qzf (fun _ => 0))), .inl (.int, 1024, .inl (qzf (fun _ => 0))), .inl (.int, 40, .inl (qzf (fun _ => 0))), .inl (.int, 40, .inl (qzf (fun _ => 0))), .inl (.int, 40, .inl (qzf (fun _ => 0))), .inl (.int, 40, .inl (qzf (fun _ => 0))), .inl (.int, 40, .inl (qzf (fun _ => 0))), .inl (.int, 60, .inl (qzf (fun _ => 0))), .inl (.int, 60, .inl (qzf (fun _ => 0))), .inl (.int, 60, .inl (qzf (fun _ => 0))), .inl (.int, 60, .inl (qzf (fun _ => 0))), .inl (.int, 120, .inl (qzf (fun _ => 0))), .inl (.int, 240, .inl (qzf (fun _ => 0))), .inl (.int, 2, .inl (qzf (fun _ => 0))), .inl (.int, 9, .inl (qzf (fun _ => 0))), .inl (.int, 32, .inl (qzf (fun _ => 0))), .inl (.int, 12, .inl (qzf (fun _ => 0))), .inl (.int, 4096, .inl (qzf (fun _ => 0))), .inl (.int, 10, .inl (qzf (fun _ => 0))), .inl (.int, 6, .inl (qzf (fun _ => 0))), .inl (.int, 31, .inl (qzf (fun _ => 0))), .inl (.int, 31, .inl (qzf (fun _ => 0))), .inl (.int, 31, .inl (qzf (fun _ => 0))), .inl (.int, 31, .inl (qzf (fun _ => 0))), .inl (.boolean, 1024, .inl (qzf (fun _ => 0))), .inl (.int, 24, .inl (qzf (fun _ => 0))), .inl (.int, 6, .inl (qzf (fun _ => 0))), .inl (.int, 6, .inl (qzf (fun _ => 0))), .inl (.long, 360, .inr (.inl (qlf (fun _ => 0)))), .inl (.long, 60, .inr (.inl (qlf (fun _ => 0))))] 317 38 8185 38 rfl (by decide) (Nat.le_of_ble_eq_true rfl) (Nat.le_of_ble_eq_true rfl) rfl rfl rfl rfl rfl ?_
  refine qr_iput ha [.ref (a + 1), .ref (a + 2), .ref (a + 3), .ref (a + 4), .int (qz 0), .int (qz 0), .int (qz 0), .ref (a + 5), .ref (a + 6), .ref (a + 7), .long (ql 0), .int (qz 0), .ref (a + 8), .ref (a + 9), .ref (a + 10), .int (qz 0), .int (qz 0), .ref (a + 11), .ref (a + 12), .ref (a + 13), .ref (a + 14), .ref (a + 15), .long (ql 0), .int (qz 0), .int (qz 0), .ref (a + 16), .ref (a + 17), .ref (a + 18), .ref (a + 19), .long (ql 0), .int (qz 0), .ref (a + 20), .int (qz 0), .ref (a + 21), .ref (a + 22), .int (qz 0), .int (qz 0), .int (qz 0), .int (qz 0), .int (qz 0), .ref (a + 23), .int (qz 0), .ref (a + 24), .int (qz 0), .ref (a + 25), .ref (a + 26), .ref (a + 27), .ref (a + 28), .ref (a + 29), .ref (a + 30), .int (qz 0), .long (ql (-1)), .ref (a + 31), .ref (a + 32), .ref (a + 33), .ref (a + 34), .int (qz 0), .int (qz 0), .int (qz 0), .ref (a + 35), .ref (a + 36), .ref (a + 37), .ref (a + 38)] 320 rfl (Nat.le_of_ble_eq_true rfl) (Nat.le_of_ble_eq_true rfl) (Or.inr ⟨by decide, rfl⟩) (qr_fitR (Or.inr ⟨_, rfl⟩) _) rfl rfl ?_
  refine qr_iconst 321 rfl rfl ?_
  refine qr_istore_n [(1, .int (qz 0)), (0, .ref a)] 322 rfl (by decide) rfl rfl ?_
  refine qr_iload_n 323 rfl rfl rfl ?_
  refine qr_bipush 325 rfl (by decide) rfl ?_
  refine qr_icmp_ge 341 328 rfl rfl rfl (by omega) (by omega) (fun h => absurd h (by omega)) (fun h => ?_)
  refine qr_aload_n 329 rfl rfl rfl ?_
  refine qr_get 332 rfl (qc_c (by omega) (qi_g u ha _ _)) rfl (by decide) rfl ?_
  refine qr_iload_n 333 rfl rfl rfl ?_
  refine qr_iconst 334 rfl rfl ?_
  refine qr_iistk (m := 35) ha rfl [.inr (12, [.ref (a + 1), .ref (a + 2), .ref (a + 3), .ref (a + 4), .int (qz 0), .int (qz 0), .int (qz 0), .ref (a + 5), .ref (a + 6), .ref (a + 7), .long (ql 0), .int (qz 0), .ref (a + 8), .ref (a + 9), .ref (a + 10), .int (qz 0), .int (qz 0), .ref (a + 11), .ref (a + 12), .ref (a + 13), .ref (a + 14), .ref (a + 15), .long (ql 0), .int (qz 0), .int (qz 0), .ref (a + 16), .ref (a + 17), .ref (a + 18), .ref (a + 19), .long (ql 0), .int (qz 0), .ref (a + 20), .int (qz 0), .ref (a + 21), .ref (a + 22), .int (qz 0), .int (qz 0), .int (qz 0), .int (qz 0), .int (qz 0), .ref (a + 23), .int (qz 0), .ref (a + 24), .int (qz 0), .ref (a + 25), .ref (a + 26), .ref (a + 27), .ref (a + 28), .ref (a + 29), .ref (a + 30), .int (qz 0), .long (ql (-1)), .ref (a + 31), .ref (a + 32), .ref (a + 33), .ref (a + 34), .int (qz 0), .int (qz 0), .int (qz 0), .ref (a + 35), .ref (a + 36), .ref (a + 37), .ref (a + 38)]), .inl (.int, 252, .inl (qzf (fun _ => 0))), .inl (.int, 40, .inl (qzf (fun _ => 0))), .inl (.int, 40, .inl (qzf (fun _ => 0))), .inl (.int, 40, .inl (qzf (fun _ => 0))), .inl (.int, 32, .inl (qzf (fun _ => 0))), .inl (.int, 32, .inl (qzf (fun _ => 0))), .inl (.int, 32, .inl (qzf (fun _ => 0))), .inl (.int, 61, .inl (qzf (fun _ => 0))), .inl (.int, 61, .inl (qzf (fun _ => 0))), .inl (.int, 1024, .inl (qzf (fun _ => 0))), .inl (.int, 40, .inl (qzf (fun _ => 0))), .inl (.int, 40, .inl (qzf (fun _ => 0))), .inl (.int, 40, .inl (qzf (fun _ => 0))), .inl (.int, 40, .inl (qzf (fun _ => 0))), .inl (.int, 40, .inl (qzf (fun _ => 0))), .inl (.int, 60, .inl (qzf (fun _ => 0))), .inl (.int, 60, .inl (qzf (fun _ => 0))), .inl (.int, 60, .inl (qzf (fun _ => 0))), .inl (.int, 60, .inl (qzf (fun _ => 0))), .inl (.int, 120, .inl (qzf (fun _ => 0))), .inl (.int, 240, .inl (qzf (fun _ => 0))), .inl (.int, 2, .inl (qzf (fun _ => 0))), .inl (.int, 9, .inl (qzf (fun _ => 0))), .inl (.int, 32, .inl (qzf (fun _ => 0))), .inl (.int, 12, .inl (qzf (fun _ => 0))), .inl (.int, 4096, .inl (qzf (fun _ => 0))), .inl (.int, 10, .inl (qzf (fun _ => 0))), .inl (.int, 6, .inl (qzf (fun _ => 0))), .inl (.int, 31, .inl (qzf (fun _ => 0))), .inl (.int, 31, .inl (qzf (fun _ => 0))), .inl (.int, 31, .inl (qzf (fun _ => 0))), .inl (.int, 31, .inl (qzf (fun _ => 0))), .inl (.boolean, 1024, .inl (qzf (fun _ => 0))), .inl (.int, 24, .inl (qzf (fun _ => 0))), .inl (.int, 6, .inl (qzf (qzu (fun _ => 0) (0 : Int).toNat (-1)))), .inl (.int, 6, .inl (qzf (fun _ => 0))), .inl (.long, 360, .inr (.inl (qlf (fun _ => 0)))), .inl (.long, 60, .inr (.inl (qlf (fun _ => 0))))] 335 rfl rfl (by omega) (by omega) rfl rfl ?_
  refine qr_iinc [(1, .int (qz 1)), (0, .ref a)] 338 rfl rfl (by decide) rfl rfl ?_
  refine qr_goto 322 rfl rfl ?_
  refine qr_iload_n 323 rfl rfl rfl ?_
  refine qr_bipush 325 rfl (by decide) rfl ?_
  refine qr_icmp_ge 341 328 rfl rfl rfl (by omega) (by omega) (fun h => absurd h (by omega)) (fun h => ?_)
  refine qr_aload_n 329 rfl rfl rfl ?_
  refine qr_get 332 rfl (qc_c (by omega) (qi_g u ha _ _)) rfl (by decide) rfl ?_
  refine qr_iload_n 333 rfl rfl rfl ?_
  refine qr_iconst 334 rfl rfl ?_
  refine qr_iistk (m := 35) ha rfl [.inr (12, [.ref (a + 1), .ref (a + 2), .ref (a + 3), .ref (a + 4), .int (qz 0), .int (qz 0), .int (qz 0), .ref (a + 5), .ref (a + 6), .ref (a + 7), .long (ql 0), .int (qz 0), .ref (a + 8), .ref (a + 9), .ref (a + 10), .int (qz 0), .int (qz 0), .ref (a + 11), .ref (a + 12), .ref (a + 13), .ref (a + 14), .ref (a + 15), .long (ql 0), .int (qz 0), .int (qz 0), .ref (a + 16), .ref (a + 17), .ref (a + 18), .ref (a + 19), .long (ql 0), .int (qz 0), .ref (a + 20), .int (qz 0), .ref (a + 21), .ref (a + 22), .int (qz 0), .int (qz 0), .int (qz 0), .int (qz 0), .int (qz 0), .ref (a + 23), .int (qz 0), .ref (a + 24), .int (qz 0), .ref (a + 25), .ref (a + 26), .ref (a + 27), .ref (a + 28), .ref (a + 29), .ref (a + 30), .int (qz 0), .long (ql (-1)), .ref (a + 31), .ref (a + 32), .ref (a + 33), .ref (a + 34), .int (qz 0), .int (qz 0), .int (qz 0), .ref (a + 35), .ref (a + 36), .ref (a + 37), .ref (a + 38)]), .inl (.int, 252, .inl (qzf (fun _ => 0))), .inl (.int, 40, .inl (qzf (fun _ => 0))), .inl (.int, 40, .inl (qzf (fun _ => 0))), .inl (.int, 40, .inl (qzf (fun _ => 0))), .inl (.int, 32, .inl (qzf (fun _ => 0))), .inl (.int, 32, .inl (qzf (fun _ => 0))), .inl (.int, 32, .inl (qzf (fun _ => 0))), .inl (.int, 61, .inl (qzf (fun _ => 0))), .inl (.int, 61, .inl (qzf (fun _ => 0))), .inl (.int, 1024, .inl (qzf (fun _ => 0))), .inl (.int, 40, .inl (qzf (fun _ => 0))), .inl (.int, 40, .inl (qzf (fun _ => 0))), .inl (.int, 40, .inl (qzf (fun _ => 0))), .inl (.int, 40, .inl (qzf (fun _ => 0))), .inl (.int, 40, .inl (qzf (fun _ => 0))), .inl (.int, 60, .inl (qzf (fun _ => 0))), .inl (.int, 60, .inl (qzf (fun _ => 0))), .inl (.int, 60, .inl (qzf (fun _ => 0))), .inl (.int, 60, .inl (qzf (fun _ => 0))), .inl (.int, 120, .inl (qzf (fun _ => 0))), .inl (.int, 240, .inl (qzf (fun _ => 0))), .inl (.int, 2, .inl (qzf (fun _ => 0))), .inl (.int, 9, .inl (qzf (fun _ => 0))), .inl (.int, 32, .inl (qzf (fun _ => 0))), .inl (.int, 12, .inl (qzf (fun _ => 0))), .inl (.int, 4096, .inl (qzf (fun _ => 0))), .inl (.int, 10, .inl (qzf (fun _ => 0))), .inl (.int, 6, .inl (qzf (fun _ => 0))), .inl (.int, 31, .inl (qzf (fun _ => 0))), .inl (.int, 31, .inl (qzf (fun _ => 0))), .inl (.int, 31, .inl (qzf (fun _ => 0))), .inl (.int, 31, .inl (qzf (fun _ => 0))), .inl (.boolean, 1024, .inl (qzf (fun _ => 0))), .inl (.int, 24, .inl (qzf (fun _ => 0))), .inl (.int, 6, .inl (qzf (qzu (qzu (fun _ => 0) (0 : Int).toNat (-1)) (1 : Int).toNat (-1)))), .inl (.int, 6, .inl (qzf (fun _ => 0))), .inl (.long, 360, .inr (.inl (qlf (fun _ => 0)))), .inl (.long, 60, .inr (.inl (qlf (fun _ => 0))))] 335 rfl rfl (by omega) (by omega) rfl rfl ?_
  refine qr_iinc [(1, .int (qz 2)), (0, .ref a)] 338 rfl rfl (by decide) rfl rfl ?_
  refine qr_goto 322 rfl rfl ?_
  refine qr_iload_n 323 rfl rfl rfl ?_
  refine qr_bipush 325 rfl (by decide) rfl ?_
  refine qr_icmp_ge 341 328 rfl rfl rfl (by omega) (by omega) (fun h => absurd h (by omega)) (fun h => ?_)
  refine qr_aload_n 329 rfl rfl rfl ?_
  refine qr_get 332 rfl (qc_c (by omega) (qi_g u ha _ _)) rfl (by decide) rfl ?_
  refine qr_iload_n 333 rfl rfl rfl ?_
  refine qr_iconst 334 rfl rfl ?_
  refine qr_iistk (m := 35) ha rfl [.inr (12, [.ref (a + 1), .ref (a + 2), .ref (a + 3), .ref (a + 4), .int (qz 0), .int (qz 0), .int (qz 0), .ref (a + 5), .ref (a + 6), .ref (a + 7), .long (ql 0), .int (qz 0), .ref (a + 8), .ref (a + 9), .ref (a + 10), .int (qz 0), .int (qz 0), .ref (a + 11), .ref (a + 12), .ref (a + 13), .ref (a + 14), .ref (a + 15), .long (ql 0), .int (qz 0), .int (qz 0), .ref (a + 16), .ref (a + 17), .ref (a + 18), .ref (a + 19), .long (ql 0), .int (qz 0), .ref (a + 20), .int (qz 0), .ref (a + 21), .ref (a + 22), .int (qz 0), .int (qz 0), .int (qz 0), .int (qz 0), .int (qz 0), .ref (a + 23), .int (qz 0), .ref (a + 24), .int (qz 0), .ref (a + 25), .ref (a + 26), .ref (a + 27), .ref (a + 28), .ref (a + 29), .ref (a + 30), .int (qz 0), .long (ql (-1)), .ref (a + 31), .ref (a + 32), .ref (a + 33), .ref (a + 34), .int (qz 0), .int (qz 0), .int (qz 0), .ref (a + 35), .ref (a + 36), .ref (a + 37), .ref (a + 38)]), .inl (.int, 252, .inl (qzf (fun _ => 0))), .inl (.int, 40, .inl (qzf (fun _ => 0))), .inl (.int, 40, .inl (qzf (fun _ => 0))), .inl (.int, 40, .inl (qzf (fun _ => 0))), .inl (.int, 32, .inl (qzf (fun _ => 0))), .inl (.int, 32, .inl (qzf (fun _ => 0))), .inl (.int, 32, .inl (qzf (fun _ => 0))), .inl (.int, 61, .inl (qzf (fun _ => 0))), .inl (.int, 61, .inl (qzf (fun _ => 0))), .inl (.int, 1024, .inl (qzf (fun _ => 0))), .inl (.int, 40, .inl (qzf (fun _ => 0))), .inl (.int, 40, .inl (qzf (fun _ => 0))), .inl (.int, 40, .inl (qzf (fun _ => 0))), .inl (.int, 40, .inl (qzf (fun _ => 0))), .inl (.int, 40, .inl (qzf (fun _ => 0))), .inl (.int, 60, .inl (qzf (fun _ => 0))), .inl (.int, 60, .inl (qzf (fun _ => 0))), .inl (.int, 60, .inl (qzf (fun _ => 0))), .inl (.int, 60, .inl (qzf (fun _ => 0))), .inl (.int, 120, .inl (qzf (fun _ => 0))), .inl (.int, 240, .inl (qzf (fun _ => 0))), .inl (.int, 2, .inl (qzf (fun _ => 0))), .inl (.int, 9, .inl (qzf (fun _ => 0))), .inl (.int, 32, .inl (qzf (fun _ => 0))), .inl (.int, 12, .inl (qzf (fun _ => 0))), .inl (.int, 4096, .inl (qzf (fun _ => 0))), .inl (.int, 10, .inl (qzf (fun _ => 0))), .inl (.int, 6, .inl (qzf (fun _ => 0))), .inl (.int, 31, .inl (qzf (fun _ => 0))), .inl (.int, 31, .inl (qzf (fun _ => 0))), .inl (.int, 31, .inl (qzf (fun _ => 0))), .inl (.int, 31, .inl (qzf (fun _ => 0))), .inl (.boolean, 1024, .inl (qzf (fun _ => 0))), .inl (.int, 24, .inl (qzf (fun _ => 0))), .inl (.int, 6, .inl (qzf (qzu (qzu (qzu (fun _ => 0) (0 : Int).toNat (-1)) (1 : Int).toNat (-1)) (2 : Int).toNat (-1)))), .inl (.int, 6, .inl (qzf (fun _ => 0))), .inl (.long, 360, .inr (.inl (qlf (fun _ => 0)))), .inl (.long, 60, .inr (.inl (qlf (fun _ => 0))))] 335 rfl rfl (by omega) (by omega) rfl rfl ?_
  refine qr_iinc [(1, .int (qz 3)), (0, .ref a)] 338 rfl rfl (by decide) rfl rfl ?_
  refine qr_goto 322 rfl rfl ?_
  refine qr_iload_n 323 rfl rfl rfl ?_
  refine qr_bipush 325 rfl (by decide) rfl ?_
  refine qr_icmp_ge 341 328 rfl rfl rfl (by omega) (by omega) (fun h => absurd h (by omega)) (fun h => ?_)
  refine qr_aload_n 329 rfl rfl rfl ?_
  refine qr_get 332 rfl (qc_c (by omega) (qi_g u ha _ _)) rfl (by decide) rfl ?_
  refine qr_iload_n 333 rfl rfl rfl ?_
  refine qr_iconst 334 rfl rfl ?_
  refine qr_iistk (m := 35) ha rfl [.inr (12, [.ref (a + 1), .ref (a + 2), .ref (a + 3), .ref (a + 4), .int (qz 0), .int (qz 0), .int (qz 0), .ref (a + 5), .ref (a + 6), .ref (a + 7), .long (ql 0), .int (qz 0), .ref (a + 8), .ref (a + 9), .ref (a + 10), .int (qz 0), .int (qz 0), .ref (a + 11), .ref (a + 12), .ref (a + 13), .ref (a + 14), .ref (a + 15), .long (ql 0), .int (qz 0), .int (qz 0), .ref (a + 16), .ref (a + 17), .ref (a + 18), .ref (a + 19), .long (ql 0), .int (qz 0), .ref (a + 20), .int (qz 0), .ref (a + 21), .ref (a + 22), .int (qz 0), .int (qz 0), .int (qz 0), .int (qz 0), .int (qz 0), .ref (a + 23), .int (qz 0), .ref (a + 24), .int (qz 0), .ref (a + 25), .ref (a + 26), .ref (a + 27), .ref (a + 28), .ref (a + 29), .ref (a + 30), .int (qz 0), .long (ql (-1)), .ref (a + 31), .ref (a + 32), .ref (a + 33), .ref (a + 34), .int (qz 0), .int (qz 0), .int (qz 0), .ref (a + 35), .ref (a + 36), .ref (a + 37), .ref (a + 38)]), .inl (.int, 252, .inl (qzf (fun _ => 0))), .inl (.int, 40, .inl (qzf (fun _ => 0))), .inl (.int, 40, .inl (qzf (fun _ => 0))), .inl (.int, 40, .inl (qzf (fun _ => 0))), .inl (.int, 32, .inl (qzf (fun _ => 0))), .inl (.int, 32, .inl (qzf (fun _ => 0))), .inl (.int, 32, .inl (qzf (fun _ => 0))), .inl (.int, 61, .inl (qzf (fun _ => 0))), .inl (.int, 61, .inl (qzf (fun _ => 0))), .inl (.int, 1024, .inl (qzf (fun _ => 0))), .inl (.int, 40, .inl (qzf (fun _ => 0))), .inl (.int, 40, .inl (qzf (fun _ => 0))), .inl (.int, 40, .inl (qzf (fun _ => 0))), .inl (.int, 40, .inl (qzf (fun _ => 0))), .inl (.int, 40, .inl (qzf (fun _ => 0))), .inl (.int, 60, .inl (qzf (fun _ => 0))), .inl (.int, 60, .inl (qzf (fun _ => 0))), .inl (.int, 60, .inl (qzf (fun _ => 0))), .inl (.int, 60, .inl (qzf (fun _ => 0))), .inl (.int, 120, .inl (qzf (fun _ => 0))), .inl (.int, 240, .inl (qzf (fun _ => 0))), .inl (.int, 2, .inl (qzf (fun _ => 0))), .inl (.int, 9, .inl (qzf (fun _ => 0))), .inl (.int, 32, .inl (qzf (fun _ => 0))), .inl (.int, 12, .inl (qzf (fun _ => 0))), .inl (.int, 4096, .inl (qzf (fun _ => 0))), .inl (.int, 10, .inl (qzf (fun _ => 0))), .inl (.int, 6, .inl (qzf (fun _ => 0))), .inl (.int, 31, .inl (qzf (fun _ => 0))), .inl (.int, 31, .inl (qzf (fun _ => 0))), .inl (.int, 31, .inl (qzf (fun _ => 0))), .inl (.int, 31, .inl (qzf (fun _ => 0))), .inl (.boolean, 1024, .inl (qzf (fun _ => 0))), .inl (.int, 24, .inl (qzf (fun _ => 0))), .inl (.int, 6, .inl (qzf (qzu (qzu (qzu (qzu (fun _ => 0) (0 : Int).toNat (-1)) (1 : Int).toNat (-1)) (2 : Int).toNat (-1)) (3 : Int).toNat (-1)))), .inl (.int, 6, .inl (qzf (fun _ => 0))), .inl (.long, 360, .inr (.inl (qlf (fun _ => 0)))), .inl (.long, 60, .inr (.inl (qlf (fun _ => 0))))] 335 rfl rfl (by omega) (by omega) rfl rfl ?_
  refine qr_iinc [(1, .int (qz 4)), (0, .ref a)] 338 rfl rfl (by decide) rfl rfl ?_
  refine qr_goto 322 rfl rfl ?_
  refine qr_iload_n 323 rfl rfl rfl ?_
  refine qr_bipush 325 rfl (by decide) rfl ?_
  refine qr_icmp_ge 341 328 rfl rfl rfl (by omega) (by omega) (fun h => absurd h (by omega)) (fun h => ?_)
  refine qr_aload_n 329 rfl rfl rfl ?_
  refine qr_get 332 rfl (qc_c (by omega) (qi_g u ha _ _)) rfl (by decide) rfl ?_
  refine qr_iload_n 333 rfl rfl rfl ?_
  refine qr_iconst 334 rfl rfl ?_
  refine qr_iistk (m := 35) ha rfl [.inr (12, [.ref (a + 1), .ref (a + 2), .ref (a + 3), .ref (a + 4), .int (qz 0), .int (qz 0), .int (qz 0), .ref (a + 5), .ref (a + 6), .ref (a + 7), .long (ql 0), .int (qz 0), .ref (a + 8), .ref (a + 9), .ref (a + 10), .int (qz 0), .int (qz 0), .ref (a + 11), .ref (a + 12), .ref (a + 13), .ref (a + 14), .ref (a + 15), .long (ql 0), .int (qz 0), .int (qz 0), .ref (a + 16), .ref (a + 17), .ref (a + 18), .ref (a + 19), .long (ql 0), .int (qz 0), .ref (a + 20), .int (qz 0), .ref (a + 21), .ref (a + 22), .int (qz 0), .int (qz 0), .int (qz 0), .int (qz 0), .int (qz 0), .ref (a + 23), .int (qz 0), .ref (a + 24), .int (qz 0), .ref (a + 25), .ref (a + 26), .ref (a + 27), .ref (a + 28), .ref (a + 29), .ref (a + 30), .int (qz 0), .long (ql (-1)), .ref (a + 31), .ref (a + 32), .ref (a + 33), .ref (a + 34), .int (qz 0), .int (qz 0), .int (qz 0), .ref (a + 35), .ref (a + 36), .ref (a + 37), .ref (a + 38)]), .inl (.int, 252, .inl (qzf (fun _ => 0))), .inl (.int, 40, .inl (qzf (fun _ => 0))), .inl (.int, 40, .inl (qzf (fun _ => 0))), .inl (.int, 40, .inl (qzf (fun _ => 0))), .inl (.int, 32, .inl (qzf (fun _ => 0))), .inl (.int, 32, .inl (qzf (fun _ => 0))), .inl (.int, 32, .inl (qzf (fun _ => 0))), .inl (.int, 61, .inl (qzf (fun _ => 0))), .inl (.int, 61, .inl (qzf (fun _ => 0))), .inl (.int, 1024, .inl (qzf (fun _ => 0))), .inl (.int, 40, .inl (qzf (fun _ => 0))), .inl (.int, 40, .inl (qzf (fun _ => 0))), .inl (.int, 40, .inl (qzf (fun _ => 0))), .inl (.int, 40, .inl (qzf (fun _ => 0))), .inl (.int, 40, .inl (qzf (fun _ => 0))), .inl (.int, 60, .inl (qzf (fun _ => 0))), .inl (.int, 60, .inl (qzf (fun _ => 0))), .inl (.int, 60, .inl (qzf (fun _ => 0))), .inl (.int, 60, .inl (qzf (fun _ => 0))), .inl (.int, 120, .inl (qzf (fun _ => 0))), .inl (.int, 240, .inl (qzf (fun _ => 0))), .inl (.int, 2, .inl (qzf (fun _ => 0))), .inl (.int, 9, .inl (qzf (fun _ => 0))), .inl (.int, 32, .inl (qzf (fun _ => 0))), .inl (.int, 12, .inl (qzf (fun _ => 0))), .inl (.int, 4096, .inl (qzf (fun _ => 0))), .inl (.int, 10, .inl (qzf (fun _ => 0))), .inl (.int, 6, .inl (qzf (fun _ => 0))), .inl (.int, 31, .inl (qzf (fun _ => 0))), .inl (.int, 31, .inl (qzf (fun _ => 0))), .inl (.int, 31, .inl (qzf (fun _ => 0))), .inl (.int, 31, .inl (qzf (fun _ => 0))), .inl (.boolean, 1024, .inl (qzf (fun _ => 0))), .inl (.int, 24, .inl (qzf (fun _ => 0))), .inl (.int, 6, .inl (qzf (qzu (qzu (qzu (qzu (qzu (fun _ => 0) (0 : Int).toNat (-1)) (1 : Int).toNat (-1)) (2 : Int).toNat (-1)) (3 : Int).toNat (-1)) (4 : Int).toNat (-1)))), .inl (.int, 6, .inl (qzf (fun _ => 0))), .inl (.long, 360, .inr (.inl (qlf (fun _ => 0)))), .inl (.long, 60, .inr (.inl (qlf (fun _ => 0))))] 335 rfl rfl (by omega) (by omega) rfl rfl ?_
  refine qr_iinc [(1, .int (qz 5)), (0, .ref a)] 338 rfl rfl (by decide) rfl rfl ?_
  refine qr_goto 322 rfl rfl ?_
  refine qr_iload_n 323 rfl rfl rfl ?_
  refine qr_bipush 325 rfl (by decide) rfl ?_
  refine qr_icmp_ge 341 328 rfl rfl rfl (by omega) (by omega) (fun h => absurd h (by omega)) (fun h => ?_)
  refine qr_aload_n 329 rfl rfl rfl ?_
  refine qr_get 332 rfl (qc_c (by omega) (qi_g u ha _ _)) rfl (by decide) rfl ?_
  refine qr_iload_n 333 rfl rfl rfl ?_
  refine qr_iconst 334 rfl rfl ?_
  refine qr_iistk (m := 35) ha rfl [.inr (12, [.ref (a + 1), .ref (a + 2), .ref (a + 3), .ref (a + 4), .int (qz 0), .int (qz 0), .int (qz 0), .ref (a + 5), .ref (a + 6), .ref (a + 7), .long (ql 0), .int (qz 0), .ref (a + 8), .ref (a + 9), .ref (a + 10), .int (qz 0), .int (qz 0), .ref (a + 11), .ref (a + 12), .ref (a + 13), .ref (a + 14), .ref (a + 15), .long (ql 0), .int (qz 0), .int (qz 0), .ref (a + 16), .ref (a + 17), .ref (a + 18), .ref (a + 19), .long (ql 0), .int (qz 0), .ref (a + 20), .int (qz 0), .ref (a + 21), .ref (a + 22), .int (qz 0), .int (qz 0), .int (qz 0), .int (qz 0), .int (qz 0), .ref (a + 23), .int (qz 0), .ref (a + 24), .int (qz 0), .ref (a + 25), .ref (a + 26), .ref (a + 27), .ref (a + 28), .ref (a + 29), .ref (a + 30), .int (qz 0), .long (ql (-1)), .ref (a + 31), .ref (a + 32), .ref (a + 33), .ref (a + 34), .int (qz 0), .int (qz 0), .int (qz 0), .ref (a + 35), .ref (a + 36), .ref (a + 37), .ref (a + 38)]), .inl (.int, 252, .inl (qzf (fun _ => 0))), .inl (.int, 40, .inl (qzf (fun _ => 0))), .inl (.int, 40, .inl (qzf (fun _ => 0))), .inl (.int, 40, .inl (qzf (fun _ => 0))), .inl (.int, 32, .inl (qzf (fun _ => 0))), .inl (.int, 32, .inl (qzf (fun _ => 0))), .inl (.int, 32, .inl (qzf (fun _ => 0))), .inl (.int, 61, .inl (qzf (fun _ => 0))), .inl (.int, 61, .inl (qzf (fun _ => 0))), .inl (.int, 1024, .inl (qzf (fun _ => 0))), .inl (.int, 40, .inl (qzf (fun _ => 0))), .inl (.int, 40, .inl (qzf (fun _ => 0))), .inl (.int, 40, .inl (qzf (fun _ => 0))), .inl (.int, 40, .inl (qzf (fun _ => 0))), .inl (.int, 40, .inl (qzf (fun _ => 0))), .inl (.int, 60, .inl (qzf (fun _ => 0))), .inl (.int, 60, .inl (qzf (fun _ => 0))), .inl (.int, 60, .inl (qzf (fun _ => 0))), .inl (.int, 60, .inl (qzf (fun _ => 0))), .inl (.int, 120, .inl (qzf (fun _ => 0))), .inl (.int, 240, .inl (qzf (fun _ => 0))), .inl (.int, 2, .inl (qzf (fun _ => 0))), .inl (.int, 9, .inl (qzf (fun _ => 0))), .inl (.int, 32, .inl (qzf (fun _ => 0))), .inl (.int, 12, .inl (qzf (fun _ => 0))), .inl (.int, 4096, .inl (qzf (fun _ => 0))), .inl (.int, 10, .inl (qzf (fun _ => 0))), .inl (.int, 6, .inl (qzf (fun _ => 0))), .inl (.int, 31, .inl (qzf (fun _ => 0))), .inl (.int, 31, .inl (qzf (fun _ => 0))), .inl (.int, 31, .inl (qzf (fun _ => 0))), .inl (.int, 31, .inl (qzf (fun _ => 0))), .inl (.boolean, 1024, .inl (qzf (fun _ => 0))), .inl (.int, 24, .inl (qzf (fun _ => 0))), .inl (.int, 6, .inl (qzf (qzu (qzu (qzu (qzu (qzu (qzu (fun _ => 0) (0 : Int).toNat (-1)) (1 : Int).toNat (-1)) (2 : Int).toNat (-1)) (3 : Int).toNat (-1)) (4 : Int).toNat (-1)) (5 : Int).toNat (-1)))), .inl (.int, 6, .inl (qzf (fun _ => 0))), .inl (.long, 360, .inr (.inl (qlf (fun _ => 0)))), .inl (.long, 60, .inr (.inl (qlf (fun _ => 0))))] 335 rfl rfl (by omega) (by omega) rfl rfl ?_
  refine qr_iinc [(1, .int (qz 6)), (0, .ref a)] 338 rfl rfl (by decide) rfl rfl ?_
  refine qr_goto 322 rfl rfl ?_
  refine qr_iload_n 323 rfl rfl rfl ?_
  refine qr_bipush 325 rfl (by decide) rfl ?_
  refine qr_icmp_ge 341 328 rfl rfl rfl (by omega) (by omega) (fun h => ?_) (fun h => absurd h (by omega))
  refine qr_aload_n 342 rfl rfl rfl ?_
  refine qr_get 345 rfl (qc_c (by omega) (qi_g u ha _ _)) rfl (by decide) rfl ?_
  refine qr_iconst 346 rfl rfl ?_
  refine qr_iconst 347 rfl rfl ?_
  refine qr_iistk (m := 22) ha rfl [.inr (12, [.ref (a + 1), .ref (a + 2), .ref (a + 3), .ref (a + 4), .int (qz 0), .int (qz 0), .int (qz 0), .ref (a + 5), .ref (a + 6), .ref (a + 7), .long (ql 0), .int (qz 0), .ref (a + 8), .ref (a + 9), .ref (a + 10), .int (qz 0), .int (qz 0), .ref (a + 11), .ref (a + 12), .ref (a + 13), .ref (a + 14), .ref (a + 15), .long (ql 0), .int (qz 0), .int (qz 0), .ref (a + 16), .ref (a + 17), .ref (a + 18), .ref (a + 19), .long (ql 0), .int (qz 0), .ref (a + 20), .int (qz 0), .ref (a + 21), .ref (a + 22), .int (qz 0), .int (qz 0), .int (qz 0), .int (qz 0), .int (qz 0), .ref (a + 23), .int (qz 0), .ref (a + 24), .int (qz 0), .ref (a + 25), .ref (a + 26), .ref (a + 27), .ref (a + 28), .ref (a + 29), .ref (a + 30), .int (qz 0), .long (ql (-1)), .ref (a + 31), .ref (a + 32), .ref (a + 33), .ref (a + 34), .int (qz 0), .int (qz 0), .int (qz 0), .ref (a + 35), .ref (a + 36), .ref (a + 37), .ref (a + 38)]), .inl (.int, 252, .inl (qzf (fun _ => 0))), .inl (.int, 40, .inl (qzf (fun _ => 0))), .inl (.int, 40, .inl (qzf (fun _ => 0))), .inl (.int, 40, .inl (qzf (fun _ => 0))), .inl (.int, 32, .inl (qzf (fun _ => 0))), .inl (.int, 32, .inl (qzf (fun _ => 0))), .inl (.int, 32, .inl (qzf (fun _ => 0))), .inl (.int, 61, .inl (qzf (fun _ => 0))), .inl (.int, 61, .inl (qzf (fun _ => 0))), .inl (.int, 1024, .inl (qzf (fun _ => 0))), .inl (.int, 40, .inl (qzf (fun _ => 0))), .inl (.int, 40, .inl (qzf (fun _ => 0))), .inl (.int, 40, .inl (qzf (fun _ => 0))), .inl (.int, 40, .inl (qzf (fun _ => 0))), .inl (.int, 40, .inl (qzf (fun _ => 0))), .inl (.int, 60, .inl (qzf (fun _ => 0))), .inl (.int, 60, .inl (qzf (fun _ => 0))), .inl (.int, 60, .inl (qzf (fun _ => 0))), .inl (.int, 60, .inl (qzf (fun _ => 0))), .inl (.int, 120, .inl (qzf (fun _ => 0))), .inl (.int, 240, .inl (qzf (fun _ => 0))), .inl (.int, 2, .inl (qzf (qzu (fun _ => 0) (0 : Int).toNat (-1)))), .inl (.int, 9, .inl (qzf (fun _ => 0))), .inl (.int, 32, .inl (qzf (fun _ => 0))), .inl (.int, 12, .inl (qzf (fun _ => 0))), .inl (.int, 4096, .inl (qzf (fun _ => 0))), .inl (.int, 10, .inl (qzf (fun _ => 0))), .inl (.int, 6, .inl (qzf (fun _ => 0))), .inl (.int, 31, .inl (qzf (fun _ => 0))), .inl (.int, 31, .inl (qzf (fun _ => 0))), .inl (.int, 31, .inl (qzf (fun _ => 0))), .inl (.int, 31, .inl (qzf (fun _ => 0))), .inl (.boolean, 1024, .inl (qzf (fun _ => 0))), .inl (.int, 24, .inl (qzf (fun _ => 0))), .inl (.int, 6, .inl (qzf (qzu (qzu (qzu (qzu (qzu (qzu (fun _ => 0) (0 : Int).toNat (-1)) (1 : Int).toNat (-1)) (2 : Int).toNat (-1)) (3 : Int).toNat (-1)) (4 : Int).toNat (-1)) (5 : Int).toNat (-1)))), .inl (.int, 6, .inl (qzf (fun _ => 0))), .inl (.long, 360, .inr (.inl (qlf (fun _ => 0)))), .inl (.long, 60, .inr (.inl (qlf (fun _ => 0))))] 348 rfl rfl (by omega) (by omega) rfl rfl ?_
  refine qr_aload_n 349 rfl rfl rfl ?_
  refine qr_get 352 rfl (qc_c (by omega) (qi_g u ha _ _)) rfl (by decide) rfl ?_
  refine qr_iconst 353 rfl rfl ?_
  refine qr_iconst 354 rfl rfl ?_
  refine qr_iistk (m := 22) ha rfl [.inr (12, [.ref (a + 1), .ref (a + 2), .ref (a + 3), .ref (a + 4), .int (qz 0), .int (qz 0), .int (qz 0), .ref (a + 5), .ref (a + 6), .ref (a + 7), .long (ql 0), .int (qz 0), .ref (a + 8), .ref (a + 9), .ref (a + 10), .int (qz 0), .int (qz 0), .ref (a + 11), .ref (a + 12), .ref (a + 13), .ref (a + 14), .ref (a + 15), .long (ql 0), .int (qz 0), .int (qz 0), .ref (a + 16), .ref (a + 17), .ref (a + 18), .ref (a + 19), .long (ql 0), .int (qz 0), .ref (a + 20), .int (qz 0), .ref (a + 21), .ref (a + 22), .int (qz 0), .int (qz 0), .int (qz 0), .int (qz 0), .int (qz 0), .ref (a + 23), .int (qz 0), .ref (a + 24), .int (qz 0), .ref (a + 25), .ref (a + 26), .ref (a + 27), .ref (a + 28), .ref (a + 29), .ref (a + 30), .int (qz 0), .long (ql (-1)), .ref (a + 31), .ref (a + 32), .ref (a + 33), .ref (a + 34), .int (qz 0), .int (qz 0), .int (qz 0), .ref (a + 35), .ref (a + 36), .ref (a + 37), .ref (a + 38)]), .inl (.int, 252, .inl (qzf (fun _ => 0))), .inl (.int, 40, .inl (qzf (fun _ => 0))), .inl (.int, 40, .inl (qzf (fun _ => 0))), .inl (.int, 40, .inl (qzf (fun _ => 0))), .inl (.int, 32, .inl (qzf (fun _ => 0))), .inl (.int, 32, .inl (qzf (fun _ => 0))), .inl (.int, 32, .inl (qzf (fun _ => 0))), .inl (.int, 61, .inl (qzf (fun _ => 0))), .inl (.int, 61, .inl (qzf (fun _ => 0))), .inl (.int, 1024, .inl (qzf (fun _ => 0))), .inl (.int, 40, .inl (qzf (fun _ => 0))), .inl (.int, 40, .inl (qzf (fun _ => 0))), .inl (.int, 40, .inl (qzf (fun _ => 0))), .inl (.int, 40, .inl (qzf (fun _ => 0))), .inl (.int, 40, .inl (qzf (fun _ => 0))), .inl (.int, 60, .inl (qzf (fun _ => 0))), .inl (.int, 60, .inl (qzf (fun _ => 0))), .inl (.int, 60, .inl (qzf (fun _ => 0))), .inl (.int, 60, .inl (qzf (fun _ => 0))), .inl (.int, 120, .inl (qzf (fun _ => 0))), .inl (.int, 240, .inl (qzf (fun _ => 0))), .inl (.int, 2, .inl (qzf (qzu (qzu (fun _ => 0) (0 : Int).toNat (-1)) (1 : Int).toNat (-1)))), .inl (.int, 9, .inl (qzf (fun _ => 0))), .inl (.int, 32, .inl (qzf (fun _ => 0))), .inl (.int, 12, .inl (qzf (fun _ => 0))), .inl (.int, 4096, .inl (qzf (fun _ => 0))), .inl (.int, 10, .inl (qzf (fun _ => 0))), .inl (.int, 6, .inl (qzf (fun _ => 0))), .inl (.int, 31, .inl (qzf (fun _ => 0))), .inl (.int, 31, .inl (qzf (fun _ => 0))), .inl (.int, 31, .inl (qzf (fun _ => 0))), .inl (.int, 31, .inl (qzf (fun _ => 0))), .inl (.boolean, 1024, .inl (qzf (fun _ => 0))), .inl (.int, 24, .inl (qzf (fun _ => 0))), .inl (.int, 6, .inl (qzf (qzu (qzu (qzu (qzu (qzu (qzu (fun _ => 0) (0 : Int).toNat (-1)) (1 : Int).toNat (-1)) (2 : Int).toNat (-1)) (3 : Int).toNat (-1)) (4 : Int).toNat (-1)) (5 : Int).toNat (-1)))), .inl (.int, 6, .inl (qzf (fun _ => 0))), .inl (.long, 360, .inr (.inl (qlf (fun _ => 0)))), .inl (.long, 60, .inr (.inl (qlf (fun _ => 0))))] 355 rfl rfl (by omega) (by omega) rfl rfl ?_
  refine qr_retV rfl rfl (Nat.le_of_ble_eq_true rfl) (Nat.le_of_ble_eq_true rfl) ?_
  exact ⟨rfl, rfl⟩
end
section
theorem qv_d0_0 : ∀ q ∈ qx_c0_0, qv_D code 0 q := qv_E_of 0 (by decide +kernel) (by decide +kernel)
theorem qv_d0_1 : ∀ q ∈ qx_c0_1, qv_D code 0 q := qv_E_of 242 (by decide +kernel) (by decide +kernel)
theorem qv_d0_2 : ∀ q ∈ qx_c0_2, qv_D code 0 q := qv_E_of 302 (by decide +kernel) (by decide +kernel)
theorem qv_d0_3 : ∀ q ∈ qx_c0_3, qv_D code 0 q := qv_E_of 364 (by decide +kernel) (by decide +kernel)
theorem qv_d0_4 : ∀ q ∈ qx_c0_4, qv_D code 0 q := qv_E_of 422 (by decide +kernel) (by decide +kernel)
theorem qv_d0_5 : ∀ q ∈ qx_c0_5, qv_D code 0 q := qv_E_of 482 (by decide +kernel) (by decide +kernel)
theorem qv_d0_6 : ∀ q ∈ qx_c0_6, qv_D code 0 q := qv_E_of 540 (by decide +kernel) (by decide +kernel)
theorem qv_d0_7 : ∀ q ∈ qx_c0_7, qv_D code 0 q := qv_E_of 599 (by decide +kernel) (by decide +kernel)
theorem qv_d0_8 : ∀ q ∈ qx_c0_8, qv_D code 0 q := qv_E_of 658 (by decide +kernel) (by decide +kernel)
theorem qv_d0_9 : ∀ q ∈ qx_c0_9, qv_D code 0 q := qv_E_of 718 (by decide +kernel) (by decide +kernel)
theorem qv_d0_10 : ∀ q ∈ qx_c0_10, qv_D code 0 q := qv_E_of 776 (by decide +kernel) (by decide +kernel)
theorem qv_d0_11 : ∀ q ∈ qx_c0_11, qv_D code 0 q := qv_E_of 836 (by decide +kernel) (by decide +kernel)
end
section
theorem qv_d0_12 : ∀ q ∈ qx_c0_12, qv_D code 0 q := qv_E_of 899 (by decide +kernel) (by decide +kernel)
theorem qv_d0_13 : ∀ q ∈ qx_c0_13, qv_D code 0 q := qv_E_of 960 (by decide +kernel) (by decide +kernel)
theorem qv_d0_14 : ∀ q ∈ qx_c0_14, qv_D code 0 q := qv_E_of 1018 (by decide +kernel) (by decide +kernel)
theorem qv_d0_15 : ∀ q ∈ qx_c0_15, qv_D code 0 q := qv_E_of 1081 (by decide +kernel) (by decide +kernel)
theorem qv_d0_16 : ∀ q ∈ qx_c0_16, qv_D code 0 q := qv_E_of 1139 (by decide +kernel) (by decide +kernel)
theorem qv_d0_17 : ∀ q ∈ qx_c0_17, qv_D code 0 q := qv_E_of 1201 (by decide +kernel) (by decide +kernel)
theorem qv_d0_18 : ∀ q ∈ qx_c0_18, qv_D code 0 q := qv_E_of 1261 (by decide +kernel) (by decide +kernel)
theorem qv_d0_19 : ∀ q ∈ qx_c0_19, qv_D code 0 q := qv_E_of 1320 (by decide +kernel) (by decide +kernel)
end
section
theorem qv_d0_20 : ∀ q ∈ qx_c0_20, qv_D code 0 q := qv_E_of 1381 (by decide +kernel) (by decide +kernel)
theorem qv_d0_21 : ∀ q ∈ qx_c0_21, qv_D code 0 q := qv_E_of 1441 (by decide +kernel) (by decide +kernel)
theorem qv_d0_22 : ∀ q ∈ qx_c0_22, qv_D code 0 q := qv_E_of 1500 (by decide +kernel) (by decide +kernel)
theorem qv_d0_23 : ∀ q ∈ qx_c0_23, qv_D code 0 q := qv_E_of 1567 (by decide +kernel) (by decide +kernel)
theorem qv_d0_24 : ∀ q ∈ qx_c0_24, qv_D code 0 q := qv_E_of 1626 (by decide +kernel) (by decide +kernel)
theorem qv_d0_25 : ∀ q ∈ qx_c0_25, qv_D code 0 q := qv_E_of 1694 (by decide +kernel) (by decide +kernel)
theorem qv_d0_26 : ∀ q ∈ qx_c0_26, qv_D code 0 q := qv_E_of 1756 (by decide +kernel) (by decide +kernel)
theorem qv_d0_27 : ∀ q ∈ qx_c0_27, qv_D code 0 q := qv_E_of 1816 (by decide +kernel) (by decide +kernel)
theorem qv_d0_28 : ∀ q ∈ qx_c0_28, qv_D code 0 q := qv_E_of 1874 (by decide +kernel) (by decide +kernel)
theorem qv_d0_29 : ∀ q ∈ qx_c0_29, qv_D code 0 q := qv_E_of 1934 (by decide +kernel) (by decide +kernel)
theorem qv_d0_30 : ∀ q ∈ qx_c0_30, qv_D code 0 q := qv_E_of 1990 (by decide +kernel) (by decide +kernel)
theorem qv_law : ∀ q ∈ qx_c0, qv_D code 0 q := List.forall_mem_append.mpr ⟨qv_d0_0, List.forall_mem_append.mpr ⟨qv_d0_1, List.forall_mem_append.mpr ⟨qv_d0_2, List.forall_mem_append.mpr ⟨qv_d0_3, List.forall_mem_append.mpr ⟨qv_d0_4, List.forall_mem_append.mpr ⟨qv_d0_5, List.forall_mem_append.mpr ⟨qv_d0_6, List.forall_mem_append.mpr ⟨qv_d0_7, List.forall_mem_append.mpr ⟨qv_d0_8, List.forall_mem_append.mpr ⟨qv_d0_9, List.forall_mem_append.mpr ⟨qv_d0_10, List.forall_mem_append.mpr ⟨qv_d0_11, List.forall_mem_append.mpr ⟨qv_d0_12, List.forall_mem_append.mpr ⟨qv_d0_13, List.forall_mem_append.mpr ⟨qv_d0_14, List.forall_mem_append.mpr ⟨qv_d0_15, List.forall_mem_append.mpr ⟨qv_d0_16, List.forall_mem_append.mpr ⟨qv_d0_17, List.forall_mem_append.mpr ⟨qv_d0_18, List.forall_mem_append.mpr ⟨qv_d0_19, List.forall_mem_append.mpr ⟨qv_d0_20, List.forall_mem_append.mpr ⟨qv_d0_21, List.forall_mem_append.mpr ⟨qv_d0_22, List.forall_mem_append.mpr ⟨qv_d0_23, List.forall_mem_append.mpr ⟨qv_d0_24, List.forall_mem_append.mpr ⟨qv_d0_25, List.forall_mem_append.mpr ⟨qv_d0_26, List.forall_mem_append.mpr ⟨qv_d0_27, List.forall_mem_append.mpr ⟨qv_d0_28, List.forall_mem_append.mpr ⟨qv_d0_29, qv_d0_30⟩⟩⟩⟩⟩⟩⟩⟩⟩⟩⟩⟩⟩⟩⟩⟩⟩⟩⟩⟩⟩⟩⟩⟩⟩⟩⟩⟩⟩⟩
end
section
section QO
variable {X : qm_X} {d : Nat} {x : qs_Ent} {Q : Option Value → qm_W → Prop} {pc : Nat} {ls : qm_L} {st : List Value} {R T : qm_W} {c n r1 r2 r3 : Nat} {rv : Value} {a : Nat}
theorem qo_len {e : qm_E} {m : Nat} (h : R.length = m) (b : Nat) (hb : 16 + (m + 1) = b) : b = 16 + (e :: R).length := by rw [List.length_cons, h, hb]
theorem qo_put {z m m2 m3 : Nat} {fs : List Value} {v : Value} (fs' : List Value) (p : Nat) (hR : R.length = m) (hT : T.length = m2) (hm : m + m2 = m3) (hq : qm_fetch x.2.2.2.2.2.2.2 pc = some (pc, .putfield z, 3, r1, r2, 0, rv)) (hl : r2 < fs.length) (hN : r2 < qr_N r1) (hfin : (qx_T r1 r2).2.2.2 = false ∨ ((qm_M1 x).2.2.1 = true ∧ (qm_M1 x).2.2.2.1 = r1)) (hfit : qm_fitb (qx_ty r1 r2) v = true) (hs : fs.set r2 v = fs') (hp : pc + 3 = p) (k : ∀ R', R' = R ++ T → R'.length = m3 → qr_W X d x Q (p, ls, st, .inr (r1, fs') :: R', c, n)) : qr_W X d x Q (pc, ls, v :: .ref 16 :: st, .inr (r1, fs) :: R ++ T, c, n) := by
  subst hs
  refine qr_put p hq (by omega) rfl hl hN hfin hfit hp ?_
  exact k (R ++ T) rfl (by rw [List.length_append]; omega)
theorem qo_put0 {z : Nat} {fs : List Value} {v : Value} (fs' : List Value) (p : Nat) (hq : qm_fetch x.2.2.2.2.2.2.2 pc = some (pc, .putfield z, 3, r1, r2, 0, rv)) (hl : r2 < fs.length) (hN : r2 < qr_N r1) (hfin : (qx_T r1 r2).2.2.2 = false ∨ ((qm_M1 x).2.2.1 = true ∧ (qm_M1 x).2.2.2.1 = r1)) (hfit : qm_fitb (qx_ty r1 r2) v = true) (hs : fs.set r2 v = fs') (hp : pc + 3 = p) (k : qr_W X d x Q (p, ls, st, .inr (r1, fs') :: R, c, n)) : qr_W X d x Q (pc, ls, v :: .ref 16 :: st, .inr (r1, fs) :: R, c, n) := by
  subst hs
  exact qr_put p hq (by omega) rfl hl hN hfin hfit hp k
theorem qo_get (u : qm_W) {e : qm_E} {b j : Nat} (hb : b = 16 + u.length + 1 + j) (hj : T[j]? = some e) (e0 : qm_E) : ((u ++ [e0]) ++ T)[b - 16]? = some e := by
  subst hb
  rw [show 16 + u.length + 1 + j - 16 = (u ++ [e0]).length + j by rw [List.length_append, List.length_singleton]; omega, List.getElem?_append_right (Nat.le_add_right _ _), Nat.add_sub_cancel_left, hj]
theorem qo_aast {u : qm_W} {N b j : Nat} {y : Int} {vs : List Value} {f : Nat → Option Nat} (p : Nat) (ha : a = 16 + u.length) (hb : a + 1 + j = b) (hj : T[j]? = some (.inr (7, vs))) (hq : qm_fetch x.2.2.2.2.2.2.2 pc = some (pc, .aastore, 1, r1, r2, r3, rv)) (hz : 0 ≤ y ∧ y < (N : Int)) (hN : N ≤ 1000000) (hp : pc + 1 = p) (k : qr_W X d x Q (p, ls, st, (u ++ [.inl (.object "OneRoof$Custom", N, .inr (.inr (.inr (.inr (va_up f y.toNat (some b))))))]) ++ T, c, n)) : qr_W X d x Q (pc, ls, .ref b :: .int (qz y) :: .ref a :: st, (u ++ [.inl (.object "OneRoof$Custom", N, .inr (.inr (.inr (.inr f))))]) ++ T, c, n) := by
  have h0 : ((u ++ [(.inl (.object "OneRoof$Custom", N, .inr (.inr (.inr (.inr f)))) : qm_E)]) ++ T)[a - 16]? = some (.inl (.object "OneRoof$Custom", N, .inr (.inr (.inr (.inr f))))) := by
    rw [List.append_assoc]
    exact qi_g u ha _ _
  refine qr_aastore p hq (by omega) (by omega) h0 (qo_get u (by omega) hj _) hz hN hp ?_
  rw [List.append_assoc, List.singleton_append, qi_s u ha]
  rw [List.append_assoc, List.singleton_append] at k
  exact k
end QO
/-- the numbers of the fresh objects: three customs', else 0 -/
def qo_s (s : Nat → Nat → Int) : Nat → Nat → Int := fun a k => if a = 50 then s 0 k else if a = 54 then s 1 k else if a = 82 then s 2 k else if a = 86 then (if k = 51 then -1 else 0) else 0
/-- the rows of the fresh objects -/
def qo_r (g : Nat → Nat → Int) : Nat → Nat → Int := fun a => if a = 24 then g 24 else if a = 26 then g 26 else if a = 51 then g 51 else if a = 52 then g 52 else if a = 55 then g 55 else if a = 56 then g 56 else if a = 83 then g 83 else if a = 84 then g 84 else if a = 45 then (qzu (qzu (qzu (qzu (qzu (qzu (fun _ => 0) (0 : Int).toNat 6) (1 : Int).toNat 6) (2 : Int).toNat 6) (3 : Int).toNat 6) (4 : Int).toNat 6) (5 : Int).toNat 6) else if a = 108 then (qzu (qzu (fun _ => 0) (0 : Int).toNat (-1)) (1 : Int).toNat (-1)) else if a = 121 then (qzu (qzu (qzu (qzu (qzu (qzu (fun _ => 0) (0 : Int).toNat (-1)) (1 : Int).toNat (-1)) (2 : Int).toNat (-1)) (3 : Int).toNat (-1)) (4 : Int).toNat (-1)) (5 : Int).toNat (-1)) else fun _ => 0
/-- a custom's numbers -/
def qo_c (ln at_ sz nm sk : Int) : Nat → Int := fun k => if k = 3 then ln else if k = 4 then at_ else if k = 5 then sz else if k = 6 then nm else sk
/-- which numbers, which rows they may be -/
def qo_ok (s g : Nat → Nat → Int) : Prop := (s 0 3 = 4 ∧ s 1 3 = 5 ∧ s 2 3 = 1) ∧ (∀ i, i < 3 → (0 ≤ s i 4 ∧ s i 4 ≤ 5) ∧ (0 ≤ s i 5 ∧ s i 5 ≤ 122) ∧ (-2147483648 ≤ s i 6 ∧ s i 6 ≤ 2147483647) ∧ (s i 7 = 0 ∨ s i 7 = 1)) ∧ (∀ i, i = 24 ∨ i = 26 → ∀ j : Nat, j < 1024 → g i j = if j % 33 = 0 then 0 else 99) ∧ ∀ i, i = 51 ∨ i = 55 ∨ i = 83 → ∀ j, -2147483648 ≤ g i j ∧ g i j ≤ 2147483647
abbrev qo_k : Nat → Option Nat := va_up (va_up (fun _ => none) (0 : Int).toNat (some 50)) (1 : Int).toNat (some 54)

set_option maxHeartbeats 2000000 in
set_option maxRecDepth 20000 in
/-- OneRoof.<init> -/
theorem si_Roof {L : Nat} {xs : Nat → Int} {vb : Bool} {d : Nat}  : qm_T (qe L xs vb) (d + 58) 1 [.ref 16] ([.inr (0, [.null, .null, .null, .null, .null, .null, .null, .null, .null, .null, .null, .null, .null, .null, .null, .int (qz 0)])]) (fun r w' => r = none ∧ ∃ s g : Nat → Nat → Int, w' = (qw (qo_s s) (qo_r g) qo_k 82).take 70 ∧ qo_ok s g) := by
  refine qr_start (d := d + 57) qv_e1 (Nat.le_of_ble_eq_true rfl) ?_
  show qr_W (qe L xs vb) (d + 57) qx_e1 _ (0, [(0, .ref 16)], [], [.inr (0, [.null, .null, .null, .null, .null, .null, .null, .null, .null, .null, .null, .null, .null, .null, .null, .int (qz 0)])], 0, 0)
  have hR0 : (([] : qm_W)).length = 0 := rfl
  generalize hE0 : ([] : qm_W) = R0 at hR0 ⊢
  refine qr_aload_n 1 rfl rfl rfl ?_
  refine qr_objinit 4 rfl (by decide) rfl ?_
  refine qr_aload_n 5 rfl rfl rfl ?_
  refine qr_new ((.inr (0, [.null, .null, .null, .null, .null, .null, .null, .null, .null, .null, .null, .null, .null, .null, .null, .int (qz 0)]) :: R0) ++ [.inr (1, [.null, .null, .null, .null, .null, .long (ql 0), .int (qz 0)])]) 8 1 7 rfl rfl (Nat.le_of_ble_eq_true rfl) (Nat.le_of_ble_eq_true rfl) rfl rfl rfl 17 (by simp only [List.length_append, List.length_cons, List.length_nil, hR0]) rfl ?_
  refine qr_dup 9 rfl rfl rfl ?_
  refine qr_call 12 6 167 rfl rfl (Nat.le_of_ble_eq_true rfl) (Nat.le_of_ble_eq_true rfl) rfl rfl (si_Folk (a := 17) (u := .inr (0, [.null, .null, .null, .null, .null, .null, .null, .null, .null, .null, .null, .null, .null, .null, .null, .int (qz 0)]) :: R0) (qo_len hR0 17 rfl)) ?_
  rintro _ _ ⟨rfl, rfl⟩
  simp only [Option.toList, List.drop, List.nil_append]
  refine qo_put [.ref 17, .null, .null, .null, .null, .null, .null, .null, .null, .null, .null, .null, .null, .null, .null, .int (qz 0)] 15 hR0 rfl (m2 := 6) (m3 := 6) rfl rfl (Nat.le_of_ble_eq_true rfl) (Nat.le_of_ble_eq_true rfl) (Or.inr ⟨by decide, rfl⟩) (qr_fitR (Or.inl ⟨_, rfl⟩) _) rfl rfl (fun R1 hE1 hR1 => ?_)
  refine qr_aload_n 16 rfl rfl rfl ?_
  refine qr_new ((.inr (0, [.ref 17, .null, .null, .null, .null, .null, .null, .null, .null, .null, .null, .null, .null, .null, .null, .int (qz 0)]) :: R1) ++ [.inr (2, [.null, .int (qz 0)])]) 19 7 169 rfl rfl (Nat.le_of_ble_eq_true rfl) (Nat.le_of_ble_eq_true rfl) rfl rfl rfl 23 (by simp only [List.length_append, List.length_cons, List.length_nil, hR1]) rfl ?_
  refine qr_dup 20 rfl rfl rfl ?_
  refine qr_call 23 8 1193 rfl rfl (Nat.le_of_ble_eq_true rfl) (Nat.le_of_ble_eq_true rfl) rfl rfl (si_Kinship (a := 23) (u := .inr (0, [.ref 17, .null, .null, .null, .null, .null, .null, .null, .null, .null, .null, .null, .null, .null, .null, .int (qz 0)]) :: R1) (qo_len hR1 23 rfl)) ?_
  rintro _ _ ⟨rfl, g23, rfl, hg23⟩
  simp only [Option.toList, List.drop, List.nil_append]
  refine qo_put [.ref 17, .ref 23, .null, .null, .null, .null, .null, .null, .null, .null, .null, .null, .null, .null, .null, .int (qz 0)] 26 hR1 rfl (m2 := 2) (m3 := 8) rfl rfl (Nat.le_of_ble_eq_true rfl) (Nat.le_of_ble_eq_true rfl) (Or.inr ⟨by decide, rfl⟩) (qr_fitR (Or.inl ⟨_, rfl⟩) _) rfl rfl (fun R2 hE2 hR2 => ?_)
  refine qr_aload_n 27 rfl rfl rfl ?_
  refine qr_new ((.inr (0, [.ref 17, .ref 23, .null, .null, .null, .null, .null, .null, .null, .null, .null, .null, .null, .null, .null, .int (qz 0)]) :: R2) ++ [.inr (2, [.null, .int (qz 0)])]) 30 9 1195 rfl rfl (Nat.le_of_ble_eq_true rfl) (Nat.le_of_ble_eq_true rfl) rfl rfl rfl 25 (by simp only [List.length_append, List.length_cons, List.length_nil, hR2]) rfl ?_
  refine qr_dup 31 rfl rfl rfl ?_
  refine qr_call 34 10 2219 rfl rfl (Nat.le_of_ble_eq_true rfl) (Nat.le_of_ble_eq_true rfl) rfl rfl (si_Kinship (a := 25) (u := .inr (0, [.ref 17, .ref 23, .null, .null, .null, .null, .null, .null, .null, .null, .null, .null, .null, .null, .null, .int (qz 0)]) :: R2) (qo_len hR2 25 rfl)) ?_
  rintro _ _ ⟨rfl, g25, rfl, hg25⟩
  simp only [Option.toList, List.drop, List.nil_append]
  refine qo_put [.ref 17, .ref 23, .ref 25, .null, .null, .null, .null, .null, .null, .null, .null, .null, .null, .null, .null, .int (qz 0)] 37 hR2 rfl (m2 := 2) (m3 := 10) rfl rfl (Nat.le_of_ble_eq_true rfl) (Nat.le_of_ble_eq_true rfl) (Or.inr ⟨by decide, rfl⟩) (qr_fitR (Or.inl ⟨_, rfl⟩) _) rfl rfl (fun R3 hE3 hR3 => ?_)
  refine qr_aload_n 38 rfl rfl rfl ?_
  refine qr_new ((.inr (0, [.ref 17, .ref 23, .ref 25, .null, .null, .null, .null, .null, .null, .null, .null, .null, .null, .null, .null, .int (qz 0)]) :: R3) ++ [.inr (3, [.null, .null, .null, .null, .null, .null, .long (ql 0), .int (qz 0)])]) 41 11 2227 rfl rfl (Nat.le_of_ble_eq_true rfl) (Nat.le_of_ble_eq_true rfl) rfl rfl rfl 27 (by simp only [List.length_append, List.length_cons, List.length_nil, hR3]) rfl ?_
  refine qr_dup 42 rfl rfl rfl ?_
  refine qr_call 45 17 2467 rfl rfl (Nat.le_of_ble_eq_true rfl) (Nat.le_of_ble_eq_true rfl) rfl rfl (si_Feuds (a := 27) (u := .inr (0, [.ref 17, .ref 23, .ref 25, .null, .null, .null, .null, .null, .null, .null, .null, .null, .null, .null, .null, .int (qz 0)]) :: R3) (qo_len hR3 27 rfl)) ?_
  rintro _ _ ⟨rfl, rfl⟩
  simp only [Option.toList, List.drop, List.nil_append]
  refine qo_put [.ref 17, .ref 23, .ref 25, .ref 27, .null, .null, .null, .null, .null, .null, .null, .null, .null, .null, .null, .int (qz 0)] 48 hR3 rfl (m2 := 7) (m3 := 17) rfl rfl (Nat.le_of_ble_eq_true rfl) (Nat.le_of_ble_eq_true rfl) (Or.inr ⟨by decide, rfl⟩) (qr_fitR (Or.inl ⟨_, rfl⟩) _) rfl rfl (fun R4 hE4 hR4 => ?_)
  refine qr_aload_n 49 rfl rfl rfl ?_
  refine qr_new ((.inr (0, [.ref 17, .ref 23, .ref 25, .ref 27, .null, .null, .null, .null, .null, .null, .null, .null, .null, .null, .null, .int (qz 0)]) :: R4) ++ [.inr (4, [.null, .null, .null, .null, .null, .null, .null, .int (qz 0)])]) 52 18 2475 rfl rfl (Nat.le_of_ble_eq_true rfl) (Nat.le_of_ble_eq_true rfl) rfl rfl rfl 34 (by simp only [List.length_append, List.length_cons, List.length_nil, hR4]) rfl ?_
  refine qr_dup 53 rfl rfl rfl ?_
  refine qr_call 56 25 2895 rfl rfl (Nat.le_of_ble_eq_true rfl) (Nat.le_of_ble_eq_true rfl) rfl rfl (si_Peaces (a := 34) (u := .inr (0, [.ref 17, .ref 23, .ref 25, .ref 27, .null, .null, .null, .null, .null, .null, .null, .null, .null, .null, .null, .int (qz 0)]) :: R4) (qo_len hR4 34 rfl)) ?_
  rintro _ _ ⟨rfl, rfl⟩
  simp only [Option.toList, List.drop, List.nil_append]
  refine qo_put [.ref 17, .ref 23, .ref 25, .ref 27, .ref 34, .null, .null, .null, .null, .null, .null, .null, .null, .null, .null, .int (qz 0)] 59 hR4 rfl (m2 := 8) (m3 := 25) rfl rfl (Nat.le_of_ble_eq_true rfl) (Nat.le_of_ble_eq_true rfl) (Or.inr ⟨by decide, rfl⟩) (qr_fitR (Or.inl ⟨_, rfl⟩) _) rfl rfl (fun R5 hE5 hR5 => ?_)
  refine qr_aload_n 60 rfl rfl rfl ?_
  refine qr_new ((.inr (0, [.ref 17, .ref 23, .ref 25, .ref 27, .ref 34, .null, .null, .null, .null, .null, .null, .null, .null, .null, .null, .int (qz 0)]) :: R5) ++ [.inr (5, [.null, .int (qz 0)])]) 63 26 2897 rfl rfl (Nat.le_of_ble_eq_true rfl) (Nat.le_of_ble_eq_true rfl) rfl rfl rfl 42 (by simp only [List.length_append, List.length_cons, List.length_nil, hR5]) rfl ?_
  refine qr_dup 64 rfl rfl rfl ?_
  refine qr_call 67 27 2921 rfl rfl (Nat.le_of_ble_eq_true rfl) (Nat.le_of_ble_eq_true rfl) rfl rfl (si_Acts (a := 42) (u := .inr (0, [.ref 17, .ref 23, .ref 25, .ref 27, .ref 34, .null, .null, .null, .null, .null, .null, .null, .null, .null, .null, .int (qz 0)]) :: R5) (qo_len hR5 42 rfl)) ?_
  rintro _ _ ⟨rfl, rfl⟩
  simp only [Option.toList, List.drop, List.nil_append]
  refine qo_put [.ref 17, .ref 23, .ref 25, .ref 27, .ref 34, .ref 42, .null, .null, .null, .null, .null, .null, .null, .null, .null, .int (qz 0)] 70 hR5 rfl (m2 := 2) (m3 := 27) rfl rfl (Nat.le_of_ble_eq_true rfl) (Nat.le_of_ble_eq_true rfl) (Or.inr ⟨by decide, rfl⟩) (qr_fitR (Or.inl ⟨_, rfl⟩) _) rfl rfl (fun R6 hE6 hR6 => ?_)
  refine qr_aload_n 71 rfl rfl rfl ?_
  refine qr_new ((.inr (0, [.ref 17, .ref 23, .ref 25, .ref 27, .ref 34, .ref 42, .null, .null, .null, .null, .null, .null, .null, .null, .null, .int (qz 0)]) :: R6) ++ [.inr (6, [.null, .null, .null, .null])]) 74 28 2925 rfl rfl (Nat.le_of_ble_eq_true rfl) (Nat.le_of_ble_eq_true rfl) rfl rfl rfl 44 (by simp only [List.length_append, List.length_cons, List.length_nil, hR6]) rfl ?_
  refine qr_dup 75 rfl rfl rfl ?_
  refine qr_call 78 32 3303 rfl rfl (Nat.le_of_ble_eq_true rfl) (Nat.le_of_ble_eq_true rfl) rfl rfl (si_Pegs (a := 44) (u := .inr (0, [.ref 17, .ref 23, .ref 25, .ref 27, .ref 34, .ref 42, .null, .null, .null, .null, .null, .null, .null, .null, .null, .int (qz 0)]) :: R6) (qo_len hR6 44 rfl)) ?_
  rintro _ _ ⟨rfl, rfl⟩
  simp only [Option.toList, List.drop, List.nil_append]
  refine qo_put [.ref 17, .ref 23, .ref 25, .ref 27, .ref 34, .ref 42, .ref 44, .null, .null, .null, .null, .null, .null, .null, .null, .int (qz 0)] 81 hR6 rfl (m2 := 5) (m3 := 32) rfl rfl (Nat.le_of_ble_eq_true rfl) (Nat.le_of_ble_eq_true rfl) (Or.inr ⟨by decide, rfl⟩) (qr_fitR (Or.inl ⟨_, rfl⟩) _) rfl rfl (fun R7 hE7 hR7 => ?_)
  refine qr_aload_n 82 rfl rfl rfl ?_
  refine qr_iconst 83 rfl rfl ?_
  refine qr_newQ (.inr (0, [.ref 17, .ref 23, .ref 25, .ref 27, .ref 34, .ref 42, .ref 44, .null, .null, .null, .null, .null, .null, .null, .null, .int (qz 0)]) :: R7 ++ [.inl (.object "OneRoof$Custom", 2, .inr (.inr (.inr (.inr (fun _ => none)))))]) 86 33 3305 rfl (by decide) (Nat.le_of_ble_eq_true rfl) (Nat.le_of_ble_eq_true rfl) rfl rfl rfl 49 (by simp only [List.length_cons, hR7]) rfl ?_
  refine qr_dup 87 rfl rfl rfl ?_
  refine qr_iconst 88 rfl rfl ?_
  refine qr_new (((.inr (0, [.ref 17, .ref 23, .ref 25, .ref 27, .ref 34, .ref 42, .ref 44, .null, .null, .null, .null, .null, .null, .null, .null, .int (qz 0)]) :: R7 ++ [.inl (.object "OneRoof$Custom", 2, .inr (.inr (.inr (.inr (fun _ => none)))))])) ++ [.inr (7, [.null, .null, .null, .int (qz 0), .int (qz 0), .int (qz 0), .int (qz 0), .int (qz 0)])]) 91 34 3313 rfl rfl (Nat.le_of_ble_eq_true rfl) (Nat.le_of_ble_eq_true rfl) rfl rfl rfl 50 (by simp only [List.length_append, List.length_cons, List.length_nil, hR7]) rfl ?_
  refine qr_dup 92 rfl rfl rfl ?_
  refine qr_ldcs 94 rfl rfl ?_
  refine qr_call 97 37 3675 rfl rfl (Nat.le_of_ble_eq_true rfl) (Nat.le_of_ble_eq_true rfl) rfl rfl (sp_cinit3 (a := 50) (u := (.inr (0, [.ref 17, .ref 23, .ref 25, .ref 27, .ref 34, .ref 42, .ref 44, .null, .null, .null, .null, .null, .null, .null, .null, .int (qz 0)]) :: R7 ++ [.inl (.object "OneRoof$Custom", 2, .inr (.inr (.inr (.inr (fun _ => none)))))])) (by simp only [List.length_append, List.length_cons, List.length_nil, hR7])) ?_
  rintro _ _ ⟨rfl, at3, sz3, nm3, sk3, t3, cd3, rfl, hb3, ht3⟩
  simp only [Option.toList, List.nil_append]
  refine qo_aast (u := .inr (0, [.ref 17, .ref 23, .ref 25, .ref 27, .ref 34, .ref 42, .ref 44, .null, .null, .null, .null, .null, .null, .null, .null, .int (qz 0)]) :: R7) (a := 49) (b := 50) (j := 0) (T := [(qc_o 50 4 at3 sz3 nm3 sk3), .inl (.int, 120, .inl (qzf t3)), .inl (.int, 122, .inl (qzf cd3)), .inl (.int, 120, .inl (qzf (fun _ => 0)))]) 98 (qo_len hR7 49 rfl) rfl rfl rfl (by decide) (by omega) rfl ?_
  refine qr_dup 99 rfl rfl rfl ?_
  refine qr_iconst 100 rfl rfl ?_
  refine qr_new ((((.inr (0, [.ref 17, .ref 23, .ref 25, .ref 27, .ref 34, .ref 42, .ref 44, .null, .null, .null, .null, .null, .null, .null, .null, .int (qz 0)]) :: R7 ++ [.inl (.object "OneRoof$Custom", 2, .inr (.inr (.inr (.inr (va_up (fun _ => none) (0 : Int).toNat (some 50))))))]) ++ [(qc_o 50 4 at3 sz3 nm3 sk3), .inl (.int, 120, .inl (qzf t3)), .inl (.int, 122, .inl (qzf cd3)), .inl (.int, 120, .inl (qzf (fun _ => 0)))])) ++ [.inr (7, [.null, .null, .null, .int (qz 0), .int (qz 0), .int (qz 0), .int (qz 0), .int (qz 0)])]) 103 38 3683 rfl rfl (Nat.le_of_ble_eq_true rfl) (Nat.le_of_ble_eq_true rfl) rfl rfl rfl 54 (by simp only [List.length_append, List.length_cons, List.length_nil, hR7]) rfl ?_
  refine qr_dup 104 rfl rfl rfl ?_
  refine qr_ldcs 106 rfl rfl ?_
  refine qr_call 109 41 4045 rfl rfl (Nat.le_of_ble_eq_true rfl) (Nat.le_of_ble_eq_true rfl) rfl rfl (sp_cinit5 (a := 54) (u := ((.inr (0, [.ref 17, .ref 23, .ref 25, .ref 27, .ref 34, .ref 42, .ref 44, .null, .null, .null, .null, .null, .null, .null, .null, .int (qz 0)]) :: R7 ++ [.inl (.object "OneRoof$Custom", 2, .inr (.inr (.inr (.inr (va_up (fun _ => none) (0 : Int).toNat (some 50))))))]) ++ [(qc_o 50 4 at3 sz3 nm3 sk3), .inl (.int, 120, .inl (qzf t3)), .inl (.int, 122, .inl (qzf cd3)), .inl (.int, 120, .inl (qzf (fun _ => 0)))])) (by simp only [List.length_append, List.length_cons, List.length_nil, hR7])) ?_
  rintro _ _ ⟨rfl, at5, sz5, nm5, sk5, t5, cd5, rfl, hb5, ht5⟩
  simp only [Option.toList, List.nil_append]
  rw [List.append_assoc (_ ++ [_])]
  refine qo_aast (u := .inr (0, [.ref 17, .ref 23, .ref 25, .ref 27, .ref 34, .ref 42, .ref 44, .null, .null, .null, .null, .null, .null, .null, .null, .int (qz 0)]) :: R7) (a := 49) (b := 54) (j := 4) (T := [(qc_o 50 4 at3 sz3 nm3 sk3), .inl (.int, 120, .inl (qzf t3)), .inl (.int, 122, .inl (qzf cd3)), .inl (.int, 120, .inl (qzf (fun _ => 0))), (qc_o 54 5 at5 sz5 nm5 sk5), .inl (.int, 120, .inl (qzf t5)), .inl (.int, 122, .inl (qzf cd5)), .inl (.int, 120, .inl (qzf (fun _ => 0)))]) 110 (qo_len hR7 49 rfl) rfl rfl rfl (by decide) (by omega) rfl ?_
  rw [List.append_assoc]
  refine qo_put [.ref 17, .ref 23, .ref 25, .ref 27, .ref 34, .ref 42, .ref 44, .ref 49, .null, .null, .null, .null, .null, .null, .null, .int (qz 0)] 113 hR7 rfl (m2 := 9) (m3 := 41) rfl rfl (Nat.le_of_ble_eq_true rfl) (Nat.le_of_ble_eq_true rfl) (Or.inr ⟨by decide, rfl⟩) (qr_fitR (Or.inr ⟨_, rfl⟩) _) rfl rfl (fun R8 hE8 hR8 => ?_)
  refine qr_aload_n 114 rfl rfl rfl ?_
  refine qr_new ((.inr (0, [.ref 17, .ref 23, .ref 25, .ref 27, .ref 34, .ref 42, .ref 44, .ref 49, .null, .null, .null, .null, .null, .null, .null, .int (qz 0)]) :: R8) ++ [.inr (8, [.null, .null, .null, .null, .null, .null, .null, .null, .null, .null, .long (ql 0), .int (qz 0), .int (qz 0)])]) 117 42 4058 rfl rfl (Nat.le_of_ble_eq_true rfl) (Nat.le_of_ble_eq_true rfl) rfl rfl rfl 58 (by simp only [List.length_append, List.length_cons, List.length_nil, hR8]) rfl ?_
  refine qr_dup 118 rfl rfl rfl ?_
  refine qr_aload_n 119 rfl rfl rfl ?_
  refine qr_get 122 rfl rfl rfl (by decide) rfl ?_
  refine qr_aload_n 123 rfl rfl rfl ?_
  refine qr_get 126 rfl rfl rfl (by decide) rfl ?_
  refine qr_aload_n 127 rfl rfl rfl ?_
  refine qr_get 130 rfl rfl rfl (by decide) rfl ?_
  refine qr_aload_n 131 rfl rfl rfl ?_
  refine qr_get 134 rfl rfl rfl (by decide) rfl ?_
  refine qr_aload_n 135 rfl rfl rfl ?_
  refine qr_get 138 rfl rfl rfl (by decide) rfl ?_
  refine qr_call 141 47 6051 rfl rfl (Nat.le_of_ble_eq_true rfl) (Nat.le_of_ble_eq_true rfl) rfl rfl (si_Moment (a := 58) (u := .inr (0, [.ref 17, .ref 23, .ref 25, .ref 27, .ref 34, .ref 42, .ref 44, .ref 49, .null, .null, .null, .null, .null, .null, .null, .int (qz 0)]) :: R8) (qo_len hR8 58 rfl)) ?_
  rintro _ _ ⟨rfl, rfl⟩
  simp only [Option.toList, List.drop, List.nil_append]
  refine qo_put [.ref 17, .ref 23, .ref 25, .ref 27, .ref 34, .ref 42, .ref 44, .ref 49, .ref 58, .null, .null, .null, .null, .null, .null, .int (qz 0)] 144 hR8 rfl (m2 := 6) (m3 := 47) rfl rfl (Nat.le_of_ble_eq_true rfl) (Nat.le_of_ble_eq_true rfl) (Or.inr ⟨by decide, rfl⟩) (qr_fitR (Or.inl ⟨_, rfl⟩) _) rfl rfl (fun R9 hE9 hR9 => ?_)
  refine qr_aload_n 145 rfl rfl rfl ?_
  refine qr_new ((.inr (0, [.ref 17, .ref 23, .ref 25, .ref 27, .ref 34, .ref 42, .ref 44, .ref 49, .ref 58, .null, .null, .null, .null, .null, .null, .int (qz 0)]) :: R9) ++ [.inr (9, [.null, .null, .int (qz 0), .null, .null, .null, .null, .int (qz 0)])]) 148 48 6059 rfl rfl (Nat.le_of_ble_eq_true rfl) (Nat.le_of_ble_eq_true rfl) rfl rfl rfl 64 (by simp only [List.length_append, List.length_cons, List.length_nil, hR9]) rfl ?_
  refine qr_dup 149 rfl rfl rfl ?_
  refine qr_aload_n 150 rfl rfl rfl ?_
  refine qr_get 153 rfl rfl rfl (by decide) rfl ?_
  refine qr_call 156 53 10221 rfl rfl (Nat.le_of_ble_eq_true rfl) (Nat.le_of_ble_eq_true rfl) rfl rfl (si_Guests (a := 64) (u := .inr (0, [.ref 17, .ref 23, .ref 25, .ref 27, .ref 34, .ref 42, .ref 44, .ref 49, .ref 58, .null, .null, .null, .null, .null, .null, .int (qz 0)]) :: R9) (qo_len hR9 64 rfl)) ?_
  rintro _ _ ⟨rfl, rfl⟩
  simp only [Option.toList, List.drop, List.nil_append]
  refine qo_put [.ref 17, .ref 23, .ref 25, .ref 27, .ref 34, .ref 42, .ref 44, .ref 49, .ref 58, .ref 64, .null, .null, .null, .null, .null, .int (qz 0)] 159 hR9 rfl (m2 := 6) (m3 := 53) rfl rfl (Nat.le_of_ble_eq_true rfl) (Nat.le_of_ble_eq_true rfl) (Or.inr ⟨by decide, rfl⟩) (qr_fitR (Or.inl ⟨_, rfl⟩) _) rfl rfl (fun R10 hE10 hR10 => ?_)
  refine qr_aload_n 160 rfl rfl rfl ?_
  refine qr_new ((.inr (0, [.ref 17, .ref 23, .ref 25, .ref 27, .ref 34, .ref 42, .ref 44, .ref 49, .ref 58, .ref 64, .null, .null, .null, .null, .null, .int (qz 0)]) :: R10) ++ [.inr (10, [.null, .null, .int (qz 0), .long (ql 0), .null, .int (qz 0), .long (ql 0)])]) 163 54 10228 rfl rfl (Nat.le_of_ble_eq_true rfl) (Nat.le_of_ble_eq_true rfl) rfl rfl rfl 70 (by simp only [List.length_append, List.length_cons, List.length_nil, hR10]) rfl ?_
  refine qr_dup 164 rfl rfl rfl ?_
  refine qr_aload_n 165 rfl rfl rfl ?_
  refine qr_get 168 rfl rfl rfl (by decide) rfl ?_
  refine qr_call 171 56 10319 rfl rfl (Nat.le_of_ble_eq_true rfl) (Nat.le_of_ble_eq_true rfl) rfl rfl (si_Telling (a := 70) (u := .inr (0, [.ref 17, .ref 23, .ref 25, .ref 27, .ref 34, .ref 42, .ref 44, .ref 49, .ref 58, .ref 64, .null, .null, .null, .null, .null, .int (qz 0)]) :: R10) (qo_len hR10 70 rfl)) ?_
  rintro _ _ ⟨rfl, rfl⟩
  simp only [Option.toList, List.drop, List.nil_append]
  refine qo_put [.ref 17, .ref 23, .ref 25, .ref 27, .ref 34, .ref 42, .ref 44, .ref 49, .ref 58, .ref 64, .ref 70, .null, .null, .null, .null, .int (qz 0)] 174 hR10 rfl (m2 := 3) (m3 := 56) rfl rfl (Nat.le_of_ble_eq_true rfl) (Nat.le_of_ble_eq_true rfl) (Or.inr ⟨by decide, rfl⟩) (qr_fitR (Or.inl ⟨_, rfl⟩) _) rfl rfl (fun R11 hE11 hR11 => ?_)
  refine qr_aload_n 175 rfl rfl rfl ?_
  refine qr_new ((.inr (0, [.ref 17, .ref 23, .ref 25, .ref 27, .ref 34, .ref 42, .ref 44, .ref 49, .ref 58, .ref 64, .ref 70, .null, .null, .null, .null, .int (qz 0)]) :: R11) ++ [.inr (10, [.null, .null, .int (qz 0), .long (ql 0), .null, .int (qz 0), .long (ql 0)])]) 178 57 10326 rfl rfl (Nat.le_of_ble_eq_true rfl) (Nat.le_of_ble_eq_true rfl) rfl rfl rfl 73 (by simp only [List.length_append, List.length_cons, List.length_nil, hR11]) rfl ?_
  refine qr_dup 179 rfl rfl rfl ?_
  refine qr_aload_n 180 rfl rfl rfl ?_
  refine qr_get 183 rfl rfl rfl (by decide) rfl ?_
  refine qr_call 186 59 10417 rfl rfl (Nat.le_of_ble_eq_true rfl) (Nat.le_of_ble_eq_true rfl) rfl rfl (si_Telling (a := 73) (u := .inr (0, [.ref 17, .ref 23, .ref 25, .ref 27, .ref 34, .ref 42, .ref 44, .ref 49, .ref 58, .ref 64, .ref 70, .null, .null, .null, .null, .int (qz 0)]) :: R11) (qo_len hR11 73 rfl)) ?_
  rintro _ _ ⟨rfl, rfl⟩
  simp only [Option.toList, List.drop, List.nil_append]
  refine qo_put [.ref 17, .ref 23, .ref 25, .ref 27, .ref 34, .ref 42, .ref 44, .ref 49, .ref 58, .ref 64, .ref 70, .ref 73, .null, .null, .null, .int (qz 0)] 189 hR11 rfl (m2 := 3) (m3 := 59) rfl rfl (Nat.le_of_ble_eq_true rfl) (Nat.le_of_ble_eq_true rfl) (Or.inr ⟨by decide, rfl⟩) (qr_fitR (Or.inl ⟨_, rfl⟩) _) rfl rfl (fun R12 hE12 hR12 => ?_)
  refine qr_aload_n 190 rfl rfl rfl ?_
  refine qr_new ((.inr (0, [.ref 17, .ref 23, .ref 25, .ref 27, .ref 34, .ref 42, .ref 44, .ref 49, .ref 58, .ref 64, .ref 70, .ref 73, .null, .null, .null, .int (qz 0)]) :: R12) ++ [.inr (11, [.null, .null, .null, .null, .null, .null, .null, .int (qz 0), .int (qz 0)])]) 193 60 10426 rfl rfl (Nat.le_of_ble_eq_true rfl) (Nat.le_of_ble_eq_true rfl) rfl rfl rfl 76 (by simp only [List.length_append, List.length_cons, List.length_nil, hR12]) rfl ?_
  refine qr_dup 194 rfl rfl rfl ?_
  refine qr_aload_n 195 rfl rfl rfl ?_
  refine qr_get 198 rfl rfl rfl (by decide) rfl ?_
  refine qr_aload_n 199 rfl rfl rfl ?_
  refine qr_get 202 rfl rfl rfl (by decide) rfl ?_
  refine qr_aload_n 203 rfl rfl rfl ?_
  refine qr_get 206 rfl rfl rfl (by decide) rfl ?_
  refine qr_call 209 64 10586 rfl rfl (Nat.le_of_ble_eq_true rfl) (Nat.le_of_ble_eq_true rfl) rfl rfl (si_History (a := 76) (u := .inr (0, [.ref 17, .ref 23, .ref 25, .ref 27, .ref 34, .ref 42, .ref 44, .ref 49, .ref 58, .ref 64, .ref 70, .ref 73, .null, .null, .null, .int (qz 0)]) :: R12) (qo_len hR12 76 rfl)) ?_
  rintro _ _ ⟨rfl, rfl⟩
  simp only [Option.toList, List.drop, List.nil_append]
  refine qo_put [.ref 17, .ref 23, .ref 25, .ref 27, .ref 34, .ref 42, .ref 44, .ref 49, .ref 58, .ref 64, .ref 70, .ref 73, .ref 76, .null, .null, .int (qz 0)] 212 hR12 rfl (m2 := 5) (m3 := 64) rfl rfl (Nat.le_of_ble_eq_true rfl) (Nat.le_of_ble_eq_true rfl) (Or.inr ⟨by decide, rfl⟩) (qr_fitR (Or.inl ⟨_, rfl⟩) _) rfl rfl (fun R13 hE13 hR13 => ?_)
  refine qr_aload_n 213 rfl rfl rfl ?_
  refine qr_bipush 215 rfl (by decide) rfl ?_
  refine qr_newI (.inr (0, [.ref 17, .ref 23, .ref 25, .ref 27, .ref 34, .ref 42, .ref 44, .ref 49, .ref 58, .ref 64, .ref 70, .ref 73, .ref 76, .null, .null, .int (qz 0)]) :: R13 ++ [.inl (.int, 120, .inl (qzf (fun _ => 0)))]) 217 65 10706 rfl (by decide) (Nat.le_of_ble_eq_true rfl) (Nat.le_of_ble_eq_true rfl) rfl rfl rfl 81 (by simp only [List.length_cons, hR13]) rfl ?_
  refine qo_put [.ref 17, .ref 23, .ref 25, .ref 27, .ref 34, .ref 42, .ref 44, .ref 49, .ref 58, .ref 64, .ref 70, .ref 73, .ref 76, .ref 81, .null, .int (qz 0)] 220 hR13 rfl (m2 := 1) (m3 := 65) rfl rfl (Nat.le_of_ble_eq_true rfl) (Nat.le_of_ble_eq_true rfl) (Or.inr ⟨by decide, rfl⟩) (qr_fitR (Or.inr ⟨_, rfl⟩) _) rfl rfl (fun R14 hE14 hR14 => ?_)
  refine qr_aload_n 221 rfl rfl rfl ?_
  refine qr_new ((.inr (0, [.ref 17, .ref 23, .ref 25, .ref 27, .ref 34, .ref 42, .ref 44, .ref 49, .ref 58, .ref 64, .ref 70, .ref 73, .ref 76, .ref 81, .null, .int (qz 0)]) :: R14) ++ [.inr (7, [.null, .null, .null, .int (qz 0), .int (qz 0), .int (qz 0), .int (qz 0), .int (qz 0)])]) 224 66 10714 rfl rfl (Nat.le_of_ble_eq_true rfl) (Nat.le_of_ble_eq_true rfl) rfl rfl rfl 82 (by simp only [List.length_append, List.length_cons, List.length_nil, hR14]) rfl ?_
  refine qr_dup 225 rfl rfl rfl ?_
  refine qr_ldcs 227 rfl rfl ?_
  refine qr_call 230 69 11076 rfl rfl (Nat.le_of_ble_eq_true rfl) (Nat.le_of_ble_eq_true rfl) rfl rfl (sp_cinit6 (a := 82) (u := .inr (0, [.ref 17, .ref 23, .ref 25, .ref 27, .ref 34, .ref 42, .ref 44, .ref 49, .ref 58, .ref 64, .ref 70, .ref 73, .ref 76, .ref 81, .null, .int (qz 0)]) :: R14) (by simp only [List.length_append, List.length_cons, List.length_nil, hR14])) ?_
  rintro _ _ ⟨rfl, at6, sz6, nm6, sk6, t6, cd6, rfl, hb6, ht6⟩
  simp only [Option.toList, List.nil_append]
  refine qo_put [.ref 17, .ref 23, .ref 25, .ref 27, .ref 34, .ref 42, .ref 44, .ref 49, .ref 58, .ref 64, .ref 70, .ref 73, .ref 76, .ref 81, .ref 82, .int (qz 0)] 233 hR14 rfl (m2 := 4) (m3 := 69) rfl rfl (Nat.le_of_ble_eq_true rfl) (Nat.le_of_ble_eq_true rfl) (Or.inl rfl) (qr_fitR (Or.inl ⟨_, rfl⟩) _) rfl rfl (fun R15 hE15 hR15 => ?_)
  refine qr_aload_n 234 rfl rfl rfl ?_
  refine qr_iconst 235 rfl rfl ?_
  refine qo_put0 [.ref 17, .ref 23, .ref 25, .ref 27, .ref 34, .ref 42, .ref 44, .ref 49, .ref 58, .ref 64, .ref 70, .ref 73, .ref 76, .ref 81, .ref 82, .int (qz 0)] 238 rfl (Nat.le_of_ble_eq_true rfl) (Nat.le_of_ble_eq_true rfl) (Or.inl rfl) (qr_fitI rfl _) rfl rfl ?_
  refine qr_retV rfl rfl (Nat.le_of_ble_eq_true rfl) (Nat.le_of_ble_eq_true rfl) ?_
  refine ⟨rfl, fun i => if i = 0 then qo_c 4 at3 sz3 nm3 sk3 else if i = 1 then qo_c 5 at5 sz5 nm5 sk5 else qo_c 1 at6 sz6 nm6 sk6, fun i => if i = 24 then g23 else if i = 26 then g25 else if i = 51 then t3 else if i = 52 then cd3 else if i = 55 then t5 else if i = 56 then cd5 else if i = 83 then t6 else cd6, ?_, ?_⟩
  · rw [hE15, hE14, hE13, hE12, hE11, hE10, hE9, hE8, hE7, hE6, hE5, hE4, hE3, hE2, hE1, ← hE0]
    rfl
  · refine ⟨⟨rfl, rfl, rfl⟩, ?_, ?_, ?_⟩
    · intro i hi
      have hi3 : i = 0 ∨ i = 1 ∨ i = 2 := by omega
      rcases hi3 with rfl | rfl | rfl
      · exact ⟨⟨hb3.1, by show at3 ≤ 5; omega⟩, ⟨hb3.2.2.1, hb3.2.2.2.1⟩, ⟨hb3.2.2.2.2.1, hb3.2.2.2.2.2.1⟩, hb3.2.2.2.2.2.2⟩
      · exact ⟨⟨hb5.1, by show at5 ≤ 5; omega⟩, ⟨hb5.2.2.1, hb5.2.2.2.1⟩, ⟨hb5.2.2.2.2.1, hb5.2.2.2.2.2.1⟩, hb5.2.2.2.2.2.2⟩
      · exact ⟨⟨hb6.1, by show at6 ≤ 5; omega⟩, ⟨hb6.2.2.1, hb6.2.2.2.1⟩, ⟨hb6.2.2.2.2.1, hb6.2.2.2.2.2.1⟩, hb6.2.2.2.2.2.2⟩
    · rintro i (rfl | rfl)
      · exact hg23
      · exact hg25
    · rintro i (rfl | rfl | rfl)
      · exact ht3
      · exact ht5
      · exact ht6
end
section
/-! steps between people: the kin as ties, the fewest ties from one to another one (99: more, or none) -/
def qAj (A B : Nat → Int) (m p q : Int) : Prop := ∃ k : Nat, (k : Int) < m ∧ ((A k = p ∧ B k = q) ∨ (A k = q ∧ B k = p))
def qWk (A B : Nat → Int) (m : Int) : Nat → Int → Int → Prop
  | 0, p, q => p = q
  | n + 1, p, q => ∃ r, qWk A B m n p r ∧ qAj A B m r q
/-- t is how far it is from p to q -/
def qDi (A B : Nat → Int) (m t p q : Int) : Prop := (0 ≤ t ∧ t ≤ 99) ∧ (t < 99 → qWk A B m t.toNat p q) ∧ ∀ n : Nat, qWk A B m n p q → t ≤ (n : Int)
def qTb (f : Nat → Int) (x y : Int) : Int := f (x * 32 + y).toNat
theorem qTb_u {g : Nat → Int} {i j v : Int} {k : Nat} (hk : k = (i * 32 + j : Int).toNat) (hi : 0 ≤ i ∧ i < 32) (hj : 0 ≤ j ∧ j < 32) {x y : Int} (hx : 0 ≤ x) (hy : 0 ≤ y ∧ y < 32) : qTb (qzu g k v) x y = if x = i ∧ y = j then v else qTb g x y := by
  unfold qTb qzu
  by_cases e : x = i ∧ y = j
  · rw [if_pos e, if_pos (by omega)]
  · rw [if_neg e, if_neg (by omega)]
/-! the reference's own way to find steps: ties gone over till nothing gets nearer -/
def qC1 (P : Int → Int → Int → Prop) (n p q : Int) : Prop := ∀ t r : Int, (0 ≤ r ∧ r < n) → P t r p → P (t + 1) r q
def qNr (P : Int → Int → Int → Prop) (f g : Nat → Int) (n p q u more : Int) : Prop := (∀ x y : Int, (0 ≤ x ∧ x < n) → (0 ≤ y ∧ y < n) → qTb g x y ≤ qTb f x y) ∧ (∀ x y : Int, (0 ≤ x ∧ x < n) → (0 ≤ y ∧ y < n) → P (qTb g x y) x y) ∧ (∀ x : Int, (0 ≤ x ∧ x < u) → qTb g x q ≤ qTb g x p + 1) ∧ (more = 0 → g = f)
theorem qNr_0 {P : Int → Int → Int → Prop} {f : Nat → Int} {n p q : Int} (h : ∀ x y : Int, (0 ≤ x ∧ x < n) → (0 ≤ y ∧ y < n) → P (qTb f x y) x y) : qNr P f f n p q 0 0 :=
  ⟨fun _ _ _ _ => Int.le_refl _, h, fun x hx => False.elim (by omega), fun _ => rfl⟩
theorem qNr_end {P : Int → Int → Int → Prop} {f g : Nat → Int} {n p q u more : Int} (h : qNr P f g n p q u more) (hu : n ≤ u) : qNr P f g n p q n more :=
  ⟨h.1, h.2.1, fun x hx => h.2.2.1 x (by omega), h.2.2.2⟩
theorem qNr_skip {P : Int → Int → Int → Prop} {f g : Nat → Int} {n p q u more t1 t2 : Int} (h : qNr P f g n p q u more) (e1 : t1 = qTb g u p) (e2 : t2 = qTb g u q) (hl : t2 ≤ t1 + 1) : qNr P f g n p q (u + 1) more := by
  refine ⟨h.1, h.2.1, fun x hx => ?_, h.2.2.2⟩
  by_cases e : x = u
  · subst e
    omega
  · exact h.2.2.1 x (by omega)
theorem qNr_set {P : Int → Int → Int → Prop} {f g : Nat → Int} {n p q u more t1 t2 : Int} {k : Nat} (h : qNr P f g n p q u more) (cl : qC1 P n p q) (hn : n ≤ 32) (hu : 0 ≤ u ∧ u < n) (hp : 0 ≤ p ∧ p < n) (hq : 0 ≤ q ∧ q < n) (hk : k = (u * 32 + q : Int).toNat) (e1 : t1 = qTb g u p) (e2 : t2 = qTb g u q) (hl : t1 + 1 < t2) : qNr P f (qzu g k (t1 + 1)) n p q (u + 1) 1 := by
  have hq2 : 0 ≤ q ∧ q < 32 := by omega
  have hu2 : 0 ≤ u ∧ u < 32 := by omega
  have hpq : ¬ p = q := fun e => by
    subst e
    omega
  refine ⟨fun x y hx hy => ?_, fun x y hx hy => ?_, fun x hx => ?_, fun h0 => absurd h0 (by decide)⟩
  · rw [qTb_u hk hu2 hq2 hx.1 (by omega)]
    split
    · next e =>
      obtain ⟨rfl, rfl⟩ := e
      have h1 := h.1 x y hx hy
      omega
    · exact h.1 x y hx hy
  · rw [qTb_u hk hu2 hq2 hx.1 (by omega)]
    split
    · next e =>
      obtain ⟨rfl, rfl⟩ := e
      rw [e1]
      exact cl _ x hx (h.2.1 x p hx hp)
    · exact h.2.1 x y hx hy
  · have a1 := qTb_u (g := g) (v := t1 + 1) hk hu2 hq2 (x := x) (y := q) hx.1 hq2
    have a2 := qTb_u (g := g) (v := t1 + 1) hk hu2 hq2 (x := x) (y := p) hx.1 (by omega)
    rw [if_neg (fun e => hpq e.2)] at a2
    rw [a1, a2]
    by_cases e : x = u
    · rw [if_pos ⟨e, rfl⟩, e]
      omega
    · rw [if_neg (fun e2 => e e2.1)]
      exact h.2.2.1 x (by omega)
theorem qTb_c {f : Nat → Int} {v x y : Int} (h : v = f (32 * x + y : Int).toNat) : v = qTb f x y := by
  rw [h]
  unfold qTb
  congr 2
  omega
/-- the table as it is begun: places (x, y) ahead of (i, j) -/
def qFi (g : Nat → Int) (n i j : Int) : Prop := ∀ x y : Int, (0 ≤ x ∧ x < n) → (0 ≤ y ∧ y < n) → (x < i ∨ (x = i ∧ y < j)) → qTb g x y = if x = y then 0 else 99
theorem qFi_0 {g : Nat → Int} {n : Int} : qFi g n 0 0 := fun x y hx hy hp => False.elim (by omega)
theorem qFi_row {g : Nat → Int} {n i j : Int} (h : qFi g n i j) (hj : n ≤ j) : qFi g n (i + 1) 0 := fun x y hx hy hp => h x y hx hy (by omega)
theorem qFi_set {g : Nat → Int} {n i j v : Int} {k : Nat} (h : qFi g n i j) (hn : n ≤ 32) (hi : 0 ≤ i ∧ i < n) (hj : 0 ≤ j ∧ j < n) (hk : k = (i * 32 + j : Int).toNat) (hv : v = if i = j then 0 else 99) : qFi (qzu g k v) n i (j + 1) := by
  intro x y hx hy hp
  rw [qTb_u hk (by omega) (by omega) hx.1 (by omega)]
  split
  · next e =>
    obtain ⟨rfl, rfl⟩ := e
    exact hv
  · exact h x y hx hy (by omega)
/-- no tie brings anything nearer -/
def qFx (g : Nat → Int) (n p q : Int) : Prop := ∀ x : Int, (0 ≤ x ∧ x < n) → qTb g x q ≤ qTb g x p + 1 ∧ qTb g x p ≤ qTb g x q + 1
/-- while ties are gone over: k of them so far, more: whether anything got nearer -/
def qWh (P : Int → Int → Int → Prop) (g A B : Nat → Int) (n k more : Int) : Prop := (∀ x y : Int, (0 ≤ x ∧ x < n) → (0 ≤ y ∧ y < n) → P (qTb g x y) x y) ∧ (∀ x : Int, (0 ≤ x ∧ x < n) → qTb g x x ≤ 0) ∧ (more = 0 → ∀ j : Nat, (j : Int) < k → qFx g n (A j) (B j))
theorem qWh_0 {P : Int → Int → Int → Prop} {g A B : Nat → Int} {n k m m2 : Int} (h : qWh P g A B n k m) : qWh P g A B n 0 m2 := ⟨h.1, h.2.1, fun _ j hj => False.elim (by omega)⟩
theorem qWh_i {P : Int → Int → Int → Prop} {g A B : Nat → Int} {n i m : Int} (h : qFi g n i 0) (hi : n ≤ i) (p1 : ∀ x, P 0 x x) (p2 : ∀ x y, P 99 x y) : qWh P g A B n 0 m := by
  refine ⟨fun x y hx hy => ?_, fun x hx => ?_, fun _ j hj => False.elim (by omega)⟩
  · rw [h x y hx hy (by omega)]
    split
    · next e => subst e; exact p1 x
    · exact p2 x y
  · rw [h x x hx hx (by omega), if_pos rfl]
    exact Int.le_refl _
theorem qWh_s {P : Int → Int → Int → Prop} {g g1 g2 A B : Nat → Int} {n k m p q p2 q2 v w m2 : Int} (h : qWh P g A B n k m) (h1 : qNr P g g1 n p q n v) (h2 : qNr P g1 g2 n q2 p2 n w) (ep : p = A k.toNat) (eq : q = B k.toNat) (ep2 : p2 = A k.toNat) (eq2 : q2 = B k.toNat) (hk : 0 ≤ k) (hm : m2 = 0 → m = 0 ∧ v = 0 ∧ w = 0) : qWh P g2 A B n (k + 1) m2 := by
  rw [eq2, ep2, ← ep, ← eq] at h2
  refine ⟨h2.2.1, fun x hx => ?_, fun h0 j hj => ?_⟩
  · have a1 := h2.1 x x hx hx
    have a2 := h1.1 x x hx hx
    have a3 := h.2.1 x hx
    omega
  · obtain ⟨b1, b2, b3⟩ := hm h0
    have e1 := h1.2.2.2 b2
    have e2 := h2.2.2.2 b3
    by_cases e : j = k.toNat
    · subst e
      intro x hx
      rw [← ep, ← eq]
      have c1 := h1.2.2.1 x hx
      have c2 := h2.2.2.1 x hx
      rw [e2] at c2
      rw [e2]
      exact ⟨c1, c2⟩
    · have c := h.2.2 b1 j (by omega)
      rw [e2, e1]
      exact c
/-- a table at rest is right -/
theorem qDi_rest {A B : Nat → Int} {m n : Int} {g : Nat → Int} (hE : ∀ j : Nat, (j : Int) < m → (0 ≤ A j ∧ A j < n) ∧ (0 ≤ B j ∧ B j < n)) (hr : ∀ x y : Int, (0 ≤ x ∧ x < n) → (0 ≤ y ∧ y < n) → qTb g x y ≤ 99) (h : qWh (fun t x y => 0 ≤ t ∧ (t < 99 → qWk A B m t.toNat x y)) g A B n m 0) : ∀ x y : Int, (0 ≤ x ∧ x < n) → (0 ≤ y ∧ y < n) → qDi A B m (qTb g x y) x y := by
  have key : ∀ (k : Nat) (x y : Int), (0 ≤ x ∧ x < n) → qWk A B m k x y → (0 ≤ y ∧ y < n) ∧ qTb g x y ≤ (k : Int) := by
    intro k
    induction k with
    | zero =>
      intro x y hx hw
      have e : x = y := hw
      subst e
      exact ⟨hx, h.2.1 x hx⟩
    | succ k ih =>
      intro x y hx hw
      obtain ⟨r, h1, j, hj, h2⟩ := hw
      obtain ⟨hr2, h3⟩ := ih x r hx h1
      have f := h.2.2 rfl j hj x hx
      have e2 := hE j hj
      rcases h2 with ⟨rfl, rfl⟩ | ⟨rfl, rfl⟩
      · exact ⟨e2.2, by omega⟩
      · exact ⟨e2.1, by omega⟩
  intro x y hx hy
  have hp := h.1 x y hx hy
  exact ⟨⟨hp.1, hr x y hx hy⟩, hp.2, fun k hk => (key k x y hx hk).2⟩
theorem qAj_cg {A B A' B' : Nat → Int} {m p q : Int} (hA : ∀ k : Nat, (k : Int) < m → A' k = A k) (hB : ∀ k : Nat, (k : Int) < m → B' k = B k) (h : qAj A B m p q) : qAj A' B' m p q := by
  obtain ⟨k, h1, h2⟩ := h
  refine ⟨k, h1, ?_⟩
  rw [hA k h1, hB k h1]
  exact h2
theorem qWk_cg {A B A' B' : Nat → Int} {m p : Int} (hA : ∀ k : Nat, (k : Int) < m → A' k = A k) (hB : ∀ k : Nat, (k : Int) < m → B' k = B k) : ∀ {n : Nat} {q : Int}, qWk A B m n p q → qWk A' B' m n p q
  | 0, q, h => h
  | n + 1, q, h => by
    obtain ⟨r, h1, h2⟩ := h
    exact ⟨r, qWk_cg hA hB h1, qAj_cg hA hB h2⟩
theorem qDi_cg {A B A' B' : Nat → Int} {m t p q : Int} (hA : ∀ k : Nat, (k : Int) < m → A' k = A k) (hB : ∀ k : Nat, (k : Int) < m → B' k = B k) (h : qDi A B m t p q) : qDi A' B' m t p q :=
  ⟨h.1, fun hl => qWk_cg hA hB (h.2.1 hl), fun n hw => h.2.2 n (qWk_cg (fun k hk => (hA k hk).symm) (fun k hk => (hB k hk).symm) hw)⟩
/-- what the reference's table says of a number: it is a way, if it is less than 99 -/
def qPw (A B : Nat → Int) (m t x y : Int) : Prop := 0 ≤ t ∧ (t < 99 → qWk A B m t.toNat x y)
theorem qPw_c1 {A B : Nat → Int} {m n p q : Int} (h : qAj A B m p q) : qC1 (qPw A B m) n p q := by
  rintro t r hr ⟨h1, h2⟩
  refine ⟨by omega, fun hl => ?_⟩
  rw [show (t + 1).toNat = t.toNat + 1 by omega]
  exact ⟨p, h2 (by omega), h⟩
end
section
section QY
variable {X : qm_X} {d : Nat} {x : qs_Ent} {Q : Option Value → qm_W → Prop} {pc : Nat} {ls : qm_L} {st : List Value} {w : qm_W} {c n r1 r2 r3 : Nat} {rv : Value}
theorem qy_v {y : Int} (v : Int) (h : y = v) (k : qr_W X d x Q (pc, ls, .int (qz v) :: st, w, c, n)) : qr_W X d x Q (pc, ls, .int (qz y) :: st, w, c, n) := by
  rw [h]
  exact k
theorem qy_vl {y : Int} (v : Int) (h : y = v) (k : qr_W X d x Q (pc, ls, .long (ql v) :: st, w, c, n)) : qr_W X d x Q (pc, ls, .long (ql y) :: st, w, c, n) := by
  rw [h]
  exact k
theorem qy_wA {σ : Nat → Nat → Int} {κ : Nat → Option Nat} {ρ : Nat} (α : Nat → Nat → Int) (h : w = qw σ α κ ρ) (k : ∀ α', α' = α → qr_W X d x Q (pc, ls, st, qw σ α' κ ρ, c, n)) : qr_W X d x Q (pc, ls, st, w, c, n) := by
  rw [h]
  exact k α rfl
theorem qy_wS {α : Nat → Nat → Int} {κ : Nat → Option Nat} {ρ : Nat} (σ : Nat → Nat → Int) (h : w = qw σ α κ ρ) (k : ∀ σ', σ' = σ → qr_W X d x Q (pc, ls, st, qw σ' α κ ρ, c, n)) : qr_W X d x Q (pc, ls, st, w, c, n) := by
  rw [h]
  exact k σ rfl
theorem qy_w (w' : qm_W) (h : w = w') (k : qr_W X d x Q (pc, ls, st, w', c, n)) : qr_W X d x Q (pc, ls, st, w, c, n) := by
  rw [h]
  exact k
end QY
/-! the ranges of all numbers and rows of both objects; what a call leaves as it was. -/
def qI_st : List (Nat × Nat × Int × Int) := [(16, 15, 0, 120), (17, 5, (-9223372036854775808), 9223372036854775807), (17, 6, 0, 32), (27, 6, (-9223372036854775808), 9223372036854775807), (27, 7, 0, 40), (34, 7, 0, 60), (50, 3, 0, 120), (50, 4, 0, 120), (50, 5, 0, 122), (50, 7, 0, 1), (54, 3, 0, 120), (54, 4, 0, 120), (54, 5, 0, 122), (54, 7, 0, 1), (58, 10, (-9223372036854775808), 9223372036854775807), (64, 2, 0, 12), (70, 2, 0, 31), (70, 3, (-9223372036854775808), 9223372036854775807), (70, 5, 0, 60), (70, 6, (-9223372036854775808), 9223372036854775807), (73, 2, 0, 31), (73, 3, (-9223372036854775808), 9223372036854775807), (73, 5, 0, 60), (73, 6, (-9223372036854775808), 9223372036854775807), (76, 7, 0, 40), (76, 8, 0, 40), (82, 3, 0, 120), (82, 4, 0, 120), (82, 5, 0, 122), (82, 7, 0, 1), (86, 4, 0, 40), (86, 5, 0, 40), (86, 6, 0, 32), (86, 10, (-9223372036854775808), 9223372036854775807), (86, 11, 0, 61), (86, 15, 0, 1), (86, 16, 0, 40), (86, 22, (-9223372036854775808), 9223372036854775807), (86, 24, 0, 60), (86, 29, (-9223372036854775808), 9223372036854775807), (86, 32, 0, 120), (86, 35, (-1), 120), (86, 36, 0, 120), (86, 37, 0, 120), (86, 38, (-1), 120), (86, 39, 0, 6), (86, 41, 0, 1), (86, 43, 0, 32), (86, 50, 0, 31), (86, 51, (-9223372036854775808), 9223372036854775807)]
def qI_sr (a k : Nat) : Int × Int := match qI_st.find? (fun q => q.1 == a && q.2.1 == k) with | some q => (q.2.2.1, q.2.2.2) | none => (-2147483648, 2147483647)
def qI_rt : List (Nat × Nat × Int × Int) := [(18, 32, (-1), 31), (19, 32, 0, 99), (20, 32, (-2147483648), 2147483647), (21, 32, (-2147483648), 2147483647), (22, 32, (-9223372036854775808), 9223372036854775807), (24, 1024, 0, 99), (26, 1024, 0, 99), (28, 40, 0, 31), (29, 40, 0, 31), (30, 40, (-2147483648), 2147483647), (31, 40, 0, 3), (32, 40, (-2147483648), 2147483647), (33, 40, (-2147483648), 2147483647), (35, 60, (-2147483648), 2147483647), (36, 60, (-2147483648), 2147483647), (37, 60, (-2147483648), 2147483647), (38, 60, (-2147483648), 2147483647), (39, 60, (-2147483648), 2147483647), (40, 60, (-2147483648), 2147483647), (41, 60, (-9223372036854775808), 9223372036854775807), (43, 24, (-2147483648), 2147483647), (45, 6, 0, 6), (46, 6, 0, 60), (47, 6, (-1), 59), (48, 360, (-9223372036854775808), 9223372036854775807), (51, 120, (-2147483648), 2147483647), (52, 122, (-2147483648), 2147483647), (53, 120, (-2147483648), 2147483647), (55, 120, (-2147483648), 2147483647), (56, 122, (-2147483648), 2147483647), (57, 120, (-2147483648), 2147483647), (59, 9, (-2147483648), 2147483647), (60, 496, 0, 576), (61, 496, (-2147483648), 2147483647), (62, 496, (-9223372036854775808), 9223372036854775807), (63, 496, (-2147483648), 2147483647), (65, 12, 0, 31), (66, 12, (-2147483648), 2147483647), (67, 4096, (-2147483648), 2147483647), (68, 36, (-2147483648), 2147483647), (69, 6, 0, 11), (71, 31, 0, 3131), (72, 60, 0, 59), (74, 31, 0, 3131), (75, 60, 0, 59), (77, 40, (-2147483648), 2147483647), (78, 40, 0, 1919), (79, 40, (-2147483648), 2147483647), (80, 40, (-2147483648), 2147483647), (81, 120, (-2147483648), 2147483647), (83, 120, (-2147483648), 2147483647), (84, 122, (-2147483648), 2147483647), (85, 120, (-2147483648), 2147483647), (87, 252, (-2147483648), 2147483647), (88, 40, 0, 251), (89, 40, (-2147483648), 2147483647), (90, 40, (-2147483648), 2147483647), (91, 32, (-1), 31), (92, 32, (-2147483648), 2147483647), (93, 32, (-2147483648), 2147483647), (94, 61, 0, 31), (95, 61, 0, 31), (96, 1024, 0, 99), (97, 40, 0, 31), (98, 40, 0, 31), (99, 40, (-2147483648), 2147483647), (100, 40, (-2147483648), 2147483647), (101, 40, (-2147483648), 2147483647), (102, 60, 0, 31), (103, 60, (-2147483648), 2147483647), (104, 60, (-2147483648), 2147483647), (105, 60, (-2147483648), 2147483647), (106, 120, (-2147483648), 2147483647), (107, 240, (-2147483648), 2147483647), (108, 2, (-1), 120), (109, 9, (-2147483648), 2147483647), (110, 32, 0, 31), (111, 12, (-2147483648), 2147483647), (112, 4096, (-2147483648), 2147483647), (113, 10, 0, 39), (114, 6, 0, 5), (115, 31, 0, 31), (116, 31, 0, 31), (117, 31, 0, 31), (118, 31, 0, 31), (119, 1024, 0, 1), (120, 24, (-2147483648), 2147483647), (121, 6, (-1), 64), (122, 6, 0, 60), (123, 360, (-9223372036854775808), 9223372036854775807), (124, 60, (-9223372036854775808), 9223372036854775807)]
def qI_rr (a : Nat) : Nat × Int × Int := match qI_rt.find? (fun q => q.1 == a) with | some q => (q.2.1, q.2.2.1, q.2.2.2) | none => (0, 0, 0)
def qI_c (x : Nat) : Prop := x = 50 ∨ x = 54 ∨ x = 82
/-- the reference's ties lie among its people, and its table is right when it says so -/
def qK (σ α : Nat → Nat → Int) : Prop := (∀ j : Nat, (j : Int) < σ 86 11 → (0 ≤ α 94 j ∧ α 94 j < σ 86 6) ∧ (0 ≤ α 95 j ∧ α 95 j < σ 86 6)) ∧ (σ 86 15 = 1 → ∀ x y : Int, (0 ≤ x ∧ x < σ 86 6) → (0 ≤ y ∧ y < σ 86 6) → qDi (α 94) (α 95) (σ 86 11) (qTb (α 96) x y) x y)
/-- what ties numbers together: the list of guests rises; who is struck is one of 32; what was changed lies in its row; a lord came ahead -/
def qIx (σ α : Nat → Nat → Int) : Prop := (∀ i j : Nat, i < j → (j : Int) < σ 64 2 → α 65 i < α 65 j) ∧ (∀ a, a = 71 ∨ a = 74 → ∀ j, j < 31 → α a j % 100 ≤ 31) ∧ (∀ j, j < 40 → (α 77 j = 0 → α 78 j ≤ 39) ∧ (α 77 j = 2 → α 78 j ≤ 31) ∧ (¬ α 77 j = 0 → ¬ α 77 j = 1 → ¬ α 77 j = 2 → α 78 j ≤ 59)) ∧ (∀ j : Nat, j < 32 → α 91 j < (j : Int) ∨ (j = 0 ∧ σ 86 6 = 0)) ∧ σ 86 5 ≤ σ 86 4 ∧ qK σ α
/-- the numbers are in their ranges, the customs are three objects -/
def qI (σ α : Nat → Nat → Int) (κ : Nat → Option Nat) (ρ : Nat) : Prop := (∀ a k, (qI_sr a k).1 ≤ σ a k ∧ σ a k ≤ (qI_sr a k).2) ∧ (∀ a j, j < (qI_rr a).1 → (qI_rr a).2.1 ≤ α a j ∧ α a j ≤ (qI_rr a).2.2) ∧ ((∃ x, κ 0 = some x ∧ qI_c x) ∧ (∃ x, κ 1 = some x ∧ qI_c x) ∧ qI_c ρ) ∧ qIx σ α
/-- but for these numbers and rows all is as it was -/
def qFr (S : List (Nat × Nat)) (R : List Nat) (σ α σ' α' : Nat → Nat → Int) : Prop := (∀ a k, ¬ (a, k) ∈ S → σ' a k = σ a k) ∧ ∀ a, ¬ a ∈ R → α' a = α a
theorem qFr_rf (S : List (Nat × Nat)) (R : List Nat) (σ α : Nat → Nat → Int) : qFr S R σ α σ α := ⟨fun _ _ _ => rfl, fun _ _ => rfl⟩
theorem qFr_t {S S' : List (Nat × Nat)} {R R' : List Nat} {σ α σ1 α1 σ2 α2 : Nat → Nat → Int} (h : qFr S R σ α σ1 α1) (h' : qFr S' R' σ1 α1 σ2 α2) (hs : S'.all (fun x => S.contains x) = true) (hr : R'.all (fun x => R.contains x) = true) : qFr S R σ α σ2 α2 := by
  refine ⟨fun a k hn => (h'.1 a k (fun hm => hn ?_)).trans (h.1 a k hn), fun a hn => (h'.2 a (fun hm => hn ?_)).trans (h.2 a hn)⟩
  · exact List.contains_iff_mem.mp (List.all_eq_true.mp hs _ hm)
  · exact List.contains_iff_mem.mp (List.all_eq_true.mp hr _ hm)
theorem qFr_s {S : List (Nat × Nat)} {R : List Nat} {σ α σ1 α1 : Nat → Nat → Int} (h : qFr S R σ α σ1 α1) (a k : Nat) (v : Int) (hm : S.contains (a, k) = true) : qFr S R σ α (qw_s σ1 a k v) α1 := by
  refine ⟨fun a' k' hn => ?_, h.2⟩
  unfold qw_s
  by_cases h1 : a' = a
  · rw [if_pos h1]
    by_cases h2 : k' = k
    · subst h1 h2
      exact absurd (List.contains_iff_mem.mp hm) hn
    · rw [if_neg h2]
      exact h.1 a' k' hn
  · rw [if_neg h1]
    exact h.1 a' k' hn
theorem qFr_r {S : List (Nat × Nat)} {R : List Nat} {σ α σ1 α1 : Nat → Nat → Int} (h : qFr S R σ α σ1 α1) (a : Nat) (f : Nat → Int) (hm : R.contains a = true) : qFr S R σ α σ1 (qw_r α1 a f) := by
  refine ⟨h.1, fun a' hn => ?_⟩
  unfold qw_r
  by_cases h1 : a' = a
  · subst h1
    exact absurd (List.contains_iff_mem.mp hm) hn
  · rw [if_neg h1]
    exact h.2 a' hn
theorem qIx_g {σ α σ' α' : Nat → Nat → Int} (h : qIx σ α) (h1 : σ' 64 2 = σ 64 2) (h2 : σ' 86 6 = σ 86 6) (h9 : σ' 86 5 ≤ σ' 86 4) (h3 : α' 65 = α 65) (h4 : α' 71 = α 71) (h5 : α' 74 = α 74) (h6 : α' 77 = α 77) (h7 : α' 78 = α 78) (h8 : α' 91 = α 91) (k1 : σ' 86 11 = σ 86 11) (k2 : σ' 86 15 = σ 86 15) (k3 : α' 94 = α 94) (k4 : α' 95 = α 95) (k5 : α' 96 = α 96) : qIx σ' α' := by
  refine ⟨?_, ?_, ?_, ?_, h9, ?_⟩
  · rw [h1, h3]; exact h.1
  · rintro a (rfl | rfl)
    · rw [h4]; exact h.2.1 71 (Or.inl rfl)
    · rw [h5]; exact h.2.1 74 (Or.inr rfl)
  · rw [h6, h7]; exact h.2.2.1
  · rw [h2, h8]; exact h.2.2.2.1
  · unfold qK
    rw [h2, k1, k2, k3, k4, k5]
    exact h.2.2.2.2.2
theorem qI_s1 {σ α : Nat → Nat → Int} {κ : Nat → Option Nat} {ρ : Nat} (h : qI σ α κ ρ) (a k : Nat) {v : Int} (hv : (qI_sr a k).1 ≤ v ∧ v ≤ (qI_sr a k).2) (hx : qIx (qw_s σ a k v) α) : qI (qw_s σ a k v) α κ ρ := by
  refine ⟨fun a' k' => ?_, h.2.1, h.2.2.1, hx⟩
  unfold qw_s
  by_cases h1 : a' = a
  · rw [if_pos h1]
    by_cases h2 : k' = k
    · rw [if_pos h2]
      subst h1 h2
      exact hv
    · rw [if_neg h2]
      exact h.1 a' k'
  · rw [if_neg h1]
    exact h.1 a' k'
theorem qw_s_ne {σ : Nat → Nat → Int} {a k a' k' : Nat} {v : Int} (h : ¬ (a' = a ∧ k' = k)) : qw_s σ a k v a' k' = σ a' k' := by
  unfold qw_s
  by_cases h1 : a' = a
  · rw [if_pos h1, if_neg (fun h2 => h ⟨h1, h2⟩)]
  · rw [if_neg h1]
theorem qI_s {σ α : Nat → Nat → Int} {κ : Nat → Option Nat} {ρ : Nat} (h : qI σ α κ ρ) (a k : Nat) {v : Int} (hsp : ((a == 64 && k == 2) || (a == 86 && (k == 6 || (k == 5 || (k == 4 || (k == 11 || k == 15)))))) = false) (hv : (qI_sr a k).1 ≤ v ∧ v ≤ (qI_sr a k).2) : qI (qw_s σ a k v) α κ ρ := by
  refine qI_s1 h a k hv (qIx_g h.2.2.2 (qw_s_ne ?_) (qw_s_ne ?_) ?_ rfl rfl rfl rfl rfl rfl (qw_s_ne ?_) (qw_s_ne ?_) rfl rfl rfl)
  · rintro ⟨rfl, rfl⟩; exact absurd hsp (by decide)
  · rintro ⟨rfl, rfl⟩; exact absurd hsp (by decide)
  · rw [qw_s_ne (a' := 86) (k' := 5) (by rintro ⟨rfl, rfl⟩; exact absurd hsp (by decide)), qw_s_ne (a' := 86) (k' := 4) (by rintro ⟨rfl, rfl⟩; exact absurd hsp (by decide))]
    exact h.2.2.2.2.2.2.2.1
  · rintro ⟨rfl, rfl⟩; exact absurd hsp (by decide)
  · rintro ⟨rfl, rfl⟩; exact absurd hsp (by decide)
theorem qI_s5 {σ α : Nat → Nat → Int} {κ : Nat → Option Nat} {ρ : Nat} (h : qI σ α κ ρ) {v : Int} (hv : 0 ≤ v ∧ v ≤ 40) (hx : v ≤ σ 86 4) : qI (qw_s σ 86 5 v) α κ ρ :=
  qI_s1 h 86 5 hv (qIx_g h.2.2.2 (qw_s_ne (by decide)) (qw_s_ne (by decide)) hx rfl rfl rfl rfl rfl rfl (qw_s_ne (by decide)) (qw_s_ne (by decide)) rfl rfl rfl)
theorem qI_s54 {σ α : Nat → Nat → Int} {κ : Nat → Option Nat} {ρ : Nat} (h : qI σ α κ ρ) {v : Int} (hv : 0 ≤ v ∧ v ≤ 40) : qI (qw_s (qw_s σ 86 5 v) 86 4 v) α κ ρ := by
  refine ⟨fun a' k' => ?_, h.2.1, h.2.2.1, qIx_g h.2.2.2 ?_ ?_ (Int.le_refl v) rfl rfl rfl rfl rfl rfl rfl rfl rfl rfl rfl⟩
  · by_cases h1 : a' = 86 ∧ k' = 4
    · obtain ⟨rfl, rfl⟩ := h1
      exact hv
    · rw [qw_s_ne h1]
      by_cases h2 : a' = 86 ∧ k' = 5
      · obtain ⟨rfl, rfl⟩ := h2
        exact hv
      · rw [qw_s_ne h2]
        exact h.1 a' k'
  · rfl
  · rfl
theorem qI_r1 {σ α : Nat → Nat → Int} {κ : Nat → Option Nat} {ρ : Nat} (h : qI σ α κ ρ) (a i : Nat) {v : Int} (hv : (qI_rr a).2.1 ≤ v ∧ v ≤ (qI_rr a).2.2) (hx : qIx σ (qw_r α a (qzu (α a) i v))) : qI σ (qw_r α a (qzu (α a) i v)) κ ρ := by
  refine ⟨h.1, fun a' j hj => ?_, h.2.2.1, hx⟩
  unfold qw_r
  by_cases h1 : a' = a
  · rw [if_pos h1]
    unfold qzu
    subst h1
    by_cases h2 : j = i
    · rw [if_pos h2]
      exact hv
    · rw [if_neg h2]
      exact h.2.1 a' j hj
  · rw [if_neg h1]
    exact h.2.1 a' j hj
theorem qw_r_ne {α : Nat → Nat → Int} {a a' : Nat} {f : Nat → Int} (h : ¬ a' = a) : qw_r α a f a' = α a' := by
  unfold qw_r
  rw [if_neg h]
theorem qw_r_eq {α : Nat → Nat → Int} {a : Nat} {f : Nat → Int} : qw_r α a f a = f := by
  unfold qw_r
  rw [if_pos rfl]
theorem qIx_r {σ α : Nat → Nat → Int} (h : qIx σ α) (a : Nat) (f : Nat → Int) (hsp : [65, 71, 74, 77, 78, 91, 94, 95, 96].contains a = false) : qIx σ (qw_r α a f) := by
  refine qIx_g h rfl rfl h.2.2.2.2.1 (qw_r_ne ?_) (qw_r_ne ?_) (qw_r_ne ?_) (qw_r_ne ?_) (qw_r_ne ?_) (qw_r_ne ?_) rfl rfl (qw_r_ne ?_) (qw_r_ne ?_) (qw_r_ne ?_) <;> (rintro rfl; exact absurd hsp (by decide))
theorem qI_r {σ α : Nat → Nat → Int} {κ : Nat → Option Nat} {ρ : Nat} (h : qI σ α κ ρ) (a i : Nat) {v : Int} (hsp : [65, 71, 74, 77, 78, 91, 94, 95, 96].contains a = false) (hv : (qI_rr a).2.1 ≤ v ∧ v ≤ (qI_rr a).2.2) : qI σ (qw_r α a (qzu (α a) i v)) κ ρ := qI_r1 h a i hv (qIx_r h.2.2.2 a _ hsp)
theorem qI_r71 {σ α : Nat → Nat → Int} {κ : Nat → Option Nat} {ρ : Nat} (h : qI σ α κ ρ) (a i : Nat) {v : Int} (hsp : (a == 71 || a == 74) = true) (hv : (qI_rr a).2.1 ≤ v ∧ v ≤ (qI_rr a).2.2) (h3 : v % 100 ≤ 31) : qI σ (qw_r α a (qzu (α a) i v)) κ ρ := by
  have ha : a = 71 ∨ a = 74 := by simpa using hsp
  refine qI_r1 h a i hv ⟨?_, fun b hb j hj => ?_, ?_, ?_, h.2.2.2.2.2.2.2.1, ?_⟩
  · rw [qw_r_ne (by omega)]; exact h.2.2.2.1
  · by_cases e : b = a
    · subst e
      rw [qw_r_eq]
      unfold qzu
      split
      · exact h3
      · exact h.2.2.2.2.1 b hb j hj
    · rw [qw_r_ne e]
      exact h.2.2.2.2.1 b hb j hj
  · rw [qw_r_ne (by omega), qw_r_ne (by omega)]; exact h.2.2.2.2.2.1
  · rw [qw_r_ne (by omega)]; exact h.2.2.2.2.2.2.1
  · unfold qK
    rw [qw_r_ne (a' := 94) (by omega), qw_r_ne (a' := 95) (by omega), qw_r_ne (a' := 96) (by omega)]
    exact h.2.2.2.2.2.2.2.2
theorem qI_r91 {σ α : Nat → Nat → Int} {κ : Nat → Option Nat} {ρ : Nat} (h : qI σ α κ ρ) (i : Nat) {v : Int} (hv : (qI_rr 91).2.1 ≤ v ∧ v ≤ (qI_rr 91).2.2) (hi : v < (i : Int)) : qI σ (qw_r α 91 (qzu (α 91) i v)) κ ρ := by
  refine qI_r1 h 91 i hv ⟨h.2.2.2.1, ?_, h.2.2.2.2.2.1, fun j hj => ?_, h.2.2.2.2.2.2.2⟩
  · rintro b (rfl | rfl)
    · rw [qw_r_ne (by decide)]; exact h.2.2.2.2.1 71 (Or.inl rfl)
    · rw [qw_r_ne (by decide)]; exact h.2.2.2.2.1 74 (Or.inr rfl)
  · rw [qw_r_eq]
    unfold qzu
    by_cases e : j = i
    · rw [if_pos e]
      left
      omega
    · rw [if_neg e]
      exact h.2.2.2.2.2.2.1 j hj
theorem qI_s6 {σ α : Nat → Nat → Int} {κ : Nat → Option Nat} {ρ : Nat} (h : qI σ α κ ρ) {v : Int} (hv : 0 ≤ v ∧ v ≤ 32) (hx : α 91 0 < 0) (h0 : σ 86 15 = 0) (hl : σ 86 6 ≤ v) : qI (qw_s σ 86 6 v) α κ ρ := by
  refine qI_s1 h 86 6 hv ⟨?_, h.2.2.2.2.1, h.2.2.2.2.2.1, fun j hj => ?_, ?_, fun j hj => ?_, fun hk => ?_⟩
  · rw [qw_s_ne (by decide)]; exact h.2.2.2.1
  · rcases h.2.2.2.2.2.2.1 j hj with h1 | ⟨h1, _⟩
    · exact Or.inl h1
    · subst h1
      exact Or.inl hx
  · rw [qw_s_ne (by decide), qw_s_ne (by decide)]; exact h.2.2.2.2.2.2.2.1
  · rw [qw_s_ne (by decide)] at hj
    have h1 := h.2.2.2.2.2.2.2.2.1 j hj
    show (0 ≤ α 94 j ∧ α 94 j < v) ∧ (0 ≤ α 95 j ∧ α 95 j < v)
    omega
  · rw [qw_s_ne (by decide)] at hk
    exact absurd hk (by omega)
theorem qI_s15z {σ α : Nat → Nat → Int} {κ : Nat → Option Nat} {ρ : Nat} (h : qI σ α κ ρ) : qI (qw_s σ 86 15 0) α κ ρ := by
  refine qI_s1 h 86 15 (by decide) ⟨h.2.2.2.1, h.2.2.2.2.1, h.2.2.2.2.2.1, h.2.2.2.2.2.2.1, h.2.2.2.2.2.2.2.1, h.2.2.2.2.2.2.2.2.1, fun hk => ?_⟩
  exact absurd (show (0 : Int) = 1 from hk) (by decide)
theorem qI_s15o {σ α : Nat → Nat → Int} {κ : Nat → Option Nat} {ρ : Nat} (h : qI σ α κ ρ) (hK : ∀ x y : Int, (0 ≤ x ∧ x < σ 86 6) → (0 ≤ y ∧ y < σ 86 6) → qDi (α 94) (α 95) (σ 86 11) (qTb (α 96) x y) x y) : qI (qw_s σ 86 15 1) α κ ρ :=
  qI_s1 h 86 15 (by decide) ⟨h.2.2.2.1, h.2.2.2.2.1, h.2.2.2.2.2.1, h.2.2.2.2.2.2.1, h.2.2.2.2.2.2.2.1, h.2.2.2.2.2.2.2.2.1, fun _ => hK⟩
theorem qI_s11 {σ α : Nat → Nat → Int} {κ : Nat → Option Nat} {ρ : Nat} (h : qI σ α κ ρ) {v : Int} (hv : 0 ≤ v ∧ v ≤ 61) (h0 : σ 86 15 = 0) (hE : ∀ j : Nat, (j : Int) < v → (0 ≤ α 94 j ∧ α 94 j < σ 86 6) ∧ (0 ≤ α 95 j ∧ α 95 j < σ 86 6)) : qI (qw_s σ 86 11 v) α κ ρ :=
  qI_s1 h 86 11 hv ⟨h.2.2.2.1, h.2.2.2.2.1, h.2.2.2.2.2.1, h.2.2.2.2.2.2.1, h.2.2.2.2.2.2.2.1, hE, fun hk => absurd (show σ 86 15 = 1 from hk) (by omega)⟩
theorem qI_s1115 {σ α : Nat → Nat → Int} {κ : Nat → Option Nat} {ρ : Nat} (h : qI σ α κ ρ) {v : Int} (hv : 0 ≤ v ∧ v ≤ 61) (hE : ∀ j : Nat, (j : Int) < v → (0 ≤ α 94 j ∧ α 94 j < σ 86 6) ∧ (0 ≤ α 95 j ∧ α 95 j < σ 86 6)) : qI (qw_s (qw_s σ 86 11 v) 86 15 0) α κ ρ := by
  refine ⟨fun a' k' => ?_, h.2.1, h.2.2.1, h.2.2.2.1, h.2.2.2.2.1, h.2.2.2.2.2.1, h.2.2.2.2.2.2.1, h.2.2.2.2.2.2.2.1, hE, fun hk => absurd (show (0 : Int) = 1 from hk) (by decide)⟩
  by_cases h1 : a' = 86 ∧ k' = 15
  · obtain ⟨rfl, rfl⟩ := h1
    exact (by decide : (0 : Int) ≤ 0 ∧ (0 : Int) ≤ 1)
  · rw [qw_s_ne h1]
    by_cases h2 : a' = 86 ∧ k' = 11
    · obtain ⟨rfl, rfl⟩ := h2
      exact hv
    · rw [qw_s_ne h2]
      exact h.1 a' k'
/-- a tie more at the end -/
theorem qE_new {σ α : Nat → Nat → Int} {κ : Nat → Option Nat} {ρ : Nat} (h : qI σ α κ ρ) {v p q : Int} {k : Nat} (hk : (k : Int) = σ 86 11 ∧ v = σ 86 11 + 1) (r1 : α 94 k = p) (r2 : α 95 k = q) (hp : 0 ≤ p ∧ p < σ 86 6) (hq : 0 ≤ q ∧ q < σ 86 6) : ∀ j : Nat, (j : Int) < v → (0 ≤ α 94 j ∧ α 94 j < σ 86 6) ∧ (0 ≤ α 95 j ∧ α 95 j < σ 86 6) := by
  intro j hj
  by_cases e : j = k
  · rw [e, r1, r2]
    exact ⟨hp, hq⟩
  · exact h.2.2.2.2.2.2.2.2.1 j (by omega)
theorem qE_less {σ α : Nat → Nat → Int} {κ : Nat → Option Nat} {ρ : Nat} (h : qI σ α κ ρ) {v : Int} (hv : v ≤ σ 86 11) : ∀ j : Nat, (j : Int) < v → (0 ≤ α 94 j ∧ α 94 j < σ 86 6) ∧ (0 ≤ α 95 j ∧ α 95 j < σ 86 6) := fun j hj => h.2.2.2.2.2.2.2.2.1 j (by omega)
theorem qI_r94 {σ α : Nat → Nat → Int} {κ : Nat → Option Nat} {ρ : Nat} (h : qI σ α κ ρ) (i : Nat) {v : Int} (hv : 0 ≤ v ∧ v ≤ 31) (hi : σ 86 11 ≤ (i : Int)) : qI σ (qw_r α 94 (qzu (α 94) i v)) κ ρ := by
  have e : ∀ j : Nat, (j : Int) < σ 86 11 → qzu (α 94) i v j = α 94 j := fun j hj => by unfold qzu; rw [if_neg (by omega)]
  refine qI_r1 h 94 i hv ⟨h.2.2.2.1, (fun b hb j hj => by rcases hb with rfl | rfl; exact h.2.2.2.2.1 71 (Or.inl rfl) j hj; exact h.2.2.2.2.1 74 (Or.inr rfl) j hj), h.2.2.2.2.2.1, h.2.2.2.2.2.2.1, h.2.2.2.2.2.2.2.1, fun j hj => ?_, fun hk x y hx hy => ?_⟩
  · show (0 ≤ qzu (α 94) i v j ∧ qzu (α 94) i v j < σ 86 6) ∧ (0 ≤ α 95 j ∧ α 95 j < σ 86 6)
    rw [e j hj]
    exact h.2.2.2.2.2.2.2.2.1 j hj
  · show qDi (qzu (α 94) i v) (α 95) (σ 86 11) (qTb (α 96) x y) x y
    exact qDi_cg e (fun _ _ => rfl) (h.2.2.2.2.2.2.2.2.2 hk x y hx hy)
theorem qI_r95 {σ α : Nat → Nat → Int} {κ : Nat → Option Nat} {ρ : Nat} (h : qI σ α κ ρ) (i : Nat) {v : Int} (hv : 0 ≤ v ∧ v ≤ 31) (hi : σ 86 11 ≤ (i : Int)) : qI σ (qw_r α 95 (qzu (α 95) i v)) κ ρ := by
  have e : ∀ j : Nat, (j : Int) < σ 86 11 → qzu (α 95) i v j = α 95 j := fun j hj => by unfold qzu; rw [if_neg (by omega)]
  refine qI_r1 h 95 i hv ⟨h.2.2.2.1, (fun b hb j hj => by rcases hb with rfl | rfl; exact h.2.2.2.2.1 71 (Or.inl rfl) j hj; exact h.2.2.2.2.1 74 (Or.inr rfl) j hj), h.2.2.2.2.2.1, h.2.2.2.2.2.2.1, h.2.2.2.2.2.2.2.1, fun j hj => ?_, fun hk x y hx hy => ?_⟩
  · show (0 ≤ α 94 j ∧ α 94 j < σ 86 6) ∧ (0 ≤ qzu (α 95) i v j ∧ qzu (α 95) i v j < σ 86 6)
    rw [e j hj]
    exact h.2.2.2.2.2.2.2.2.1 j hj
  · show qDi (α 94) (qzu (α 95) i v) (σ 86 11) (qTb (α 96) x y) x y
    exact qDi_cg (fun _ _ => rfl) e (h.2.2.2.2.2.2.2.2.2 hk x y hx hy)
theorem qI_r96 {σ α : Nat → Nat → Int} {κ : Nat → Option Nat} {ρ : Nat} (h : qI σ α κ ρ) (i : Nat) {v : Int} (hv : 0 ≤ v ∧ v ≤ 99) (h0 : σ 86 15 = 0) : qI σ (qw_r α 96 (qzu (α 96) i v)) κ ρ :=
  qI_r1 h 96 i hv ⟨h.2.2.2.1, (fun b hb j hj => by rcases hb with rfl | rfl; exact h.2.2.2.2.1 71 (Or.inl rfl) j hj; exact h.2.2.2.2.1 74 (Or.inr rfl) j hj), h.2.2.2.2.2.1, h.2.2.2.2.2.2.1, h.2.2.2.2.2.2.2.1, h.2.2.2.2.2.2.2.2.1, fun hk => absurd hk (by omega)⟩
/-- the list of guests: begun anew, one more -/
theorem qI_g0 {σ α : Nat → Nat → Int} {κ : Nat → Option Nat} {ρ : Nat} (h : qI σ α κ ρ) : qI (qw_s σ 64 2 0) α κ ρ := by
  refine qI_s1 h 64 2 (by decide) ⟨fun i j h1 h2 => ?_, h.2.2.2.2⟩
  have h3 : qw_s σ 64 2 0 64 2 = 0 := rfl
  rw [h3] at h2
  omega
theorem qI_g1 {σ α : Nat → Nat → Int} {κ : Nat → Option Nat} {ρ : Nat} (h : qI σ α κ ρ) {s v : Int} (i : Nat) (hs : s = σ 64 2 + 1 ∧ s ≤ 12) (hi : (i : Int) = σ 64 2) (hv : 0 ≤ v ∧ v ≤ 31) (hx : ∀ j : Nat, (j : Int) < σ 64 2 → α 65 j < v) : qI (qw_s σ 64 2 s) (qw_r α 65 (qzu (α 65) i v)) κ ρ := by
  have h0 := h.1 64 2
  have h00 : 0 ≤ σ 64 2 := h0.1
  refine ⟨fun a' k' => ?_, fun a' j hj => ?_, h.2.2.1, fun p q h1 h2 => ?_, ?_, ?_, ?_, ?_⟩
  · by_cases h1 : a' = 64 ∧ k' = 2
    · obtain ⟨rfl, rfl⟩ := h1
      show 0 ≤ qw_s σ 64 2 s 64 2 ∧ qw_s σ 64 2 s 64 2 ≤ 12
      have h3 : qw_s σ 64 2 s 64 2 = s := rfl
      rw [h3]
      omega
    · rw [qw_s_ne h1]
      exact h.1 a' k'
  · by_cases e1 : a' = 65
    · subst e1
      rw [qw_r_eq]
      unfold qzu
      split
      · exact hv
      · exact h.2.1 65 j hj
    · rw [qw_r_ne e1]
      exact h.2.1 a' j hj
  · have h3 : qw_s σ 64 2 s 64 2 = s := rfl
    rw [h3] at h2
    rw [qw_r_eq]
    unfold qzu
    by_cases e1 : q = i
    · rw [if_pos e1, if_neg (by omega)]
      exact hx p (by omega)
    · rw [if_neg e1]
      by_cases e2 : p = i
      · omega
      · rw [if_neg e2]
        exact h.2.2.2.1 p q h1 (by omega)
  · rintro b (rfl | rfl)
    · rw [qw_r_ne (by decide)]; exact h.2.2.2.2.1 71 (Or.inl rfl)
    · rw [qw_r_ne (by decide)]; exact h.2.2.2.2.1 74 (Or.inr rfl)
  · exact h.2.2.2.2.2.1
  · exact h.2.2.2.2.2.2.1
  · exact h.2.2.2.2.2.2.2
theorem qI_r77 {σ α : Nat → Nat → Int} {κ : Nat → Option Nat} {ρ : Nat} (h : qI σ α κ ρ) (i : Nat) {s v : Int} (hv : 0 ≤ v ∧ v ≤ 1919) (hx : (-2147483648 ≤ s ∧ s ≤ 2147483647) ∧ (s = 0 → v ≤ 39) ∧ (s = 2 → v ≤ 31) ∧ (¬ s = 0 → ¬ s = 1 → ¬ s = 2 → v ≤ 59)) : qI σ (qw_r (qw_r α 77 (qzu (α 77) i s)) 78 (qzu (qw_r α 77 (qzu (α 77) i s) 78) i v)) κ ρ := by
  refine ⟨h.1, fun a' j hj => ?_, h.2.2.1, h.2.2.2.1, ?_, fun j hj => ?_, ?_⟩
  · by_cases e1 : a' = 78
    · subst e1
      rw [qw_r_eq]
      unfold qzu
      split
      · exact hv
      · exact h.2.1 78 j hj
    · rw [qw_r_ne e1]
      by_cases e2 : a' = 77
      · subst e2
        rw [qw_r_eq]
        unfold qzu
        split
        · exact hx.1
        · exact h.2.1 77 j hj
      · rw [qw_r_ne e2]
        exact h.2.1 a' j hj
  · rintro b (rfl | rfl)
    · exact h.2.2.2.2.1 71 (Or.inl rfl)
    · exact h.2.2.2.2.1 74 (Or.inr rfl)
  · rw [qw_r_eq, qw_r_ne (by decide), qw_r_eq, qw_r_ne (by decide)]
    unfold qzu
    split
    · exact hx.2
    · exact h.2.2.2.2.2.1 j hj
  · exact h.2.2.2.2.2.2
theorem qI_k {σ α : Nat → Nat → Int} {κ : Nat → Option Nat} {ρ : Nat} (h : qI σ α κ ρ) {y : Int} (hy : 0 ≤ y ∧ y < 2) : ∃ x, κ y.toNat = some x ∧ (x = 50 ∨ x = 54 ∨ x = 82) := by
  have h2 : y = 0 ∨ y = 1 := by omega
  rcases h2 with rfl | rfl
  · exact h.2.2.1.1
  · exact h.2.2.1.2.1
theorem qm_ge (ls : qm_L) (i : Nat) (v : Value) : qm_get (qm_put1 ls i v) i = some v := by
  unfold qm_get qm_put1
  rw [List.find?_cons_of_pos (by simp)]
  rfl
theorem qm_ge2 (ls : qm_L) (i : Nat) (v : Value) : qm_get (qm_put2 ls i v) i = some v := by
  unfold qm_get qm_put2
  rw [List.find?_cons_of_pos (by simp)]
  rfl
theorem qm_gff {l : qm_L} {j : Nat} {v : Value} (f : Nat × Value → Bool) (hf : ∀ u : Value, u.category = v.category → f (j, u) = true) (h : (l.find? (fun q => q.1 == j)).map (fun q => q.2) = some v) : ((l.filter f).find? (fun q => q.1 == j)).map (fun q => q.2) = some v := by
  cases hq : l.find? (fun q => q.1 == j) with
  | none => rw [hq] at h; cases h
  | some q =>
    rw [hq] at h
    have hv : q.2 = v := Option.some.inj h
    have hj : q.1 = j := by simpa using List.find?_some hq
    have e : q = (j, v) := by rw [← hv, ← hj]
    have hp : f q = true := by rw [e]; exact hf v rfl
    have hx : (l.filter f).find? (fun q => q.1 == j) = some q := by
      obtain ⟨hq1, as, bs, hl, hn⟩ := List.find?_eq_some_iff_append.mp hq
      rw [hl, List.filter_append, List.filter_cons_of_pos hp]
      rw [List.find?_append]
      have hz : (as.filter f).find? (fun q => q.1 == j) = none := by
        refine List.find?_eq_none.mpr (fun x hx => ?_)
        have := hn x (List.mem_filter.mp hx).1
        simpa using this
      rw [hz, Option.none_or]
      simp only [List.find?_cons, hq1]
    rw [hx]
    exact congrArg some hv
/-- what stands in another place is found as before -/
theorem qm_gk {ls : qm_L} {i j : Nat} {u v : Value} (h : qm_get ls j = some v) (hij : ¬ j = i) (hc : ¬ j + 1 = i ∨ v.category = 1) : qm_get (qm_put1 ls i u) j = some v := by
  unfold qm_get qm_put1 at *
  rw [List.find?_cons_of_neg (by simp only [beq_iff_eq]; exact fun z => hij z.symm)]
  refine qm_gff _ (fun w hw => ?_) h
  have h1 : (j == i) = false := by simpa using hij
  rcases hc with hc | hc
  · have h2 : (j + 1 == i) = false := by simpa using hc
    simp only [h1, h2, Bool.false_and, Bool.not_false, Bool.and_self]
  · have h2 : (w.category == 2) = false := by rw [hw, hc]; rfl
    simp only [h1, h2, Bool.and_false, Bool.not_false, Bool.and_self]
theorem qm_gk2 {ls : qm_L} {i j : Nat} {u v : Value} (h : qm_get ls j = some v) (hij : ¬ j = i) (hi1 : ¬ j = i + 1) (hc : ¬ j + 1 = i ∨ v.category = 1) : qm_get (qm_put2 ls i u) j = some v := by
  unfold qm_get qm_put2 at *
  rw [List.find?_cons_of_neg (by simp only [beq_iff_eq]; exact fun z => hij z.symm)]
  refine qm_gff _ (fun w hw => ?_) h
  have h1 : (j == i) = false := by simpa using hij
  have h3 : (j == i + 1) = false := by simpa using hi1
  rcases hc with hc | hc
  · have h2 : (j + 1 == i) = false := by simpa using hc
    simp only [h1, h2, h3, Bool.false_and, Bool.not_false, Bool.and_self]
  · have h2 : (w.category == 2) = false := by rw [hw, hc]; rfl
    simp only [h1, h2, h3, Bool.and_false, Bool.not_false, Bool.and_self]
section QYI
variable {X : qm_X} {d : Nat} {x : qs_Ent} {Q : Option Value → qm_W → Prop} {pc : Nat} {ls : qm_L} {st : List Value} {w : qm_W} {c n r1 r2 r3 : Nat} {rv : Value}
/-- a number as the machine has it: in range, nothing else said -/
theorem qy_can {y : Int} (k : ∀ v : Int, (-2147483648 ≤ v ∧ v ≤ 2147483647) → qr_W X d x Q (pc, ls, .int (qz v) :: st, w, c, n)) : qr_W X d x Q (pc, ls, .int (qz y) :: st, w, c, n) := by
  rw [qz_of (qz y)]
  exact k _ (qz_rng _)
theorem qy_canl {y : Int} (k : ∀ v : Int, (-9223372036854775808 ≤ v ∧ v ≤ 9223372036854775807) → qr_W X d x Q (pc, ls, .long (ql v) :: st, w, c, n)) : qr_W X d x Q (pc, ls, .long (ql y) :: st, w, c, n) := by
  rw [ql_of (ql y)]
  exact k _ (ql_rng _)
theorem qy_iincC {z : Nat} {v y : Int} (p : Nat) (hq : qm_fetch x.2.2.2.2.2.2.2 pc = some (pc, .iinc z v, 3, r1, r2, r3, rv)) (hg : qm_get ls z = some (.int (qz y))) (hz : z < x.2.2.2.1) (hp : pc + 3 = p) (k : ∀ u : Int, (-2147483648 ≤ u ∧ u ≤ 2147483647) → qr_W X d x Q (p, qm_put1 ls z (.int (qz u)), st, w, c, n)) : qr_W X d x Q (pc, ls, st, w, c, n) := by
  refine qr_iinc _ p hq hg hz rfl hp ?_
  rw [qz_of (qz (y + v))]
  exact k _ (qz_rng _)
end QYI
theorem qz_msb {x : Int32} (h : 0 ≤ x.toInt) : x.toBitVec.msb = false := by
  rw [BitVec.msb_eq_toInt, decide_eq_false_iff_not]
  exact Int.not_lt.mpr h
theorem qz_andL {a : Int} (b : Int) (h : 0 ≤ a ∧ a ≤ 2147483647) : 0 ≤ qz_and a b ∧ qz_and a b ≤ a := by
  have ha : (qz a).toInt = a := qz_ti (by omega)
  have hm := qz_msb (x := qz a) (by rw [ha]; exact h.1)
  have hm2 : (qz a &&& qz b).toBitVec.msb = false := by rw [Int32.toBitVec_and, BitVec.msb_and, hm, Bool.false_and]
  have e1 : (qz a &&& qz b).toInt = ((qz a &&& qz b).toBitVec.toNat : Int) := BitVec.toInt_eq_toNat_of_msb hm2
  have e2 : (qz a).toInt = ((qz a).toBitVec.toNat : Int) := BitVec.toInt_eq_toNat_of_msb hm
  have e3 : (qz a &&& qz b).toBitVec.toNat ≤ (qz a).toBitVec.toNat := by rw [Int32.toBitVec_and, BitVec.toNat_and]; exact Nat.and_le_left
  unfold qz_and
  omega
theorem qz_and_c (a b : Int) : qz_and a b = qz_and b a := by
  unfold qz_and
  rw [Int32.and_comm]
section QYJ
variable {X : qm_X} {d : Nat} {x : qs_Ent} {Q : Option Value → qm_W → Prop} {pc : Nat} {ls : qm_L} {st : List Value} {w : qm_W} {c n r1 r2 r3 : Nat} {rv : Value}
theorem qy_andl {a b : Int} (h : 0 ≤ a ∧ a ≤ 2147483647) (k : ∀ v : Int, (0 ≤ v ∧ v ≤ a) → qr_W X d x Q (pc, ls, .int (qz v) :: st, w, c, n)) : qr_W X d x Q (pc, ls, .int (qz (qz_and a b)) :: st, w, c, n) := k _ (qz_andL b h)
theorem qy_andr {a b : Int} (h : 0 ≤ b ∧ b ≤ 2147483647) (k : ∀ v : Int, (0 ≤ v ∧ v ≤ b) → qr_W X d x Q (pc, ls, .int (qz v) :: st, w, c, n)) : qr_W X d x Q (pc, ls, .int (qz (qz_and a b)) :: st, w, c, n) := by
  rw [qz_and_c]
  exact k _ (qz_andL a h)
theorem qy_copyi {z a0 a1 n0 n1 : Nat} {sp dp m : Int} {f g : Nat → Int} (p : Nat) (hq : qm_fetch x.2.2.2.2.2.2.2 pc = some (pc, .invokestatic z, 3, r1, r2, 7, rv)) (ha0 : 16 ≤ a0) (ha1 : 16 ≤ a1) (h0 : w[a0 - 16]? = some (.inl (.int, n0, .inl (qzf f)))) (h1 : w[a1 - 16]? = some (.inl (.int, n1, .inl (qzf g)))) (hs : 0 ≤ sp ∧ sp ≤ 1000000) (hd : 0 ≤ dp ∧ dp ≤ 1000000) (hm : 0 ≤ m ∧ m ≤ 1000000) (hn0 : sp.toNat + m.toNat ≤ n0) (hn1 : dp.toNat + m.toNat ≤ n1) (hsum : qm_sum st ≤ 8) (hz : qz 0 = 0) (hp : pc + 3 = p) (k : qr_W X d x Q (p, ls, st, w.set (a1 - 16) (.inl (.int, n1, .inl (qzf (va_cpy f g sp.toNat dp.toNat m.toNat)))), c, n)) : qr_W X d x Q (pc, ls, .int (qz m) :: .int (qz dp) :: .ref a1 :: .int (qz sp) :: .ref a0 :: st, w, c, n) := by
  subst hp
  refine qr_eff hq rfl rfl (s' := (pc + 3, ls, st, w.set (a1 - 16) (.inl (.int, n1, .inl (qzf (va_cpy f g sp.toNat dp.toNat m.toNat)))), c, n)) ?_ k
  have e1 : (qz sp).toNatClampNeg = sp.toNat := qz_clamp (by omega)
  have e2 : (qz dp).toNatClampNeg = dp.toNat := qz_clamp (by omega)
  have e3 : (qz m).toNatClampNeg = m.toNat := qz_clamp (by omega)
  have l1 : ¬ qz sp < 0 := fun h => absurd ((qz_lt (by omega) (by omega)).1 (show qz sp < qz 0 from h)) (by omega)
  have l2 : ¬ qz dp < 0 := fun h => absurd ((qz_lt (by omega) (by omega)).1 (show qz dp < qz 0 from h)) (by omega)
  have l3 : ¬ qz m < 0 := fun h => absurd ((qz_lt (by omega) (by omega)).1 (show qz m < qz 0 from h)) (by omega)
  unfold qm_eff
  refine (if_pos ⟨rfl, rfl, ha0, ha1, l1, l2, l3, hsum⟩).trans ?_
  simp only [h0, h1, e1, e2, e3, qz_cpy]
  rw [if_pos ⟨hn0, hn1⟩]
  rfl
end QYJ
theorem qI_cpy {σ α : Nat → Nat → Int} {κ : Nat → Option Nat} {ρ : Nat} (h : qI σ α κ ρ) (a0 a1 : Nat) {sp dp m : Nat} (hsp : [65, 71, 74, 77, 78, 91, 94, 95, 96].contains a1 = false) (hr : (qI_rr a0).2 = (qI_rr a1).2) (hn : sp + m ≤ (qI_rr a0).1) : qI σ (qw_r α a1 (va_cpy (α a0) (α a1) sp dp m)) κ ρ := by
  refine ⟨h.1, fun a' j hj => ?_, h.2.2.1, qIx_r h.2.2.2 a1 _ hsp⟩
  by_cases h1 : a' = a1
  · subst h1
    rw [qw_r_eq]
    unfold va_cpy
    by_cases h2 : dp ≤ j ∧ j < dp + m
    · rw [if_pos h2, ← hr]
      exact h.2.1 a0 _ (by omega)
    · rw [if_neg h2]
      exact h.2.1 a' j hj
  · rw [qw_r_ne h1]
    exact h.2.1 a' j hj
theorem qI_cpy77 {σ α : Nat → Nat → Int} {κ : Nat → Option Nat} {ρ : Nat} (h : qI σ α κ ρ) {sp dp m : Nat} (hn : sp + m ≤ 40) : qI σ (qw_r (qw_r α 77 (va_cpy (α 77) (α 77) sp dp m)) 78 (va_cpy (qw_r α 77 (va_cpy (α 77) (α 77) sp dp m) 78) (qw_r α 77 (va_cpy (α 77) (α 77) sp dp m) 78) sp dp m)) κ ρ := by
  refine ⟨h.1, fun a' j hj => ?_, h.2.2.1, h.2.2.2.1, ?_, fun j hj => ?_, h.2.2.2.2.2.2⟩
  · by_cases e1 : a' = 78
    · subst e1
      rw [qw_r_eq, qw_r_ne (by decide)]
      unfold va_cpy
      split
      · exact h.2.1 78 _ (show _ < 40 by omega)
      · exact h.2.1 78 j hj
    · rw [qw_r_ne e1]
      by_cases e2 : a' = 77
      · subst e2
        rw [qw_r_eq]
        unfold va_cpy
        split
        · exact h.2.1 77 _ (show _ < 40 by omega)
        · exact h.2.1 77 j hj
      · rw [qw_r_ne e2]
        exact h.2.1 a' j hj
  · rintro b (rfl | rfl)
    · exact h.2.2.2.2.1 71 (Or.inl rfl)
    · exact h.2.2.2.2.1 74 (Or.inr rfl)
  · rw [qw_r_eq, qw_r_ne (by decide), qw_r_eq, qw_r_ne (by decide)]
    unfold va_cpy
    split
    · exact h.2.2.2.2.2.1 _ (by omega)
    · exact h.2.2.2.2.2.1 j hj
section QYK
variable {X : qm_X} {d : Nat} {x : qs_Ent} {Q : Option Value → qm_W → Prop} {pc : Nat} {ls : qm_L} {st : List Value} {w : qm_W} {c n : Nat}
theorem qy_mulb {a b A B C : Int} (ha : 0 ≤ a ∧ a ≤ A) (hb : 0 ≤ b ∧ b ≤ B) (hC : A * B ≤ C) (k : ∀ v : Int, (0 ≤ v ∧ v ≤ C) → qr_W X d x Q (pc, ls, .int (qz v) :: st, w, c, n)) : qr_W X d x Q (pc, ls, .int (qz (a * b)) :: st, w, c, n) := by
  refine k _ ⟨Int.mul_nonneg ha.1 hb.1, Int.le_trans ?_ hC⟩
  exact Int.mul_le_mul ha.2 hb.2 hb.1 (Int.le_trans ha.1 ha.2)
theorem qy_shl1 {b : Int} {N : Nat} (h : 0 ≤ b ∧ b ≤ (N : Int) ∧ N ≤ 12) (k : ∀ v : Int, (1 ≤ v ∧ v ≤ ((2 ^ N : Nat) : Int)) → qr_W X d x Q (pc, ls, .int (qz v) :: st, w, c, n)) : qr_W X d x Q (pc, ls, .int (qz (qz_shl 1 b)) :: st, w, c, n) := by
  obtain ⟨m, rfl⟩ : ∃ m : Nat, b = m := ⟨b.toNat, by omega⟩
  have e : ∀ q : Fin 13, qz_shl 1 ((q : Nat) : Int) = ((2 ^ (q : Nat) : Nat) : Int) := by decide
  have h1 := e ⟨m, by omega⟩
  have h2 : 2 ^ m ≤ 2 ^ N := Nat.pow_le_pow_right (by decide) (by omega)
  have h3 : 1 ≤ 2 ^ m := Nat.one_le_two_pow
  refine k _ ?_
  show 1 ≤ qz_shl 1 (m : Int) ∧ qz_shl 1 (m : Int) ≤ _
  rw [show qz_shl 1 (m : Int) = ((2 ^ m : Nat) : Int) from h1]
  omega
theorem qy_ntz {a : Int} (h : 1 ≤ a ∧ a ≤ 4095) (k : ∀ v : Int, (0 ≤ v ∧ v ≤ 2047) → qr_W X d x Q (pc, ls, .int (qz v) :: st, w, c, n)) : qr_W X d x Q (pc, ls, .int (qz (qz_and (qz_xor a (-1)) (a - 1))) :: st, w, c, n) := by
  obtain ⟨m, rfl⟩ : ∃ m : Nat, a = m := ⟨a.toNat, by omega⟩
  have e : ∀ q r : Fin 64, ((64 * (q : Nat) + (r : Nat) : Nat) = 0 ∨ (0 ≤ qz_and (qz_xor ((64 * (q : Nat) + (r : Nat) : Nat) : Int) (-1)) (((64 * (q : Nat) + (r : Nat) : Nat) : Int) - 1) ∧ qz_and (qz_xor ((64 * (q : Nat) + (r : Nat) : Nat) : Int) (-1)) (((64 * (q : Nat) + (r : Nat) : Nat) : Int) - 1) ≤ 2047)) := by decide +kernel
  have h1 := e ⟨m / 64, by omega⟩ ⟨m % 64, by omega⟩
  have h2 : 64 * (m / 64) + m % 64 = m := Nat.div_add_mod m 64
  simp only [h2] at h1
  rcases h1 with h1 | h1
  · exact absurd h1 (show ¬ m = 0 by omega)
  · exact k _ h1
end QYK
theorem qz_ushrN {a : Int} (b : Int) (k : Nat) (hb : ((qz b).toUInt32 &&& Int32.toUInt32 31) = UInt32.ofNat k) (hk : k < 32) (h : 0 ≤ a ∧ a ≤ 2147483647) : qz_ushr a b = a / ((2 ^ k : Nat) : Int) := by
  have ha : (qz a).toInt = a := qz_ti (by omega)
  have hm := qz_msb (x := qz a) (by rw [ha]; exact h.1)
  have e2 : (qz a).toInt = ((qz a).toBitVec.toNat : Int) := BitVec.toInt_eq_toNat_of_msb hm
  have e4 : (qz a).toUInt32.toNat = a.toNat := by
    have : (qz a).toUInt32.toNat = (qz a).toBitVec.toNat := rfl
    omega
  have e5 : ((qz a).toUInt32 >>> UInt32.ofNat k).toNat = a.toNat / 2 ^ k := by
    rw [UInt32.toNat_shiftRight, e4, UInt32.toNat_ofNat_of_lt' (Nat.lt_trans hk (by decide)), Nat.mod_eq_of_lt hk, Nat.shiftRight_eq_div_pow]
  unfold qz_ushr
  rw [hb]
  generalize (qz a).toUInt32 >>> UInt32.ofNat k = y at e5
  have h1 : y.toNat ≤ a.toNat := by rw [e5]; exact Nat.div_le_self _ _
  have h2 : y.toInt32.toBitVec.msb = false := by
    have : y.toInt32.toBitVec.toNat = y.toNat := rfl
    rw [BitVec.msb_eq_decide, decide_eq_false_iff_not]
    show ¬ 2 ^ 31 ≤ y.toInt32.toBitVec.toNat
    omega
  have h3 : y.toInt32.toInt = (y.toNat : Int) := BitVec.toInt_eq_toNat_of_msb h2
  rw [h3, e5, Int.natCast_ediv]
  congr 1
  omega
theorem qz_ushr1 {a : Int} (h : 0 ≤ a ∧ a ≤ 2147483647) : qz_ushr a 1 = a / 2 := qz_ushrN 1 1 (by decide) (by decide) h
theorem qz_ushr2 {a : Int} (h : 0 ≤ a ∧ a ≤ 2147483647) : qz_ushr a 2 = a / 4 := qz_ushrN 2 2 (by decide) (by decide) h
theorem qz_ushr4 {a : Int} (h : 0 ≤ a ∧ a ≤ 2147483647) : qz_ushr a 4 = a / 16 := qz_ushrN 4 4 (by decide) (by decide) h
theorem qz_ushr8 {a : Int} (h : 0 ≤ a ∧ a ≤ 2147483647) : qz_ushr a 8 = a / 256 := qz_ushrN 8 8 (by decide) (by decide) h
theorem qz_ushr16 {a : Int} (h : 0 ≤ a ∧ a ≤ 2147483647) : qz_ushr a 16 = a / 65536 := qz_ushrN 16 16 (by decide) (by decide) h
theorem qI_li {σ α : Nat → Nat → Int} {κ : Nat → Option Nat} {ρ : Nat} (h : qI σ α κ ρ) (i j : Int) : (0 ≤ i → i < j → j < σ 64 2 → α 65 i.toNat < α 65 j.toNat) ∧ (0 ≤ j → j < i → i < σ 64 2 → α 65 j.toNat < α 65 i.toNat) :=
  ⟨fun h1 h2 h3 => h.2.2.2.1 _ _ (by omega) (by omega), fun h1 h2 h3 => h.2.2.2.1 _ _ (by omega) (by omega)⟩
theorem qe_rr1 (i : Nat) (h : i < 7) : -1 ≤ qe_above.getD i 0 ∧ qe_above.getD i 0 ≤ 4 := by
  have h1 : i = 0 ∨ i = 1 ∨ i = 2 ∨ i = 3 ∨ i = 4 ∨ i = 5 ∨ i = 6 := by omega
  rcases h1 with rfl | rfl | rfl | rfl | rfl | rfl | rfl <;> decide
end
section
/-! ranges out of narrower ones -/
theorem qrg {a l h l' h' : Int} (x : l ≤ a ∧ a ≤ h) (h1 : l' ≤ l) (h2 : h ≤ h') : l' ≤ a ∧ a ≤ h' := ⟨Int.le_trans h1 x.1, Int.le_trans x.2 h2⟩
theorem qrgi {a l h : Int} {N : Nat} (x : l ≤ a ∧ a ≤ h) (h1 : 0 ≤ l) (h2 : h < (N : Int)) : 0 ≤ a ∧ a < (N : Int) := ⟨Int.le_trans h1 x.1, Int.lt_of_le_of_lt x.2 h2⟩
theorem qrgt {a l h : Int} {N : Nat} (x : l ≤ a ∧ a ≤ h) (h2 : h < (N : Int)) (h0 : 0 < N) : a.toNat < N := by omega
end
