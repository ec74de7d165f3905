section QJ
variable {X : qm_X} {d : Nat} {x : qs_Ent} {Q : Option Value → qm_W → Prop} {pc : Nat} {ls : qm_L} {st : List Value} {u w : qm_W} {c n r1 r2 r3 : Nat} {rv : Value} {a : Nat}
theorem qr_inewL {y : Int} {r : qm_W} (ha : a = 16 + u.length) (r' : qm_W) (p c' n' b : Nat) (hq : qm_fetch x.2.2.2.2.2.2.2 pc = some (pc, .newarray .long, 2, r1, r2, r3, rv)) (hy : 0 ≤ y ∧ y ≤ 1000000) (hc : c + 1 ≤ (qm_M1 x).2.2.2.2.1) (hn : n + y.toNat ≤ (qm_M1 x).2.2.2.2.2) (hr : r ++ [.inl (.long, y.toNat, .inr (.inl (qlf (fun _ => 0))))] = r') (hb : r.length = b) (hc2 : c + 1 = c') (hn2 : n + y.toNat = n') (hp : pc + 2 = p) (k : qr_W X d x Q (p, ls, .ref (a + b) :: st, u ++ r', c', n')) : qr_W X d x Q (pc, ls, .int (qz y) :: st, u ++ r, c, n) := by
  subst hr
  subst hb
  refine qr_newL (u ++ (r ++ [.inl (.long, y.toNat, .inr (.inl (qlf (fun _ => 0))))])) p c' n' hq hy hc hn (List.append_assoc _ _ _) hc2 hn2 (a + r.length) (by rw [List.length_append]; omega) hp k
theorem qi_g1 (u : qm_W) {a : Nat} (ha : a = 16 + u.length) (e e1 : qm_E) (r : qm_W) : (u ++ e :: e1 :: r)[a + 1 - 16]? = some e1 := by
  subst ha
  rw [show 16 + u.length + 1 - 16 = u.length + 1 by omega, List.getElem?_append_right (Nat.le_add_right _ _), Nat.add_sub_cancel_left]
  rfl
theorem qr_iist1 {e : qm_E} {r : qm_W} {N : Nat} {y v : Int} {f : Nat → Int} (ha : a = 16 + u.length) (p : Nat) (hq : qm_fetch x.2.2.2.2.2.2.2 pc = some (pc, .iastore, 1, r1, r2, r3, rv)) (hz : 0 ≤ y ∧ y < (N : Int)) (hN : N ≤ 1000000) (hp : pc + 1 = p) (k : qr_W X d x Q (p, ls, st, u ++ e :: .inl (.int, N, .inl (qzf (qzu f y.toNat v))) :: r, c, n)) : qr_W X d x Q (pc, ls, .int (qz v) :: .int (qz y) :: .ref (a + 1) :: st, u ++ e :: .inl (.int, N, .inl (qzf f)) :: r, c, n) := by
  refine qr_iastore p hq (by omega) (qi_g1 u ha _ _ _) hz hN hp ?_
  rw [show a + 1 - 16 = a - 16 + 1 by omega, qi_s1 u ha]
  exact k
end QJ

set_option maxHeartbeats 2000000 in
set_option maxRecDepth 20000 in
/-- Folk.<init> -/
theorem si_Folk {X : qm_X} {d : Nat} {u : qm_W} {a : Nat} (ha : a = 16 + u.length)  : qm_T X (d + 1) 2 [.ref a] (u ++ [.inr (1, [.null, .null, .null, .null, .null, .long (ql 0), .int (qz 0)])]) (fun r w' => r = none ∧ w' = u ++ [.inr (1, [.ref (a + 1), .ref (a + 2), .ref (a + 3), .ref (a + 4), .ref (a + 5), .long (ql 0), .int (qz 0)]), .inl (.int, 32, .inl (qzf (fun _ => 0))), .inl (.int, 32, .inl (qzf (fun _ => 0))), .inl (.int, 32, .inl (qzf (fun _ => 0))), .inl (.int, 32, .inl (qzf (fun _ => 0))), .inl (.long, 32, .inr (.inl (qlf (fun _ => 0))))]) := by
  refine qr_start (d := d + 0) qv_e2 (Nat.le_of_ble_eq_true rfl) ?_
  show qr_W X (d + 0) qx_e2 _ (0, [(0, .ref a)], [], u ++ [.inr (1, [.null, .null, .null, .null, .null, .long (ql 0), .int (qz 0)])], 0, 0)
  refine qr_aload_n 1 rfl rfl rfl ?_
  refine qr_objinit 4 rfl (by decide) rfl ?_
  refine qr_aload_n 5 rfl rfl rfl ?_
  refine qr_bipush 7 rfl (by decide) rfl ?_
  refine qr_inewI ha [.inr (1, [.null, .null, .null, .null, .null, .long (ql 0), .int (qz 0)]), .inl (.int, 32, .inl (qzf (fun _ => 0)))] 9 1 32 1 rfl (by decide) (Nat.le_of_ble_eq_true rfl) (Nat.le_of_ble_eq_true rfl) rfl rfl rfl rfl rfl ?_
  refine qr_iput ha [.ref (a + 1), .null, .null, .null, .null, .long (ql 0), .int (qz 0)] 12 rfl (Nat.le_of_ble_eq_true rfl) (Nat.le_of_ble_eq_true rfl) (Or.inr ⟨by decide, rfl⟩) (qr_fitR (Or.inr ⟨_, rfl⟩) _) rfl rfl ?_
  refine qr_aload_n 13 rfl rfl rfl ?_
  refine qr_bipush 15 rfl (by decide) rfl ?_
  refine qr_inewI ha [.inr (1, [.ref (a + 1), .null, .null, .null, .null, .long (ql 0), .int (qz 0)]), .inl (.int, 32, .inl (qzf (fun _ => 0))), .inl (.int, 32, .inl (qzf (fun _ => 0)))] 17 2 64 2 rfl (by decide) (Nat.le_of_ble_eq_true rfl) (Nat.le_of_ble_eq_true rfl) rfl rfl rfl rfl rfl ?_
  refine qr_iput ha [.ref (a + 1), .ref (a + 2), .null, .null, .null, .long (ql 0), .int (qz 0)] 20 rfl (Nat.le_of_ble_eq_true rfl) (Nat.le_of_ble_eq_true rfl) (Or.inr ⟨by decide, rfl⟩) (qr_fitR (Or.inr ⟨_, rfl⟩) _) rfl rfl ?_
  refine qr_aload_n 21 rfl rfl rfl ?_
  refine qr_bipush 23 rfl (by decide) rfl ?_
  refine qr_inewI ha [.inr (1, [.ref (a + 1), .ref (a + 2), .null, .null, .null, .long (ql 0), .int (qz 0)]), .inl (.int, 32, .inl (qzf (fun _ => 0))), .inl (.int, 32, .inl (qzf (fun _ => 0))), .inl (.int, 32, .inl (qzf (fun _ => 0)))] 25 3 96 3 rfl (by decide) (Nat.le_of_ble_eq_true rfl) (Nat.le_of_ble_eq_true rfl) rfl rfl rfl rfl rfl ?_
  refine qr_iput ha [.ref (a + 1), .ref (a + 2), .ref (a + 3), .null, .null, .long (ql 0), .int (qz 0)] 28 rfl (Nat.le_of_ble_eq_true rfl) (Nat.le_of_ble_eq_true rfl) (Or.inr ⟨by decide, rfl⟩) (qr_fitR (Or.inr ⟨_, rfl⟩) _) rfl rfl ?_
  refine qr_aload_n 29 rfl rfl rfl ?_
  refine qr_bipush 31 rfl (by decide) rfl ?_
  refine qr_inewI ha [.inr (1, [.ref (a + 1), .ref (a + 2), .ref (a + 3), .null, .null, .long (ql 0), .int (qz 0)]), .inl (.int, 32, .inl (qzf (fun _ => 0))), .inl (.int, 32, .inl (qzf (fun _ => 0))), .inl (.int, 32, .inl (qzf (fun _ => 0))), .inl (.int, 32, .inl (qzf (fun _ => 0)))] 33 4 128 4 rfl (by decide) (Nat.le_of_ble_eq_true rfl) (Nat.le_of_ble_eq_true rfl) rfl rfl rfl rfl rfl ?_
  refine qr_iput ha [.ref (a + 1), .ref (a + 2), .ref (a + 3), .ref (a + 4), .null, .long (ql 0), .int (qz 0)] 36 rfl (Nat.le_of_ble_eq_true rfl) (Nat.le_of_ble_eq_true rfl) (Or.inr ⟨by decide, rfl⟩) (qr_fitR (Or.inr ⟨_, rfl⟩) _) rfl rfl ?_
  refine qr_aload_n 37 rfl rfl rfl ?_
  refine qr_bipush 39 rfl (by decide) rfl ?_
  refine qr_inewL ha [.inr (1, [.ref (a + 1), .ref (a + 2), .ref (a + 3), .ref (a + 4), .null, .long (ql 0), .int (qz 0)]), .inl (.int, 32, .inl (qzf (fun _ => 0))), .inl (.int, 32, .inl (qzf (fun _ => 0))), .inl (.int, 32, .inl (qzf (fun _ => 0))), .inl (.int, 32, .inl (qzf (fun _ => 0))), .inl (.long, 32, .inr (.inl (qlf (fun _ => 0))))] 41 5 160 5 rfl (by decide) (Nat.le_of_ble_eq_true rfl) (Nat.le_of_ble_eq_true rfl) rfl rfl rfl rfl rfl ?_
  refine qr_iput ha [.ref (a + 1), .ref (a + 2), .ref (a + 3), .ref (a + 4), .ref (a + 5), .long (ql 0), .int (qz 0)] 44 rfl (Nat.le_of_ble_eq_true rfl) (Nat.le_of_ble_eq_true rfl) (Or.inr ⟨by decide, rfl⟩) (qr_fitR (Or.inr ⟨_, rfl⟩) _) rfl rfl ?_
  refine qr_aload_n 45 rfl rfl rfl ?_
  refine qr_lconst 46 rfl rfl ?_
  refine qr_iput ha [.ref (a + 1), .ref (a + 2), .ref (a + 3), .ref (a + 4), .ref (a + 5), .long (ql 0), .int (qz 0)] 49 rfl (Nat.le_of_ble_eq_true rfl) (Nat.le_of_ble_eq_true rfl) (Or.inl rfl) (qr_fitL rfl _) rfl rfl ?_
  refine qr_aload_n 50 rfl rfl rfl ?_
  refine qr_iconst 51 rfl rfl ?_
  refine qr_iput ha [.ref (a + 1), .ref (a + 2), .ref (a + 3), .ref (a + 4), .ref (a + 5), .long (ql 0), .int (qz 0)] 54 rfl (Nat.le_of_ble_eq_true rfl) (Nat.le_of_ble_eq_true rfl) (Or.inl rfl) (qr_fitI rfl _) rfl rfl ?_
  refine qr_retV rfl rfl (Nat.le_of_ble_eq_true rfl) (Nat.le_of_ble_eq_true rfl) ?_
  exact ⟨rfl, rfl⟩

set_option maxHeartbeats 2000000 in
set_option maxRecDepth 20000 in
/-- Feuds.<init> -/
theorem si_Feuds {X : qm_X} {d : Nat} {u : qm_W} {a : Nat} (ha : a = 16 + u.length)  : qm_T X (d + 1) 5 [.ref a] (u ++ [.inr (3, [.null, .null, .null, .null, .null, .null, .long (ql 0), .int (qz 0)])]) (fun r w' => r = none ∧ w' = u ++ [.inr (3, [.ref (a + 1), .ref (a + 2), .ref (a + 3), .ref (a + 4), .ref (a + 5), .ref (a + 6), .long (ql 0), .int (qz 0)]), .inl (.int, 40, .inl (qzf (fun _ => 0))), .inl (.int, 40, .inl (qzf (fun _ => 0))), .inl (.int, 40, .inl (qzf (fun _ => 0))), .inl (.int, 40, .inl (qzf (fun _ => 0))), .inl (.int, 40, .inl (qzf (fun _ => 0))), .inl (.int, 40, .inl (qzf (fun _ => 0)))]) := by
  refine qr_start (d := d + 0) qv_e5 (Nat.le_of_ble_eq_true rfl) ?_
  show qr_W X (d + 0) qx_e5 _ (0, [(0, .ref a)], [], u ++ [.inr (3, [.null, .null, .null, .null, .null, .null, .long (ql 0), .int (qz 0)])], 0, 0)
  refine qr_aload_n 1 rfl rfl rfl ?_
  refine qr_objinit 4 rfl (by decide) rfl ?_
  refine qr_aload_n 5 rfl rfl rfl ?_
  refine qr_bipush 7 rfl (by decide) rfl ?_
  refine qr_inewI ha [.inr (3, [.null, .null, .null, .null, .null, .null, .long (ql 0), .int (qz 0)]), .inl (.int, 40, .inl (qzf (fun _ => 0)))] 9 1 40 1 rfl (by decide) (Nat.le_of_ble_eq_true rfl) (Nat.le_of_ble_eq_true rfl) rfl rfl rfl rfl rfl ?_
  refine qr_iput ha [.ref (a + 1), .null, .null, .null, .null, .null, .long (ql 0), .int (qz 0)] 12 rfl (Nat.le_of_ble_eq_true rfl) (Nat.le_of_ble_eq_true rfl) (Or.inr ⟨by decide, rfl⟩) (qr_fitR (Or.inr ⟨_, rfl⟩) _) rfl rfl ?_
  refine qr_aload_n 13 rfl rfl rfl ?_
  refine qr_bipush 15 rfl (by decide) rfl ?_
  refine qr_inewI ha [.inr (3, [.ref (a + 1), .null, .null, .null, .null, .null, .long (ql 0), .int (qz 0)]), .inl (.int, 40, .inl (qzf (fun _ => 0))), .inl (.int, 40, .inl (qzf (fun _ => 0)))] 17 2 80 2 rfl (by decide) (Nat.le_of_ble_eq_true rfl) (Nat.le_of_ble_eq_true rfl) rfl rfl rfl rfl rfl ?_
  refine qr_iput ha [.ref (a + 1), .ref (a + 2), .null, .null, .null, .null, .long (ql 0), .int (qz 0)] 20 rfl (Nat.le_of_ble_eq_true rfl) (Nat.le_of_ble_eq_true rfl) (Or.inr ⟨by decide, rfl⟩) (qr_fitR (Or.inr ⟨_, rfl⟩) _) rfl rfl ?_
  refine qr_aload_n 21 rfl rfl rfl ?_
  refine qr_bipush 23 rfl (by decide) rfl ?_
  refine qr_inewI ha [.inr (3, [.ref (a + 1), .ref (a + 2), .null, .null, .null, .null, .long (ql 0), .int (qz 0)]), .inl (.int, 40, .inl (qzf (fun _ => 0))), .inl (.int, 40, .inl (qzf (fun _ => 0))), .inl (.int, 40, .inl (qzf (fun _ => 0)))] 25 3 120 3 rfl (by decide) (Nat.le_of_ble_eq_true rfl) (Nat.le_of_ble_eq_true rfl) rfl rfl rfl rfl rfl ?_
  refine qr_iput ha [.ref (a + 1), .ref (a + 2), .ref (a + 3), .null, .null, .null, .long (ql 0), .int (qz 0)] 28 rfl (Nat.le_of_ble_eq_true rfl) (Nat.le_of_ble_eq_true rfl) (Or.inr ⟨by decide, rfl⟩) (qr_fitR (Or.inr ⟨_, rfl⟩) _) rfl rfl ?_
  refine qr_aload_n 29 rfl rfl rfl ?_
  refine qr_bipush 31 rfl (by decide) rfl ?_
  refine qr_inewI ha [.inr (3, [.ref (a + 1), .ref (a + 2), .ref (a + 3), .null, .null, .null, .long (ql 0), .int (qz 0)]), .inl (.int, 40, .inl (qzf (fun _ => 0))), .inl (.int, 40, .inl (qzf (fun _ => 0))), .inl (.int, 40, .inl (qzf (fun _ => 0))), .inl (.int, 40, .inl (qzf (fun _ => 0)))] 33 4 160 4 rfl (by decide) (Nat.le_of_ble_eq_true rfl) (Nat.le_of_ble_eq_true rfl) rfl rfl rfl rfl rfl ?_
  refine qr_iput ha [.ref (a + 1), .ref (a + 2), .ref (a + 3), .ref (a + 4), .null, .null, .long (ql 0), .int (qz 0)] 36 rfl (Nat.le_of_ble_eq_true rfl) (Nat.le_of_ble_eq_true rfl) (Or.inr ⟨by decide, rfl⟩) (qr_fitR (Or.inr ⟨_, rfl⟩) _) rfl rfl ?_
  refine qr_aload_n 37 rfl rfl rfl ?_
  refine qr_bipush 39 rfl (by decide) rfl ?_
  refine qr_inewI ha [.inr (3, [.ref (a + 1), .ref (a + 2), .ref (a + 3), .ref (a + 4), .null, .null, .long (ql 0), .int (qz 0)]), .inl (.int, 40, .inl (qzf (fun _ => 0))), .inl (.int, 40, .inl (qzf (fun _ => 0))), .inl (.int, 40, .inl (qzf (fun _ => 0))), .inl (.int, 40, .inl (qzf (fun _ => 0))), .inl (.int, 40, .inl (qzf (fun _ => 0)))] 41 5 200 5 rfl (by decide) (Nat.le_of_ble_eq_true rfl) (Nat.le_of_ble_eq_true rfl) rfl rfl rfl rfl rfl ?_
  refine qr_iput ha [.ref (a + 1), .ref (a + 2), .ref (a + 3), .ref (a + 4), .ref (a + 5), .null, .long (ql 0), .int (qz 0)] 44 rfl (Nat.le_of_ble_eq_true rfl) (Nat.le_of_ble_eq_true rfl) (Or.inr ⟨by decide, rfl⟩) (qr_fitR (Or.inr ⟨_, rfl⟩) _) rfl rfl ?_
  refine qr_aload_n 45 rfl rfl rfl ?_
  refine qr_bipush 47 rfl (by decide) rfl ?_
  refine qr_inewI ha [.inr (3, [.ref (a + 1), .ref (a + 2), .ref (a + 3), .ref (a + 4), .ref (a + 5), .null, .long (ql 0), .int (qz 0)]), .inl (.int, 40, .inl (qzf (fun _ => 0))), .inl (.int, 40, .inl (qzf (fun _ => 0))), .inl (.int, 40, .inl (qzf (fun _ => 0))), .inl (.int, 40, .inl (qzf (fun _ => 0))), .inl (.int, 40, .inl (qzf (fun _ => 0))), .inl (.int, 40, .inl (qzf (fun _ => 0)))] 49 6 240 6 rfl (by decide) (Nat.le_of_ble_eq_true rfl) (Nat.le_of_ble_eq_true rfl) rfl rfl rfl rfl rfl ?_
  refine qr_iput ha [.ref (a + 1), .ref (a + 2), .ref (a + 3), .ref (a + 4), .ref (a + 5), .ref (a + 6), .long (ql 0), .int (qz 0)] 52 rfl (Nat.le_of_ble_eq_true rfl) (Nat.le_of_ble_eq_true rfl) (Or.inr ⟨by decide, rfl⟩) (qr_fitR (Or.inr ⟨_, rfl⟩) _) rfl rfl ?_
  refine qr_aload_n 53 rfl rfl rfl ?_
  refine qr_lconst 54 rfl rfl ?_
  refine qr_iput ha [.ref (a + 1), .ref (a + 2), .ref (a + 3), .ref (a + 4), .ref (a + 5), .ref (a + 6), .long (ql 0), .int (qz 0)] 57 rfl (Nat.le_of_ble_eq_true rfl) (Nat.le_of_ble_eq_true rfl) (Or.inl rfl) (qr_fitL rfl _) rfl rfl ?_
  refine qr_aload_n 58 rfl rfl rfl ?_
  refine qr_iconst 59 rfl rfl ?_
  refine qr_iput ha [.ref (a + 1), .ref (a + 2), .ref (a + 3), .ref (a + 4), .ref (a + 5), .ref (a + 6), .long (ql 0), .int (qz 0)] 62 rfl (Nat.le_of_ble_eq_true rfl) (Nat.le_of_ble_eq_true rfl) (Or.inl rfl) (qr_fitI rfl _) rfl rfl ?_
  refine qr_retV rfl rfl (Nat.le_of_ble_eq_true rfl) (Nat.le_of_ble_eq_true rfl) ?_
  exact ⟨rfl, rfl⟩

set_option maxHeartbeats 2000000 in
set_option maxRecDepth 20000 in
/-- Peaces.<init> -/
theorem si_Peaces {X : qm_X} {d : Nat} {u : qm_W} {a : Nat} (ha : a = 16 + u.length)  : qm_T X (d + 1) 6 [.ref a] (u ++ [.inr (4, [.null, .null, .null, .null, .null, .null, .null, .int (qz 0)])]) (fun r w' => r = none ∧ w' = u ++ [.inr (4, [.ref (a + 1), .ref (a + 2), .ref (a + 3), .ref (a + 4), .ref (a + 5), .ref (a + 6), .ref (a + 7), .int (qz 0)]), .inl (.int, 60, .inl (qzf (fun _ => 0))), .inl (.int, 60, .inl (qzf (fun _ => 0))), .inl (.int, 60, .inl (qzf (fun _ => 0))), .inl (.int, 60, .inl (qzf (fun _ => 0))), .inl (.int, 60, .inl (qzf (fun _ => 0))), .inl (.int, 60, .inl (qzf (fun _ => 0))), .inl (.long, 60, .inr (.inl (qlf (fun _ => 0))))]) := by
  refine qr_start (d := d + 0) qv_e6 (Nat.le_of_ble_eq_true rfl) ?_
  show qr_W X (d + 0) qx_e6 _ (0, [(0, .ref a)], [], u ++ [.inr (4, [.null, .null, .null, .null, .null, .null, .null, .int (qz 0)])], 0, 0)
  refine qr_aload_n 1 rfl rfl rfl ?_
  refine qr_objinit 4 rfl (by decide) rfl ?_
  refine qr_aload_n 5 rfl rfl rfl ?_
  refine qr_bipush 7 rfl (by decide) rfl ?_
  refine qr_inewI ha [.inr (4, [.null, .null, .null, .null, .null, .null, .null, .int (qz 0)]), .inl (.int, 60, .inl (qzf (fun _ => 0)))] 9 1 60 1 rfl (by decide) (Nat.le_of_ble_eq_true rfl) (Nat.le_of_ble_eq_true rfl) rfl rfl rfl rfl rfl ?_
  refine qr_iput ha [.ref (a + 1), .null, .null, .null, .null, .null, .null, .int (qz 0)] 12 rfl (Nat.le_of_ble_eq_true rfl) (Nat.le_of_ble_eq_true rfl) (Or.inr ⟨by decide, rfl⟩) (qr_fitR (Or.inr ⟨_, rfl⟩) _) rfl rfl ?_
  refine qr_aload_n 13 rfl rfl rfl ?_
  refine qr_bipush 15 rfl (by decide) rfl ?_
  refine qr_inewI ha [.inr (4, [.ref (a + 1), .null, .null, .null, .null, .null, .null, .int (qz 0)]), .inl (.int, 60, .inl (qzf (fun _ => 0))), .inl (.int, 60, .inl (qzf (fun _ => 0)))] 17 2 120 2 rfl (by decide) (Nat.le_of_ble_eq_true rfl) (Nat.le_of_ble_eq_true rfl) rfl rfl rfl rfl rfl ?_
  refine qr_iput ha [.ref (a + 1), .ref (a + 2), .null, .null, .null, .null, .null, .int (qz 0)] 20 rfl (Nat.le_of_ble_eq_true rfl) (Nat.le_of_ble_eq_true rfl) (Or.inr ⟨by decide, rfl⟩) (qr_fitR (Or.inr ⟨_, rfl⟩) _) rfl rfl ?_
  refine qr_aload_n 21 rfl rfl rfl ?_
  refine qr_bipush 23 rfl (by decide) rfl ?_
  refine qr_inewI ha [.inr (4, [.ref (a + 1), .ref (a + 2), .null, .null, .null, .null, .null, .int (qz 0)]), .inl (.int, 60, .inl (qzf (fun _ => 0))), .inl (.int, 60, .inl (qzf (fun _ => 0))), .inl (.int, 60, .inl (qzf (fun _ => 0)))] 25 3 180 3 rfl (by decide) (Nat.le_of_ble_eq_true rfl) (Nat.le_of_ble_eq_true rfl) rfl rfl rfl rfl rfl ?_
  refine qr_iput ha [.ref (a + 1), .ref (a + 2), .ref (a + 3), .null, .null, .null, .null, .int (qz 0)] 28 rfl (Nat.le_of_ble_eq_true rfl) (Nat.le_of_ble_eq_true rfl) (Or.inr ⟨by decide, rfl⟩) (qr_fitR (Or.inr ⟨_, rfl⟩) _) rfl rfl ?_
  refine qr_aload_n 29 rfl rfl rfl ?_
  refine qr_bipush 31 rfl (by decide) rfl ?_
  refine qr_inewI ha [.inr (4, [.ref (a + 1), .ref (a + 2), .ref (a + 3), .null, .null, .null, .null, .int (qz 0)]), .inl (.int, 60, .inl (qzf (fun _ => 0))), .inl (.int, 60, .inl (qzf (fun _ => 0))), .inl (.int, 60, .inl (qzf (fun _ => 0))), .inl (.int, 60, .inl (qzf (fun _ => 0)))] 33 4 240 4 rfl (by decide) (Nat.le_of_ble_eq_true rfl) (Nat.le_of_ble_eq_true rfl) rfl rfl rfl rfl rfl ?_
  refine qr_iput ha [.ref (a + 1), .ref (a + 2), .ref (a + 3), .ref (a + 4), .null, .null, .null, .int (qz 0)] 36 rfl (Nat.le_of_ble_eq_true rfl) (Nat.le_of_ble_eq_true rfl) (Or.inr ⟨by decide, rfl⟩) (qr_fitR (Or.inr ⟨_, rfl⟩) _) rfl rfl ?_
  refine qr_aload_n 37 rfl rfl rfl ?_
  refine qr_bipush 39 rfl (by decide) rfl ?_
  refine qr_inewI ha [.inr (4, [.ref (a + 1), .ref (a + 2), .ref (a + 3), .ref (a + 4), .null, .null, .null, .int (qz 0)]), .inl (.int, 60, .inl (qzf (fun _ => 0))), .inl (.int, 60, .inl (qzf (fun _ => 0))), .inl (.int, 60, .inl (qzf (fun _ => 0))), .inl (.int, 60, .inl (qzf (fun _ => 0))), .inl (.int, 60, .inl (qzf (fun _ => 0)))] 41 5 300 5 rfl (by decide) (Nat.le_of_ble_eq_true rfl) (Nat.le_of_ble_eq_true rfl) rfl rfl rfl rfl rfl ?_
  refine qr_iput ha [.ref (a + 1), .ref (a + 2), .ref (a + 3), .ref (a + 4), .ref (a + 5), .null, .null, .int (qz 0)] 44 rfl (Nat.le_of_ble_eq_true rfl) (Nat.le_of_ble_eq_true rfl) (Or.inr ⟨by decide, rfl⟩) (qr_fitR (Or.inr ⟨_, rfl⟩) _) rfl rfl ?_
  refine qr_aload_n 45 rfl rfl rfl ?_
  refine qr_bipush 47 rfl (by decide) rfl ?_
  refine qr_inewI ha [.inr (4, [.ref (a + 1), .ref (a + 2), .ref (a + 3), .ref (a + 4), .ref (a + 5), .null, .null, .int (qz 0)]), .inl (.int, 60, .inl (qzf (fun _ => 0))), .inl (.int, 60, .inl (qzf (fun _ => 0))), .inl (.int, 60, .inl (qzf (fun _ => 0))), .inl (.int, 60, .inl (qzf (fun _ => 0))), .inl (.int, 60, .inl (qzf (fun _ => 0))), .inl (.int, 60, .inl (qzf (fun _ => 0)))] 49 6 360 6 rfl (by decide) (Nat.le_of_ble_eq_true rfl) (Nat.le_of_ble_eq_true rfl) rfl rfl rfl rfl rfl ?_
  refine qr_iput ha [.ref (a + 1), .ref (a + 2), .ref (a + 3), .ref (a + 4), .ref (a + 5), .ref (a + 6), .null, .int (qz 0)] 52 rfl (Nat.le_of_ble_eq_true rfl) (Nat.le_of_ble_eq_true rfl) (Or.inr ⟨by decide, rfl⟩) (qr_fitR (Or.inr ⟨_, rfl⟩) _) rfl rfl ?_
  refine qr_aload_n 53 rfl rfl rfl ?_
  refine qr_bipush 55 rfl (by decide) rfl ?_
  refine qr_inewL ha [.inr (4, [.ref (a + 1), .ref (a + 2), .ref (a + 3), .ref (a + 4), .ref (a + 5), .ref (a + 6), .null, .int (qz 0)]), .inl (.int, 60, .inl (qzf (fun _ => 0))), .inl (.int, 60, .inl (qzf (fun _ => 0))), .inl (.int, 60, .inl (qzf (fun _ => 0))), .inl (.int, 60, .inl (qzf (fun _ => 0))), .inl (.int, 60, .inl (qzf (fun _ => 0))), .inl (.int, 60, .inl (qzf (fun _ => 0))), .inl (.long, 60, .inr (.inl (qlf (fun _ => 0))))] 57 7 420 7 rfl (by decide) (Nat.le_of_ble_eq_true rfl) (Nat.le_of_ble_eq_true rfl) rfl rfl rfl rfl rfl ?_
  refine qr_iput ha [.ref (a + 1), .ref (a + 2), .ref (a + 3), .ref (a + 4), .ref (a + 5), .ref (a + 6), .ref (a + 7), .int (qz 0)] 60 rfl (Nat.le_of_ble_eq_true rfl) (Nat.le_of_ble_eq_true rfl) (Or.inr ⟨by decide, rfl⟩) (qr_fitR (Or.inr ⟨_, rfl⟩) _) rfl rfl ?_
  refine qr_aload_n 61 rfl rfl rfl ?_
  refine qr_iconst 62 rfl rfl ?_
  refine qr_iput ha [.ref (a + 1), .ref (a + 2), .ref (a + 3), .ref (a + 4), .ref (a + 5), .ref (a + 6), .ref (a + 7), .int (qz 0)] 65 rfl (Nat.le_of_ble_eq_true rfl) (Nat.le_of_ble_eq_true rfl) (Or.inl rfl) (qr_fitI rfl _) rfl rfl ?_
  refine qr_retV rfl rfl (Nat.le_of_ble_eq_true rfl) (Nat.le_of_ble_eq_true rfl) ?_
  exact ⟨rfl, rfl⟩

set_option maxHeartbeats 2000000 in
set_option maxRecDepth 20000 in
/-- Acts.<init> -/
theorem si_Acts {X : qm_X} {d : Nat} {u : qm_W} {a : Nat} (ha : a = 16 + u.length)  : qm_T X (d + 1) 7 [.ref a] (u ++ [.inr (5, [.null, .int (qz 0)])]) (fun r w' => r = none ∧ w' = u ++ [.inr (5, [.ref (a + 1), .int (qz 0)]), .inl (.int, 24, .inl (qzf (fun _ => 0)))]) := by
  refine qr_start (d := d + 0) qv_e7 (Nat.le_of_ble_eq_true rfl) ?_
  show qr_W X (d + 0) qx_e7 _ (0, [(0, .ref a)], [], u ++ [.inr (5, [.null, .int (qz 0)])], 0, 0)
  refine qr_aload_n 1 rfl rfl rfl ?_
  refine qr_objinit 4 rfl (by decide) rfl ?_
  refine qr_aload_n 5 rfl rfl rfl ?_
  refine qr_bipush 7 rfl (by decide) rfl ?_
  refine qr_inewI ha [.inr (5, [.null, .int (qz 0)]), .inl (.int, 24, .inl (qzf (fun _ => 0)))] 9 1 24 1 rfl (by decide) (Nat.le_of_ble_eq_true rfl) (Nat.le_of_ble_eq_true rfl) rfl rfl rfl rfl rfl ?_
  refine qr_iput ha [.ref (a + 1), .int (qz 0)] 12 rfl (Nat.le_of_ble_eq_true rfl) (Nat.le_of_ble_eq_true rfl) (Or.inr ⟨by decide, rfl⟩) (qr_fitR (Or.inr ⟨_, rfl⟩) _) rfl rfl ?_
  refine qr_aload_n 13 rfl rfl rfl ?_
  refine qr_iconst 14 rfl rfl ?_
  refine qr_iput ha [.ref (a + 1), .int (qz 0)] 17 rfl (Nat.le_of_ble_eq_true rfl) (Nat.le_of_ble_eq_true rfl) (Or.inl rfl) (qr_fitI rfl _) rfl rfl ?_
  refine qr_retV rfl rfl (Nat.le_of_ble_eq_true rfl) (Nat.le_of_ble_eq_true rfl) ?_
  exact ⟨rfl, rfl⟩

set_option maxHeartbeats 2000000 in
set_option maxRecDepth 20000 in
/-- Pegs.<init> -/
theorem si_Pegs {X : qm_X} {d : Nat} {u : qm_W} {a : Nat} (ha : a = 16 + u.length)  : qm_T X (d + 1) 8 [.ref a] (u ++ [.inr (6, [.null, .null, .null, .null])]) (fun r w' => r = none ∧ w' = u ++ [.inr (6, [.ref (a + 1), .ref (a + 2), .ref (a + 3), .ref (a + 4)]), .inl (.int, 6, .inl (qzf (qzu (qzu (qzu (qzu (qzu (qzu (fun _ => 0) (0 : Int).toNat 6) (1 : Int).toNat 6) (2 : Int).toNat 6) (3 : Int).toNat 6) (4 : Int).toNat 6) (5 : Int).toNat 6))), .inl (.int, 6, .inl (qzf (fun _ => 0))), .inl (.int, 6, .inl (qzf (fun _ => 0))), .inl (.long, 360, .inr (.inl (qlf (fun _ => 0))))]) := by
  refine qr_start (d := d + 0) qv_e8 (Nat.le_of_ble_eq_true rfl) ?_
  show qr_W X (d + 0) qx_e8 _ (0, [(0, .ref a)], [], u ++ [.inr (6, [.null, .null, .null, .null])], 0, 0)
  refine qr_aload_n 1 rfl rfl rfl ?_
  refine qr_objinit 4 rfl (by decide) rfl ?_
  refine qr_aload_n 5 rfl rfl rfl ?_
  refine qr_bipush 7 rfl (by decide) rfl ?_
  refine qr_inewI ha [.inr (6, [.null, .null, .null, .null]), .inl (.int, 6, .inl (qzf (fun _ => 0)))] 9 1 6 1 rfl (by decide) (Nat.le_of_ble_eq_true rfl) (Nat.le_of_ble_eq_true rfl) rfl rfl rfl rfl rfl ?_
  refine qr_dup 10 rfl rfl rfl ?_
  refine qr_iconst 11 rfl rfl ?_
  refine qr_bipush 13 rfl (by decide) rfl ?_
  refine qr_iist1 ha 14 rfl (by omega) (by omega) rfl ?_
  refine qr_dup 15 rfl rfl rfl ?_
  refine qr_iconst 16 rfl rfl ?_
  refine qr_bipush 18 rfl (by decide) rfl ?_
  refine qr_iist1 ha 19 rfl (by omega) (by omega) rfl ?_
  refine qr_dup 20 rfl rfl rfl ?_
  refine qr_iconst 21 rfl rfl ?_
  refine qr_bipush 23 rfl (by decide) rfl ?_
  refine qr_iist1 ha 24 rfl (by omega) (by omega) rfl ?_
  refine qr_dup 25 rfl rfl rfl ?_
  refine qr_iconst 26 rfl rfl ?_
  refine qr_bipush 28 rfl (by decide) rfl ?_
  refine qr_iist1 ha 29 rfl (by omega) (by omega) rfl ?_
  refine qr_dup 30 rfl rfl rfl ?_
  refine qr_iconst 31 rfl rfl ?_
  refine qr_bipush 33 rfl (by decide) rfl ?_
  refine qr_iist1 ha 34 rfl (by omega) (by omega) rfl ?_
  refine qr_dup 35 rfl rfl rfl ?_
  refine qr_iconst 36 rfl rfl ?_
  refine qr_bipush 38 rfl (by decide) rfl ?_
  refine qr_iist1 ha 39 rfl (by omega) (by omega) rfl ?_
  refine qr_iput ha [.ref (a + 1), .null, .null, .null] 42 rfl (Nat.le_of_ble_eq_true rfl) (Nat.le_of_ble_eq_true rfl) (Or.inr ⟨by decide, rfl⟩) (qr_fitR (Or.inr ⟨_, rfl⟩) _) rfl rfl ?_
  refine qr_aload_n 43 rfl rfl rfl ?_
  refine qr_bipush 45 rfl (by decide) rfl ?_
  refine qr_inewI ha [.inr (6, [.ref (a + 1), .null, .null, .null]), .inl (.int, 6, .inl (qzf (qzu (qzu (qzu (qzu (qzu (qzu (fun _ => 0) (0 : Int).toNat 6) (1 : Int).toNat 6) (2 : Int).toNat 6) (3 : Int).toNat 6) (4 : Int).toNat 6) (5 : Int).toNat 6))), .inl (.int, 6, .inl (qzf (fun _ => 0)))] 47 2 12 2 rfl (by decide) (Nat.le_of_ble_eq_true rfl) (Nat.le_of_ble_eq_true rfl) rfl rfl rfl rfl rfl ?_
  refine qr_iput ha [.ref (a + 1), .ref (a + 2), .null, .null] 50 rfl (Nat.le_of_ble_eq_true rfl) (Nat.le_of_ble_eq_true rfl) (Or.inr ⟨by decide, rfl⟩) (qr_fitR (Or.inr ⟨_, rfl⟩) _) rfl rfl ?_
  refine qr_aload_n 51 rfl rfl rfl ?_
  refine qr_bipush 53 rfl (by decide) rfl ?_
  refine qr_inewI ha [.inr (6, [.ref (a + 1), .ref (a + 2), .null, .null]), .inl (.int, 6, .inl (qzf (qzu (qzu (qzu (qzu (qzu (qzu (fun _ => 0) (0 : Int).toNat 6) (1 : Int).toNat 6) (2 : Int).toNat 6) (3 : Int).toNat 6) (4 : Int).toNat 6) (5 : Int).toNat 6))), .inl (.int, 6, .inl (qzf (fun _ => 0))), .inl (.int, 6, .inl (qzf (fun _ => 0)))] 55 3 18 3 rfl (by decide) (Nat.le_of_ble_eq_true rfl) (Nat.le_of_ble_eq_true rfl) rfl rfl rfl rfl rfl ?_
  refine qr_iput ha [.ref (a + 1), .ref (a + 2), .ref (a + 3), .null] 58 rfl (Nat.le_of_ble_eq_true rfl) (Nat.le_of_ble_eq_true rfl) (Or.inr ⟨by decide, rfl⟩) (qr_fitR (Or.inr ⟨_, rfl⟩) _) rfl rfl ?_
  refine qr_aload_n 59 rfl rfl rfl ?_
  refine qr_sipush 62 rfl (by decide) rfl ?_
  refine qr_inewL ha [.inr (6, [.ref (a + 1), .ref (a + 2), .ref (a + 3), .null]), .inl (.int, 6, .inl (qzf (qzu (qzu (qzu (qzu (qzu (qzu (fun _ => 0) (0 : Int).toNat 6) (1 : Int).toNat 6) (2 : Int).toNat 6) (3 : Int).toNat 6) (4 : Int).toNat 6) (5 : Int).toNat 6))), .inl (.int, 6, .inl (qzf (fun _ => 0))), .inl (.int, 6, .inl (qzf (fun _ => 0))), .inl (.long, 360, .inr (.inl (qlf (fun _ => 0))))] 64 4 378 4 rfl (by decide) (Nat.le_of_ble_eq_true rfl) (Nat.le_of_ble_eq_true rfl) rfl rfl rfl rfl rfl ?_
  refine qr_iput ha [.ref (a + 1), .ref (a + 2), .ref (a + 3), .ref (a + 4)] 67 rfl (Nat.le_of_ble_eq_true rfl) (Nat.le_of_ble_eq_true rfl) (Or.inr ⟨by decide, rfl⟩) (qr_fitR (Or.inr ⟨_, rfl⟩) _) rfl rfl ?_
  refine qr_retV rfl rfl (Nat.le_of_ble_eq_true rfl) (Nat.le_of_ble_eq_true rfl) ?_
  exact ⟨rfl, rfl⟩

set_option maxHeartbeats 2000000 in
set_option maxRecDepth 20000 in
/-- Moment.<init> -/
theorem si_Moment {X : qm_X} {d : Nat} {u : qm_W} {a : Nat} {b1 b2 b3 b4 b5 : Nat} (ha : a = 16 + u.length)  : qm_T X (d + 1) 34 [.ref a, .ref b1, .ref b2, .ref b3, .ref b4, .ref b5] (u ++ [.inr (8, [.null, .null, .null, .null, .null, .null, .null, .null, .null, .null, .long (ql 0), .int (qz 0), .int (qz 0)])]) (fun r w' => r = none ∧ w' = u ++ [.inr (8, [.ref b1, .ref b2, .ref b3, .ref b4, .ref b5, .ref (a + 1), .ref (a + 2), .ref (a + 3), .ref (a + 4), .ref (a + 5), .long (ql 0), .int (qz 0), .int (qz 0)]), .inl (.int, 9, .inl (qzf (fun _ => 0))), .inl (.int, 496, .inl (qzf (fun _ => 0))), .inl (.int, 496, .inl (qzf (fun _ => 0))), .inl (.long, 496, .inr (.inl (qlf (fun _ => 0)))), .inl (.int, 496, .inl (qzf (fun _ => 0)))]) := by
  refine qr_start (d := d + 0) qv_e34 (Nat.le_of_ble_eq_true rfl) ?_
  show qr_W X (d + 0) qx_e34 _ (0, [(0, .ref a), (1, .ref b1), (2, .ref b2), (3, .ref b3), (4, .ref b4), (5, .ref b5)], [], u ++ [.inr (8, [.null, .null, .null, .null, .null, .null, .null, .null, .null, .null, .long (ql 0), .int (qz 0), .int (qz 0)])], 0, 0)
  refine qr_aload_n 1 rfl rfl rfl ?_
  refine qr_objinit 4 rfl (by decide) rfl ?_
  refine qr_aload_n 5 rfl rfl rfl ?_
  refine qr_bipush 7 rfl (by decide) rfl ?_
  refine qr_inewI ha [.inr (8, [.null, .null, .null, .null, .null, .null, .null, .null, .null, .null, .long (ql 0), .int (qz 0), .int (qz 0)]), .inl (.int, 9, .inl (qzf (fun _ => 0)))] 9 1 9 1 rfl (by decide) (Nat.le_of_ble_eq_true rfl) (Nat.le_of_ble_eq_true rfl) rfl rfl rfl rfl rfl ?_
  refine qr_iput ha [.null, .null, .null, .null, .null, .ref (a + 1), .null, .null, .null, .null, .long (ql 0), .int (qz 0), .int (qz 0)] 12 rfl (Nat.le_of_ble_eq_true rfl) (Nat.le_of_ble_eq_true rfl) (Or.inr ⟨by decide, rfl⟩) (qr_fitR (Or.inr ⟨_, rfl⟩) _) rfl rfl ?_
  refine qr_aload_n 13 rfl rfl rfl ?_
  refine qr_sipush 16 rfl (by decide) rfl ?_
  refine qr_inewI ha [.inr (8, [.null, .null, .null, .null, .null, .ref (a + 1), .null, .null, .null, .null, .long (ql 0), .int (qz 0), .int (qz 0)]), .inl (.int, 9, .inl (qzf (fun _ => 0))), .inl (.int, 496, .inl (qzf (fun _ => 0)))] 18 2 505 2 rfl (by decide) (Nat.le_of_ble_eq_true rfl) (Nat.le_of_ble_eq_true rfl) rfl rfl rfl rfl rfl ?_
  refine qr_iput ha [.null, .null, .null, .null, .null, .ref (a + 1), .ref (a + 2), .null, .null, .null, .long (ql 0), .int (qz 0), .int (qz 0)] 21 rfl (Nat.le_of_ble_eq_true rfl) (Nat.le_of_ble_eq_true rfl) (Or.inr ⟨by decide, rfl⟩) (qr_fitR (Or.inr ⟨_, rfl⟩) _) rfl rfl ?_
  refine qr_aload_n 22 rfl rfl rfl ?_
  refine qr_sipush 25 rfl (by decide) rfl ?_
  refine qr_inewI ha [.inr (8, [.null, .null, .null, .null, .null, .ref (a + 1), .ref (a + 2), .null, .null, .null, .long (ql 0), .int (qz 0), .int (qz 0)]), .inl (.int, 9, .inl (qzf (fun _ => 0))), .inl (.int, 496, .inl (qzf (fun _ => 0))), .inl (.int, 496, .inl (qzf (fun _ => 0)))] 27 3 1001 3 rfl (by decide) (Nat.le_of_ble_eq_true rfl) (Nat.le_of_ble_eq_true rfl) rfl rfl rfl rfl rfl ?_
  refine qr_iput ha [.null, .null, .null, .null, .null, .ref (a + 1), .ref (a + 2), .ref (a + 3), .null, .null, .long (ql 0), .int (qz 0), .int (qz 0)] 30 rfl (Nat.le_of_ble_eq_true rfl) (Nat.le_of_ble_eq_true rfl) (Or.inr ⟨by decide, rfl⟩) (qr_fitR (Or.inr ⟨_, rfl⟩) _) rfl rfl ?_
  refine qr_aload_n 31 rfl rfl rfl ?_
  refine qr_sipush 34 rfl (by decide) rfl ?_
  refine qr_inewL ha [.inr (8, [.null, .null, .null, .null, .null, .ref (a + 1), .ref (a + 2), .ref (a + 3), .null, .null, .long (ql 0), .int (qz 0), .int (qz 0)]), .inl (.int, 9, .inl (qzf (fun _ => 0))), .inl (.int, 496, .inl (qzf (fun _ => 0))), .inl (.int, 496, .inl (qzf (fun _ => 0))), .inl (.long, 496, .inr (.inl (qlf (fun _ => 0))))] 36 4 1497 4 rfl (by decide) (Nat.le_of_ble_eq_true rfl) (Nat.le_of_ble_eq_true rfl) rfl rfl rfl rfl rfl ?_
  refine qr_iput ha [.null, .null, .null, .null, .null, .ref (a + 1), .ref (a + 2), .ref (a + 3), .ref (a + 4), .null, .long (ql 0), .int (qz 0), .int (qz 0)] 39 rfl (Nat.le_of_ble_eq_true rfl) (Nat.le_of_ble_eq_true rfl) (Or.inr ⟨by decide, rfl⟩) (qr_fitR (Or.inr ⟨_, rfl⟩) _) rfl rfl ?_
  refine qr_aload_n 40 rfl rfl rfl ?_
  refine qr_sipush 43 rfl (by decide) rfl ?_
  refine qr_inewI ha [.inr (8, [.null, .null, .null, .null, .null, .ref (a + 1), .ref (a + 2), .ref (a + 3), .ref (a + 4), .null, .long (ql 0), .int (qz 0), .int (qz 0)]), .inl (.int, 9, .inl (qzf (fun _ => 0))), .inl (.int, 496, .inl (qzf (fun _ => 0))), .inl (.int, 496, .inl (qzf (fun _ => 0))), .inl (.long, 496, .inr (.inl (qlf (fun _ => 0)))), .inl (.int, 496, .inl (qzf (fun _ => 0)))] 45 5 1993 5 rfl (by decide) (Nat.le_of_ble_eq_true rfl) (Nat.le_of_ble_eq_true rfl) rfl rfl rfl rfl rfl ?_
  refine qr_iput ha [.null, .null, .null, .null, .null, .ref (a + 1), .ref (a + 2), .ref (a + 3), .ref (a + 4), .ref (a + 5), .long (ql 0), .int (qz 0), .int (qz 0)] 48 rfl (Nat.le_of_ble_eq_true rfl) (Nat.le_of_ble_eq_true rfl) (Or.inr ⟨by decide, rfl⟩) (qr_fitR (Or.inr ⟨_, rfl⟩) _) rfl rfl ?_
  refine qr_aload_n 49 rfl rfl rfl ?_
  refine qr_lconst 50 rfl rfl ?_
  refine qr_iput ha [.null, .null, .null, .null, .null, .ref (a + 1), .ref (a + 2), .ref (a + 3), .ref (a + 4), .ref (a + 5), .long (ql 0), .int (qz 0), .int (qz 0)] 53 rfl (Nat.le_of_ble_eq_true rfl) (Nat.le_of_ble_eq_true rfl) (Or.inl rfl) (qr_fitL rfl _) rfl rfl ?_
  refine qr_aload_n 54 rfl rfl rfl ?_
  refine qr_iconst 55 rfl rfl ?_
  refine qr_iput ha [.null, .null, .null, .null, .null, .ref (a + 1), .ref (a + 2), .ref (a + 3), .ref (a + 4), .ref (a + 5), .long (ql 0), .int (qz 0), .int (qz 0)] 58 rfl (Nat.le_of_ble_eq_true rfl) (Nat.le_of_ble_eq_true rfl) (Or.inl rfl) (qr_fitI rfl _) rfl rfl ?_
  refine qr_aload_n 59 rfl rfl rfl ?_
  refine qr_iconst 60 rfl rfl ?_
  refine qr_iput ha [.null, .null, .null, .null, .null, .ref (a + 1), .ref (a + 2), .ref (a + 3), .ref (a + 4), .ref (a + 5), .long (ql 0), .int (qz 0), .int (qz 0)] 63 rfl (Nat.le_of_ble_eq_true rfl) (Nat.le_of_ble_eq_true rfl) (Or.inl rfl) (qr_fitI rfl _) rfl rfl ?_
  refine qr_aload_n 64 rfl rfl rfl ?_
  refine qr_aload_n 65 rfl rfl rfl ?_
  refine qr_iput ha [.ref b1, .null, .null, .null, .null, .ref (a + 1), .ref (a + 2), .ref (a + 3), .ref (a + 4), .ref (a + 5), .long (ql 0), .int (qz 0), .int (qz 0)] 68 rfl (Nat.le_of_ble_eq_true rfl) (Nat.le_of_ble_eq_true rfl) (Or.inr ⟨by decide, rfl⟩) (qr_fitR (Or.inl ⟨_, rfl⟩) _) rfl rfl ?_
  refine qr_aload_n 69 rfl rfl rfl ?_
  refine qr_aload_n 70 rfl rfl rfl ?_
  refine qr_iput ha [.ref b1, .ref b2, .null, .null, .null, .ref (a + 1), .ref (a + 2), .ref (a + 3), .ref (a + 4), .ref (a + 5), .long (ql 0), .int (qz 0), .int (qz 0)] 73 rfl (Nat.le_of_ble_eq_true rfl) (Nat.le_of_ble_eq_true rfl) (Or.inr ⟨by decide, rfl⟩) (qr_fitR (Or.inl ⟨_, rfl⟩) _) rfl rfl ?_
  refine qr_aload_n 74 rfl rfl rfl ?_
  refine qr_aload_n 75 rfl rfl rfl ?_
  refine qr_iput ha [.ref b1, .ref b2, .ref b3, .null, .null, .ref (a + 1), .ref (a + 2), .ref (a + 3), .ref (a + 4), .ref (a + 5), .long (ql 0), .int (qz 0), .int (qz 0)] 78 rfl (Nat.le_of_ble_eq_true rfl) (Nat.le_of_ble_eq_true rfl) (Or.inr ⟨by decide, rfl⟩) (qr_fitR (Or.inl ⟨_, rfl⟩) _) rfl rfl ?_
  refine qr_aload_n 79 rfl rfl rfl ?_
  refine qr_aload 81 rfl rfl rfl ?_
  refine qr_iput ha [.ref b1, .ref b2, .ref b3, .ref b4, .null, .ref (a + 1), .ref (a + 2), .ref (a + 3), .ref (a + 4), .ref (a + 5), .long (ql 0), .int (qz 0), .int (qz 0)] 84 rfl (Nat.le_of_ble_eq_true rfl) (Nat.le_of_ble_eq_true rfl) (Or.inr ⟨by decide, rfl⟩) (qr_fitR (Or.inl ⟨_, rfl⟩) _) rfl rfl ?_
  refine qr_aload_n 85 rfl rfl rfl ?_
  refine qr_aload 87 rfl rfl rfl ?_
  refine qr_iput ha [.ref b1, .ref b2, .ref b3, .ref b4, .ref b5, .ref (a + 1), .ref (a + 2), .ref (a + 3), .ref (a + 4), .ref (a + 5), .long (ql 0), .int (qz 0), .int (qz 0)] 90 rfl (Nat.le_of_ble_eq_true rfl) (Nat.le_of_ble_eq_true rfl) (Or.inr ⟨by decide, rfl⟩) (qr_fitR (Or.inr ⟨_, rfl⟩) _) rfl rfl ?_
  refine qr_retV rfl rfl (Nat.le_of_ble_eq_true rfl) (Nat.le_of_ble_eq_true rfl) ?_
  exact ⟨rfl, rfl⟩

set_option maxHeartbeats 2000000 in
set_option maxRecDepth 20000 in
/-- Guests.<init> -/
theorem si_Guests {X : qm_X} {d : Nat} {u : qm_W} {a : Nat} {b1 : Nat} (ha : a = 16 + u.length)  : qm_T X (d + 1) 35 [.ref a, .ref b1] (u ++ [.inr (9, [.null, .null, .int (qz 0), .null, .null, .null, .null, .int (qz 0)])]) (fun r w' => r = none ∧ w' = u ++ [.inr (9, [.ref b1, .ref (a + 1), .int (qz 0), .ref (a + 2), .ref (a + 3), .ref (a + 4), .ref (a + 5), .int (qz 0)]), .inl (.int, 12, .inl (qzf (fun _ => 0))), .inl (.int, 12, .inl (qzf (fun _ => 0))), .inl (.int, 4096, .inl (qzf (fun _ => 0))), .inl (.int, 36, .inl (qzf (fun _ => 0))), .inl (.int, 6, .inl (qzf (fun _ => 0)))]) := by
  refine qr_start (d := d + 0) qv_e35 (Nat.le_of_ble_eq_true rfl) ?_
  show qr_W X (d + 0) qx_e35 _ (0, [(0, .ref a), (1, .ref b1)], [], u ++ [.inr (9, [.null, .null, .int (qz 0), .null, .null, .null, .null, .int (qz 0)])], 0, 0)
  refine qr_aload_n 1 rfl rfl rfl ?_
  refine qr_objinit 4 rfl (by decide) rfl ?_
  refine qr_aload_n 5 rfl rfl rfl ?_
  refine qr_bipush 7 rfl (by decide) rfl ?_
  refine qr_inewI ha [.inr (9, [.null, .null, .int (qz 0), .null, .null, .null, .null, .int (qz 0)]), .inl (.int, 12, .inl (qzf (fun _ => 0)))] 9 1 12 1 rfl (by decide) (Nat.le_of_ble_eq_true rfl) (Nat.le_of_ble_eq_true rfl) rfl rfl rfl rfl rfl ?_
  refine qr_iput ha [.null, .ref (a + 1), .int (qz 0), .null, .null, .null, .null, .int (qz 0)] 12 rfl (Nat.le_of_ble_eq_true rfl) (Nat.le_of_ble_eq_true rfl) (Or.inr ⟨by decide, rfl⟩) (qr_fitR (Or.inr ⟨_, rfl⟩) _) rfl rfl ?_
  refine qr_aload_n 13 rfl rfl rfl ?_
  refine qr_iconst 14 rfl rfl ?_
  refine qr_iput ha [.null, .ref (a + 1), .int (qz 0), .null, .null, .null, .null, .int (qz 0)] 17 rfl (Nat.le_of_ble_eq_true rfl) (Nat.le_of_ble_eq_true rfl) (Or.inl rfl) (qr_fitI rfl _) rfl rfl ?_
  refine qr_aload_n 18 rfl rfl rfl ?_
  refine qr_bipush 20 rfl (by decide) rfl ?_
  refine qr_inewI ha [.inr (9, [.null, .ref (a + 1), .int (qz 0), .null, .null, .null, .null, .int (qz 0)]), .inl (.int, 12, .inl (qzf (fun _ => 0))), .inl (.int, 12, .inl (qzf (fun _ => 0)))] 22 2 24 2 rfl (by decide) (Nat.le_of_ble_eq_true rfl) (Nat.le_of_ble_eq_true rfl) rfl rfl rfl rfl rfl ?_
  refine qr_iput ha [.null, .ref (a + 1), .int (qz 0), .ref (a + 2), .null, .null, .null, .int (qz 0)] 25 rfl (Nat.le_of_ble_eq_true rfl) (Nat.le_of_ble_eq_true rfl) (Or.inr ⟨by decide, rfl⟩) (qr_fitR (Or.inr ⟨_, rfl⟩) _) rfl rfl ?_
  refine qr_aload_n 26 rfl rfl rfl ?_
  refine qr_sipush 29 rfl (by decide) rfl ?_
  refine qr_inewI ha [.inr (9, [.null, .ref (a + 1), .int (qz 0), .ref (a + 2), .null, .null, .null, .int (qz 0)]), .inl (.int, 12, .inl (qzf (fun _ => 0))), .inl (.int, 12, .inl (qzf (fun _ => 0))), .inl (.int, 4096, .inl (qzf (fun _ => 0)))] 31 3 4120 3 rfl (by decide) (Nat.le_of_ble_eq_true rfl) (Nat.le_of_ble_eq_true rfl) rfl rfl rfl rfl rfl ?_
  refine qr_iput ha [.null, .ref (a + 1), .int (qz 0), .ref (a + 2), .ref (a + 3), .null, .null, .int (qz 0)] 34 rfl (Nat.le_of_ble_eq_true rfl) (Nat.le_of_ble_eq_true rfl) (Or.inr ⟨by decide, rfl⟩) (qr_fitR (Or.inr ⟨_, rfl⟩) _) rfl rfl ?_
  refine qr_aload_n 35 rfl rfl rfl ?_
  refine qr_bipush 37 rfl (by decide) rfl ?_
  refine qr_inewI ha [.inr (9, [.null, .ref (a + 1), .int (qz 0), .ref (a + 2), .ref (a + 3), .null, .null, .int (qz 0)]), .inl (.int, 12, .inl (qzf (fun _ => 0))), .inl (.int, 12, .inl (qzf (fun _ => 0))), .inl (.int, 4096, .inl (qzf (fun _ => 0))), .inl (.int, 36, .inl (qzf (fun _ => 0)))] 39 4 4156 4 rfl (by decide) (Nat.le_of_ble_eq_true rfl) (Nat.le_of_ble_eq_true rfl) rfl rfl rfl rfl rfl ?_
  refine qr_iput ha [.null, .ref (a + 1), .int (qz 0), .ref (a + 2), .ref (a + 3), .ref (a + 4), .null, .int (qz 0)] 42 rfl (Nat.le_of_ble_eq_true rfl) (Nat.le_of_ble_eq_true rfl) (Or.inr ⟨by decide, rfl⟩) (qr_fitR (Or.inr ⟨_, rfl⟩) _) rfl rfl ?_
  refine qr_aload_n 43 rfl rfl rfl ?_
  refine qr_bipush 45 rfl (by decide) rfl ?_
  refine qr_inewI ha [.inr (9, [.null, .ref (a + 1), .int (qz 0), .ref (a + 2), .ref (a + 3), .ref (a + 4), .null, .int (qz 0)]), .inl (.int, 12, .inl (qzf (fun _ => 0))), .inl (.int, 12, .inl (qzf (fun _ => 0))), .inl (.int, 4096, .inl (qzf (fun _ => 0))), .inl (.int, 36, .inl (qzf (fun _ => 0))), .inl (.int, 6, .inl (qzf (fun _ => 0)))] 47 5 4162 5 rfl (by decide) (Nat.le_of_ble_eq_true rfl) (Nat.le_of_ble_eq_true rfl) rfl rfl rfl rfl rfl ?_
  refine qr_iput ha [.null, .ref (a + 1), .int (qz 0), .ref (a + 2), .ref (a + 3), .ref (a + 4), .ref (a + 5), .int (qz 0)] 50 rfl (Nat.le_of_ble_eq_true rfl) (Nat.le_of_ble_eq_true rfl) (Or.inr ⟨by decide, rfl⟩) (qr_fitR (Or.inr ⟨_, rfl⟩) _) rfl rfl ?_
  refine qr_aload_n 51 rfl rfl rfl ?_
  refine qr_iconst 52 rfl rfl ?_
  refine qr_iput ha [.null, .ref (a + 1), .int (qz 0), .ref (a + 2), .ref (a + 3), .ref (a + 4), .ref (a + 5), .int (qz 0)] 55 rfl (Nat.le_of_ble_eq_true rfl) (Nat.le_of_ble_eq_true rfl) (Or.inl rfl) (qr_fitI rfl _) rfl rfl ?_
  refine qr_aload_n 56 rfl rfl rfl ?_
  refine qr_aload_n 57 rfl rfl rfl ?_
  refine qr_iput ha [.ref b1, .ref (a + 1), .int (qz 0), .ref (a + 2), .ref (a + 3), .ref (a + 4), .ref (a + 5), .int (qz 0)] 60 rfl (Nat.le_of_ble_eq_true rfl) (Nat.le_of_ble_eq_true rfl) (Or.inr ⟨by decide, rfl⟩) (qr_fitR (Or.inl ⟨_, rfl⟩) _) rfl rfl ?_
  refine qr_retV rfl rfl (Nat.le_of_ble_eq_true rfl) (Nat.le_of_ble_eq_true rfl) ?_
  exact ⟨rfl, rfl⟩

set_option maxHeartbeats 2000000 in
set_option maxRecDepth 20000 in
/-- Telling.<init> -/
theorem si_Telling {X : qm_X} {d : Nat} {u : qm_W} {a : Nat} {b1 : Nat} (ha : a = 16 + u.length)  : qm_T X (d + 1) 36 [.ref a, .ref b1] (u ++ [.inr (10, [.null, .null, .int (qz 0), .long (ql 0), .null, .int (qz 0), .long (ql 0)])]) (fun r w' => r = none ∧ w' = u ++ [.inr (10, [.ref b1, .ref (a + 1), .int (qz 0), .long (ql 0), .ref (a + 2), .int (qz 0), .long (ql 0)]), .inl (.int, 31, .inl (qzf (fun _ => 0))), .inl (.int, 60, .inl (qzf (fun _ => 0)))]) := by
  refine qr_start (d := d + 0) qv_e36 (Nat.le_of_ble_eq_true rfl) ?_
  show qr_W X (d + 0) qx_e36 _ (0, [(0, .ref a), (1, .ref b1)], [], u ++ [.inr (10, [.null, .null, .int (qz 0), .long (ql 0), .null, .int (qz 0), .long (ql 0)])], 0, 0)
  refine qr_aload_n 1 rfl rfl rfl ?_
  refine qr_objinit 4 rfl (by decide) rfl ?_
  refine qr_aload_n 5 rfl rfl rfl ?_
  refine qr_bipush 7 rfl (by decide) rfl ?_
  refine qr_inewI ha [.inr (10, [.null, .null, .int (qz 0), .long (ql 0), .null, .int (qz 0), .long (ql 0)]), .inl (.int, 31, .inl (qzf (fun _ => 0)))] 9 1 31 1 rfl (by decide) (Nat.le_of_ble_eq_true rfl) (Nat.le_of_ble_eq_true rfl) rfl rfl rfl rfl rfl ?_
  refine qr_iput ha [.null, .ref (a + 1), .int (qz 0), .long (ql 0), .null, .int (qz 0), .long (ql 0)] 12 rfl (Nat.le_of_ble_eq_true rfl) (Nat.le_of_ble_eq_true rfl) (Or.inr ⟨by decide, rfl⟩) (qr_fitR (Or.inr ⟨_, rfl⟩) _) rfl rfl ?_
  refine qr_aload_n 13 rfl rfl rfl ?_
  refine qr_iconst 14 rfl rfl ?_
  refine qr_iput ha [.null, .ref (a + 1), .int (qz 0), .long (ql 0), .null, .int (qz 0), .long (ql 0)] 17 rfl (Nat.le_of_ble_eq_true rfl) (Nat.le_of_ble_eq_true rfl) (Or.inl rfl) (qr_fitI rfl _) rfl rfl ?_
  refine qr_aload_n 18 rfl rfl rfl ?_
  refine qr_lconst 19 rfl rfl ?_
  refine qr_iput ha [.null, .ref (a + 1), .int (qz 0), .long (ql 0), .null, .int (qz 0), .long (ql 0)] 22 rfl (Nat.le_of_ble_eq_true rfl) (Nat.le_of_ble_eq_true rfl) (Or.inl rfl) (qr_fitL rfl _) rfl rfl ?_
  refine qr_aload_n 23 rfl rfl rfl ?_
  refine qr_bipush 25 rfl (by decide) rfl ?_
  refine qr_inewI ha [.inr (10, [.null, .ref (a + 1), .int (qz 0), .long (ql 0), .null, .int (qz 0), .long (ql 0)]), .inl (.int, 31, .inl (qzf (fun _ => 0))), .inl (.int, 60, .inl (qzf (fun _ => 0)))] 27 2 91 2 rfl (by decide) (Nat.le_of_ble_eq_true rfl) (Nat.le_of_ble_eq_true rfl) rfl rfl rfl rfl rfl ?_
  refine qr_iput ha [.null, .ref (a + 1), .int (qz 0), .long (ql 0), .ref (a + 2), .int (qz 0), .long (ql 0)] 30 rfl (Nat.le_of_ble_eq_true rfl) (Nat.le_of_ble_eq_true rfl) (Or.inr ⟨by decide, rfl⟩) (qr_fitR (Or.inr ⟨_, rfl⟩) _) rfl rfl ?_
  refine qr_aload_n 31 rfl rfl rfl ?_
  refine qr_iconst 32 rfl rfl ?_
  refine qr_iput ha [.null, .ref (a + 1), .int (qz 0), .long (ql 0), .ref (a + 2), .int (qz 0), .long (ql 0)] 35 rfl (Nat.le_of_ble_eq_true rfl) (Nat.le_of_ble_eq_true rfl) (Or.inl rfl) (qr_fitI rfl _) rfl rfl ?_
  refine qr_aload_n 36 rfl rfl rfl ?_
  refine qr_lconst 37 rfl rfl ?_
  refine qr_iput ha [.null, .ref (a + 1), .int (qz 0), .long (ql 0), .ref (a + 2), .int (qz 0), .long (ql 0)] 40 rfl (Nat.le_of_ble_eq_true rfl) (Nat.le_of_ble_eq_true rfl) (Or.inl rfl) (qr_fitL rfl _) rfl rfl ?_
  refine qr_aload_n 41 rfl rfl rfl ?_
  refine qr_aload_n 42 rfl rfl rfl ?_
  refine qr_iput ha [.ref b1, .ref (a + 1), .int (qz 0), .long (ql 0), .ref (a + 2), .int (qz 0), .long (ql 0)] 45 rfl (Nat.le_of_ble_eq_true rfl) (Nat.le_of_ble_eq_true rfl) (Or.inr ⟨by decide, rfl⟩) (qr_fitR (Or.inl ⟨_, rfl⟩) _) rfl rfl ?_
  refine qr_retV rfl rfl (Nat.le_of_ble_eq_true rfl) (Nat.le_of_ble_eq_true rfl) ?_
  exact ⟨rfl, rfl⟩

set_option maxHeartbeats 2000000 in
set_option maxRecDepth 20000 in
/-- History.<init> -/
theorem si_History {X : qm_X} {d : Nat} {u : qm_W} {a : Nat} {b1 b2 b3 : Nat} (ha : a = 16 + u.length)  : qm_T X (d + 1) 37 [.ref a, .ref b1, .ref b2, .ref b3] (u ++ [.inr (11, [.null, .null, .null, .null, .null, .null, .null, .int (qz 0), .int (qz 0)])]) (fun r w' => r = none ∧ w' = u ++ [.inr (11, [.ref b1, .ref b2, .ref b3, .ref (a + 1), .ref (a + 2), .ref (a + 3), .ref (a + 4), .int (qz 0), .int (qz 0)]), .inl (.int, 40, .inl (qzf (fun _ => 0))), .inl (.int, 40, .inl (qzf (fun _ => 0))), .inl (.int, 40, .inl (qzf (fun _ => 0))), .inl (.int, 40, .inl (qzf (fun _ => 0)))]) := by
  refine qr_start (d := d + 0) qv_e37 (Nat.le_of_ble_eq_true rfl) ?_
  show qr_W X (d + 0) qx_e37 _ (0, [(0, .ref a), (1, .ref b1), (2, .ref b2), (3, .ref b3)], [], u ++ [.inr (11, [.null, .null, .null, .null, .null, .null, .null, .int (qz 0), .int (qz 0)])], 0, 0)
  refine qr_aload_n 1 rfl rfl rfl ?_
  refine qr_objinit 4 rfl (by decide) rfl ?_
  refine qr_aload_n 5 rfl rfl rfl ?_
  refine qr_bipush 7 rfl (by decide) rfl ?_
  refine qr_inewI ha [.inr (11, [.null, .null, .null, .null, .null, .null, .null, .int (qz 0), .int (qz 0)]), .inl (.int, 40, .inl (qzf (fun _ => 0)))] 9 1 40 1 rfl (by decide) (Nat.le_of_ble_eq_true rfl) (Nat.le_of_ble_eq_true rfl) rfl rfl rfl rfl rfl ?_
  refine qr_iput ha [.null, .null, .null, .ref (a + 1), .null, .null, .null, .int (qz 0), .int (qz 0)] 12 rfl (Nat.le_of_ble_eq_true rfl) (Nat.le_of_ble_eq_true rfl) (Or.inr ⟨by decide, rfl⟩) (qr_fitR (Or.inr ⟨_, rfl⟩) _) rfl rfl ?_
  refine qr_aload_n 13 rfl rfl rfl ?_
  refine qr_bipush 15 rfl (by decide) rfl ?_
  refine qr_inewI ha [.inr (11, [.null, .null, .null, .ref (a + 1), .null, .null, .null, .int (qz 0), .int (qz 0)]), .inl (.int, 40, .inl (qzf (fun _ => 0))), .inl (.int, 40, .inl (qzf (fun _ => 0)))] 17 2 80 2 rfl (by decide) (Nat.le_of_ble_eq_true rfl) (Nat.le_of_ble_eq_true rfl) rfl rfl rfl rfl rfl ?_
  refine qr_iput ha [.null, .null, .null, .ref (a + 1), .ref (a + 2), .null, .null, .int (qz 0), .int (qz 0)] 20 rfl (Nat.le_of_ble_eq_true rfl) (Nat.le_of_ble_eq_true rfl) (Or.inr ⟨by decide, rfl⟩) (qr_fitR (Or.inr ⟨_, rfl⟩) _) rfl rfl ?_
  refine qr_aload_n 21 rfl rfl rfl ?_
  refine qr_bipush 23 rfl (by decide) rfl ?_
  refine qr_inewI ha [.inr (11, [.null, .null, .null, .ref (a + 1), .ref (a + 2), .null, .null, .int (qz 0), .int (qz 0)]), .inl (.int, 40, .inl (qzf (fun _ => 0))), .inl (.int, 40, .inl (qzf (fun _ => 0))), .inl (.int, 40, .inl (qzf (fun _ => 0)))] 25 3 120 3 rfl (by decide) (Nat.le_of_ble_eq_true rfl) (Nat.le_of_ble_eq_true rfl) rfl rfl rfl rfl rfl ?_
  refine qr_iput ha [.null, .null, .null, .ref (a + 1), .ref (a + 2), .ref (a + 3), .null, .int (qz 0), .int (qz 0)] 28 rfl (Nat.le_of_ble_eq_true rfl) (Nat.le_of_ble_eq_true rfl) (Or.inr ⟨by decide, rfl⟩) (qr_fitR (Or.inr ⟨_, rfl⟩) _) rfl rfl ?_
  refine qr_aload_n 29 rfl rfl rfl ?_
  refine qr_bipush 31 rfl (by decide) rfl ?_
  refine qr_inewI ha [.inr (11, [.null, .null, .null, .ref (a + 1), .ref (a + 2), .ref (a + 3), .null, .int (qz 0), .int (qz 0)]), .inl (.int, 40, .inl (qzf (fun _ => 0))), .inl (.int, 40, .inl (qzf (fun _ => 0))), .inl (.int, 40, .inl (qzf (fun _ => 0))), .inl (.int, 40, .inl (qzf (fun _ => 0)))] 33 4 160 4 rfl (by decide) (Nat.le_of_ble_eq_true rfl) (Nat.le_of_ble_eq_true rfl) rfl rfl rfl rfl rfl ?_
  refine qr_iput ha [.null, .null, .null, .ref (a + 1), .ref (a + 2), .ref (a + 3), .ref (a + 4), .int (qz 0), .int (qz 0)] 36 rfl (Nat.le_of_ble_eq_true rfl) (Nat.le_of_ble_eq_true rfl) (Or.inr ⟨by decide, rfl⟩) (qr_fitR (Or.inr ⟨_, rfl⟩) _) rfl rfl ?_
  refine qr_aload_n 37 rfl rfl rfl ?_
  refine qr_iconst 38 rfl rfl ?_
  refine qr_iput ha [.null, .null, .null, .ref (a + 1), .ref (a + 2), .ref (a + 3), .ref (a + 4), .int (qz 0), .int (qz 0)] 41 rfl (Nat.le_of_ble_eq_true rfl) (Nat.le_of_ble_eq_true rfl) (Or.inl rfl) (qr_fitI rfl _) rfl rfl ?_
  refine qr_aload_n 42 rfl rfl rfl ?_
  refine qr_iconst 43 rfl rfl ?_
  refine qr_iput ha [.null, .null, .null, .ref (a + 1), .ref (a + 2), .ref (a + 3), .ref (a + 4), .int (qz 0), .int (qz 0)] 46 rfl (Nat.le_of_ble_eq_true rfl) (Nat.le_of_ble_eq_true rfl) (Or.inl rfl) (qr_fitI rfl _) rfl rfl ?_
  refine qr_aload_n 47 rfl rfl rfl ?_
  refine qr_aload_n 48 rfl rfl rfl ?_
  refine qr_iput ha [.ref b1, .null, .null, .ref (a + 1), .ref (a + 2), .ref (a + 3), .ref (a + 4), .int (qz 0), .int (qz 0)] 51 rfl (Nat.le_of_ble_eq_true rfl) (Nat.le_of_ble_eq_true rfl) (Or.inr ⟨by decide, rfl⟩) (qr_fitR (Or.inl ⟨_, rfl⟩) _) rfl rfl ?_
  refine qr_aload_n 52 rfl rfl rfl ?_
  refine qr_aload_n 53 rfl rfl rfl ?_
  refine qr_iput ha [.ref b1, .ref b2, .null, .ref (a + 1), .ref (a + 2), .ref (a + 3), .ref (a + 4), .int (qz 0), .int (qz 0)] 56 rfl (Nat.le_of_ble_eq_true rfl) (Nat.le_of_ble_eq_true rfl) (Or.inr ⟨by decide, rfl⟩) (qr_fitR (Or.inl ⟨_, rfl⟩) _) rfl rfl ?_
  refine qr_aload_n 57 rfl rfl rfl ?_
  refine qr_aload_n 58 rfl rfl rfl ?_
  refine qr_iput ha [.ref b1, .ref b2, .ref b3, .ref (a + 1), .ref (a + 2), .ref (a + 3), .ref (a + 4), .int (qz 0), .int (qz 0)] 61 rfl (Nat.le_of_ble_eq_true rfl) (Nat.le_of_ble_eq_true rfl) (Or.inr ⟨by decide, rfl⟩) (qr_fitR (Or.inl ⟨_, rfl⟩) _) rfl rfl ?_
  refine qr_retV rfl rfl (Nat.le_of_ble_eq_true rfl) (Nat.le_of_ble_eq_true rfl) ?_
  exact ⟨rfl, rfl⟩
