section QI
variable {X : qm_X} {d : Nat} {x : qs_Ent} {Q : Option Value → qm_W → Prop} {pc : Nat} {ls : qm_L} {st : List Value} {u w : qm_W} {c n r1 r2 r3 : Nat} {rv : Value} {a : Nat}
theorem qi_g (u : qm_W) {a : Nat} (ha : a = 16 + u.length) (e : qm_E) (r : qm_W) : (u ++ e :: r)[a - 16]? = some e := by
  subst ha
  rw [Nat.add_sub_cancel_left, List.getElem?_append_right (Nat.le_refl _), Nat.sub_self]
  rfl
theorem qi_s (u : qm_W) {a : Nat} (ha : a = 16 + u.length) (e e' : qm_E) (r : qm_W) : (u ++ e :: r).set (a - 16) e' = u ++ e' :: r := by
  subst ha
  rw [Nat.add_sub_cancel_left, List.set_append_right _ _ (Nat.le_refl _), Nat.sub_self]
  rfl
theorem qi_s1 (u : qm_W) {a : Nat} (ha : a = 16 + u.length) (e e1 e' : qm_E) (r : qm_W) : (u ++ e :: e1 :: r).set (a - 16 + 1) e' = u ++ e :: e' :: r := by
  subst ha
  rw [Nat.add_sub_cancel_left, List.set_append_right _ _ (Nat.le_add_right _ _), Nat.add_sub_cancel_left]
  rfl
theorem qi_s2 (u : qm_W) {a : Nat} (ha : a = 16 + u.length) (e e1 e2 e' : qm_E) (r : qm_W) : (u ++ e :: e1 :: e2 :: r).set (a - 16 + 2) e' = u ++ e :: e1 :: e' :: r := by
  subst ha
  rw [Nat.add_sub_cancel_left, List.set_append_right _ _ (Nat.le_add_right _ _), Nat.add_sub_cancel_left]
  rfl
theorem qi_qc (u : qm_W) {a : Nat} (ha : a = 16 + u.length) (o e1 e2 e3 : qm_E) (ln at_ sz nm sk : Int) (t cd : Nat → Int) : qc (u ++ [o, e1, e2, e3]) a ln at_ sz nm sk t cd = u ++ [qc_o a ln at_ sz nm sk, .inl (.int, 120, .inl (qzf t)), .inl (.int, 122, .inl (qzf cd)), e3] := by
  unfold qc
  rw [qi_s u ha, qi_s1 u ha, qi_s2 u ha]
theorem qi_in (u : qm_W) {a : Nat} (ha : a = 16 + u.length) (o e1 e2 e3 : qm_E) : qc_in (u ++ [o, e1, e2, e3]) a := by
  unfold qc_in
  rw [List.length_append]
  show 16 ≤ a ∧ a - 16 + 3 < u.length + 4
  omega
theorem qr_iput {z : Nat} {fs : List Value} {r : qm_W} {v : Value} (ha : a = 16 + u.length) (fs' : List Value) (p : Nat) (hq : qm_fetch x.2.2.2.2.2.2.2 pc = some (pc, .putfield z, 3, r1, r2, 0, rv)) (hl : r2 < fs.length) (hN : r2 < qr_N r1) (hfin : (qx_T r1 r2).2.2.2 = false ∨ ((qm_M1 x).2.2.1 = true ∧ (qm_M1 x).2.2.2.1 = r1)) (hfit : qm_fitb (qx_ty r1 r2) v = true) (hs : fs.set r2 v = fs') (hp : pc + 3 = p) (k : qr_W X d x Q (p, ls, st, u ++ .inr (r1, fs') :: r, c, n)) : qr_W X d x Q (pc, ls, v :: .ref a :: st, u ++ .inr (r1, fs) :: r, c, n) := by
  subst hs
  refine qr_put p hq (by omega) (qi_g u ha _ _) hl hN hfin hfit hp ?_
  rw [qi_s u ha]
  exact k
theorem qr_inewI {y : Int} {r : qm_W} (ha : a = 16 + u.length) (r' : qm_W) (p c' n' b : Nat) (hq : qm_fetch x.2.2.2.2.2.2.2 pc = some (pc, .newarray .int, 2, r1, r2, r3, rv)) (hy : 0 ≤ y ∧ y ≤ 1000000) (hc : c + 1 ≤ (qm_M1 x).2.2.2.2.1) (hn : n + y.toNat ≤ (qm_M1 x).2.2.2.2.2) (hr : r ++ [.inl (.int, y.toNat, .inl (qzf (fun _ => 0)))] = r') (hb : r.length = b) (hc2 : c + 1 = c') (hn2 : n + y.toNat = n') (hp : pc + 2 = p) (k : qr_W X d x Q (p, ls, .ref (a + b) :: st, u ++ r', c', n')) : qr_W X d x Q (pc, ls, .int (qz y) :: st, u ++ r, c, n) := by
  subst hr
  subst hb
  refine qr_newI (u ++ (r ++ [.inl (.int, y.toNat, .inl (qzf (fun _ => 0)))])) p c' n' hq hy hc hn (List.append_assoc _ _ _) hc2 hn2 (a + r.length) (by rw [List.length_append]; omega) hp k
theorem qr_callC {q : qm_I} {k : Nat} {as rest : List Value} {Q' : Option Value → qm_W → Prop} (p : Nat) (hq : qm_fetch x.2.2.2.2.2.2.2 pc = some q) (hcall : qm_call X q st w = some (k, as, p, rest)) (hb : qm_bud k = (0, 0)) (hc : c ≤ (qm_M1 x).2.2.2.2.1) (hn : n ≤ (qm_M1 x).2.2.2.2.2) (hT : qm_T X d k as w Q') (kk : ∀ r w', Q' r w' → qr_W X d x Q (p, ls, r.toList ++ rest, w', c, n)) : qr_W X d x Q (pc, ls, st, w, c, n) :=
  qr_call p c n hq hcall (by rw [hb]; exact hc) (by rw [hb]; exact hn) (by rw [hb]; rfl) (by rw [hb]; rfl) hT kk
end QI

section QI2
variable {X : qm_X} {d : Nat} {x : qs_Ent} {Q : Option Value → qm_W → Prop} {pc : Nat} {ls : qm_L} {st : List Value} {u w : qm_W} {c n r1 r2 r3 : Nat} {rv : Value} {a : Nat} {ln at_ sz nm sk : Int} {t cd : Nat → Int}
theorem qr_ccallC {z k : Nat} {as rest : List Value} {Q' : Option Value → qm_W → Prop} (hi : qc_in w a) (p : Nat) (hq : qm_fetch x.2.2.2.2.2.2.2 pc = some (pc, .invokevirtual z, 3, k, as.length, 0, .ref 7)) (hb : qm_bud k = (0, 0)) (hc : c ≤ (qm_M1 x).2.2.2.2.1) (hn : n ≤ (qm_M1 x).2.2.2.2.2) (hs : qm_sum rest ≤ 8) (hp : pc + 3 = p) (hst : st = as.reverse ++ Value.ref a :: rest) (hT : qm_T X d k (Value.ref a :: as) (qc w a ln at_ sz nm sk t cd) Q') (kk : ∀ r w', Q' r w' → qr_W X d x Q (p, ls, r.toList ++ rest, w', c, n)) : qr_W X d x Q (pc, ls, st, qc w a ln at_ sz nm sk t cd, c, n) := by
  subst hst
  subst hp
  refine qr_callC (k := k) (as := Value.ref a :: as) (rest := rest) (pc + 3) hq ?_ hb hc hn hT kk
  have e1 : (as.reverse ++ Value.ref a :: rest)[as.length]? = some (Value.ref a) := by
    rw [List.getElem?_append_right (by rw [List.length_reverse]; exact Nat.le_refl _), List.length_reverse, Nat.sub_self]
    rfl
  have e2 : (as.reverse ++ Value.ref a :: rest).drop (as.length + 1) = rest := by
    rw [← List.length_reverse, List.drop_append]
    simp
  have e3 : (as.reverse ++ Value.ref a :: rest).take as.length = as.reverse := by
    rw [← List.length_reverse, List.take_left]
  have e4 := qc_c (X := X) hi.1 (qc_g0 (ln := ln) (at_ := at_) (sz := sz) (nm := nm) (sk := sk) (t := t) (cd := cd) hi)
  unfold qc_o at e4
  simp only [qm_call, e1, e2, e3, e4, List.reverse_reverse]
  exact if_pos ⟨by first | rfl | trivial, Or.inl (by first | rfl | trivial), by first | rfl | trivial, hs⟩
theorem qi_go (ha : a = 16 + u.length) (o e1 e2 e3 : qm_E) (k : qr_W X d x Q (pc, ls, st, qc (u ++ [o, e1, e2, e3]) a ln at_ sz nm sk t cd, c, n)) : qr_W X d x Q (pc, ls, st, u ++ [qc_o a ln at_ sz nm sk, .inl (.int, 120, .inl (qzf t)), .inl (.int, 122, .inl (qzf cd)), e3], c, n) := by
  rw [← qi_qc u ha o e1 e2 e3]
  exact k
end QI2

set_option maxHeartbeats 2000000 in
set_option maxRecDepth 20000 in
/-- Custom.<init> -/
theorem sp_cinit3 {L : Nat} {xs : Nat → Int} {vb : Bool} {d : Nat} {u : qm_W} {a : Nat} (ha : a = 16 + u.length)  : qm_T (qe L xs vb) (d + 57) 9 [.ref a, .ref 3] (u ++ [.inr (7, [.null, .null, .null, .int (qz 0), .int (qz 0), .int (qz 0), .int (qz 0), .int (qz 0)])]) (fun r w' => r = none ∧ ∃ (at2 sz2 nm2 sk2 : Int) (t cd : Nat → Int), w' = u ++ [qc_o a 4 at2 sz2 nm2 sk2, .inl (.int, 120, .inl (qzf t)), .inl (.int, 122, .inl (qzf cd)), .inl (.int, 120, .inl (qzf (fun _ => 0)))] ∧ (0 ≤ at2 ∧ at2 ≤ 4 ∧ 0 ≤ sz2 ∧ sz2 ≤ 122 ∧ -2147483648 ≤ nm2 ∧ nm2 ≤ 2147483647 ∧ (sk2 = 0 ∨ sk2 = 1)) ∧ ∀ j, -2147483648 ≤ t j ∧ t j ≤ 2147483647) := by
  refine qr_start (d := d + 56) qv_e9 (Nat.le_of_ble_eq_true rfl) ?_
  show qr_W (qe L xs vb) (d + 56) qx_e9 _ (0, [(0, .ref a), (1, .ref 3)], [], u ++ [.inr (7, [.null, .null, .null, .int (qz 0), .int (qz 0), .int (qz 0), .int (qz 0), .int (qz 0)])], 0, 0)
  have loop : ∀ (n : Nat) (i : Int) (t : Nat → Int), (0 ≤ i ∧ i ≤ 4 ∧ 4 - i < n) → (∀ j, -2147483648 ≤ t j ∧ t j ≤ 2147483647) → qr_W (qe L xs vb) (d + 56) qx_e9 (fun r w' => r = none ∧ ∃ (at2 sz2 nm2 sk2 : Int) (t cd : Nat → Int), w' = u ++ [qc_o a 4 at2 sz2 nm2 sk2, .inl (.int, 120, .inl (qzf t)), .inl (.int, 122, .inl (qzf cd)), .inl (.int, 120, .inl (qzf (fun _ => 0)))] ∧ (0 ≤ at2 ∧ at2 ≤ 4 ∧ 0 ≤ sz2 ∧ sz2 ≤ 122 ∧ -2147483648 ≤ nm2 ∧ nm2 ≤ 2147483647 ∧ (sk2 = 0 ∨ sk2 = 1)) ∧ ∀ j, -2147483648 ≤ t j ∧ t j ≤ 2147483647) (71, [(2, .int (qz i)), (0, .ref a), (1, .ref 3)], [], qc (u ++ [(qc_o a 0 0 0 0 0), (.inl (.int, 120, .inl (qzf (fun _ => 0)))), (.inl (.int, 122, .inl (qzf (fun _ => 0)))), (.inl (.int, 120, .inl (qzf (fun _ => 0))))]) a 4 0 0 0 0 t (fun _ => 0), 3, 362) := by
    intro n
    induction n with
    | zero => intro i t h1 h2; exact absurd h1 (by omega)
    | succ n ih =>
      intro i t h1 ht
      have hi := qi_in u ha (qc_o a 0 0 0 0 0) (.inl (.int, 120, .inl (qzf (fun _ => 0)))) (.inl (.int, 122, .inl (qzf (fun _ => 0)))) (.inl (.int, 120, .inl (qzf (fun _ => 0))))
      refine qr_iload_n 72 rfl rfl rfl ?_
      refine qr_aload_n 73 rfl rfl rfl ?_
      refine qr_cget3 hi 76 rfl rfl ?_
      refine qr_icmp_ge 96 79 rfl rfl rfl (by omega) (by omega) (fun h => ?_) (fun h => ?_)
      · refine qr_aload_n 97 rfl rfl rfl ?_
        refine qr_ccallC (as := []) (rest := []) hi 100 rfl rfl (Nat.le_of_ble_eq_true rfl) (Nat.le_of_ble_eq_true rfl) (Nat.le_of_ble_eq_true rfl) rfl rfl (sp_lines hi ht (by omega) (by omega)) ?_
        rintro _ _ ⟨v, at2, sz2, nm2, sk2, cd2, rfl, rfl, hb⟩
        simp only [Option.toList, List.cons_append, List.nil_append]
        refine qr_pop 101 rfl rfl rfl ?_
        refine qr_retV rfl rfl (Nat.le_of_ble_eq_true rfl) (Nat.le_of_ble_eq_true rfl) ?_
        exact ⟨rfl, at2, sz2, nm2, sk2, t, cd2, qi_qc u ha _ _ _ _ _ _ _ _ _ _ _, by omega, ht⟩
      · refine qr_aload_n 80 rfl rfl rfl ?_
        refine qr_cget0 hi 83 rfl rfl ?_
        refine qr_iload_n 84 rfl rfl rfl ?_
        refine qr_aload_n 85 rfl rfl rfl ?_
        refine qr_iload_n 86 rfl rfl rfl ?_
        refine qr_callC 89 rfl rfl rfl (Nat.le_of_ble_eq_true rfl) (Nat.le_of_ble_eq_true rfl) (sp_cha3 ⟨by omega, by omega⟩) ?_
        rintro _ _ ⟨rfl, y, rfl⟩
        simp only [Option.toList, List.drop, List.cons_append, List.nil_append]
        refine qr_ctstore hi 90 rfl (by omega) rfl ?_
        refine qr_iincG (fun v => [(2, .int (qz v)), (0, .ref a), (1, .ref 3)]) 93 rfl rfl (by decide) (fun _ => rfl) rfl (fun v hv => ?_)
        refine qr_goto 71 rfl rfl ?_
        refine ih v _ (by omega) ?_
        intro j
        unfold qzu
        split
        · exact qz_i2c_r y
        · exact ht j
  refine qr_aload_n 1 rfl rfl rfl ?_
  refine qr_objinit 4 rfl (by decide) rfl ?_
  refine qr_aload_n 5 rfl rfl rfl ?_
  refine qr_bipush 7 rfl (by decide) rfl ?_
  refine qr_inewI ha [.inr (7, [.null, .null, .null, .int (qz 0), .int (qz 0), .int (qz 0), .int (qz 0), .int (qz 0)]), .inl (.int, 120, .inl (qzf (fun _ => 0)))] 9 1 120 1 rfl (by decide) (Nat.le_of_ble_eq_true rfl) (Nat.le_of_ble_eq_true rfl) rfl rfl rfl rfl rfl ?_
  refine qr_iput ha [.ref (a + 1), .null, .null, .int (qz 0), .int (qz 0), .int (qz 0), .int (qz 0), .int (qz 0)] 12 rfl (Nat.le_of_ble_eq_true rfl) (Nat.le_of_ble_eq_true rfl) (Or.inr ⟨by decide, rfl⟩) (qr_fitR (Or.inr ⟨_, rfl⟩) _) rfl rfl ?_
  refine qr_aload_n 13 rfl rfl rfl ?_
  refine qr_bipush 15 rfl (by decide) rfl ?_
  refine qr_inewI ha [.inr (7, [.ref (a + 1), .null, .null, .int (qz 0), .int (qz 0), .int (qz 0), .int (qz 0), .int (qz 0)]), .inl (.int, 120, .inl (qzf (fun _ => 0))), .inl (.int, 122, .inl (qzf (fun _ => 0)))] 17 2 242 2 rfl (by decide) (Nat.le_of_ble_eq_true rfl) (Nat.le_of_ble_eq_true rfl) rfl rfl rfl rfl rfl ?_
  refine qr_iput ha [.ref (a + 1), .ref (a + 2), .null, .int (qz 0), .int (qz 0), .int (qz 0), .int (qz 0), .int (qz 0)] 20 rfl (Nat.le_of_ble_eq_true rfl) (Nat.le_of_ble_eq_true rfl) (Or.inr ⟨by decide, rfl⟩) (qr_fitR (Or.inr ⟨_, rfl⟩) _) rfl rfl ?_
  refine qr_aload_n 21 rfl rfl rfl ?_
  refine qr_bipush 23 rfl (by decide) rfl ?_
  refine qr_inewI ha [.inr (7, [.ref (a + 1), .ref (a + 2), .null, .int (qz 0), .int (qz 0), .int (qz 0), .int (qz 0), .int (qz 0)]), .inl (.int, 120, .inl (qzf (fun _ => 0))), .inl (.int, 122, .inl (qzf (fun _ => 0))), .inl (.int, 120, .inl (qzf (fun _ => 0)))] 25 3 362 3 rfl (by decide) (Nat.le_of_ble_eq_true rfl) (Nat.le_of_ble_eq_true rfl) rfl rfl rfl rfl rfl ?_
  refine qr_iput ha [.ref (a + 1), .ref (a + 2), .ref (a + 3), .int (qz 0), .int (qz 0), .int (qz 0), .int (qz 0), .int (qz 0)] 28 rfl (Nat.le_of_ble_eq_true rfl) (Nat.le_of_ble_eq_true rfl) (Or.inr ⟨by decide, rfl⟩) (qr_fitR (Or.inr ⟨_, rfl⟩) _) rfl rfl ?_
  refine qr_aload_n 29 rfl rfl rfl ?_
  refine qr_iconst 30 rfl rfl ?_
  refine qr_iput ha [.ref (a + 1), .ref (a + 2), .ref (a + 3), .int (qz 0), .int (qz 0), .int (qz 0), .int (qz 0), .int (qz 0)] 33 rfl (Nat.le_of_ble_eq_true rfl) (Nat.le_of_ble_eq_true rfl) (Or.inl rfl) (qr_fitI rfl _) rfl rfl ?_
  refine qr_aload_n 34 rfl rfl rfl ?_
  refine qr_iconst 35 rfl rfl ?_
  refine qr_iput ha [.ref (a + 1), .ref (a + 2), .ref (a + 3), .int (qz 0), .int (qz 0), .int (qz 0), .int (qz 0), .int (qz 0)] 38 rfl (Nat.le_of_ble_eq_true rfl) (Nat.le_of_ble_eq_true rfl) (Or.inl rfl) (qr_fitI rfl _) rfl rfl ?_
  refine qr_aload_n 39 rfl rfl rfl ?_
  refine qr_iconst 40 rfl rfl ?_
  refine qr_iput ha [.ref (a + 1), .ref (a + 2), .ref (a + 3), .int (qz 0), .int (qz 0), .int (qz 0), .int (qz 0), .int (qz 0)] 43 rfl (Nat.le_of_ble_eq_true rfl) (Nat.le_of_ble_eq_true rfl) (Or.inl rfl) (qr_fitI rfl _) rfl rfl ?_
  refine qr_aload_n 44 rfl rfl rfl ?_
  refine qr_iconst 45 rfl rfl ?_
  refine qr_iput ha [.ref (a + 1), .ref (a + 2), .ref (a + 3), .int (qz 0), .int (qz 0), .int (qz 0), .int (qz 0), .int (qz 0)] 48 rfl (Nat.le_of_ble_eq_true rfl) (Nat.le_of_ble_eq_true rfl) (Or.inl rfl) (qr_fitI rfl _) rfl rfl ?_
  refine qr_aload_n 49 rfl rfl rfl ?_
  refine qr_iconst 50 rfl rfl ?_
  refine qr_iput ha [.ref (a + 1), .ref (a + 2), .ref (a + 3), .int (qz 0), .int (qz 0), .int (qz 0), .int (qz 0), .int (qz 0)] 53 rfl (Nat.le_of_ble_eq_true rfl) (Nat.le_of_ble_eq_true rfl) (Or.inl rfl) (qr_fitZ rfl (by omega)) rfl rfl ?_
  have hi := qi_in u ha (qc_o a 0 0 0 0 0) (.inl (.int, 120, .inl (qzf (fun _ => 0)))) (.inl (.int, 122, .inl (qzf (fun _ => 0)))) (.inl (.int, 120, .inl (qzf (fun _ => 0))))
  refine qi_go (ln := 0) (at_ := 0) (sz := 0) (nm := 0) (sk := 0) (t := fun _ => 0) (cd := fun _ => 0) ha (qc_o a 0 0 0 0 0) (.inl (.int, 120, .inl (qzf (fun _ => 0)))) (.inl (.int, 122, .inl (qzf (fun _ => 0)))) (.inl (.int, 120, .inl (qzf (fun _ => 0)))) ?_
  refine qr_aload_n 54 rfl rfl rfl ?_
  refine qr_aload_n 55 rfl rfl rfl ?_
  refine qr_callC 58 rfl rfl rfl (Nat.le_of_ble_eq_true rfl) (Nat.le_of_ble_eq_true rfl) sp_len3 ?_
  rintro _ _ ⟨rfl, rfl⟩
  simp only [Option.toList, List.drop, List.cons_append, List.nil_append]
  refine qr_aload_n 59 rfl rfl rfl ?_
  refine qr_cget0 hi 62 rfl rfl ?_
  refine qr_ctlen hi 63 rfl rfl ?_
  refine qr_callC 66 rfl rfl rfl (Nat.le_of_ble_eq_true rfl) (Nat.le_of_ble_eq_true rfl) (sp_mmin (by omega) (by omega)) ?_
  rintro _ _ ⟨rfl, b, rfl, hb⟩
  simp only [Option.toList, List.drop, List.cons_append, List.nil_append]
  have eb : b = 4 := by omega
  subst eb
  refine qr_cput3 hi 69 rfl rfl ?_
  refine qr_iconst 70 rfl rfl ?_
  refine qr_istore_n [(2, .int (qz 0)), (0, .ref a), (1, .ref 3)] 71 rfl (by decide) rfl rfl ?_
  exact loop 5 0 (fun _ => 0) (by omega) (fun _ => by omega)

set_option maxHeartbeats 2000000 in
set_option maxRecDepth 20000 in
/-- Custom.<init> -/
theorem sp_cinit5 {L : Nat} {xs : Nat → Int} {vb : Bool} {d : Nat} {u : qm_W} {a : Nat} (ha : a = 16 + u.length)  : qm_T (qe L xs vb) (d + 57) 9 [.ref a, .ref 5] (u ++ [.inr (7, [.null, .null, .null, .int (qz 0), .int (qz 0), .int (qz 0), .int (qz 0), .int (qz 0)])]) (fun r w' => r = none ∧ ∃ (at2 sz2 nm2 sk2 : Int) (t cd : Nat → Int), w' = u ++ [qc_o a 5 at2 sz2 nm2 sk2, .inl (.int, 120, .inl (qzf t)), .inl (.int, 122, .inl (qzf cd)), .inl (.int, 120, .inl (qzf (fun _ => 0)))] ∧ (0 ≤ at2 ∧ at2 ≤ 5 ∧ 0 ≤ sz2 ∧ sz2 ≤ 122 ∧ -2147483648 ≤ nm2 ∧ nm2 ≤ 2147483647 ∧ (sk2 = 0 ∨ sk2 = 1)) ∧ ∀ j, -2147483648 ≤ t j ∧ t j ≤ 2147483647) := by
  refine qr_start (d := d + 56) qv_e9 (Nat.le_of_ble_eq_true rfl) ?_
  show qr_W (qe L xs vb) (d + 56) qx_e9 _ (0, [(0, .ref a), (1, .ref 5)], [], u ++ [.inr (7, [.null, .null, .null, .int (qz 0), .int (qz 0), .int (qz 0), .int (qz 0), .int (qz 0)])], 0, 0)
  have loop : ∀ (n : Nat) (i : Int) (t : Nat → Int), (0 ≤ i ∧ i ≤ 5 ∧ 5 - i < n) → (∀ j, -2147483648 ≤ t j ∧ t j ≤ 2147483647) → qr_W (qe L xs vb) (d + 56) qx_e9 (fun r w' => r = none ∧ ∃ (at2 sz2 nm2 sk2 : Int) (t cd : Nat → Int), w' = u ++ [qc_o a 5 at2 sz2 nm2 sk2, .inl (.int, 120, .inl (qzf t)), .inl (.int, 122, .inl (qzf cd)), .inl (.int, 120, .inl (qzf (fun _ => 0)))] ∧ (0 ≤ at2 ∧ at2 ≤ 5 ∧ 0 ≤ sz2 ∧ sz2 ≤ 122 ∧ -2147483648 ≤ nm2 ∧ nm2 ≤ 2147483647 ∧ (sk2 = 0 ∨ sk2 = 1)) ∧ ∀ j, -2147483648 ≤ t j ∧ t j ≤ 2147483647) (71, [(2, .int (qz i)), (0, .ref a), (1, .ref 5)], [], qc (u ++ [(qc_o a 0 0 0 0 0), (.inl (.int, 120, .inl (qzf (fun _ => 0)))), (.inl (.int, 122, .inl (qzf (fun _ => 0)))), (.inl (.int, 120, .inl (qzf (fun _ => 0))))]) a 5 0 0 0 0 t (fun _ => 0), 3, 362) := by
    intro n
    induction n with
    | zero => intro i t h1 h2; exact absurd h1 (by omega)
    | succ n ih =>
      intro i t h1 ht
      have hi := qi_in u ha (qc_o a 0 0 0 0 0) (.inl (.int, 120, .inl (qzf (fun _ => 0)))) (.inl (.int, 122, .inl (qzf (fun _ => 0)))) (.inl (.int, 120, .inl (qzf (fun _ => 0))))
      refine qr_iload_n 72 rfl rfl rfl ?_
      refine qr_aload_n 73 rfl rfl rfl ?_
      refine qr_cget3 hi 76 rfl rfl ?_
      refine qr_icmp_ge 96 79 rfl rfl rfl (by omega) (by omega) (fun h => ?_) (fun h => ?_)
      · refine qr_aload_n 97 rfl rfl rfl ?_
        refine qr_ccallC (as := []) (rest := []) hi 100 rfl rfl (Nat.le_of_ble_eq_true rfl) (Nat.le_of_ble_eq_true rfl) (Nat.le_of_ble_eq_true rfl) rfl rfl (sp_lines hi ht (by omega) (by omega)) ?_
        rintro _ _ ⟨v, at2, sz2, nm2, sk2, cd2, rfl, rfl, hb⟩
        simp only [Option.toList, List.cons_append, List.nil_append]
        refine qr_pop 101 rfl rfl rfl ?_
        refine qr_retV rfl rfl (Nat.le_of_ble_eq_true rfl) (Nat.le_of_ble_eq_true rfl) ?_
        exact ⟨rfl, at2, sz2, nm2, sk2, t, cd2, qi_qc u ha _ _ _ _ _ _ _ _ _ _ _, by omega, ht⟩
      · refine qr_aload_n 80 rfl rfl rfl ?_
        refine qr_cget0 hi 83 rfl rfl ?_
        refine qr_iload_n 84 rfl rfl rfl ?_
        refine qr_aload_n 85 rfl rfl rfl ?_
        refine qr_iload_n 86 rfl rfl rfl ?_
        refine qr_callC 89 rfl rfl rfl (Nat.le_of_ble_eq_true rfl) (Nat.le_of_ble_eq_true rfl) (sp_cha5 ⟨by omega, by omega⟩) ?_
        rintro _ _ ⟨rfl, y, rfl⟩
        simp only [Option.toList, List.drop, List.cons_append, List.nil_append]
        refine qr_ctstore hi 90 rfl (by omega) rfl ?_
        refine qr_iincG (fun v => [(2, .int (qz v)), (0, .ref a), (1, .ref 5)]) 93 rfl rfl (by decide) (fun _ => rfl) rfl (fun v hv => ?_)
        refine qr_goto 71 rfl rfl ?_
        refine ih v _ (by omega) ?_
        intro j
        unfold qzu
        split
        · exact qz_i2c_r y
        · exact ht j
  refine qr_aload_n 1 rfl rfl rfl ?_
  refine qr_objinit 4 rfl (by decide) rfl ?_
  refine qr_aload_n 5 rfl rfl rfl ?_
  refine qr_bipush 7 rfl (by decide) rfl ?_
  refine qr_inewI ha [.inr (7, [.null, .null, .null, .int (qz 0), .int (qz 0), .int (qz 0), .int (qz 0), .int (qz 0)]), .inl (.int, 120, .inl (qzf (fun _ => 0)))] 9 1 120 1 rfl (by decide) (Nat.le_of_ble_eq_true rfl) (Nat.le_of_ble_eq_true rfl) rfl rfl rfl rfl rfl ?_
  refine qr_iput ha [.ref (a + 1), .null, .null, .int (qz 0), .int (qz 0), .int (qz 0), .int (qz 0), .int (qz 0)] 12 rfl (Nat.le_of_ble_eq_true rfl) (Nat.le_of_ble_eq_true rfl) (Or.inr ⟨by decide, rfl⟩) (qr_fitR (Or.inr ⟨_, rfl⟩) _) rfl rfl ?_
  refine qr_aload_n 13 rfl rfl rfl ?_
  refine qr_bipush 15 rfl (by decide) rfl ?_
  refine qr_inewI ha [.inr (7, [.ref (a + 1), .null, .null, .int (qz 0), .int (qz 0), .int (qz 0), .int (qz 0), .int (qz 0)]), .inl (.int, 120, .inl (qzf (fun _ => 0))), .inl (.int, 122, .inl (qzf (fun _ => 0)))] 17 2 242 2 rfl (by decide) (Nat.le_of_ble_eq_true rfl) (Nat.le_of_ble_eq_true rfl) rfl rfl rfl rfl rfl ?_
  refine qr_iput ha [.ref (a + 1), .ref (a + 2), .null, .int (qz 0), .int (qz 0), .int (qz 0), .int (qz 0), .int (qz 0)] 20 rfl (Nat.le_of_ble_eq_true rfl) (Nat.le_of_ble_eq_true rfl) (Or.inr ⟨by decide, rfl⟩) (qr_fitR (Or.inr ⟨_, rfl⟩) _) rfl rfl ?_
  refine qr_aload_n 21 rfl rfl rfl ?_
  refine qr_bipush 23 rfl (by decide) rfl ?_
  refine qr_inewI ha [.inr (7, [.ref (a + 1), .ref (a + 2), .null, .int (qz 0), .int (qz 0), .int (qz 0), .int (qz 0), .int (qz 0)]), .inl (.int, 120, .inl (qzf (fun _ => 0))), .inl (.int, 122, .inl (qzf (fun _ => 0))), .inl (.int, 120, .inl (qzf (fun _ => 0)))] 25 3 362 3 rfl (by decide) (Nat.le_of_ble_eq_true rfl) (Nat.le_of_ble_eq_true rfl) rfl rfl rfl rfl rfl ?_
  refine qr_iput ha [.ref (a + 1), .ref (a + 2), .ref (a + 3), .int (qz 0), .int (qz 0), .int (qz 0), .int (qz 0), .int (qz 0)] 28 rfl (Nat.le_of_ble_eq_true rfl) (Nat.le_of_ble_eq_true rfl) (Or.inr ⟨by decide, rfl⟩) (qr_fitR (Or.inr ⟨_, rfl⟩) _) rfl rfl ?_
  refine qr_aload_n 29 rfl rfl rfl ?_
  refine qr_iconst 30 rfl rfl ?_
  refine qr_iput ha [.ref (a + 1), .ref (a + 2), .ref (a + 3), .int (qz 0), .int (qz 0), .int (qz 0), .int (qz 0), .int (qz 0)] 33 rfl (Nat.le_of_ble_eq_true rfl) (Nat.le_of_ble_eq_true rfl) (Or.inl rfl) (qr_fitI rfl _) rfl rfl ?_
  refine qr_aload_n 34 rfl rfl rfl ?_
  refine qr_iconst 35 rfl rfl ?_
  refine qr_iput ha [.ref (a + 1), .ref (a + 2), .ref (a + 3), .int (qz 0), .int (qz 0), .int (qz 0), .int (qz 0), .int (qz 0)] 38 rfl (Nat.le_of_ble_eq_true rfl) (Nat.le_of_ble_eq_true rfl) (Or.inl rfl) (qr_fitI rfl _) rfl rfl ?_
  refine qr_aload_n 39 rfl rfl rfl ?_
  refine qr_iconst 40 rfl rfl ?_
  refine qr_iput ha [.ref (a + 1), .ref (a + 2), .ref (a + 3), .int (qz 0), .int (qz 0), .int (qz 0), .int (qz 0), .int (qz 0)] 43 rfl (Nat.le_of_ble_eq_true rfl) (Nat.le_of_ble_eq_true rfl) (Or.inl rfl) (qr_fitI rfl _) rfl rfl ?_
  refine qr_aload_n 44 rfl rfl rfl ?_
  refine qr_iconst 45 rfl rfl ?_
  refine qr_iput ha [.ref (a + 1), .ref (a + 2), .ref (a + 3), .int (qz 0), .int (qz 0), .int (qz 0), .int (qz 0), .int (qz 0)] 48 rfl (Nat.le_of_ble_eq_true rfl) (Nat.le_of_ble_eq_true rfl) (Or.inl rfl) (qr_fitI rfl _) rfl rfl ?_
  refine qr_aload_n 49 rfl rfl rfl ?_
  refine qr_iconst 50 rfl rfl ?_
  refine qr_iput ha [.ref (a + 1), .ref (a + 2), .ref (a + 3), .int (qz 0), .int (qz 0), .int (qz 0), .int (qz 0), .int (qz 0)] 53 rfl (Nat.le_of_ble_eq_true rfl) (Nat.le_of_ble_eq_true rfl) (Or.inl rfl) (qr_fitZ rfl (by omega)) rfl rfl ?_
  have hi := qi_in u ha (qc_o a 0 0 0 0 0) (.inl (.int, 120, .inl (qzf (fun _ => 0)))) (.inl (.int, 122, .inl (qzf (fun _ => 0)))) (.inl (.int, 120, .inl (qzf (fun _ => 0))))
  refine qi_go (ln := 0) (at_ := 0) (sz := 0) (nm := 0) (sk := 0) (t := fun _ => 0) (cd := fun _ => 0) ha (qc_o a 0 0 0 0 0) (.inl (.int, 120, .inl (qzf (fun _ => 0)))) (.inl (.int, 122, .inl (qzf (fun _ => 0)))) (.inl (.int, 120, .inl (qzf (fun _ => 0)))) ?_
  refine qr_aload_n 54 rfl rfl rfl ?_
  refine qr_aload_n 55 rfl rfl rfl ?_
  refine qr_callC 58 rfl rfl rfl (Nat.le_of_ble_eq_true rfl) (Nat.le_of_ble_eq_true rfl) sp_len5 ?_
  rintro _ _ ⟨rfl, rfl⟩
  simp only [Option.toList, List.drop, List.cons_append, List.nil_append]
  refine qr_aload_n 59 rfl rfl rfl ?_
  refine qr_cget0 hi 62 rfl rfl ?_
  refine qr_ctlen hi 63 rfl rfl ?_
  refine qr_callC 66 rfl rfl rfl (Nat.le_of_ble_eq_true rfl) (Nat.le_of_ble_eq_true rfl) (sp_mmin (by omega) (by omega)) ?_
  rintro _ _ ⟨rfl, b, rfl, hb⟩
  simp only [Option.toList, List.drop, List.cons_append, List.nil_append]
  have eb : b = 5 := by omega
  subst eb
  refine qr_cput3 hi 69 rfl rfl ?_
  refine qr_iconst 70 rfl rfl ?_
  refine qr_istore_n [(2, .int (qz 0)), (0, .ref a), (1, .ref 5)] 71 rfl (by decide) rfl rfl ?_
  exact loop 6 0 (fun _ => 0) (by omega) (fun _ => by omega)

set_option maxHeartbeats 2000000 in
set_option maxRecDepth 20000 in
/-- Custom.<init> -/
theorem sp_cinit6 {L : Nat} {xs : Nat → Int} {vb : Bool} {d : Nat} {u : qm_W} {a : Nat} (ha : a = 16 + u.length)  : qm_T (qe L xs vb) (d + 57) 9 [.ref a, .ref 6] (u ++ [.inr (7, [.null, .null, .null, .int (qz 0), .int (qz 0), .int (qz 0), .int (qz 0), .int (qz 0)])]) (fun r w' => r = none ∧ ∃ (at2 sz2 nm2 sk2 : Int) (t cd : Nat → Int), w' = u ++ [qc_o a 1 at2 sz2 nm2 sk2, .inl (.int, 120, .inl (qzf t)), .inl (.int, 122, .inl (qzf cd)), .inl (.int, 120, .inl (qzf (fun _ => 0)))] ∧ (0 ≤ at2 ∧ at2 ≤ 1 ∧ 0 ≤ sz2 ∧ sz2 ≤ 122 ∧ -2147483648 ≤ nm2 ∧ nm2 ≤ 2147483647 ∧ (sk2 = 0 ∨ sk2 = 1)) ∧ ∀ j, -2147483648 ≤ t j ∧ t j ≤ 2147483647) := by
  refine qr_start (d := d + 56) qv_e9 (Nat.le_of_ble_eq_true rfl) ?_
  show qr_W (qe L xs vb) (d + 56) qx_e9 _ (0, [(0, .ref a), (1, .ref 6)], [], u ++ [.inr (7, [.null, .null, .null, .int (qz 0), .int (qz 0), .int (qz 0), .int (qz 0), .int (qz 0)])], 0, 0)
  have loop : ∀ (n : Nat) (i : Int) (t : Nat → Int), (0 ≤ i ∧ i ≤ 1 ∧ 1 - i < n) → (∀ j, -2147483648 ≤ t j ∧ t j ≤ 2147483647) → qr_W (qe L xs vb) (d + 56) qx_e9 (fun r w' => r = none ∧ ∃ (at2 sz2 nm2 sk2 : Int) (t cd : Nat → Int), w' = u ++ [qc_o a 1 at2 sz2 nm2 sk2, .inl (.int, 120, .inl (qzf t)), .inl (.int, 122, .inl (qzf cd)), .inl (.int, 120, .inl (qzf (fun _ => 0)))] ∧ (0 ≤ at2 ∧ at2 ≤ 1 ∧ 0 ≤ sz2 ∧ sz2 ≤ 122 ∧ -2147483648 ≤ nm2 ∧ nm2 ≤ 2147483647 ∧ (sk2 = 0 ∨ sk2 = 1)) ∧ ∀ j, -2147483648 ≤ t j ∧ t j ≤ 2147483647) (71, [(2, .int (qz i)), (0, .ref a), (1, .ref 6)], [], qc (u ++ [(qc_o a 0 0 0 0 0), (.inl (.int, 120, .inl (qzf (fun _ => 0)))), (.inl (.int, 122, .inl (qzf (fun _ => 0)))), (.inl (.int, 120, .inl (qzf (fun _ => 0))))]) a 1 0 0 0 0 t (fun _ => 0), 3, 362) := by
    intro n
    induction n with
    | zero => intro i t h1 h2; exact absurd h1 (by omega)
    | succ n ih =>
      intro i t h1 ht
      have hi := qi_in u ha (qc_o a 0 0 0 0 0) (.inl (.int, 120, .inl (qzf (fun _ => 0)))) (.inl (.int, 122, .inl (qzf (fun _ => 0)))) (.inl (.int, 120, .inl (qzf (fun _ => 0))))
      refine qr_iload_n 72 rfl rfl rfl ?_
      refine qr_aload_n 73 rfl rfl rfl ?_
      refine qr_cget3 hi 76 rfl rfl ?_
      refine qr_icmp_ge 96 79 rfl rfl rfl (by omega) (by omega) (fun h => ?_) (fun h => ?_)
      · refine qr_aload_n 97 rfl rfl rfl ?_
        refine qr_ccallC (as := []) (rest := []) hi 100 rfl rfl (Nat.le_of_ble_eq_true rfl) (Nat.le_of_ble_eq_true rfl) (Nat.le_of_ble_eq_true rfl) rfl rfl (sp_lines hi ht (by omega) (by omega)) ?_
        rintro _ _ ⟨v, at2, sz2, nm2, sk2, cd2, rfl, rfl, hb⟩
        simp only [Option.toList, List.cons_append, List.nil_append]
        refine qr_pop 101 rfl rfl rfl ?_
        refine qr_retV rfl rfl (Nat.le_of_ble_eq_true rfl) (Nat.le_of_ble_eq_true rfl) ?_
        exact ⟨rfl, at2, sz2, nm2, sk2, t, cd2, qi_qc u ha _ _ _ _ _ _ _ _ _ _ _, by omega, ht⟩
      · refine qr_aload_n 80 rfl rfl rfl ?_
        refine qr_cget0 hi 83 rfl rfl ?_
        refine qr_iload_n 84 rfl rfl rfl ?_
        refine qr_aload_n 85 rfl rfl rfl ?_
        refine qr_iload_n 86 rfl rfl rfl ?_
        refine qr_callC 89 rfl rfl rfl (Nat.le_of_ble_eq_true rfl) (Nat.le_of_ble_eq_true rfl) (sp_cha6 ⟨by omega, by omega⟩) ?_
        rintro _ _ ⟨rfl, y, rfl⟩
        simp only [Option.toList, List.drop, List.cons_append, List.nil_append]
        refine qr_ctstore hi 90 rfl (by omega) rfl ?_
        refine qr_iincG (fun v => [(2, .int (qz v)), (0, .ref a), (1, .ref 6)]) 93 rfl rfl (by decide) (fun _ => rfl) rfl (fun v hv => ?_)
        refine qr_goto 71 rfl rfl ?_
        refine ih v _ (by omega) ?_
        intro j
        unfold qzu
        split
        · exact qz_i2c_r y
        · exact ht j
  refine qr_aload_n 1 rfl rfl rfl ?_
  refine qr_objinit 4 rfl (by decide) rfl ?_
  refine qr_aload_n 5 rfl rfl rfl ?_
  refine qr_bipush 7 rfl (by decide) rfl ?_
  refine qr_inewI ha [.inr (7, [.null, .null, .null, .int (qz 0), .int (qz 0), .int (qz 0), .int (qz 0), .int (qz 0)]), .inl (.int, 120, .inl (qzf (fun _ => 0)))] 9 1 120 1 rfl (by decide) (Nat.le_of_ble_eq_true rfl) (Nat.le_of_ble_eq_true rfl) rfl rfl rfl rfl rfl ?_
  refine qr_iput ha [.ref (a + 1), .null, .null, .int (qz 0), .int (qz 0), .int (qz 0), .int (qz 0), .int (qz 0)] 12 rfl (Nat.le_of_ble_eq_true rfl) (Nat.le_of_ble_eq_true rfl) (Or.inr ⟨by decide, rfl⟩) (qr_fitR (Or.inr ⟨_, rfl⟩) _) rfl rfl ?_
  refine qr_aload_n 13 rfl rfl rfl ?_
  refine qr_bipush 15 rfl (by decide) rfl ?_
  refine qr_inewI ha [.inr (7, [.ref (a + 1), .null, .null, .int (qz 0), .int (qz 0), .int (qz 0), .int (qz 0), .int (qz 0)]), .inl (.int, 120, .inl (qzf (fun _ => 0))), .inl (.int, 122, .inl (qzf (fun _ => 0)))] 17 2 242 2 rfl (by decide) (Nat.le_of_ble_eq_true rfl) (Nat.le_of_ble_eq_true rfl) rfl rfl rfl rfl rfl ?_
  refine qr_iput ha [.ref (a + 1), .ref (a + 2), .null, .int (qz 0), .int (qz 0), .int (qz 0), .int (qz 0), .int (qz 0)] 20 rfl (Nat.le_of_ble_eq_true rfl) (Nat.le_of_ble_eq_true rfl) (Or.inr ⟨by decide, rfl⟩) (qr_fitR (Or.inr ⟨_, rfl⟩) _) rfl rfl ?_
  refine qr_aload_n 21 rfl rfl rfl ?_
  refine qr_bipush 23 rfl (by decide) rfl ?_
  refine qr_inewI ha [.inr (7, [.ref (a + 1), .ref (a + 2), .null, .int (qz 0), .int (qz 0), .int (qz 0), .int (qz 0), .int (qz 0)]), .inl (.int, 120, .inl (qzf (fun _ => 0))), .inl (.int, 122, .inl (qzf (fun _ => 0))), .inl (.int, 120, .inl (qzf (fun _ => 0)))] 25 3 362 3 rfl (by decide) (Nat.le_of_ble_eq_true rfl) (Nat.le_of_ble_eq_true rfl) rfl rfl rfl rfl rfl ?_
  refine qr_iput ha [.ref (a + 1), .ref (a + 2), .ref (a + 3), .int (qz 0), .int (qz 0), .int (qz 0), .int (qz 0), .int (qz 0)] 28 rfl (Nat.le_of_ble_eq_true rfl) (Nat.le_of_ble_eq_true rfl) (Or.inr ⟨by decide, rfl⟩) (qr_fitR (Or.inr ⟨_, rfl⟩) _) rfl rfl ?_
  refine qr_aload_n 29 rfl rfl rfl ?_
  refine qr_iconst 30 rfl rfl ?_
  refine qr_iput ha [.ref (a + 1), .ref (a + 2), .ref (a + 3), .int (qz 0), .int (qz 0), .int (qz 0), .int (qz 0), .int (qz 0)] 33 rfl (Nat.le_of_ble_eq_true rfl) (Nat.le_of_ble_eq_true rfl) (Or.inl rfl) (qr_fitI rfl _) rfl rfl ?_
  refine qr_aload_n 34 rfl rfl rfl ?_
  refine qr_iconst 35 rfl rfl ?_
  refine qr_iput ha [.ref (a + 1), .ref (a + 2), .ref (a + 3), .int (qz 0), .int (qz 0), .int (qz 0), .int (qz 0), .int (qz 0)] 38 rfl (Nat.le_of_ble_eq_true rfl) (Nat.le_of_ble_eq_true rfl) (Or.inl rfl) (qr_fitI rfl _) rfl rfl ?_
  refine qr_aload_n 39 rfl rfl rfl ?_
  refine qr_iconst 40 rfl rfl ?_
  refine qr_iput ha [.ref (a + 1), .ref (a + 2), .ref (a + 3), .int (qz 0), .int (qz 0), .int (qz 0), .int (qz 0), .int (qz 0)] 43 rfl (Nat.le_of_ble_eq_true rfl) (Nat.le_of_ble_eq_true rfl) (Or.inl rfl) (qr_fitI rfl _) rfl rfl ?_
  refine qr_aload_n 44 rfl rfl rfl ?_
  refine qr_iconst 45 rfl rfl ?_
  refine qr_iput ha [.ref (a + 1), .ref (a + 2), .ref (a + 3), .int (qz 0), .int (qz 0), .int (qz 0), .int (qz 0), .int (qz 0)] 48 rfl (Nat.le_of_ble_eq_true rfl) (Nat.le_of_ble_eq_true rfl) (Or.inl rfl) (qr_fitI rfl _) rfl rfl ?_
  refine qr_aload_n 49 rfl rfl rfl ?_
  refine qr_iconst 50 rfl rfl ?_
  refine qr_iput ha [.ref (a + 1), .ref (a + 2), .ref (a + 3), .int (qz 0), .int (qz 0), .int (qz 0), .int (qz 0), .int (qz 0)] 53 rfl (Nat.le_of_ble_eq_true rfl) (Nat.le_of_ble_eq_true rfl) (Or.inl rfl) (qr_fitZ rfl (by omega)) rfl rfl ?_
  have hi := qi_in u ha (qc_o a 0 0 0 0 0) (.inl (.int, 120, .inl (qzf (fun _ => 0)))) (.inl (.int, 122, .inl (qzf (fun _ => 0)))) (.inl (.int, 120, .inl (qzf (fun _ => 0))))
  refine qi_go (ln := 0) (at_ := 0) (sz := 0) (nm := 0) (sk := 0) (t := fun _ => 0) (cd := fun _ => 0) ha (qc_o a 0 0 0 0 0) (.inl (.int, 120, .inl (qzf (fun _ => 0)))) (.inl (.int, 122, .inl (qzf (fun _ => 0)))) (.inl (.int, 120, .inl (qzf (fun _ => 0)))) ?_
  refine qr_aload_n 54 rfl rfl rfl ?_
  refine qr_aload_n 55 rfl rfl rfl ?_
  refine qr_callC 58 rfl rfl rfl (Nat.le_of_ble_eq_true rfl) (Nat.le_of_ble_eq_true rfl) sp_len6 ?_
  rintro _ _ ⟨rfl, rfl⟩
  simp only [Option.toList, List.drop, List.cons_append, List.nil_append]
  refine qr_aload_n 59 rfl rfl rfl ?_
  refine qr_cget0 hi 62 rfl rfl ?_
  refine qr_ctlen hi 63 rfl rfl ?_
  refine qr_callC 66 rfl rfl rfl (Nat.le_of_ble_eq_true rfl) (Nat.le_of_ble_eq_true rfl) (sp_mmin (by omega) (by omega)) ?_
  rintro _ _ ⟨rfl, b, rfl, hb⟩
  simp only [Option.toList, List.drop, List.cons_append, List.nil_append]
  have eb : b = 1 := by omega
  subst eb
  refine qr_cput3 hi 69 rfl rfl ?_
  refine qr_iconst 70 rfl rfl ?_
  refine qr_istore_n [(2, .int (qz 0)), (0, .ref a), (1, .ref 6)] 71 rfl (by decide) rfl rfl ?_
  exact loop 2 0 (fun _ => 0) (by omega) (fun _ => by omega)
