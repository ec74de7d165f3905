section QY
variable {X : qm_X} {d : Nat} {x : qs_Ent} {Q : Option Value → qm_W → Prop} {pc : Nat} {ls : qm_L} {st : List Value} {w : qm_W} {c n r1 r2 r3 : Nat} {rv : Value}
theorem qy_v {y : Int} (v : Int) (h : y = v) (k : qr_W X d x Q (pc, ls, .int (qz v) :: st, w, c, n)) : qr_W X d x Q (pc, ls, .int (qz y) :: st, w, c, n) := by
  rw [h]
  exact k
theorem qy_vl {y : Int} (v : Int) (h : y = v) (k : qr_W X d x Q (pc, ls, .long (ql v) :: st, w, c, n)) : qr_W X d x Q (pc, ls, .long (ql y) :: st, w, c, n) := by
  rw [h]
  exact k
theorem qy_wA {σ : Nat → Nat → Int} {κ : Nat → Option Nat} {ρ : Nat} (α : Nat → Nat → Int) (h : w = qw σ α κ ρ) (k : ∀ α', α' = α → qr_W X d x Q (pc, ls, st, qw σ α' κ ρ, c, n)) : qr_W X d x Q (pc, ls, st, w, c, n) := by
  rw [h]
  exact k α rfl
theorem qy_wS {α : Nat → Nat → Int} {κ : Nat → Option Nat} {ρ : Nat} (σ : Nat → Nat → Int) (h : w = qw σ α κ ρ) (k : ∀ σ', σ' = σ → qr_W X d x Q (pc, ls, st, qw σ' α κ ρ, c, n)) : qr_W X d x Q (pc, ls, st, w, c, n) := by
  rw [h]
  exact k σ rfl
theorem qy_w (w' : qm_W) (h : w = w') (k : qr_W X d x Q (pc, ls, st, w', c, n)) : qr_W X d x Q (pc, ls, st, w, c, n) := by
  rw [h]
  exact k
theorem qy_call {q : qm_I} {k : Nat} {as rest : List Value} (p : Nat) (hq : qm_fetch x.2.2.2.2.2.2.2 pc = some q) (hcall : qm_call X q st w = some (k, as, p, rest)) (hb : qm_bud k = (0, 0)) (hT : qm_T X d k as w (fun r w' => qr_W X d x Q (p, ls, r.toList ++ rest, w', 0, 0))) : qr_W X d x Q (pc, ls, st, w, 0, 0) :=
  qr_callN p hq hcall hb hT (fun _ _ h => h)
theorem va_cpy_0 {A : Type} (f g : Nat → A) (a b : Nat) : va_cpy f g a b 0 = g := by
  funext k
  unfold va_cpy
  rw [if_neg (by omega)]
theorem qy_copy0 {z a0 a1 n0 n1 : Nat} {sp dp : Int} {f g : Nat → Int} (p : Nat) (hq : qm_fetch x.2.2.2.2.2.2.2 pc = some (pc, .invokestatic z, 3, r1, r2, 7, rv)) (ha0 : 16 ≤ a0) (ha1 : 16 ≤ a1) (h0 : w[a0 - 16]? = some (.inl (.int, n0, .inl (qzf f)))) (h1 : w[a1 - 16]? = some (.inl (.int, n1, .inl (qzf g)))) (hs : 0 ≤ sp ∧ sp ≤ 1000) (hd : 0 ≤ dp ∧ dp ≤ 1000) (hn : sp.toNat ≤ n0 ∧ dp.toNat ≤ n1) (hsum : qm_sum st ≤ 8) (hp : pc + 3 = p) (k : qr_W X d x Q (p, ls, st, w, c, n)) : qr_W X d x Q (pc, ls, .int (qz 0) :: .int (qz dp) :: .ref a1 :: .int (qz sp) :: .ref a0 :: st, w, c, n) := by
  subst hp
  refine qr_eff hq rfl rfl (s' := (pc + 3, ls, st, w, c, n)) ?_ k
  have e1 : (qz sp).toNatClampNeg = sp.toNat := qz_clamp (by omega)
  have e2 : (qz dp).toNatClampNeg = dp.toNat := qz_clamp (by omega)
  have e3 : (qz 0).toNatClampNeg = 0 := qz_clamp (by omega)
  have l1 : ¬ qz sp < 0 := fun h => absurd ((qz_lt (by omega) (by omega)).1 (show qz sp < qz 0 from h)) (by omega)
  have l2 : ¬ qz dp < 0 := fun h => absurd ((qz_lt (by omega) (by omega)).1 (show qz dp < qz 0 from h)) (by omega)
  have l3 : ¬ qz 0 < 0 := fun h => absurd ((qz_lt (by omega) (by omega)).1 (show qz 0 < qz 0 from h)) (by omega)
  have hw : w.set (a1 - 16) (.inl (.int, n1, .inl (qzf g))) = w := by
    obtain ⟨hlt, he⟩ := List.getElem?_eq_some_iff.1 h1
    rw [← he, List.set_getElem_self]
  unfold qm_eff
  refine (if_pos ⟨rfl, rfl, ha0, ha1, l1, l2, l3, hsum⟩).trans ?_
  simp only [h0, h1, e1, e2, e3, va_cpy_0, hw]
  rw [if_pos ⟨by omega, by omega⟩]
  rfl
theorem qo_r45 {g : Nat → Nat → Int} {z : Int} (h : 0 ≤ z ∧ z < 6) : qo_r g 45 z.toNat = 6 := by
  obtain ⟨m, rfl⟩ : ∃ m : Nat, z = m := ⟨z.toNat, by omega⟩
  have h1 : m = 0 ∨ m = 1 ∨ m = 2 ∨ m = 3 ∨ m = 4 ∨ m = 5 := by omega
  rcases h1 with rfl | rfl | rfl | rfl | rfl | rfl <;> rfl
theorem qo_r108 {g : Nat → Nat → Int} {z : Int} (h : 0 ≤ z ∧ z < 2) : qo_r g 108 z.toNat = -1 := by
  obtain ⟨m, rfl⟩ : ∃ m : Nat, z = m := ⟨z.toNat, by omega⟩
  have h1 : m = 0 ∨ m = 1 := by omega
  rcases h1 with rfl | rfl <;> rfl
theorem qo_r121 {g : Nat → Nat → Int} {z : Int} (h : 0 ≤ z ∧ z < 6) : qo_r g 121 z.toNat = -1 := by
  obtain ⟨m, rfl⟩ : ∃ m : Nat, z = m := ⟨z.toNat, by omega⟩
  have h1 : m = 0 ∨ m = 1 ∨ m = 2 ∨ m = 3 ∨ m = 4 ∨ m = 5 := by omega
  rcases h1 with rfl | rfl | rfl | rfl | rfl | rfl <;> rfl
theorem qy_loop {σ : Nat → Nat → Int} {κ : Nat → Option Nat} {ρ : Nat} (m : Int → Nat) (I : Int → (Nat → Nat → Int) → Prop) (lsf : Int → qm_L) (hs : ∀ z α, I z α → (∀ z' α', I z' α' → m z' < m z → qr_W X d x Q (pc, lsf z', st, qw σ α' κ ρ, c, n)) → qr_W X d x Q (pc, lsf z, st, qw σ α κ ρ, c, n)) (z : Int) (α : Nat → Nat → Int) (h : I z α) : qr_W X d x Q (pc, lsf z, st, qw σ α κ ρ, c, n) := by
  have key : ∀ N z α, I z α → m z < N → qr_W X d x Q (pc, lsf z, st, qw σ α κ ρ, c, n) := by
    intro N
    induction N with
    | zero => intro z α _ h2; exact absurd h2 (Nat.not_lt_zero _)
    | succ N ih => intro z α h1 h2; exact hs z α h1 (fun z' α' h3 h4 => ih z' α' h3 (by omega))
  exact key (m z + 1) z α h (Nat.lt_succ_self _)
theorem ql_ushr0 {a : Int} (h : -9223372036854775808 ≤ a ∧ a ≤ 9223372036854775807) : ql_ushr a 0 = a := by
  have e : ((qz 0).toInt64.toUInt64 &&& Int64.toUInt64 63) = 0 := by decide
  unfold ql_ushr
  rw [e, UInt64.shiftRight_zero, Int64.toInt64_toUInt64, ql_ti h]
theorem ql_shr0 {a : Int} (h : -9223372036854775808 ≤ a ∧ a ≤ 9223372036854775807) : ql_shr a 0 = a := by
  have e : ((qz 0).toInt64 &&& 63) = 0 := by decide
  unfold ql_shr
  rw [e, Int64.shiftRight_zero, ql_ti h]
theorem ql_shl0 {a : Int} (h : -9223372036854775808 ≤ a ∧ a ≤ 9223372036854775807) : ql_shl a 0 = a := by
  have e : ((qz 0).toInt64 &&& 63) = 0 := by decide
  unfold ql_shl
  rw [e, Int64.shiftLeft_zero, ql_ti h]
theorem ql_and0l (a : Int) : ql_and 0 a = 0 := by
  unfold ql_and
  rw [show ql 0 = 0 from rfl, Int64.zero_and]
  rfl
theorem ql_and0r (a : Int) : ql_and a 0 = 0 := by
  unfold ql_and
  rw [show ql 0 = 0 from rfl, Int64.and_zero]
  rfl
theorem ql_andm {a : Int} (h : -9223372036854775808 ≤ a ∧ a ≤ 9223372036854775807) : ql_and a (-1) = a := by
  unfold ql_and
  rw [show ql (-1) = -1 from rfl, Int64.and_neg_one, ql_ti h]
end QY

set_option maxHeartbeats 8000000 in
set_option maxRecDepth 20000 in
/-- of on the fresh objects: both answer alike -/
theorem sx_of {L : Nat} {xs : Nat → Int} {vb : Bool} {d : Nat} {s g : Nat → Nat → Int} {x0 : Int} {x1 : Int} (hok : qo_ok s g) (rx0 : -2147483648 ≤ x0 ∧ x0 ≤ 2147483647) (rx1 : -2147483648 ≤ x1 ∧ x1 ≤ 2147483647) : qm_T (qe L xs vb) (d + 3) 49 [.ref 16, .int (qz x0), .int (qz x1)] (qw (qo_s s) (qo_r g) qo_k 82) (fun r w => (∃ y : Int, r = some (.int (qz y))) ∧ (∃ σ α κ ρ, w = qw σ α κ ρ) ∧ qm_T (qe L xs vb) (d + 3) 178 [.ref 86, .int (qz x0), .int (qz x1)] w (fun r' _ => r' = r)) := by
  refine qr_start (d := d + 2) qv_e49 (Nat.le_of_ble_eq_true rfl) ?_
  show qr_W (qe L xs vb) (d + 2) qx_e49 _ (0, [(0, .ref 16), (1, .int (qz x0)), (2, .int (qz x1))], [], _, 0, 0)
  refine qr_aload_n 1 rfl rfl rfl ?_
  refine qr_get 4 rfl rfl rfl (by decide) rfl ?_
  refine qr_iload_n 5 rfl rfl rfl ?_
  refine qy_call 8 rfl rfl rfl ?_
  refine qr_start (d := d + 1) qv_e40 (Nat.le_of_ble_eq_true rfl) ?_
  show qr_W (qe L xs vb) (d + 1) qx_e40 _ (0, [(0, .ref 17), (1, .int (qz x0))], [], _, 0, 0)
  refine qr_iload_n 1 rfl rfl rfl ?_
  refine qr_if_lt 16 4 rfl rfl rfl (by omega) (fun h1 => ?_) (fun h1 => ?_)
  · skip
    refine qr_iconst 17 rfl rfl ?_
    refine qr_retZ rfl rfl (by omega) (by decide) (by decide) ?_
    show qr_W (qe L xs vb) (d + 2) qx_e49 _ (8, [(0, .ref 16), (1, .int (qz x0)), (2, .int (qz x1))], [.int (qz 0)], _, 0, 0)
    refine qr_if_ne 13 11 rfl rfl rfl (by decide) (fun h => absurd h (by decide)) (fun _ => ?_)
    refine qr_iconst 12 rfl rfl ?_
    refine qr_retI rfl rfl (by decide) (by decide) ?_
    refine ⟨⟨_, rfl⟩, ⟨_, _, _, _, rfl⟩, ?_⟩
    refine qr_start (d := d + 2) qv_e178 (Nat.le_of_ble_eq_true rfl) ?_
    show qr_W (qe L xs vb) (d + 2) qx_e178 _ (0, [(0, .ref 86), (1, .int (qz x0)), (2, .int (qz x1))], [], _, 0, 0)
    refine qr_aload_n 1 rfl rfl rfl ?_
    refine qr_iload_n 2 rfl rfl rfl ?_
    refine qy_call 5 rfl rfl rfl ?_
    refine qr_start (d := d + 1) qv_e179 (Nat.le_of_ble_eq_true rfl) ?_
    show qr_W (qe L xs vb) (d + 1) qx_e179 _ (0, [(0, .ref 86), (1, .int (qz x0))], [], _, 0, 0)
    refine qr_iload_n 1 rfl rfl rfl ?_
    refine qr_i2l 2 rfl (by omega) rfl ?_
    refine qr_lconst 3 rfl rfl ?_
    refine qy_vl 0 rfl ?_
    refine qr_aload_n 4 rfl rfl rfl ?_
    refine qr_get 7 rfl rfl rfl (by decide) rfl ?_
    refine qy_v 0 rfl ?_
    refine qr_iconst 8 rfl rfl ?_
    refine qr_isub 9 rfl rfl ?_
    refine qy_v (-1) rfl ?_
    refine qr_i2l 10 rfl (by omega) rfl ?_
    refine qy_vl (-1) rfl ?_
    refine qy_call 13 rfl rfl rfl ?_
    refine qr_start (d := d + 0) qv_e175 (Nat.le_of_ble_eq_true rfl) ?_
    show qr_W (qe L xs vb) (d + 0) qx_e175 _ (0, [(0, .long (ql x0)), (2, .long (ql 0)), (4, .long (ql (-1)))], [], _, 0, 0)
    refine qr_lload_n 1 rfl rfl rfl ?_
    refine qr_lload_n 2 rfl rfl rfl ?_
    refine qr_lc_lt 17 6 rfl rfl rfl rfl (by omega) (by decide) (fun h2 => ?_) (fun h => False.elim (by omega))
    refine qr_iconst 18 rfl rfl ?_
    refine qr_retZ rfl rfl (by omega) (by decide) (by decide) ?_
    show qr_W (qe L xs vb) (d + 1) qx_e179 _ (13, [(0, .ref 86), (1, .int (qz x0))], [.int (qz 0)], _, 0, 0)
    refine qr_retZ rfl rfl (by omega) (by decide) (by decide) ?_
    show qr_W (qe L xs vb) (d + 2) qx_e178 _ (5, [(0, .ref 86), (1, .int (qz x0)), (2, .int (qz x1))], [.int (qz 0)], _, 0, 0)
    refine qr_if_ne 10 8 rfl rfl rfl (by decide) (fun h => absurd h (by decide)) (fun _ => ?_)
    refine qr_iconst 9 rfl rfl ?_
    refine qr_retI rfl rfl (by decide) (by decide) ?_
    exact rfl
  · skip
    refine qr_iload_n 5 rfl rfl rfl ?_
    refine qr_aload_n 6 rfl rfl rfl ?_
    refine qr_get 9 rfl rfl rfl (by decide) rfl ?_
    refine qy_v 0 rfl ?_
    refine qr_icmp_ge 16 12 rfl rfl rfl (by omega) (by decide) (fun h3 => ?_) (fun h => False.elim (by omega))
    refine qr_iconst 17 rfl rfl ?_
    refine qr_retZ rfl rfl (by omega) (by decide) (by decide) ?_
    show qr_W (qe L xs vb) (d + 2) qx_e49 _ (8, [(0, .ref 16), (1, .int (qz x0)), (2, .int (qz x1))], [.int (qz 0)], _, 0, 0)
    refine qr_if_ne 13 11 rfl rfl rfl (by decide) (fun h => absurd h (by decide)) (fun _ => ?_)
    refine qr_iconst 12 rfl rfl ?_
    refine qr_retI rfl rfl (by decide) (by decide) ?_
    refine ⟨⟨_, rfl⟩, ⟨_, _, _, _, rfl⟩, ?_⟩
    refine qr_start (d := d + 2) qv_e178 (Nat.le_of_ble_eq_true rfl) ?_
    show qr_W (qe L xs vb) (d + 2) qx_e178 _ (0, [(0, .ref 86), (1, .int (qz x0)), (2, .int (qz x1))], [], _, 0, 0)
    refine qr_aload_n 1 rfl rfl rfl ?_
    refine qr_iload_n 2 rfl rfl rfl ?_
    refine qy_call 5 rfl rfl rfl ?_
    refine qr_start (d := d + 1) qv_e179 (Nat.le_of_ble_eq_true rfl) ?_
    show qr_W (qe L xs vb) (d + 1) qx_e179 _ (0, [(0, .ref 86), (1, .int (qz x0))], [], _, 0, 0)
    refine qr_iload_n 1 rfl rfl rfl ?_
    refine qr_i2l 2 rfl (by omega) rfl ?_
    refine qr_lconst 3 rfl rfl ?_
    refine qy_vl 0 rfl ?_
    refine qr_aload_n 4 rfl rfl rfl ?_
    refine qr_get 7 rfl rfl rfl (by decide) rfl ?_
    refine qy_v 0 rfl ?_
    refine qr_iconst 8 rfl rfl ?_
    refine qr_isub 9 rfl rfl ?_
    refine qy_v (-1) rfl ?_
    refine qr_i2l 10 rfl (by omega) rfl ?_
    refine qy_vl (-1) rfl ?_
    refine qy_call 13 rfl rfl rfl ?_
    refine qr_start (d := d + 0) qv_e175 (Nat.le_of_ble_eq_true rfl) ?_
    show qr_W (qe L xs vb) (d + 0) qx_e175 _ (0, [(0, .long (ql x0)), (2, .long (ql 0)), (4, .long (ql (-1)))], [], _, 0, 0)
    refine qr_lload_n 1 rfl rfl rfl ?_
    refine qr_lload_n 2 rfl rfl rfl ?_
    refine qr_lc_lt 17 6 rfl rfl rfl rfl (by omega) (by decide) (fun h => False.elim (by omega)) (fun h4 => ?_)
    refine qr_lload_n 7 rfl rfl rfl ?_
    refine qr_lload 9 rfl rfl rfl ?_
    refine qr_lc_gt 17 13 rfl rfl rfl rfl (by omega) (by decide) (fun h5 => ?_) (fun h => False.elim (by omega))
    refine qr_iconst 18 rfl rfl ?_
    refine qr_retZ rfl rfl (by omega) (by decide) (by decide) ?_
    show qr_W (qe L xs vb) (d + 1) qx_e179 _ (13, [(0, .ref 86), (1, .int (qz x0))], [.int (qz 0)], _, 0, 0)
    refine qr_retZ rfl rfl (by omega) (by decide) (by decide) ?_
    show qr_W (qe L xs vb) (d + 2) qx_e178 _ (5, [(0, .ref 86), (1, .int (qz x0)), (2, .int (qz x1))], [.int (qz 0)], _, 0, 0)
    refine qr_if_ne 10 8 rfl rfl rfl (by decide) (fun h => absurd h (by decide)) (fun _ => ?_)
    refine qr_iconst 9 rfl rfl ?_
    refine qr_retI rfl rfl (by decide) (by decide) ?_
    exact rfl

set_option maxHeartbeats 8000000 in
set_option maxRecDepth 20000 in
/-- sword on the fresh objects: both answer alike -/
theorem sx_sword {L : Nat} {xs : Nat → Int} {vb : Bool} {d : Nat} {s g : Nat → Nat → Int} {x0 : Int} {x1 : Int} (hok : qo_ok s g) (rx0 : -2147483648 ≤ x0 ∧ x0 ≤ 2147483647) (rx1 : -2147483648 ≤ x1 ∧ x1 ≤ 2147483647) : qm_T (qe L xs vb) (d + 3) 51 [.ref 16, .int (qz x0), .int (qz x1)] (qw (qo_s s) (qo_r g) qo_k 82) (fun r w => (∃ y : Int, r = some (.int (qz y))) ∧ (∃ σ α κ ρ, w = qw σ α κ ρ) ∧ qm_T (qe L xs vb) (d + 3) 181 [.ref 86, .int (qz x0), .int (qz x1)] w (fun r' _ => r' = r)) := by
  refine qr_start (d := d + 2) qv_e51 (Nat.le_of_ble_eq_true rfl) ?_
  show qr_W (qe L xs vb) (d + 2) qx_e51 _ (0, [(0, .ref 16), (1, .int (qz x0)), (2, .int (qz x1))], [], _, 0, 0)
  refine qr_aload_n 1 rfl rfl rfl ?_
  refine qr_get 4 rfl rfl rfl (by decide) rfl ?_
  refine qr_iload_n 5 rfl rfl rfl ?_
  refine qy_call 8 rfl rfl rfl ?_
  refine qr_start (d := d + 1) qv_e40 (Nat.le_of_ble_eq_true rfl) ?_
  show qr_W (qe L xs vb) (d + 1) qx_e40 _ (0, [(0, .ref 17), (1, .int (qz x0))], [], _, 0, 0)
  refine qr_iload_n 1 rfl rfl rfl ?_
  refine qr_if_lt 16 4 rfl rfl rfl (by omega) (fun h1 => ?_) (fun h1 => ?_)
  · skip
    refine qr_iconst 17 rfl rfl ?_
    refine qr_retZ rfl rfl (by omega) (by decide) (by decide) ?_
    show qr_W (qe L xs vb) (d + 2) qx_e51 _ (8, [(0, .ref 16), (1, .int (qz x0)), (2, .int (qz x1))], [.int (qz 0)], _, 0, 0)
    refine qr_if_eq 18 11 rfl rfl rfl (by decide) (fun _ => ?_) (fun h => absurd h (by decide))
    refine qr_iconst 19 rfl rfl ?_
    refine qr_retI rfl rfl (by decide) (by decide) ?_
    refine ⟨⟨_, rfl⟩, ⟨_, _, _, _, rfl⟩, ?_⟩
    refine qr_start (d := d + 2) qv_e181 (Nat.le_of_ble_eq_true rfl) ?_
    show qr_W (qe L xs vb) (d + 2) qx_e181 _ (0, [(0, .ref 86), (1, .int (qz x0)), (2, .int (qz x1))], [], _, 0, 0)
    refine qr_aload_n 1 rfl rfl rfl ?_
    refine qr_iload_n 2 rfl rfl rfl ?_
    refine qy_call 5 rfl rfl rfl ?_
    refine qr_start (d := d + 1) qv_e179 (Nat.le_of_ble_eq_true rfl) ?_
    show qr_W (qe L xs vb) (d + 1) qx_e179 _ (0, [(0, .ref 86), (1, .int (qz x0))], [], _, 0, 0)
    refine qr_iload_n 1 rfl rfl rfl ?_
    refine qr_i2l 2 rfl (by omega) rfl ?_
    refine qr_lconst 3 rfl rfl ?_
    refine qy_vl 0 rfl ?_
    refine qr_aload_n 4 rfl rfl rfl ?_
    refine qr_get 7 rfl rfl rfl (by decide) rfl ?_
    refine qy_v 0 rfl ?_
    refine qr_iconst 8 rfl rfl ?_
    refine qr_isub 9 rfl rfl ?_
    refine qy_v (-1) rfl ?_
    refine qr_i2l 10 rfl (by omega) rfl ?_
    refine qy_vl (-1) rfl ?_
    refine qy_call 13 rfl rfl rfl ?_
    refine qr_start (d := d + 0) qv_e175 (Nat.le_of_ble_eq_true rfl) ?_
    show qr_W (qe L xs vb) (d + 0) qx_e175 _ (0, [(0, .long (ql x0)), (2, .long (ql 0)), (4, .long (ql (-1)))], [], _, 0, 0)
    refine qr_lload_n 1 rfl rfl rfl ?_
    refine qr_lload_n 2 rfl rfl rfl ?_
    refine qr_lc_lt 17 6 rfl rfl rfl rfl (by omega) (by decide) (fun h2 => ?_) (fun h => False.elim (by omega))
    refine qr_iconst 18 rfl rfl ?_
    refine qr_retZ rfl rfl (by omega) (by decide) (by decide) ?_
    show qr_W (qe L xs vb) (d + 1) qx_e179 _ (13, [(0, .ref 86), (1, .int (qz x0))], [.int (qz 0)], _, 0, 0)
    refine qr_retZ rfl rfl (by omega) (by decide) (by decide) ?_
    show qr_W (qe L xs vb) (d + 2) qx_e181 _ (5, [(0, .ref 86), (1, .int (qz x0)), (2, .int (qz x1))], [.int (qz 0)], _, 0, 0)
    refine qr_if_eq 29 8 rfl rfl rfl (by decide) (fun _ => ?_) (fun h => absurd h (by decide))
    refine qr_iconst 30 rfl rfl ?_
    refine qr_retI rfl rfl (by decide) (by decide) ?_
    exact rfl
  · skip
    refine qr_iload_n 5 rfl rfl rfl ?_
    refine qr_aload_n 6 rfl rfl rfl ?_
    refine qr_get 9 rfl rfl rfl (by decide) rfl ?_
    refine qy_v 0 rfl ?_
    refine qr_icmp_ge 16 12 rfl rfl rfl (by omega) (by decide) (fun h3 => ?_) (fun h => False.elim (by omega))
    refine qr_iconst 17 rfl rfl ?_
    refine qr_retZ rfl rfl (by omega) (by decide) (by decide) ?_
    show qr_W (qe L xs vb) (d + 2) qx_e51 _ (8, [(0, .ref 16), (1, .int (qz x0)), (2, .int (qz x1))], [.int (qz 0)], _, 0, 0)
    refine qr_if_eq 18 11 rfl rfl rfl (by decide) (fun _ => ?_) (fun h => absurd h (by decide))
    refine qr_iconst 19 rfl rfl ?_
    refine qr_retI rfl rfl (by decide) (by decide) ?_
    refine ⟨⟨_, rfl⟩, ⟨_, _, _, _, rfl⟩, ?_⟩
    refine qr_start (d := d + 2) qv_e181 (Nat.le_of_ble_eq_true rfl) ?_
    show qr_W (qe L xs vb) (d + 2) qx_e181 _ (0, [(0, .ref 86), (1, .int (qz x0)), (2, .int (qz x1))], [], _, 0, 0)
    refine qr_aload_n 1 rfl rfl rfl ?_
    refine qr_iload_n 2 rfl rfl rfl ?_
    refine qy_call 5 rfl rfl rfl ?_
    refine qr_start (d := d + 1) qv_e179 (Nat.le_of_ble_eq_true rfl) ?_
    show qr_W (qe L xs vb) (d + 1) qx_e179 _ (0, [(0, .ref 86), (1, .int (qz x0))], [], _, 0, 0)
    refine qr_iload_n 1 rfl rfl rfl ?_
    refine qr_i2l 2 rfl (by omega) rfl ?_
    refine qr_lconst 3 rfl rfl ?_
    refine qy_vl 0 rfl ?_
    refine qr_aload_n 4 rfl rfl rfl ?_
    refine qr_get 7 rfl rfl rfl (by decide) rfl ?_
    refine qy_v 0 rfl ?_
    refine qr_iconst 8 rfl rfl ?_
    refine qr_isub 9 rfl rfl ?_
    refine qy_v (-1) rfl ?_
    refine qr_i2l 10 rfl (by omega) rfl ?_
    refine qy_vl (-1) rfl ?_
    refine qy_call 13 rfl rfl rfl ?_
    refine qr_start (d := d + 0) qv_e175 (Nat.le_of_ble_eq_true rfl) ?_
    show qr_W (qe L xs vb) (d + 0) qx_e175 _ (0, [(0, .long (ql x0)), (2, .long (ql 0)), (4, .long (ql (-1)))], [], _, 0, 0)
    refine qr_lload_n 1 rfl rfl rfl ?_
    refine qr_lload_n 2 rfl rfl rfl ?_
    refine qr_lc_lt 17 6 rfl rfl rfl rfl (by omega) (by decide) (fun h => False.elim (by omega)) (fun h4 => ?_)
    refine qr_lload_n 7 rfl rfl rfl ?_
    refine qr_lload 9 rfl rfl rfl ?_
    refine qr_lc_gt 17 13 rfl rfl rfl rfl (by omega) (by decide) (fun h5 => ?_) (fun h => False.elim (by omega))
    refine qr_iconst 18 rfl rfl ?_
    refine qr_retZ rfl rfl (by omega) (by decide) (by decide) ?_
    show qr_W (qe L xs vb) (d + 1) qx_e179 _ (13, [(0, .ref 86), (1, .int (qz x0))], [.int (qz 0)], _, 0, 0)
    refine qr_retZ rfl rfl (by omega) (by decide) (by decide) ?_
    show qr_W (qe L xs vb) (d + 2) qx_e181 _ (5, [(0, .ref 86), (1, .int (qz x0)), (2, .int (qz x1))], [.int (qz 0)], _, 0, 0)
    refine qr_if_eq 29 8 rfl rfl rfl (by decide) (fun _ => ?_) (fun h => absurd h (by decide))
    refine qr_iconst 30 rfl rfl ?_
    refine qr_retI rfl rfl (by decide) (by decide) ?_
    exact rfl

set_option maxHeartbeats 8000000 in
set_option maxRecDepth 20000 in
/-- kin on the fresh objects: both answer alike -/
theorem sx_kin {L : Nat} {xs : Nat → Int} {vb : Bool} {d : Nat} {s g : Nat → Nat → Int} {x0 : Int} {x1 : Int} (hok : qo_ok s g) (rx0 : -2147483648 ≤ x0 ∧ x0 ≤ 2147483647) (rx1 : -2147483648 ≤ x1 ∧ x1 ≤ 2147483647) : qm_T (qe L xs vb) (d + 3) 56 [.ref 16, .int (qz x0), .int (qz x1)] (qw (qo_s s) (qo_r g) qo_k 82) (fun r w => (∃ y : Int, r = some (.int (qz y))) ∧ (∃ σ α κ ρ, w = qw σ α κ ρ) ∧ qm_T (qe L xs vb) (d + 3) 183 [.ref 86, .int (qz x0), .int (qz x1)] w (fun r' _ => r' = r)) := by
  refine qr_start (d := d + 2) qv_e56 (Nat.le_of_ble_eq_true rfl) ?_
  show qr_W (qe L xs vb) (d + 2) qx_e56 _ (0, [(0, .ref 16), (1, .int (qz x0)), (2, .int (qz x1))], [], _, 0, 0)
  refine qr_aload_n 1 rfl rfl rfl ?_
  refine qr_get 4 rfl rfl rfl (by decide) rfl ?_
  refine qr_iload_n 5 rfl rfl rfl ?_
  refine qy_call 8 rfl rfl rfl ?_
  refine qr_start (d := d + 1) qv_e40 (Nat.le_of_ble_eq_true rfl) ?_
  show qr_W (qe L xs vb) (d + 1) qx_e40 _ (0, [(0, .ref 17), (1, .int (qz x0))], [], _, 0, 0)
  refine qr_iload_n 1 rfl rfl rfl ?_
  refine qr_if_lt 16 4 rfl rfl rfl (by omega) (fun h1 => ?_) (fun h1 => ?_)
  · skip
    refine qr_iconst 17 rfl rfl ?_
    refine qr_retZ rfl rfl (by omega) (by decide) (by decide) ?_
    show qr_W (qe L xs vb) (d + 2) qx_e56 _ (8, [(0, .ref 16), (1, .int (qz x0)), (2, .int (qz x1))], [.int (qz 0)], _, 0, 0)
    refine qr_if_eq 27 11 rfl rfl rfl (by decide) (fun _ => ?_) (fun h => absurd h (by decide))
    refine qr_iconst 28 rfl rfl ?_
    refine qr_retI rfl rfl (by decide) (by decide) ?_
    refine ⟨⟨_, rfl⟩, ⟨_, _, _, _, rfl⟩, ?_⟩
    refine qr_start (d := d + 2) qv_e183 (Nat.le_of_ble_eq_true rfl) ?_
    show qr_W (qe L xs vb) (d + 2) qx_e183 _ (0, [(0, .ref 86), (1, .int (qz x0)), (2, .int (qz x1))], [], _, 0, 0)
    refine qr_aload_n 1 rfl rfl rfl ?_
    refine qr_iload_n 2 rfl rfl rfl ?_
    refine qy_call 5 rfl rfl rfl ?_
    refine qr_start (d := d + 1) qv_e179 (Nat.le_of_ble_eq_true rfl) ?_
    show qr_W (qe L xs vb) (d + 1) qx_e179 _ (0, [(0, .ref 86), (1, .int (qz x0))], [], _, 0, 0)
    refine qr_iload_n 1 rfl rfl rfl ?_
    refine qr_i2l 2 rfl (by omega) rfl ?_
    refine qr_lconst 3 rfl rfl ?_
    refine qy_vl 0 rfl ?_
    refine qr_aload_n 4 rfl rfl rfl ?_
    refine qr_get 7 rfl rfl rfl (by decide) rfl ?_
    refine qy_v 0 rfl ?_
    refine qr_iconst 8 rfl rfl ?_
    refine qr_isub 9 rfl rfl ?_
    refine qy_v (-1) rfl ?_
    refine qr_i2l 10 rfl (by omega) rfl ?_
    refine qy_vl (-1) rfl ?_
    refine qy_call 13 rfl rfl rfl ?_
    refine qr_start (d := d + 0) qv_e175 (Nat.le_of_ble_eq_true rfl) ?_
    show qr_W (qe L xs vb) (d + 0) qx_e175 _ (0, [(0, .long (ql x0)), (2, .long (ql 0)), (4, .long (ql (-1)))], [], _, 0, 0)
    refine qr_lload_n 1 rfl rfl rfl ?_
    refine qr_lload_n 2 rfl rfl rfl ?_
    refine qr_lc_lt 17 6 rfl rfl rfl rfl (by omega) (by decide) (fun h2 => ?_) (fun h => False.elim (by omega))
    refine qr_iconst 18 rfl rfl ?_
    refine qr_retZ rfl rfl (by omega) (by decide) (by decide) ?_
    show qr_W (qe L xs vb) (d + 1) qx_e179 _ (13, [(0, .ref 86), (1, .int (qz x0))], [.int (qz 0)], _, 0, 0)
    refine qr_retZ rfl rfl (by omega) (by decide) (by decide) ?_
    show qr_W (qe L xs vb) (d + 2) qx_e183 _ (5, [(0, .ref 86), (1, .int (qz x0)), (2, .int (qz x1))], [.int (qz 0)], _, 0, 0)
    refine qr_if_eq 30 8 rfl rfl rfl (by decide) (fun _ => ?_) (fun h => absurd h (by decide))
    refine qr_iconst 31 rfl rfl ?_
    refine qr_retI rfl rfl (by decide) (by decide) ?_
    exact rfl
  · skip
    refine qr_iload_n 5 rfl rfl rfl ?_
    refine qr_aload_n 6 rfl rfl rfl ?_
    refine qr_get 9 rfl rfl rfl (by decide) rfl ?_
    refine qy_v 0 rfl ?_
    refine qr_icmp_ge 16 12 rfl rfl rfl (by omega) (by decide) (fun h3 => ?_) (fun h => False.elim (by omega))
    refine qr_iconst 17 rfl rfl ?_
    refine qr_retZ rfl rfl (by omega) (by decide) (by decide) ?_
    show qr_W (qe L xs vb) (d + 2) qx_e56 _ (8, [(0, .ref 16), (1, .int (qz x0)), (2, .int (qz x1))], [.int (qz 0)], _, 0, 0)
    refine qr_if_eq 27 11 rfl rfl rfl (by decide) (fun _ => ?_) (fun h => absurd h (by decide))
    refine qr_iconst 28 rfl rfl ?_
    refine qr_retI rfl rfl (by decide) (by decide) ?_
    refine ⟨⟨_, rfl⟩, ⟨_, _, _, _, rfl⟩, ?_⟩
    refine qr_start (d := d + 2) qv_e183 (Nat.le_of_ble_eq_true rfl) ?_
    show qr_W (qe L xs vb) (d + 2) qx_e183 _ (0, [(0, .ref 86), (1, .int (qz x0)), (2, .int (qz x1))], [], _, 0, 0)
    refine qr_aload_n 1 rfl rfl rfl ?_
    refine qr_iload_n 2 rfl rfl rfl ?_
    refine qy_call 5 rfl rfl rfl ?_
    refine qr_start (d := d + 1) qv_e179 (Nat.le_of_ble_eq_true rfl) ?_
    show qr_W (qe L xs vb) (d + 1) qx_e179 _ (0, [(0, .ref 86), (1, .int (qz x0))], [], _, 0, 0)
    refine qr_iload_n 1 rfl rfl rfl ?_
    refine qr_i2l 2 rfl (by omega) rfl ?_
    refine qr_lconst 3 rfl rfl ?_
    refine qy_vl 0 rfl ?_
    refine qr_aload_n 4 rfl rfl rfl ?_
    refine qr_get 7 rfl rfl rfl (by decide) rfl ?_
    refine qy_v 0 rfl ?_
    refine qr_iconst 8 rfl rfl ?_
    refine qr_isub 9 rfl rfl ?_
    refine qy_v (-1) rfl ?_
    refine qr_i2l 10 rfl (by omega) rfl ?_
    refine qy_vl (-1) rfl ?_
    refine qy_call 13 rfl rfl rfl ?_
    refine qr_start (d := d + 0) qv_e175 (Nat.le_of_ble_eq_true rfl) ?_
    show qr_W (qe L xs vb) (d + 0) qx_e175 _ (0, [(0, .long (ql x0)), (2, .long (ql 0)), (4, .long (ql (-1)))], [], _, 0, 0)
    refine qr_lload_n 1 rfl rfl rfl ?_
    refine qr_lload_n 2 rfl rfl rfl ?_
    refine qr_lc_lt 17 6 rfl rfl rfl rfl (by omega) (by decide) (fun h => False.elim (by omega)) (fun h4 => ?_)
    refine qr_lload_n 7 rfl rfl rfl ?_
    refine qr_lload 9 rfl rfl rfl ?_
    refine qr_lc_gt 17 13 rfl rfl rfl rfl (by omega) (by decide) (fun h5 => ?_) (fun h => False.elim (by omega))
    refine qr_iconst 18 rfl rfl ?_
    refine qr_retZ rfl rfl (by omega) (by decide) (by decide) ?_
    show qr_W (qe L xs vb) (d + 1) qx_e179 _ (13, [(0, .ref 86), (1, .int (qz x0))], [.int (qz 0)], _, 0, 0)
    refine qr_retZ rfl rfl (by omega) (by decide) (by decide) ?_
    show qr_W (qe L xs vb) (d + 2) qx_e183 _ (5, [(0, .ref 86), (1, .int (qz x0)), (2, .int (qz x1))], [.int (qz 0)], _, 0, 0)
    refine qr_if_eq 30 8 rfl rfl rfl (by decide) (fun _ => ?_) (fun h => absurd h (by decide))
    refine qr_iconst 31 rfl rfl ?_
    refine qr_retI rfl rfl (by decide) (by decide) ?_
    exact rfl

