section QO
variable {X : qm_X} {d : Nat} {x : qs_Ent} {Q : Option Value → qm_W → Prop} {pc : Nat} {ls : qm_L} {st : List Value} {R T : qm_W} {c n r1 r2 r3 : Nat} {rv : Value} {a : Nat}
theorem qo_len {e : qm_E} {m : Nat} (h : R.length = m) (b : Nat) (hb : 16 + (m + 1) = b) : b = 16 + (e :: R).length := by rw [List.length_cons, h, hb]
theorem qo_put {z m m2 m3 : Nat} {fs : List Value} {v : Value} (fs' : List Value) (p : Nat) (hR : R.length = m) (hT : T.length = m2) (hm : m + m2 = m3) (hq : qm_fetch x.2.2.2.2.2.2.2 pc = some (pc, .putfield z, 3, r1, r2, 0, rv)) (hl : r2 < fs.length) (hN : r2 < qr_N r1) (hfin : (qx_T r1 r2).2.2.2 = false ∨ ((qm_M1 x).2.2.1 = true ∧ (qm_M1 x).2.2.2.1 = r1)) (hfit : qm_fitb (qx_ty r1 r2) v = true) (hs : fs.set r2 v = fs') (hp : pc + 3 = p) (k : ∀ R', R' = R ++ T → R'.length = m3 → qr_W X d x Q (p, ls, st, .inr (r1, fs') :: R', c, n)) : qr_W X d x Q (pc, ls, v :: .ref 16 :: st, .inr (r1, fs) :: R ++ T, c, n) := by
  subst hs
  refine qr_put p hq (by omega) rfl hl hN hfin hfit hp ?_
  exact k (R ++ T) rfl (by rw [List.length_append]; omega)
theorem qo_put0 {z : Nat} {fs : List Value} {v : Value} (fs' : List Value) (p : Nat) (hq : qm_fetch x.2.2.2.2.2.2.2 pc = some (pc, .putfield z, 3, r1, r2, 0, rv)) (hl : r2 < fs.length) (hN : r2 < qr_N r1) (hfin : (qx_T r1 r2).2.2.2 = false ∨ ((qm_M1 x).2.2.1 = true ∧ (qm_M1 x).2.2.2.1 = r1)) (hfit : qm_fitb (qx_ty r1 r2) v = true) (hs : fs.set r2 v = fs') (hp : pc + 3 = p) (k : qr_W X d x Q (p, ls, st, .inr (r1, fs') :: R, c, n)) : qr_W X d x Q (pc, ls, v :: .ref 16 :: st, .inr (r1, fs) :: R, c, n) := by
  subst hs
  exact qr_put p hq (by omega) rfl hl hN hfin hfit hp k
theorem qo_get (u : qm_W) {e : qm_E} {b j : Nat} (hb : b = 16 + u.length + 1 + j) (hj : T[j]? = some e) (e0 : qm_E) : ((u ++ [e0]) ++ T)[b - 16]? = some e := by
  subst hb
  rw [show 16 + u.length + 1 + j - 16 = (u ++ [e0]).length + j by rw [List.length_append, List.length_singleton]; omega, List.getElem?_append_right (Nat.le_add_right _ _), Nat.add_sub_cancel_left, hj]
theorem qo_aast {u : qm_W} {N b j : Nat} {y : Int} {vs : List Value} {f : Nat → Option Nat} (p : Nat) (ha : a = 16 + u.length) (hb : a + 1 + j = b) (hj : T[j]? = some (.inr (7, vs))) (hq : qm_fetch x.2.2.2.2.2.2.2 pc = some (pc, .aastore, 1, r1, r2, r3, rv)) (hz : 0 ≤ y ∧ y < (N : Int)) (hN : N ≤ 1000000) (hp : pc + 1 = p) (k : qr_W X d x Q (p, ls, st, (u ++ [.inl (.object "OneRoof$Custom", N, .inr (.inr (.inr (.inr (va_up f y.toNat (some b))))))]) ++ T, c, n)) : qr_W X d x Q (pc, ls, .ref b :: .int (qz y) :: .ref a :: st, (u ++ [.inl (.object "OneRoof$Custom", N, .inr (.inr (.inr (.inr f))))]) ++ T, c, n) := by
  have h0 : ((u ++ [(.inl (.object "OneRoof$Custom", N, .inr (.inr (.inr (.inr f)))) : qm_E)]) ++ T)[a - 16]? = some (.inl (.object "OneRoof$Custom", N, .inr (.inr (.inr (.inr f))))) := by
    rw [List.append_assoc]
    exact qi_g u ha _ _
  refine qr_aastore p hq (by omega) (by omega) h0 (qo_get u (by omega) hj _) hz hN hp ?_
  rw [List.append_assoc, List.singleton_append, qi_s u ha]
  rw [List.append_assoc, List.singleton_append] at k
  exact k
end QO
/-- the numbers of the fresh objects: three customs', else 0 -/
def qo_s (s : Nat → Nat → Int) : Nat → Nat → Int := fun a k => if a = 50 then s 0 k else if a = 54 then s 1 k else if a = 82 then s 2 k else if a = 86 then (if k = 51 then -1 else 0) else 0
/-- the rows of the fresh objects -/
def qo_r (g : Nat → Nat → Int) : Nat → Nat → Int := fun a => if a = 24 then g 24 else if a = 26 then g 26 else if a = 51 then g 51 else if a = 52 then g 52 else if a = 55 then g 55 else if a = 56 then g 56 else if a = 83 then g 83 else if a = 84 then g 84 else if a = 45 then (qzu (qzu (qzu (qzu (qzu (qzu (fun _ => 0) (0 : Int).toNat 6) (1 : Int).toNat 6) (2 : Int).toNat 6) (3 : Int).toNat 6) (4 : Int).toNat 6) (5 : Int).toNat 6) else if a = 108 then (qzu (qzu (fun _ => 0) (0 : Int).toNat (-1)) (1 : Int).toNat (-1)) else if a = 121 then (qzu (qzu (qzu (qzu (qzu (qzu (fun _ => 0) (0 : Int).toNat (-1)) (1 : Int).toNat (-1)) (2 : Int).toNat (-1)) (3 : Int).toNat (-1)) (4 : Int).toNat (-1)) (5 : Int).toNat (-1)) else fun _ => 0
/-- a custom's numbers -/
def qo_c (ln at_ sz nm sk : Int) : Nat → Int := fun k => if k = 3 then ln else if k = 4 then at_ else if k = 5 then sz else if k = 6 then nm else sk
/-- which numbers, which rows they may be -/
def qo_ok (s g : Nat → Nat → Int) : Prop := (s 0 3 = 4 ∧ s 1 3 = 5 ∧ s 2 3 = 1) ∧ (∀ i, i < 3 → (0 ≤ s i 4 ∧ s i 4 ≤ 5) ∧ (0 ≤ s i 5 ∧ s i 5 ≤ 122) ∧ (-2147483648 ≤ s i 6 ∧ s i 6 ≤ 2147483647) ∧ (s i 7 = 0 ∨ s i 7 = 1)) ∧ (∀ i, i = 24 ∨ i = 26 → ∀ j : Nat, j < 1024 → g i j = if j % 33 = 0 then 0 else 99) ∧ ∀ i, i = 51 ∨ i = 55 ∨ i = 83 → ∀ j, -2147483648 ≤ g i j ∧ g i j ≤ 2147483647
abbrev qo_k : Nat → Option Nat := va_up (va_up (fun _ => none) (0 : Int).toNat (some 50)) (1 : Int).toNat (some 54)
