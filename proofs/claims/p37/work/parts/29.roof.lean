section QO
variable {X : qm_X} {d : Nat} {x : qs_Ent} {Q : Option Value → qm_W → Prop} {pc : Nat} {ls : qm_L} {st : List Value} {R T : qm_W} {c n r1 r2 r3 : Nat} {rv : Value} {a : Nat}
theorem qo_len {e : qm_E} {m : Nat} (h : R.length = m) (b : Nat) (hb : 16 + (m + 1) = b) : b = 16 + (e :: R).length := by rw [List.length_cons, h, hb]
theorem qo_put {z m m2 m3 : Nat} {fs : List Value} {v : Value} (fs' : List Value) (p : Nat) (hR : R.length = m) (hT : T.length = m2) (hm : m + m2 = m3) (hq : qm_fetch x.2.2.2.2.2.2.2 pc = some (pc, .putfield z, 3, r1, r2, 0, rv)) (hl : r2 < fs.length) (hN : r2 < qr_N r1) (hfin : (qx_T r1 r2).2.2.2 = false ∨ ((qm_M1 x).2.2.1 = true ∧ (qm_M1 x).2.2.2.1 = r1)) (hfit : qm_fitb (qx_ty r1 r2) v = true) (hs : fs.set r2 v = fs') (hp : pc + 3 = p) (k : ∀ R', R' = R ++ T → R'.length = m3 → qr_W X d x Q (p, ls, st, .inr (r1, fs') :: R', c, n)) : qr_W X d x Q (pc, ls, v :: .ref 16 :: st, .inr (r1, fs) :: R ++ T, c, n) := by
  subst hs
  refine qr_put p hq (by omega) rfl hl hN hfin hfit hp ?_
  exact k (R ++ T) rfl (by rw [List.length_append]; omega)
theorem qo_put0 {z : Nat} {fs : List Value} {v : Value} (fs' : List Value) (p : Nat) (hq : qm_fetch x.2.2.2.2.2.2.2 pc = some (pc, .putfield z, 3, r1, r2, 0, rv)) (hl : r2 < fs.length) (hN : r2 < qr_N r1) (hfin : (qx_T r1 r2).2.2.2 = false ∨ ((qm_M1 x).2.2.1 = true ∧ (qm_M1 x).2.2.2.1 = r1)) (hfit : qm_fitb (qx_ty r1 r2) v = true) (hs : fs.set r2 v = fs') (hp : pc + 3 = p) (k : qr_W X d x Q (p, ls, st, .inr (r1, fs') :: R, c, n)) : qr_W X d x Q (pc, ls, v :: .ref 16 :: st, .inr (r1, fs) :: R, c, n) := by
  subst hs
  exact qr_put p hq (by omega) rfl hl hN hfin hfit hp k
theorem qo_get (u : qm_W) {e : qm_E} {b j : Nat} (hb : b = 16 + u.length + 1 + j) (hj : T[j]? = some e) (e0 : qm_E) : ((u ++ [e0]) ++ T)[b - 16]? = some e := by
  subst hb
  rw [show 16 + u.length + 1 + j - 16 = (u ++ [e0]).length + j by rw [List.length_append, List.length_singleton]; omega, List.getElem?_append_right (Nat.le_add_right _ _), Nat.add_sub_cancel_left, hj]
theorem qo_aast {u : qm_W} {N b j : Nat} {y : Int} {vs : List Value} {f : Nat → Option Nat} (p : Nat) (ha : a = 16 + u.length) (hb : a + 1 + j = b) (hj : T[j]? = some (.inr (7, vs))) (hq : qm_fetch x.2.2.2.2.2.2.2 pc = some (pc, .aastore, 1, r1, r2, r3, rv)) (hz : 0 ≤ y ∧ y < (N : Int)) (hN : N ≤ 1000000) (hp : pc + 1 = p) (k : qr_W X d x Q (p, ls, st, (u ++ [.inl (.object "OneRoof$Custom", N, .inr (.inr (.inr (.inr (va_up f y.toNat (some b))))))]) ++ T, c, n)) : qr_W X d x Q (pc, ls, .ref b :: .int (qz y) :: .ref a :: st, (u ++ [.inl (.object "OneRoof$Custom", N, .inr (.inr (.inr (.inr f))))]) ++ T, c, n) := by
  have h0 : ((u ++ [(.inl (.object "OneRoof$Custom", N, .inr (.inr (.inr (.inr f)))) : qm_E)]) ++ T)[a - 16]? = some (.inl (.object "OneRoof$Custom", N, .inr (.inr (.inr (.inr f))))) := by
    rw [List.append_assoc]
    exact qi_g u ha _ _
  refine qr_aastore p hq (by omega) (by omega) h0 (qo_get u (by omega) hj _) hz hN hp ?_
  rw [List.append_assoc, List.singleton_append, qi_s u ha]
  rw [List.append_assoc, List.singleton_append] at k
  exact k
end QO
/-- the numbers of the fresh objects: three customs', else 0 -/
def qo_s (s : Nat → Nat → Int) : Nat → Nat → Int := fun a k => if a = 50 then s 0 k else if a = 54 then s 1 k else if a = 82 then s 2 k else if a = 86 then (if k = 51 then -1 else 0) else 0
/-- the rows of the fresh objects -/
def qo_r (g : Nat → Nat → Int) : Nat → Nat → Int := fun a => if a = 24 then g 24 else if a = 26 then g 26 else if a = 51 then g 51 else if a = 52 then g 52 else if a = 55 then g 55 else if a = 56 then g 56 else if a = 83 then g 83 else if a = 84 then g 84 else if a = 45 then (qzu (qzu (qzu (qzu (qzu (qzu (fun _ => 0) (0 : Int).toNat 6) (1 : Int).toNat 6) (2 : Int).toNat 6) (3 : Int).toNat 6) (4 : Int).toNat 6) (5 : Int).toNat 6) else if a = 108 then (qzu (qzu (fun _ => 0) (0 : Int).toNat (-1)) (1 : Int).toNat (-1)) else if a = 121 then (qzu (qzu (qzu (qzu (qzu (qzu (fun _ => 0) (0 : Int).toNat (-1)) (1 : Int).toNat (-1)) (2 : Int).toNat (-1)) (3 : Int).toNat (-1)) (4 : Int).toNat (-1)) (5 : Int).toNat (-1)) else fun _ => 0
/-- a custom's numbers -/
def qo_c (ln at_ sz nm sk : Int) : Nat → Int := fun k => if k = 3 then ln else if k = 4 then at_ else if k = 5 then sz else if k = 6 then nm else sk
/-- which numbers, which rows they may be -/
def qo_ok (s g : Nat → Nat → Int) : Prop := (s 0 3 = 4 ∧ s 1 3 = 5 ∧ s 2 3 = 1) ∧ (∀ i, i < 3 → (0 ≤ s i 4 ∧ s i 4 ≤ 5) ∧ (0 ≤ s i 5 ∧ s i 5 ≤ 122) ∧ (-2147483648 ≤ s i 6 ∧ s i 6 ≤ 2147483647) ∧ (s i 7 = 0 ∨ s i 7 = 1)) ∧ (∀ i, i = 24 ∨ i = 26 → ∀ j : Nat, j < 1024 → g i j = if j % 33 = 0 then 0 else 99) ∧ ∀ i, i = 51 ∨ i = 55 ∨ i = 83 → ∀ j, -2147483648 ≤ g i j ∧ g i j ≤ 2147483647
abbrev qo_k : Nat → Option Nat := va_up (va_up (fun _ => none) (0 : Int).toNat (some 50)) (1 : Int).toNat (some 54)

set_option maxHeartbeats 2000000 in
set_option maxRecDepth 20000 in
/-- OneRoof.<init> -/
theorem si_Roof {L : Nat} {xs : Nat → Int} {vb : Bool} {d : Nat}  : qm_T (qe L xs vb) (d + 58) 1 [.ref 16] ([.inr (0, [.null, .null, .null, .null, .null, .null, .null, .null, .null, .null, .null, .null, .null, .null, .null, .int (qz 0)])]) (fun r w' => r = none ∧ ∃ s g : Nat → Nat → Int, w' = (qw (qo_s s) (qo_r g) qo_k 82).take 70 ∧ qo_ok s g) := by
  refine qr_start (d := d + 57) qv_e1 (Nat.le_of_ble_eq_true rfl) ?_
  show qr_W (qe L xs vb) (d + 57) qx_e1 _ (0, [(0, .ref 16)], [], [.inr (0, [.null, .null, .null, .null, .null, .null, .null, .null, .null, .null, .null, .null, .null, .null, .null, .int (qz 0)])], 0, 0)
  have hR0 : (([] : qm_W)).length = 0 := rfl
  generalize hE0 : ([] : qm_W) = R0 at hR0 ⊢
  refine qr_aload_n 1 rfl rfl rfl ?_
  refine qr_objinit 4 rfl (by decide) rfl ?_
  refine qr_aload_n 5 rfl rfl rfl ?_
  refine qr_new ((.inr (0, [.null, .null, .null, .null, .null, .null, .null, .null, .null, .null, .null, .null, .null, .null, .null, .int (qz 0)]) :: R0) ++ [.inr (1, [.null, .null, .null, .null, .null, .long (ql 0), .int (qz 0)])]) 8 1 7 rfl rfl (Nat.le_of_ble_eq_true rfl) (Nat.le_of_ble_eq_true rfl) rfl rfl rfl 17 (by simp only [List.length_append, List.length_cons, List.length_nil, hR0]) rfl ?_
  refine qr_dup 9 rfl rfl rfl ?_
  refine qr_call 12 6 167 rfl rfl (Nat.le_of_ble_eq_true rfl) (Nat.le_of_ble_eq_true rfl) rfl rfl (si_Folk (a := 17) (u := .inr (0, [.null, .null, .null, .null, .null, .null, .null, .null, .null, .null, .null, .null, .null, .null, .null, .int (qz 0)]) :: R0) (qo_len hR0 17 rfl)) ?_
  rintro _ _ ⟨rfl, rfl⟩
  simp only [Option.toList, List.drop, List.nil_append]
  refine qo_put [.ref 17, .null, .null, .null, .null, .null, .null, .null, .null, .null, .null, .null, .null, .null, .null, .int (qz 0)] 15 hR0 rfl (m2 := 6) (m3 := 6) rfl rfl (Nat.le_of_ble_eq_true rfl) (Nat.le_of_ble_eq_true rfl) (Or.inr ⟨by decide, rfl⟩) (qr_fitR (Or.inl ⟨_, rfl⟩) _) rfl rfl (fun R1 hE1 hR1 => ?_)
  refine qr_aload_n 16 rfl rfl rfl ?_
  refine qr_new ((.inr (0, [.ref 17, .null, .null, .null, .null, .null, .null, .null, .null, .null, .null, .null, .null, .null, .null, .int (qz 0)]) :: R1) ++ [.inr (2, [.null, .int (qz 0)])]) 19 7 169 rfl rfl (Nat.le_of_ble_eq_true rfl) (Nat.le_of_ble_eq_true rfl) rfl rfl rfl 23 (by simp only [List.length_append, List.length_cons, List.length_nil, hR1]) rfl ?_
  refine qr_dup 20 rfl rfl rfl ?_
  refine qr_call 23 8 1193 rfl rfl (Nat.le_of_ble_eq_true rfl) (Nat.le_of_ble_eq_true rfl) rfl rfl (si_Kinship (a := 23) (u := .inr (0, [.ref 17, .null, .null, .null, .null, .null, .null, .null, .null, .null, .null, .null, .null, .null, .null, .int (qz 0)]) :: R1) (qo_len hR1 23 rfl)) ?_
  rintro _ _ ⟨rfl, g23, rfl, hg23⟩
  simp only [Option.toList, List.drop, List.nil_append]
  refine qo_put [.ref 17, .ref 23, .null, .null, .null, .null, .null, .null, .null, .null, .null, .null, .null, .null, .null, .int (qz 0)] 26 hR1 rfl (m2 := 2) (m3 := 8) rfl rfl (Nat.le_of_ble_eq_true rfl) (Nat.le_of_ble_eq_true rfl) (Or.inr ⟨by decide, rfl⟩) (qr_fitR (Or.inl ⟨_, rfl⟩) _) rfl rfl (fun R2 hE2 hR2 => ?_)
  refine qr_aload_n 27 rfl rfl rfl ?_
  refine qr_new ((.inr (0, [.ref 17, .ref 23, .null, .null, .null, .null, .null, .null, .null, .null, .null, .null, .null, .null, .null, .int (qz 0)]) :: R2) ++ [.inr (2, [.null, .int (qz 0)])]) 30 9 1195 rfl rfl (Nat.le_of_ble_eq_true rfl) (Nat.le_of_ble_eq_true rfl) rfl rfl rfl 25 (by simp only [List.length_append, List.length_cons, List.length_nil, hR2]) rfl ?_
  refine qr_dup 31 rfl rfl rfl ?_
  refine qr_call 34 10 2219 rfl rfl (Nat.le_of_ble_eq_true rfl) (Nat.le_of_ble_eq_true rfl) rfl rfl (si_Kinship (a := 25) (u := .inr (0, [.ref 17, .ref 23, .null, .null, .null, .null, .null, .null, .null, .null, .null, .null, .null, .null, .null, .int (qz 0)]) :: R2) (qo_len hR2 25 rfl)) ?_
  rintro _ _ ⟨rfl, g25, rfl, hg25⟩
  simp only [Option.toList, List.drop, List.nil_append]
  refine qo_put [.ref 17, .ref 23, .ref 25, .null, .null, .null, .null, .null, .null, .null, .null, .null, .null, .null, .null, .int (qz 0)] 37 hR2 rfl (m2 := 2) (m3 := 10) rfl rfl (Nat.le_of_ble_eq_true rfl) (Nat.le_of_ble_eq_true rfl) (Or.inr ⟨by decide, rfl⟩) (qr_fitR (Or.inl ⟨_, rfl⟩) _) rfl rfl (fun R3 hE3 hR3 => ?_)
  refine qr_aload_n 38 rfl rfl rfl ?_
  refine qr_new ((.inr (0, [.ref 17, .ref 23, .ref 25, .null, .null, .null, .null, .null, .null, .null, .null, .null, .null, .null, .null, .int (qz 0)]) :: R3) ++ [.inr (3, [.null, .null, .null, .null, .null, .null, .long (ql 0), .int (qz 0)])]) 41 11 2227 rfl rfl (Nat.le_of_ble_eq_true rfl) (Nat.le_of_ble_eq_true rfl) rfl rfl rfl 27 (by simp only [List.length_append, List.length_cons, List.length_nil, hR3]) rfl ?_
  refine qr_dup 42 rfl rfl rfl ?_
  refine qr_call 45 17 2467 rfl rfl (Nat.le_of_ble_eq_true rfl) (Nat.le_of_ble_eq_true rfl) rfl rfl (si_Feuds (a := 27) (u := .inr (0, [.ref 17, .ref 23, .ref 25, .null, .null, .null, .null, .null, .null, .null, .null, .null, .null, .null, .null, .int (qz 0)]) :: R3) (qo_len hR3 27 rfl)) ?_
  rintro _ _ ⟨rfl, rfl⟩
  simp only [Option.toList, List.drop, List.nil_append]
  refine qo_put [.ref 17, .ref 23, .ref 25, .ref 27, .null, .null, .null, .null, .null, .null, .null, .null, .null, .null, .null, .int (qz 0)] 48 hR3 rfl (m2 := 7) (m3 := 17) rfl rfl (Nat.le_of_ble_eq_true rfl) (Nat.le_of_ble_eq_true rfl) (Or.inr ⟨by decide, rfl⟩) (qr_fitR (Or.inl ⟨_, rfl⟩) _) rfl rfl (fun R4 hE4 hR4 => ?_)
  refine qr_aload_n 49 rfl rfl rfl ?_
  refine qr_new ((.inr (0, [.ref 17, .ref 23, .ref 25, .ref 27, .null, .null, .null, .null, .null, .null, .null, .null, .null, .null, .null, .int (qz 0)]) :: R4) ++ [.inr (4, [.null, .null, .null, .null, .null, .null, .null, .int (qz 0)])]) 52 18 2475 rfl rfl (Nat.le_of_ble_eq_true rfl) (Nat.le_of_ble_eq_true rfl) rfl rfl rfl 34 (by simp only [List.length_append, List.length_cons, List.length_nil, hR4]) rfl ?_
  refine qr_dup 53 rfl rfl rfl ?_
  refine qr_call 56 25 2895 rfl rfl (Nat.le_of_ble_eq_true rfl) (Nat.le_of_ble_eq_true rfl) rfl rfl (si_Peaces (a := 34) (u := .inr (0, [.ref 17, .ref 23, .ref 25, .ref 27, .null, .null, .null, .null, .null, .null, .null, .null, .null, .null, .null, .int (qz 0)]) :: R4) (qo_len hR4 34 rfl)) ?_
  rintro _ _ ⟨rfl, rfl⟩
  simp only [Option.toList, List.drop, List.nil_append]
  refine qo_put [.ref 17, .ref 23, .ref 25, .ref 27, .ref 34, .null, .null, .null, .null, .null, .null, .null, .null, .null, .null, .int (qz 0)] 59 hR4 rfl (m2 := 8) (m3 := 25) rfl rfl (Nat.le_of_ble_eq_true rfl) (Nat.le_of_ble_eq_true rfl) (Or.inr ⟨by decide, rfl⟩) (qr_fitR (Or.inl ⟨_, rfl⟩) _) rfl rfl (fun R5 hE5 hR5 => ?_)
  refine qr_aload_n 60 rfl rfl rfl ?_
  refine qr_new ((.inr (0, [.ref 17, .ref 23, .ref 25, .ref 27, .ref 34, .null, .null, .null, .null, .null, .null, .null, .null, .null, .null, .int (qz 0)]) :: R5) ++ [.inr (5, [.null, .int (qz 0)])]) 63 26 2897 rfl rfl (Nat.le_of_ble_eq_true rfl) (Nat.le_of_ble_eq_true rfl) rfl rfl rfl 42 (by simp only [List.length_append, List.length_cons, List.length_nil, hR5]) rfl ?_
  refine qr_dup 64 rfl rfl rfl ?_
  refine qr_call 67 27 2921 rfl rfl (Nat.le_of_ble_eq_true rfl) (Nat.le_of_ble_eq_true rfl) rfl rfl (si_Acts (a := 42) (u := .inr (0, [.ref 17, .ref 23, .ref 25, .ref 27, .ref 34, .null, .null, .null, .null, .null, .null, .null, .null, .null, .null, .int (qz 0)]) :: R5) (qo_len hR5 42 rfl)) ?_
  rintro _ _ ⟨rfl, rfl⟩
  simp only [Option.toList, List.drop, List.nil_append]
  refine qo_put [.ref 17, .ref 23, .ref 25, .ref 27, .ref 34, .ref 42, .null, .null, .null, .null, .null, .null, .null, .null, .null, .int (qz 0)] 70 hR5 rfl (m2 := 2) (m3 := 27) rfl rfl (Nat.le_of_ble_eq_true rfl) (Nat.le_of_ble_eq_true rfl) (Or.inr ⟨by decide, rfl⟩) (qr_fitR (Or.inl ⟨_, rfl⟩) _) rfl rfl (fun R6 hE6 hR6 => ?_)
  refine qr_aload_n 71 rfl rfl rfl ?_
  refine qr_new ((.inr (0, [.ref 17, .ref 23, .ref 25, .ref 27, .ref 34, .ref 42, .null, .null, .null, .null, .null, .null, .null, .null, .null, .int (qz 0)]) :: R6) ++ [.inr (6, [.null, .null, .null, .null])]) 74 28 2925 rfl rfl (Nat.le_of_ble_eq_true rfl) (Nat.le_of_ble_eq_true rfl) rfl rfl rfl 44 (by simp only [List.length_append, List.length_cons, List.length_nil, hR6]) rfl ?_
  refine qr_dup 75 rfl rfl rfl ?_
  refine qr_call 78 32 3303 rfl rfl (Nat.le_of_ble_eq_true rfl) (Nat.le_of_ble_eq_true rfl) rfl rfl (si_Pegs (a := 44) (u := .inr (0, [.ref 17, .ref 23, .ref 25, .ref 27, .ref 34, .ref 42, .null, .null, .null, .null, .null, .null, .null, .null, .null, .int (qz 0)]) :: R6) (qo_len hR6 44 rfl)) ?_
  rintro _ _ ⟨rfl, rfl⟩
  simp only [Option.toList, List.drop, List.nil_append]
  refine qo_put [.ref 17, .ref 23, .ref 25, .ref 27, .ref 34, .ref 42, .ref 44, .null, .null, .null, .null, .null, .null, .null, .null, .int (qz 0)] 81 hR6 rfl (m2 := 5) (m3 := 32) rfl rfl (Nat.le_of_ble_eq_true rfl) (Nat.le_of_ble_eq_true rfl) (Or.inr ⟨by decide, rfl⟩) (qr_fitR (Or.inl ⟨_, rfl⟩) _) rfl rfl (fun R7 hE7 hR7 => ?_)
  refine qr_aload_n 82 rfl rfl rfl ?_
  refine qr_iconst 83 rfl rfl ?_
  refine qr_newQ (.inr (0, [.ref 17, .ref 23, .ref 25, .ref 27, .ref 34, .ref 42, .ref 44, .null, .null, .null, .null, .null, .null, .null, .null, .int (qz 0)]) :: R7 ++ [.inl (.object "OneRoof$Custom", 2, .inr (.inr (.inr (.inr (fun _ => none)))))]) 86 33 3305 rfl (by decide) (Nat.le_of_ble_eq_true rfl) (Nat.le_of_ble_eq_true rfl) rfl rfl rfl 49 (by simp only [List.length_cons, hR7]) rfl ?_
  refine qr_dup 87 rfl rfl rfl ?_
  refine qr_iconst 88 rfl rfl ?_
  refine qr_new (((.inr (0, [.ref 17, .ref 23, .ref 25, .ref 27, .ref 34, .ref 42, .ref 44, .null, .null, .null, .null, .null, .null, .null, .null, .int (qz 0)]) :: R7 ++ [.inl (.object "OneRoof$Custom", 2, .inr (.inr (.inr (.inr (fun _ => none)))))])) ++ [.inr (7, [.null, .null, .null, .int (qz 0), .int (qz 0), .int (qz 0), .int (qz 0), .int (qz 0)])]) 91 34 3313 rfl rfl (Nat.le_of_ble_eq_true rfl) (Nat.le_of_ble_eq_true rfl) rfl rfl rfl 50 (by simp only [List.length_append, List.length_cons, List.length_nil, hR7]) rfl ?_
  refine qr_dup 92 rfl rfl rfl ?_
  refine qr_ldcs 94 rfl rfl ?_
  refine qr_call 97 37 3675 rfl rfl (Nat.le_of_ble_eq_true rfl) (Nat.le_of_ble_eq_true rfl) rfl rfl (sp_cinit3 (a := 50) (u := (.inr (0, [.ref 17, .ref 23, .ref 25, .ref 27, .ref 34, .ref 42, .ref 44, .null, .null, .null, .null, .null, .null, .null, .null, .int (qz 0)]) :: R7 ++ [.inl (.object "OneRoof$Custom", 2, .inr (.inr (.inr (.inr (fun _ => none)))))])) (by simp only [List.length_append, List.length_cons, List.length_nil, hR7])) ?_
  rintro _ _ ⟨rfl, at3, sz3, nm3, sk3, t3, cd3, rfl, hb3, ht3⟩
  simp only [Option.toList, List.nil_append]
  refine qo_aast (u := .inr (0, [.ref 17, .ref 23, .ref 25, .ref 27, .ref 34, .ref 42, .ref 44, .null, .null, .null, .null, .null, .null, .null, .null, .int (qz 0)]) :: R7) (a := 49) (b := 50) (j := 0) (T := [(qc_o 50 4 at3 sz3 nm3 sk3), .inl (.int, 120, .inl (qzf t3)), .inl (.int, 122, .inl (qzf cd3)), .inl (.int, 120, .inl (qzf (fun _ => 0)))]) 98 (qo_len hR7 49 rfl) rfl rfl rfl (by decide) (by omega) rfl ?_
  refine qr_dup 99 rfl rfl rfl ?_
  refine qr_iconst 100 rfl rfl ?_
  refine qr_new ((((.inr (0, [.ref 17, .ref 23, .ref 25, .ref 27, .ref 34, .ref 42, .ref 44, .null, .null, .null, .null, .null, .null, .null, .null, .int (qz 0)]) :: R7 ++ [.inl (.object "OneRoof$Custom", 2, .inr (.inr (.inr (.inr (va_up (fun _ => none) (0 : Int).toNat (some 50))))))]) ++ [(qc_o 50 4 at3 sz3 nm3 sk3), .inl (.int, 120, .inl (qzf t3)), .inl (.int, 122, .inl (qzf cd3)), .inl (.int, 120, .inl (qzf (fun _ => 0)))])) ++ [.inr (7, [.null, .null, .null, .int (qz 0), .int (qz 0), .int (qz 0), .int (qz 0), .int (qz 0)])]) 103 38 3683 rfl rfl (Nat.le_of_ble_eq_true rfl) (Nat.le_of_ble_eq_true rfl) rfl rfl rfl 54 (by simp only [List.length_append, List.length_cons, List.length_nil, hR7]) rfl ?_
  refine qr_dup 104 rfl rfl rfl ?_
  refine qr_ldcs 106 rfl rfl ?_
  refine qr_call 109 41 4045 rfl rfl (Nat.le_of_ble_eq_true rfl) (Nat.le_of_ble_eq_true rfl) rfl rfl (sp_cinit5 (a := 54) (u := ((.inr (0, [.ref 17, .ref 23, .ref 25, .ref 27, .ref 34, .ref 42, .ref 44, .null, .null, .null, .null, .null, .null, .null, .null, .int (qz 0)]) :: R7 ++ [.inl (.object "OneRoof$Custom", 2, .inr (.inr (.inr (.inr (va_up (fun _ => none) (0 : Int).toNat (some 50))))))]) ++ [(qc_o 50 4 at3 sz3 nm3 sk3), .inl (.int, 120, .inl (qzf t3)), .inl (.int, 122, .inl (qzf cd3)), .inl (.int, 120, .inl (qzf (fun _ => 0)))])) (by simp only [List.length_append, List.length_cons, List.length_nil, hR7])) ?_
  rintro _ _ ⟨rfl, at5, sz5, nm5, sk5, t5, cd5, rfl, hb5, ht5⟩
  simp only [Option.toList, List.nil_append]
  rw [List.append_assoc (_ ++ [_])]
  refine qo_aast (u := .inr (0, [.ref 17, .ref 23, .ref 25, .ref 27, .ref 34, .ref 42, .ref 44, .null, .null, .null, .null, .null, .null, .null, .null, .int (qz 0)]) :: R7) (a := 49) (b := 54) (j := 4) (T := [(qc_o 50 4 at3 sz3 nm3 sk3), .inl (.int, 120, .inl (qzf t3)), .inl (.int, 122, .inl (qzf cd3)), .inl (.int, 120, .inl (qzf (fun _ => 0))), (qc_o 54 5 at5 sz5 nm5 sk5), .inl (.int, 120, .inl (qzf t5)), .inl (.int, 122, .inl (qzf cd5)), .inl (.int, 120, .inl (qzf (fun _ => 0)))]) 110 (qo_len hR7 49 rfl) rfl rfl rfl (by decide) (by omega) rfl ?_
  rw [List.append_assoc]
  refine qo_put [.ref 17, .ref 23, .ref 25, .ref 27, .ref 34, .ref 42, .ref 44, .ref 49, .null, .null, .null, .null, .null, .null, .null, .int (qz 0)] 113 hR7 rfl (m2 := 9) (m3 := 41) rfl rfl (Nat.le_of_ble_eq_true rfl) (Nat.le_of_ble_eq_true rfl) (Or.inr ⟨by decide, rfl⟩) (qr_fitR (Or.inr ⟨_, rfl⟩) _) rfl rfl (fun R8 hE8 hR8 => ?_)
  refine qr_aload_n 114 rfl rfl rfl ?_
  refine qr_new ((.inr (0, [.ref 17, .ref 23, .ref 25, .ref 27, .ref 34, .ref 42, .ref 44, .ref 49, .null, .null, .null, .null, .null, .null, .null, .int (qz 0)]) :: R8) ++ [.inr (8, [.null, .null, .null, .null, .null, .null, .null, .null, .null, .null, .long (ql 0), .int (qz 0), .int (qz 0)])]) 117 42 4058 rfl rfl (Nat.le_of_ble_eq_true rfl) (Nat.le_of_ble_eq_true rfl) rfl rfl rfl 58 (by simp only [List.length_append, List.length_cons, List.length_nil, hR8]) rfl ?_
  refine qr_dup 118 rfl rfl rfl ?_
  refine qr_aload_n 119 rfl rfl rfl ?_
  refine qr_get 122 rfl rfl rfl (by decide) rfl ?_
  refine qr_aload_n 123 rfl rfl rfl ?_
  refine qr_get 126 rfl rfl rfl (by decide) rfl ?_
  refine qr_aload_n 127 rfl rfl rfl ?_
  refine qr_get 130 rfl rfl rfl (by decide) rfl ?_
  refine qr_aload_n 131 rfl rfl rfl ?_
  refine qr_get 134 rfl rfl rfl (by decide) rfl ?_
  refine qr_aload_n 135 rfl rfl rfl ?_
  refine qr_get 138 rfl rfl rfl (by decide) rfl ?_
  refine qr_call 141 47 6051 rfl rfl (Nat.le_of_ble_eq_true rfl) (Nat.le_of_ble_eq_true rfl) rfl rfl (si_Moment (a := 58) (u := .inr (0, [.ref 17, .ref 23, .ref 25, .ref 27, .ref 34, .ref 42, .ref 44, .ref 49, .null, .null, .null, .null, .null, .null, .null, .int (qz 0)]) :: R8) (qo_len hR8 58 rfl)) ?_
  rintro _ _ ⟨rfl, rfl⟩
  simp only [Option.toList, List.drop, List.nil_append]
  refine qo_put [.ref 17, .ref 23, .ref 25, .ref 27, .ref 34, .ref 42, .ref 44, .ref 49, .ref 58, .null, .null, .null, .null, .null, .null, .int (qz 0)] 144 hR8 rfl (m2 := 6) (m3 := 47) rfl rfl (Nat.le_of_ble_eq_true rfl) (Nat.le_of_ble_eq_true rfl) (Or.inr ⟨by decide, rfl⟩) (qr_fitR (Or.inl ⟨_, rfl⟩) _) rfl rfl (fun R9 hE9 hR9 => ?_)
  refine qr_aload_n 145 rfl rfl rfl ?_
  refine qr_new ((.inr (0, [.ref 17, .ref 23, .ref 25, .ref 27, .ref 34, .ref 42, .ref 44, .ref 49, .ref 58, .null, .null, .null, .null, .null, .null, .int (qz 0)]) :: R9) ++ [.inr (9, [.null, .null, .int (qz 0), .null, .null, .null, .null, .int (qz 0)])]) 148 48 6059 rfl rfl (Nat.le_of_ble_eq_true rfl) (Nat.le_of_ble_eq_true rfl) rfl rfl rfl 64 (by simp only [List.length_append, List.length_cons, List.length_nil, hR9]) rfl ?_
  refine qr_dup 149 rfl rfl rfl ?_
  refine qr_aload_n 150 rfl rfl rfl ?_
  refine qr_get 153 rfl rfl rfl (by decide) rfl ?_
  refine qr_call 156 53 10221 rfl rfl (Nat.le_of_ble_eq_true rfl) (Nat.le_of_ble_eq_true rfl) rfl rfl (si_Guests (a := 64) (u := .inr (0, [.ref 17, .ref 23, .ref 25, .ref 27, .ref 34, .ref 42, .ref 44, .ref 49, .ref 58, .null, .null, .null, .null, .null, .null, .int (qz 0)]) :: R9) (qo_len hR9 64 rfl)) ?_
  rintro _ _ ⟨rfl, rfl⟩
  simp only [Option.toList, List.drop, List.nil_append]
  refine qo_put [.ref 17, .ref 23, .ref 25, .ref 27, .ref 34, .ref 42, .ref 44, .ref 49, .ref 58, .ref 64, .null, .null, .null, .null, .null, .int (qz 0)] 159 hR9 rfl (m2 := 6) (m3 := 53) rfl rfl (Nat.le_of_ble_eq_true rfl) (Nat.le_of_ble_eq_true rfl) (Or.inr ⟨by decide, rfl⟩) (qr_fitR (Or.inl ⟨_, rfl⟩) _) rfl rfl (fun R10 hE10 hR10 => ?_)
  refine qr_aload_n 160 rfl rfl rfl ?_
  refine qr_new ((.inr (0, [.ref 17, .ref 23, .ref 25, .ref 27, .ref 34, .ref 42, .ref 44, .ref 49, .ref 58, .ref 64, .null, .null, .null, .null, .null, .int (qz 0)]) :: R10) ++ [.inr (10, [.null, .null, .int (qz 0), .long (ql 0), .null, .int (qz 0), .long (ql 0)])]) 163 54 10228 rfl rfl (Nat.le_of_ble_eq_true rfl) (Nat.le_of_ble_eq_true rfl) rfl rfl rfl 70 (by simp only [List.length_append, List.length_cons, List.length_nil, hR10]) rfl ?_
  refine qr_dup 164 rfl rfl rfl ?_
  refine qr_aload_n 165 rfl rfl rfl ?_
  refine qr_get 168 rfl rfl rfl (by decide) rfl ?_
  refine qr_call 171 56 10319 rfl rfl (Nat.le_of_ble_eq_true rfl) (Nat.le_of_ble_eq_true rfl) rfl rfl (si_Telling (a := 70) (u := .inr (0, [.ref 17, .ref 23, .ref 25, .ref 27, .ref 34, .ref 42, .ref 44, .ref 49, .ref 58, .ref 64, .null, .null, .null, .null, .null, .int (qz 0)]) :: R10) (qo_len hR10 70 rfl)) ?_
  rintro _ _ ⟨rfl, rfl⟩
  simp only [Option.toList, List.drop, List.nil_append]
  refine qo_put [.ref 17, .ref 23, .ref 25, .ref 27, .ref 34, .ref 42, .ref 44, .ref 49, .ref 58, .ref 64, .ref 70, .null, .null, .null, .null, .int (qz 0)] 174 hR10 rfl (m2 := 3) (m3 := 56) rfl rfl (Nat.le_of_ble_eq_true rfl) (Nat.le_of_ble_eq_true rfl) (Or.inr ⟨by decide, rfl⟩) (qr_fitR (Or.inl ⟨_, rfl⟩) _) rfl rfl (fun R11 hE11 hR11 => ?_)
  refine qr_aload_n 175 rfl rfl rfl ?_
  refine qr_new ((.inr (0, [.ref 17, .ref 23, .ref 25, .ref 27, .ref 34, .ref 42, .ref 44, .ref 49, .ref 58, .ref 64, .ref 70, .null, .null, .null, .null, .int (qz 0)]) :: R11) ++ [.inr (10, [.null, .null, .int (qz 0), .long (ql 0), .null, .int (qz 0), .long (ql 0)])]) 178 57 10326 rfl rfl (Nat.le_of_ble_eq_true rfl) (Nat.le_of_ble_eq_true rfl) rfl rfl rfl 73 (by simp only [List.length_append, List.length_cons, List.length_nil, hR11]) rfl ?_
  refine qr_dup 179 rfl rfl rfl ?_
  refine qr_aload_n 180 rfl rfl rfl ?_
  refine qr_get 183 rfl rfl rfl (by decide) rfl ?_
  refine qr_call 186 59 10417 rfl rfl (Nat.le_of_ble_eq_true rfl) (Nat.le_of_ble_eq_true rfl) rfl rfl (si_Telling (a := 73) (u := .inr (0, [.ref 17, .ref 23, .ref 25, .ref 27, .ref 34, .ref 42, .ref 44, .ref 49, .ref 58, .ref 64, .ref 70, .null, .null, .null, .null, .int (qz 0)]) :: R11) (qo_len hR11 73 rfl)) ?_
  rintro _ _ ⟨rfl, rfl⟩
  simp only [Option.toList, List.drop, List.nil_append]
  refine qo_put [.ref 17, .ref 23, .ref 25, .ref 27, .ref 34, .ref 42, .ref 44, .ref 49, .ref 58, .ref 64, .ref 70, .ref 73, .null, .null, .null, .int (qz 0)] 189 hR11 rfl (m2 := 3) (m3 := 59) rfl rfl (Nat.le_of_ble_eq_true rfl) (Nat.le_of_ble_eq_true rfl) (Or.inr ⟨by decide, rfl⟩) (qr_fitR (Or.inl ⟨_, rfl⟩) _) rfl rfl (fun R12 hE12 hR12 => ?_)
  refine qr_aload_n 190 rfl rfl rfl ?_
  refine qr_new ((.inr (0, [.ref 17, .ref 23, .ref 25, .ref 27, .ref 34, .ref 42, .ref 44, .ref 49, .ref 58, .ref 64, .ref 70, .ref 73, .null, .null, .null, .int (qz 0)]) :: R12) ++ [.inr (11, [.null, .null, .null, .null, .null, .null, .null, .int (qz 0), .int (qz 0)])]) 193 60 10426 rfl rfl (Nat.le_of_ble_eq_true rfl) (Nat.le_of_ble_eq_true rfl) rfl rfl rfl 76 (by simp only [List.length_append, List.length_cons, List.length_nil, hR12]) rfl ?_
  refine qr_dup 194 rfl rfl rfl ?_
  refine qr_aload_n 195 rfl rfl rfl ?_
  refine qr_get 198 rfl rfl rfl (by decide) rfl ?_
  refine qr_aload_n 199 rfl rfl rfl ?_
  refine qr_get 202 rfl rfl rfl (by decide) rfl ?_
  refine qr_aload_n 203 rfl rfl rfl ?_
  refine qr_get 206 rfl rfl rfl (by decide) rfl ?_
  refine qr_call 209 64 10586 rfl rfl (Nat.le_of_ble_eq_true rfl) (Nat.le_of_ble_eq_true rfl) rfl rfl (si_History (a := 76) (u := .inr (0, [.ref 17, .ref 23, .ref 25, .ref 27, .ref 34, .ref 42, .ref 44, .ref 49, .ref 58, .ref 64, .ref 70, .ref 73, .null, .null, .null, .int (qz 0)]) :: R12) (qo_len hR12 76 rfl)) ?_
  rintro _ _ ⟨rfl, rfl⟩
  simp only [Option.toList, List.drop, List.nil_append]
  refine qo_put [.ref 17, .ref 23, .ref 25, .ref 27, .ref 34, .ref 42, .ref 44, .ref 49, .ref 58, .ref 64, .ref 70, .ref 73, .ref 76, .null, .null, .int (qz 0)] 212 hR12 rfl (m2 := 5) (m3 := 64) rfl rfl (Nat.le_of_ble_eq_true rfl) (Nat.le_of_ble_eq_true rfl) (Or.inr ⟨by decide, rfl⟩) (qr_fitR (Or.inl ⟨_, rfl⟩) _) rfl rfl (fun R13 hE13 hR13 => ?_)
  refine qr_aload_n 213 rfl rfl rfl ?_
  refine qr_bipush 215 rfl (by decide) rfl ?_
  refine qr_newI (.inr (0, [.ref 17, .ref 23, .ref 25, .ref 27, .ref 34, .ref 42, .ref 44, .ref 49, .ref 58, .ref 64, .ref 70, .ref 73, .ref 76, .null, .null, .int (qz 0)]) :: R13 ++ [.inl (.int, 120, .inl (qzf (fun _ => 0)))]) 217 65 10706 rfl (by decide) (Nat.le_of_ble_eq_true rfl) (Nat.le_of_ble_eq_true rfl) rfl rfl rfl 81 (by simp only [List.length_cons, hR13]) rfl ?_
  refine qo_put [.ref 17, .ref 23, .ref 25, .ref 27, .ref 34, .ref 42, .ref 44, .ref 49, .ref 58, .ref 64, .ref 70, .ref 73, .ref 76, .ref 81, .null, .int (qz 0)] 220 hR13 rfl (m2 := 1) (m3 := 65) rfl rfl (Nat.le_of_ble_eq_true rfl) (Nat.le_of_ble_eq_true rfl) (Or.inr ⟨by decide, rfl⟩) (qr_fitR (Or.inr ⟨_, rfl⟩) _) rfl rfl (fun R14 hE14 hR14 => ?_)
  refine qr_aload_n 221 rfl rfl rfl ?_
  refine qr_new ((.inr (0, [.ref 17, .ref 23, .ref 25, .ref 27, .ref 34, .ref 42, .ref 44, .ref 49, .ref 58, .ref 64, .ref 70, .ref 73, .ref 76, .ref 81, .null, .int (qz 0)]) :: R14) ++ [.inr (7, [.null, .null, .null, .int (qz 0), .int (qz 0), .int (qz 0), .int (qz 0), .int (qz 0)])]) 224 66 10714 rfl rfl (Nat.le_of_ble_eq_true rfl) (Nat.le_of_ble_eq_true rfl) rfl rfl rfl 82 (by simp only [List.length_append, List.length_cons, List.length_nil, hR14]) rfl ?_
  refine qr_dup 225 rfl rfl rfl ?_
  refine qr_ldcs 227 rfl rfl ?_
  refine qr_call 230 69 11076 rfl rfl (Nat.le_of_ble_eq_true rfl) (Nat.le_of_ble_eq_true rfl) rfl rfl (sp_cinit6 (a := 82) (u := .inr (0, [.ref 17, .ref 23, .ref 25, .ref 27, .ref 34, .ref 42, .ref 44, .ref 49, .ref 58, .ref 64, .ref 70, .ref 73, .ref 76, .ref 81, .null, .int (qz 0)]) :: R14) (by simp only [List.length_append, List.length_cons, List.length_nil, hR14])) ?_
  rintro _ _ ⟨rfl, at6, sz6, nm6, sk6, t6, cd6, rfl, hb6, ht6⟩
  simp only [Option.toList, List.nil_append]
  refine qo_put [.ref 17, .ref 23, .ref 25, .ref 27, .ref 34, .ref 42, .ref 44, .ref 49, .ref 58, .ref 64, .ref 70, .ref 73, .ref 76, .ref 81, .ref 82, .int (qz 0)] 233 hR14 rfl (m2 := 4) (m3 := 69) rfl rfl (Nat.le_of_ble_eq_true rfl) (Nat.le_of_ble_eq_true rfl) (Or.inl rfl) (qr_fitR (Or.inl ⟨_, rfl⟩) _) rfl rfl (fun R15 hE15 hR15 => ?_)
  refine qr_aload_n 234 rfl rfl rfl ?_
  refine qr_iconst 235 rfl rfl ?_
  refine qo_put0 [.ref 17, .ref 23, .ref 25, .ref 27, .ref 34, .ref 42, .ref 44, .ref 49, .ref 58, .ref 64, .ref 70, .ref 73, .ref 76, .ref 81, .ref 82, .int (qz 0)] 238 rfl (Nat.le_of_ble_eq_true rfl) (Nat.le_of_ble_eq_true rfl) (Or.inl rfl) (qr_fitI rfl _) rfl rfl ?_
  refine qr_retV rfl rfl (Nat.le_of_ble_eq_true rfl) (Nat.le_of_ble_eq_true rfl) ?_
  refine ⟨rfl, fun i => if i = 0 then qo_c 4 at3 sz3 nm3 sk3 else if i = 1 then qo_c 5 at5 sz5 nm5 sk5 else qo_c 1 at6 sz6 nm6 sk6, fun i => if i = 24 then g23 else if i = 26 then g25 else if i = 51 then t3 else if i = 52 then cd3 else if i = 55 then t5 else if i = 56 then cd5 else if i = 83 then t6 else cd6, ?_, ?_⟩
  · rw [hE15, hE14, hE13, hE12, hE11, hE10, hE9, hE8, hE7, hE6, hE5, hE4, hE3, hE2, hE1, ← hE0]
    rfl
  · refine ⟨⟨rfl, rfl, rfl⟩, ?_, ?_, ?_⟩
    · intro i hi
      have hi3 : i = 0 ∨ i = 1 ∨ i = 2 := by omega
      rcases hi3 with rfl | rfl | rfl
      · exact ⟨⟨hb3.1, by show at3 ≤ 5; omega⟩, ⟨hb3.2.2.1, hb3.2.2.2.1⟩, ⟨hb3.2.2.2.2.1, hb3.2.2.2.2.2.1⟩, hb3.2.2.2.2.2.2⟩
      · exact ⟨⟨hb5.1, by show at5 ≤ 5; omega⟩, ⟨hb5.2.2.1, hb5.2.2.2.1⟩, ⟨hb5.2.2.2.2.1, hb5.2.2.2.2.2.1⟩, hb5.2.2.2.2.2.2⟩
      · exact ⟨⟨hb6.1, by show at6 ≤ 5; omega⟩, ⟨hb6.2.2.1, hb6.2.2.2.1⟩, ⟨hb6.2.2.2.2.1, hb6.2.2.2.2.2.1⟩, hb6.2.2.2.2.2.2⟩
    · rintro i (rfl | rfl)
      · exact hg23
      · exact hg25
    · rintro i (rfl | rfl | rfl)
      · exact ht3
      · exact ht5
      · exact ht6
