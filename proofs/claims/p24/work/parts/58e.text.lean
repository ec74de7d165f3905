section
/-! texts: how one is read, and what it gives -/
abbrev qtx_3 : Type := Int × Int × Int
def qtx_c (T : Nat → Int) (n a : Int) : Int := if 0 ≤ a ∧ a < n then T a.toNat else -1
theorem qtx_c_c (T : Nat → Int) (n a : Int) : (a < 0 ∧ qtx_c T n a = -1) ∨ ((0 ≤ a ∧ a < n) ∧ qtx_c T n a = T a.toNat) ∨ ((0 ≤ a ∧ n ≤ a) ∧ qtx_c T n a = -1) := by
  unfold qtx_c
  by_cases h : 0 ≤ a ∧ a < n
  · exact Or.inr (Or.inl ⟨h, if_pos h⟩)
  · by_cases h2 : a < 0
    · exact Or.inl ⟨h2, if_neg h⟩
    · exact Or.inr (Or.inr ⟨by omega, if_neg h⟩)
theorem qtx_c_cg {T T' : Nat → Int} {n : Int} (h : ∀ j : Nat, (j : Int) < n → T j = T' j) : qtx_c T n = qtx_c T' n := funext fun a => by
  unfold qtx_c
  by_cases c : 0 ≤ a ∧ a < n
  · rw [if_pos c, if_pos c, h a.toNat (by omega)]
  · rw [if_neg c, if_neg c]
def qtx_nm (c : Int) : Int := if c = 102 then 0 else if c = 110 then 1 else if c = 99 then 2 else if c = 119 then 3 else if c = 118 then 4 else if c = 108 then 5 else if c = 107 then 6 else if c = 111 then 7 else if c = 100 then 8 else -1
theorem qtx_nm_c (c : Int) : (c = 102 ∧ qtx_nm c = 0) ∨ (c = 110 ∧ qtx_nm c = 1) ∨ (c = 99 ∧ qtx_nm c = 2) ∨ (c = 119 ∧ qtx_nm c = 3) ∨ (c = 118 ∧ qtx_nm c = 4) ∨ (c = 108 ∧ qtx_nm c = 5) ∨ (c = 107 ∧ qtx_nm c = 6) ∨ (c = 111 ∧ qtx_nm c = 7) ∨ (c = 100 ∧ qtx_nm c = 8) ∨ (¬ c = 102 ∧ ¬ c = 110 ∧ ¬ c = 99 ∧ ¬ c = 119 ∧ ¬ c = 118 ∧ ¬ c = 108 ∧ ¬ c = 107 ∧ ¬ c = 111 ∧ ¬ c = 100 ∧ qtx_nm c = -1) := by
  unfold qtx_nm
  repeat' split
  all_goals omega
def qtx_lo (c : Int) : Int := if c = 124 then 0 else if c = 38 then 1 else if c = 60 ∨ c = 61 ∨ c = 62 then 2 else if c = 43 ∨ c = 45 then 3 else if c = 42 ∨ c = 47 ∨ c = 37 then 4 else -1
theorem qtx_lo_c (c : Int) : (c = 124 ∧ qtx_lo c = 0) ∨ (c = 38 ∧ qtx_lo c = 1) ∨ ((c = 60 ∨ c = 61 ∨ c = 62) ∧ qtx_lo c = 2) ∨ ((c = 43 ∨ c = 45) ∧ qtx_lo c = 3) ∨ ((c = 42 ∨ c = 47 ∨ c = 37) ∧ qtx_lo c = 4) ∨ ((¬ c = 124 ∧ ¬ c = 38 ∧ ¬ c = 60 ∧ ¬ c = 61 ∧ ¬ c = 62 ∧ ¬ c = 43 ∧ ¬ c = 45 ∧ ¬ c = 42 ∧ ¬ c = 47 ∧ ¬ c = 37) ∧ qtx_lo c = -1) := by
  unfold qtx_lo
  repeat' split
  all_goals omega
/-- numbers: at most so many digits -/
def qtx_num (T : Nat → Int) (n : Int) : Nat → Int → Int → Int × Int
  | 0, v, a => (v, a)
  | k + 1, v, a => if 48 ≤ qtx_c T n a ∧ qtx_c T n a ≤ 57 then qtx_num T n k (10 * v + qtx_c T n a - 48) (a + 1) else (v, a)
theorem qtx_num_go {T : Nat → Int} {n : Int} {k : Nat} {v a : Int} (h : 48 ≤ qtx_c T n a ∧ qtx_c T n a ≤ 57) : qtx_num T n (k + 1) v a = qtx_num T n k (10 * v + qtx_c T n a - 48) (a + 1) := if_pos h
theorem qtx_num_st {T : Nat → Int} {n : Int} {k : Nat} {v a : Int} (h : ¬ (48 ≤ qtx_c T n a ∧ qtx_c T n a ≤ 57)) : qtx_num T n k v a = (v, a) := by
  cases k with
  | zero => rfl
  | succ k => exact if_neg h
def qtx_p : Nat → Int
  | 0 => 1
  | k + 1 => 10 * qtx_p k
theorem qtx_num_b {T : Nat → Int} {n : Int} : ∀ (k : Nat) (v a : Int), 0 ≤ v → a ≤ n → a ≤ (qtx_num T n k v a).2 ∧ (qtx_num T n k v a).2 ≤ n ∧ (qtx_num T n k v a).2 ≤ a + k ∧ 0 ≤ (qtx_num T n k v a).1 ∧ (qtx_num T n k v a).1 + 1 ≤ (v + 1) * qtx_p k := by
  intro k
  induction k with
  | zero =>
    intro v a hv ha
    refine ⟨Int.le_refl _, ha, ?_, hv, ?_⟩
    · show a ≤ a + ((0 : Nat) : Int)
      omega
    · show v + 1 ≤ (v + 1) * 1
      omega
  | succ k ih =>
    intro v a hv ha
    by_cases h : 48 ≤ qtx_c T n a ∧ qtx_c T n a ≤ 57
    · have hc := qtx_c_c T n a
      have h1 := ih (10 * v + qtx_c T n a - 48) (a + 1) (by omega) (by omega)
      rw [qtx_num_go h]
      refine ⟨by omega, h1.2.1, by omega, h1.2.2.2.1, Int.le_trans h1.2.2.2.2 ?_⟩
      have hp : ∀ j : Nat, 0 ≤ qtx_p j := by
        intro j
        induction j with
        | zero => decide
        | succ j ihj => show 0 ≤ 10 * qtx_p j; omega
      show (10 * v + qtx_c T n a - 48 + 1) * qtx_p k ≤ (v + 1) * (10 * qtx_p k)
      rw [← Int.mul_assoc, Int.mul_comm (v + 1) 10]
      exact Int.mul_le_mul_of_nonneg_right (by omega) (hp k)
    · rw [qtx_num_st h]
      refine ⟨Int.le_refl _, ha, by omega, hv, ?_⟩
      have hp : ∀ j : Nat, 1 ≤ qtx_p j := by
        intro j
        induction j with
        | zero => decide
        | succ j ihj => show 1 ≤ 10 * qtx_p j; omega
      have h2 : (v + 1) * 1 ≤ (v + 1) * qtx_p (k + 1) := Int.mul_le_mul_of_nonneg_left (hp _) (by omega)
      show v + 1 ≤ (v + 1) * qtx_p (k + 1)
      omega
/-- what signs give -/
def qtx_ap (c x y : Int) : Int := if c = 124 then (if x = 0 ∧ y = 0 then 0 else 1) else if c = 38 then (if x = 0 ∨ y = 0 then 0 else 1) else if c = 60 then (if x < y then 1 else 0) else if c = 61 then (if x = y then 1 else 0) else if c = 62 then (if y < x then 1 else 0) else if c = 43 then (qz (x + y)).toInt else if c = 45 then (qz (x - y)).toInt else if c = 42 then (qz (x * y)).toInt else if y = 0 then 0 else if c = 47 then qz_tdiv x y else if c = 37 then qz_trem x y else 0
def qtx_ng (c x : Int) : Int := if c = 45 then (qz (-x)).toInt else if x = 0 then 1 else 0
def qtx_cm (c : Int) (p q : qtx_3) : qtx_3 := (qtx_ap c p.1 q.1, q.2.1, q.2.2)
/-- what goes on as long as signs of a level stand there -/
def qtx_lp (T : Nat → Int) (n : Int) (sub : Int → qtx_3) (l : Int) : Nat → qtx_3 → qtx_3
  | 0, p => p
  | k + 1, p => if p.2.2 = 0 ∧ qtx_lo (qtx_c T n p.2.1) = l then qtx_lp T n sub l k (qtx_cm (qtx_c T n p.2.1) p (sub (p.2.1 + 1))) else p
theorem qtx_lp_go {T : Nat → Int} {n : Int} {sub : Int → qtx_3} {l : Int} {k : Nat} {p : qtx_3} (h : p.2.2 = 0 ∧ qtx_lo (qtx_c T n p.2.1) = l) : qtx_lp T n sub l (k + 1) p = qtx_lp T n sub l k (qtx_cm (qtx_c T n p.2.1) p (sub (p.2.1 + 1))) := if_pos h
theorem qtx_lp_st {T : Nat → Int} {n : Int} {sub : Int → qtx_3} {l : Int} {k : Nat} {p : qtx_3} (h : ¬ (p.2.2 = 0 ∧ qtx_lo (qtx_c T n p.2.1) = l)) : qtx_lp T n sub l k p = p := by
  cases k with
  | zero => rfl
  | succ k => exact if_neg h
/-- parts of a level, operands given: m levels above operands -/
def qtx_lv (T : Nat → Int) (n : Int) (one : Int → qtx_3) : Nat → Int → qtx_3
  | 0, a => one a
  | m + 1, a => qtx_lp T n (qtx_lv T n one m) (4 - (m : Int)) (if m = 2 then 1 else 120) (qtx_lv T n one m a)
def qtx_oo (T : Nat → Int) (n : Int) (N : Nat → Int) (a : Int) : qtx_3 :=
  if 0 ≤ qtx_nm (qtx_c T n a) then (N (qtx_nm (qtx_c T n a)).toNat, a + 1, 0)
  else if 48 ≤ qtx_c T n a ∧ qtx_c T n a ≤ 57 then ((qtx_num T n 4 0 a).1, (qtx_num T n 4 0 a).2, 0)
  else (0, a, 1)
def qtx_pc (T : Nat → Int) (n : Int) (x : qtx_3) : qtx_3 := if x.2.2 = 0 ∧ qtx_c T n x.2.1 = 41 then (x.1, x.2.1 + 1, 0) else (0, x.2.1, 1)
def qtx_un (c : Int) (x : qtx_3) : qtx_3 := (qtx_ng c x.1, x.2.1, x.2.2)
/-- an operand, with so many still to be opened -/
def qtx_on (T : Nat → Int) (n : Int) (N : Nat → Int) : Nat → Int → qtx_3
  | 0, a => qtx_oo T n N a
  | r + 1, a =>
    if qtx_c T n a = 40 then qtx_pc T n (qtx_lv T n (fun b => qtx_on T n N r b) 5 (a + 1))
    else if qtx_c T n a = 33 ∨ qtx_c T n a = 45 then qtx_un (qtx_c T n a) (qtx_on T n N r (a + 1))
    else qtx_oo T n N a
def qtx_E (T : Nat → Int) (n : Int) (N : Nat → Int) (r : Nat) : Int → qtx_3 := qtx_lv T n (fun b => qtx_on T n N r b) 5
/-- a line: whether it counts, what it gives -/
def qtx_ln (T : Nat → Int) (n : Int) (E : Int → qtx_3) (a : Int) : Int × qtx_3 :=
  if (E a).2.2 = 0 ∧ qtx_c T n (E a).2.1 = 63 then ((if (E a).1 = 0 then 0 else 1), E ((E a).2.1 + 1)) else (1, E a)
def qtx_gi (gi h : Int) : Int := if gi = 1 ∨ h = 1 then 1 else 0
def qtx_ge (gi h ge v : Int) : Int := if gi = 1 then ge else if h = 1 then v else ge
/-- a text from a line on -/
def qtx_pg (T : Nat → Int) (n : Int) (E : Int → qtx_3) : Nat → Int → Int → Int → qtx_3
  | 0, a, _, ge => (ge, a, 0)
  | k + 1, a, gi, ge =>
    if (qtx_ln T n E a).2.2.2 = 0 ∧ qtx_c T n (qtx_ln T n E a).2.2.1 = 59 then qtx_pg T n E k ((qtx_ln T n E a).2.2.1 + 1) (qtx_gi gi (qtx_ln T n E a).1) (qtx_ge gi (qtx_ln T n E a).1 ge (qtx_ln T n E a).2.1)
    else (qtx_ge gi (qtx_ln T n E a).1 ge (qtx_ln T n E a).2.1, (qtx_ln T n E a).2.2.1, if (qtx_ln T n E a).2.2.2 = 0 ∧ n ≤ (qtx_ln T n E a).2.2.1 then 0 else 1)
theorem qtx_pg_go {T : Nat → Int} {n : Int} {E : Int → qtx_3} {k : Nat} {a gi ge : Int} (h : (qtx_ln T n E a).2.2.2 = 0 ∧ qtx_c T n (qtx_ln T n E a).2.2.1 = 59) : qtx_pg T n E (k + 1) a gi ge = qtx_pg T n E k ((qtx_ln T n E a).2.2.1 + 1) (qtx_gi gi (qtx_ln T n E a).1) (qtx_ge gi (qtx_ln T n E a).1 ge (qtx_ln T n E a).2.1) := if_pos h
theorem qtx_pg_st {T : Nat → Int} {n : Int} {E : Int → qtx_3} {k : Nat} {a gi ge : Int} (h : ¬ ((qtx_ln T n E a).2.2.2 = 0 ∧ qtx_c T n (qtx_ln T n E a).2.2.1 = 59)) : qtx_pg T n E (k + 1) a gi ge = (qtx_ge gi (qtx_ln T n E a).1 ge (qtx_ln T n E a).2.1, (qtx_ln T n E a).2.2.1, if (qtx_ln T n E a).2.2.2 = 0 ∧ n ≤ (qtx_ln T n E a).2.2.1 then 0 else 1) := if_neg h
/-- the whole text -/
def qtx_W (T : Nat → Int) (n : Int) (N : Nat → Int) : qtx_3 := qtx_pg T n (qtx_E T n N 6) 121 0 0 0
/-! texts that are alike as far as they go -/
theorem qtx_num_cg {T T' : Nat → Int} {n : Int} (hC : qtx_c T n = qtx_c T' n) : ∀ (k : Nat) (v a : Int), qtx_num T n k v a = qtx_num T' n k v a := by
  intro k
  induction k with
  | zero => intro v a; rfl
  | succ k ih =>
    intro v a
    show (if 48 ≤ qtx_c T n a ∧ qtx_c T n a ≤ 57 then qtx_num T n k (10 * v + qtx_c T n a - 48) (a + 1) else (v, a)) = (if 48 ≤ qtx_c T' n a ∧ qtx_c T' n a ≤ 57 then qtx_num T' n k (10 * v + qtx_c T' n a - 48) (a + 1) else (v, a))
    rw [hC, ih]
theorem qtx_lp_cg {T T' : Nat → Int} {n : Int} (hC : qtx_c T n = qtx_c T' n) (sub : Int → qtx_3) (l : Int) : ∀ (k : Nat) (p : qtx_3), qtx_lp T n sub l k p = qtx_lp T' n sub l k p := by
  intro k
  induction k with
  | zero => intro p; rfl
  | succ k ih =>
    intro p
    show (if p.2.2 = 0 ∧ qtx_lo (qtx_c T n p.2.1) = l then qtx_lp T n sub l k (qtx_cm (qtx_c T n p.2.1) p (sub (p.2.1 + 1))) else p) = (if p.2.2 = 0 ∧ qtx_lo (qtx_c T' n p.2.1) = l then qtx_lp T' n sub l k (qtx_cm (qtx_c T' n p.2.1) p (sub (p.2.1 + 1))) else p)
    rw [hC, ih]
theorem qtx_lv_cg {T T' : Nat → Int} {n : Int} (hC : qtx_c T n = qtx_c T' n) (one : Int → qtx_3) : ∀ m : Nat, qtx_lv T n one m = qtx_lv T' n one m := by
  intro m
  induction m with
  | zero => rfl
  | succ m ih =>
    funext a
    show qtx_lp T n (qtx_lv T n one m) (4 - (m : Int)) (if m = 2 then 1 else 120) (qtx_lv T n one m a) = qtx_lp T' n (qtx_lv T' n one m) (4 - (m : Int)) (if m = 2 then 1 else 120) (qtx_lv T' n one m a)
    rw [ih, qtx_lp_cg hC]
theorem qtx_oo_cg {T T' : Nat → Int} {n : Int} (hC : qtx_c T n = qtx_c T' n) (N : Nat → Int) (a : Int) : qtx_oo T n N a = qtx_oo T' n N a := by
  unfold qtx_oo
  rw [hC, qtx_num_cg hC]
theorem qtx_on_cg {T T' : Nat → Int} {n : Int} (hC : qtx_c T n = qtx_c T' n) (N : Nat → Int) : ∀ (r : Nat) (a : Int), qtx_on T n N r a = qtx_on T' n N r a := by
  intro r
  induction r with
  | zero => exact qtx_oo_cg hC N
  | succ r ih =>
    intro a
    show (if qtx_c T n a = 40 then qtx_pc T n (qtx_lv T n (fun b => qtx_on T n N r b) 5 (a + 1)) else if qtx_c T n a = 33 ∨ qtx_c T n a = 45 then qtx_un (qtx_c T n a) (qtx_on T n N r (a + 1)) else qtx_oo T n N a) = (if qtx_c T' n a = 40 then qtx_pc T' n (qtx_lv T' n (fun b => qtx_on T' n N r b) 5 (a + 1)) else if qtx_c T' n a = 33 ∨ qtx_c T' n a = 45 then qtx_un (qtx_c T' n a) (qtx_on T' n N r (a + 1)) else qtx_oo T' n N a)
    have e : (fun b => qtx_on T n N r b) = fun b => qtx_on T' n N r b := funext ih
    have e2 : ∀ x : qtx_3, qtx_pc T n x = qtx_pc T' n x := fun x => by unfold qtx_pc; rw [hC]
    rw [hC, e, ih, e2, qtx_lv_cg hC, qtx_oo_cg hC]
theorem qtx_E_cg {T T' : Nat → Int} {n : Int} (hC : qtx_c T n = qtx_c T' n) (N : Nat → Int) (r : Nat) : qtx_E T n N r = qtx_E T' n N r := by
  have e : (fun b => qtx_on T n N r b) = fun b => qtx_on T' n N r b := funext (qtx_on_cg hC N r)
  unfold qtx_E
  rw [e, qtx_lv_cg hC]
theorem qtx_ln_cg {T T' : Nat → Int} {n : Int} (hC : qtx_c T n = qtx_c T' n) (E : Int → qtx_3) (a : Int) : qtx_ln T n E a = qtx_ln T' n E a := by
  unfold qtx_ln
  rw [hC]
theorem qtx_pg_cg {T T' : Nat → Int} {n : Int} (hC : qtx_c T n = qtx_c T' n) (E : Int → qtx_3) : ∀ (k : Nat) (a gi ge : Int), qtx_pg T n E k a gi ge = qtx_pg T' n E k a gi ge := by
  intro k
  induction k with
  | zero => intro a gi ge; rfl
  | succ k ih =>
    intro a gi ge
    by_cases h : (qtx_ln T n E a).2.2.2 = 0 ∧ qtx_c T n (qtx_ln T n E a).2.2.1 = 59
    · rw [qtx_pg_go h, qtx_pg_go (by rw [← qtx_ln_cg hC, ← hC]; exact h), ih, qtx_ln_cg hC]
    · rw [qtx_pg_st h, qtx_pg_st (by rw [← qtx_ln_cg hC, ← hC]; exact h), qtx_ln_cg hC]
theorem qtx_W_cg {T T' : Nat → Int} {n : Int} (h : ∀ j : Nat, (j : Int) < n → T j = T' j) (N : Nat → Int) : qtx_W T n N = qtx_W T' n N := by
  have hC := qtx_c_cg h
  unfold qtx_W
  rw [qtx_E_cg hC, qtx_pg_cg hC]
end
section
/-! steps of a text that was read, and what working them out gives -/
def qwr (cd N : Nat → Int) (z : Int) : Nat → Int → (Nat → Int) → Int → Int
  | 0, _, _, _ => 0
  | k + 1, i, s, p =>
    if z ≤ i then 0
    else if cd i.toNat / 65536 = 48 ∨ cd i.toNat / 65536 = 97 then
      (if 120 ≤ p then 0 else qwr cd N z k (i + 1) (qzu s p.toNat (if cd i.toNat / 65536 = 48 then cd i.toNat % 65536 else if cd i.toNat % 65536 < 9 then N (cd i.toNat % 65536).toNat else 0)) (p + 1))
    else if p < 1 then 0
    else if cd i.toNat / 65536 = 59 then s (p - 1).toNat
    else if cd i.toNat / 65536 = 63 then qwr cd N z k (if s (p - 1).toNat = 0 ∧ i + 1 ≤ cd i.toNat % 65536 then cd i.toNat % 65536 else i + 1) s (p - 1)
    else if cd i.toNat / 65536 = 33 then qwr cd N z k (i + 1) (qzu s (p - 1).toNat (if s (p - 1).toNat = 0 then 1 else 0)) p
    else if cd i.toNat / 65536 = 126 then qwr cd N z k (i + 1) (qzu s (p - 1).toNat (qz (-(s (p - 1).toNat))).toInt) p
    else if p < 2 then 0
    else qwr cd N z k (i + 1) (qzu s (p - 2).toNat (qtx_ap (cd i.toNat / 65536) (s (p - 2).toNat) (s (p - 1).toNat))) (p - 1)
theorem qwr_fu (cd N : Nat → Int) (z : Int) : ∀ (k k' : Nat) (i : Int) (s : Nat → Int) (p : Int), z - i ≤ (k : Int) → z - i ≤ (k' : Int) → qwr cd N z k i s p = qwr cd N z k' i s p := by
  intro k
  induction k with
  | zero =>
    intro k' i s p h1 h2
    cases k' with
    | zero => rfl
    | succ k' => exact (if_pos (show z ≤ i by omega)).symm
  | succ k ih =>
    intro k' i s p h1 h2
    cases k' with
    | zero => exact if_pos (show z ≤ i by omega)
    | succ k' =>
      have f : ∀ (i' : Int) (s' : Nat → Int) (p' : Int), i + 1 ≤ i' → qwr cd N z k i' s' p' = qwr cd N z k' i' s' p' := fun i' s' p' hi => ih k' i' s' p' (by omega) (by omega)
      unfold qwr
      by_cases c0 : z ≤ i
      · rw [if_pos c0, if_pos c0]
      · rw [if_neg c0, if_neg c0]
        by_cases c1 : cd i.toNat / 65536 = 48 ∨ cd i.toNat / 65536 = 97
        · rw [if_pos c1, if_pos c1, f _ _ _ (Int.le_refl _)]
        · rw [if_neg c1, if_neg c1, f _ _ _ (Int.le_refl _), f _ _ _ (Int.le_refl _), f _ _ _ (Int.le_refl _)]
          by_cases c2 : s (p - 1).toNat = 0 ∧ i + 1 ≤ cd i.toNat % 65536
          · rw [if_pos c2, f _ _ _ c2.2]
          · rw [if_neg c2, f _ _ _ (Int.le_refl _)]
def qwv (cd N : Nat → Int) (z i : Int) (s : Nat → Int) (p : Int) : Int := qwr cd N z (z - i).toNat i s p
theorem qwv_end {cd N : Nat → Int} {z i : Int} {s : Nat → Int} {p : Int} (h : z ≤ i) : qwv cd N z i s p = 0 := by
  unfold qwv
  rw [show (z - i).toNat = 0 by omega]
  rfl
theorem qwv_s (cd N : Nat → Int) {z i : Int} (s : Nat → Int) (p : Int) (h : i < z) : qwv cd N z i s p =
    if cd i.toNat / 65536 = 48 ∨ cd i.toNat / 65536 = 97 then
      (if 120 ≤ p then 0 else qwv cd N z (i + 1) (qzu s p.toNat (if cd i.toNat / 65536 = 48 then cd i.toNat % 65536 else if cd i.toNat % 65536 < 9 then N (cd i.toNat % 65536).toNat else 0)) (p + 1))
    else if p < 1 then 0
    else if cd i.toNat / 65536 = 59 then s (p - 1).toNat
    else if cd i.toNat / 65536 = 63 then qwv cd N z (if s (p - 1).toNat = 0 ∧ i + 1 ≤ cd i.toNat % 65536 then cd i.toNat % 65536 else i + 1) s (p - 1)
    else if cd i.toNat / 65536 = 33 then qwv cd N z (i + 1) (qzu s (p - 1).toNat (if s (p - 1).toNat = 0 then 1 else 0)) p
    else if cd i.toNat / 65536 = 126 then qwv cd N z (i + 1) (qzu s (p - 1).toNat (qz (-(s (p - 1).toNat))).toInt) p
    else if p < 2 then 0
    else qwv cd N z (i + 1) (qzu s (p - 2).toNat (qtx_ap (cd i.toNat / 65536) (s (p - 2).toNat) (s (p - 1).toNat))) (p - 1) := by
  have f : ∀ (i' : Int) (s' : Nat → Int) (p' : Int), i + 1 ≤ i' → qwr cd N z (z - i - 1).toNat i' s' p' = qwv cd N z i' s' p' := fun i' s' p' hi => qwr_fu cd N z _ _ i' s' p' (by omega) (by omega)
  have e : qwv cd N z i s p = qwr cd N z ((z - i - 1).toNat + 1) i s p := qwr_fu cd N z _ _ i s p (by omega) (by omega)
  rw [e]
  unfold qwr
  rw [if_neg (show ¬ z ≤ i by omega), f _ _ _ (Int.le_refl _), f _ _ _ (Int.le_refl _), f _ _ _ (Int.le_refl _), f _ _ _ (Int.le_refl _)]
  by_cases c2 : s (p - 1).toNat = 0 ∧ i + 1 ≤ cd i.toNat % 65536
  · rw [if_pos c2, f _ _ _ c2.2]
  · rw [if_neg c2, f _ _ _ (Int.le_refl _)]
/-- steps from i to j lay one number on the pile -/
def qtx_X (cd : Nat → Int) (i j : Int) (f : (Nat → Int) → Int) : Prop := (0 ≤ i ∧ i < j) ∧ ∀ cd' : Nat → Int, (∀ k : Int, i ≤ k → k < j → cd' k.toNat = cd k.toNat) → ∀ (N : Nat → Int) (z : Int) (s : Nat → Int) (p : Int), j ≤ z → 0 ≤ p → p + (j - i) ≤ 120 → ∃ s' : Nat → Int, (∀ k : Nat, (k : Int) < p → s' k = s k) ∧ s' p.toNat = f N ∧ qwv cd' N z i s p = qwv cd' N z j s' (p + 1)
theorem qtx_X_fr {cd cd2 : Nat → Int} {i j : Int} {f : (Nat → Int) → Int} (h : qtx_X cd i j f) (e : ∀ k : Int, i ≤ k → k < j → cd2 k.toNat = cd k.toNat) : qtx_X cd2 i j f :=
  ⟨h.1, fun cd' hc => h.2 cd' (fun k h1 h2 => (hc k h1 h2).trans (e k h1 h2))⟩
theorem qtx_X_num {cd : Nat → Int} {i v : Int} (hi : 0 ≤ i) (hv : 0 ≤ v ∧ v < 65536) (hc : cd i.toNat = 48 * 65536 + v) : qtx_X cd i (i + 1) (fun _ => v) := by
  refine ⟨by omega, fun cd' he N z s p hz hp hl => ⟨qzu s p.toNat v, fun k hk => ?_, ?_, ?_⟩⟩
  · unfold qzu; rw [if_neg (by omega)]
  · unfold qzu; rw [if_pos rfl]
  · have e : cd' i.toNat = 48 * 65536 + v := (he i (Int.le_refl _) (by omega)).trans hc
    rw [qwv_s cd' N s p (by omega), if_pos (Or.inl (by omega)), if_neg (by omega), if_pos (by omega), show cd' i.toNat % 65536 = v by omega]
theorem qtx_X_nam {cd : Nat → Int} {i m : Int} (hi : 0 ≤ i) (hm : 0 ≤ m ∧ m < 9) (hc : cd i.toNat = 97 * 65536 + m) : qtx_X cd i (i + 1) (fun N => N m.toNat) := by
  refine ⟨by omega, fun cd' he N z s p hz hp hl => ⟨qzu s p.toNat (N m.toNat), fun k hk => ?_, ?_, ?_⟩⟩
  · unfold qzu; rw [if_neg (by omega)]
  · unfold qzu; rw [if_pos rfl]
  · have e : cd' i.toNat = 97 * 65536 + m := (he i (Int.le_refl _) (by omega)).trans hc
    rw [qwv_s cd' N s p (by omega), if_pos (Or.inr (by omega)), if_neg (by omega), if_neg (by omega), if_pos (by omega), show cd' i.toNat % 65536 = m by omega]
theorem qtx_X_not {cd : Nat → Int} {i j : Int} {f : (Nat → Int) → Int} (h : qtx_X cd i j f) (hc : cd j.toNat = 33 * 65536) : qtx_X cd i (j + 1) (fun N => qtx_ng 33 (f N)) := by
  refine ⟨by have := h.1; omega, fun cd' he N z s p hz hp hl => ?_⟩
  have h1 := h.1
  obtain ⟨s1, a1, a2, a3⟩ := h.2 cd' (fun k h1 h2 => he k h1 (by omega)) N z s p (by omega) hp (by omega)
  have e : cd' j.toNat = 33 * 65536 := (he j (by omega) (by omega)).trans hc
  refine ⟨qzu s1 p.toNat (if s1 p.toNat = 0 then 1 else 0), fun k hk => ?_, ?_, ?_⟩
  · unfold qzu; rw [if_neg (by omega)]; exact a1 k hk
  · show qzu s1 p.toNat (if s1 p.toNat = 0 then 1 else 0) p.toNat = qtx_ng 33 (f N)
    unfold qzu
    rw [if_pos rfl, ← a2]
    rfl
  · rw [a3, qwv_s cd' N s1 (p + 1) (by omega), if_neg (by omega), if_neg (by omega), if_neg (by omega), if_neg (by omega), if_pos (by omega), show p + 1 - 1 = p by omega]
theorem qtx_X_neg {cd : Nat → Int} {i j : Int} {f : (Nat → Int) → Int} (h : qtx_X cd i j f) (hc : cd j.toNat = 126 * 65536) : qtx_X cd i (j + 1) (fun N => qtx_ng 45 (f N)) := by
  refine ⟨by have := h.1; omega, fun cd' he N z s p hz hp hl => ?_⟩
  have h1 := h.1
  obtain ⟨s1, a1, a2, a3⟩ := h.2 cd' (fun k h1 h2 => he k h1 (by omega)) N z s p (by omega) hp (by omega)
  have e : cd' j.toNat = 126 * 65536 := (he j (by omega) (by omega)).trans hc
  refine ⟨qzu s1 p.toNat (qz (-(s1 p.toNat))).toInt, fun k hk => ?_, ?_, ?_⟩
  · unfold qzu; rw [if_neg (by omega)]; exact a1 k hk
  · show qzu s1 p.toNat (qz (-(s1 p.toNat))).toInt p.toNat = qtx_ng 45 (f N)
    unfold qzu
    rw [if_pos rfl, ← a2]
    rfl
  · rw [a3, qwv_s cd' N s1 (p + 1) (by omega), if_neg (by omega), if_neg (by omega), if_neg (by omega), if_neg (by omega), if_neg (by omega), if_pos (by omega), show p + 1 - 1 = p by omega]
theorem qtx_X_bin {cd : Nat → Int} {i j k c : Int} {f g : (Nat → Int) → Int} (hf : qtx_X cd i j f) (hg : qtx_X cd j k g) (ho : 0 ≤ qtx_lo c) (hc : cd k.toNat = c * 65536) : qtx_X cd i (k + 1) (fun N => qtx_ap c (f N) (g N)) := by
  have h1 := hf.1
  have h2 := hg.1
  have hq := qtx_lo_c c
  refine ⟨by omega, fun cd' he N z s p hz hp hl => ?_⟩
  obtain ⟨s1, a1, a2, a3⟩ := hf.2 cd' (fun x b1 b2 => he x b1 (by omega)) N z s p (by omega) hp (by omega)
  obtain ⟨s2, c1, c2, c3⟩ := hg.2 cd' (fun x b1 b2 => he x (by omega) (by omega)) N z s1 (p + 1) (by omega) (by omega) (by omega)
  have e : cd' k.toNat = c * 65536 := (he k (by omega) (by omega)).trans hc
  have d : s2 p.toNat = f N := (c1 p.toNat (by omega)).trans a2
  refine ⟨qzu s2 p.toNat (qtx_ap (cd' k.toNat / 65536) (s2 p.toNat) (s2 (p + 1).toNat)), fun x hx => ?_, ?_, ?_⟩
  · unfold qzu; rw [if_neg (by omega)]; exact (c1 x (by omega)).trans (a1 x hx)
  · unfold qzu; rw [if_pos rfl, d, c2, show cd' k.toNat / 65536 = c by omega]
  · rw [a3, c3, qwv_s cd' N s2 (p + 1 + 1) (by omega), if_neg (by omega), if_neg (by omega), if_neg (by omega), if_neg (by omega), if_neg (by omega), if_neg (by omega), if_neg (by omega), show p + 1 + 1 - 2 = p by omega, show p + 1 + 1 - 1 = p + 1 by omega]
/-- steps up to j: lines, of which the first that counts was among them or not -/
def qtx_Y (cd : Nat → Int) (j : Int) (gi ge : (Nat → Int) → Int) : Prop := 0 ≤ j ∧ ∀ cd' : Nat → Int, (∀ k : Int, 0 ≤ k → k < j → cd' k.toNat = cd k.toNat) → ∀ (N : Nat → Int) (z : Int) (s : Nat → Int), j ≤ z → (gi N = 1 ∧ qwv cd' N z 0 s 0 = ge N) ∨ (gi N = 0 ∧ ge N = 0 ∧ ∃ s' : Nat → Int, qwv cd' N z 0 s 0 = qwv cd' N z j s' 0)
theorem qtx_Y_0 (cd : Nat → Int) : qtx_Y cd 0 (fun _ => 0) (fun _ => 0) := ⟨Int.le_refl _, fun _ _ _ _ s _ => Or.inr ⟨rfl, rfl, s, rfl⟩⟩
theorem qtx_Y_fr {cd cd2 : Nat → Int} {j : Int} {gi ge : (Nat → Int) → Int} (h : qtx_Y cd j gi ge) (e : ∀ k : Int, 0 ≤ k → k < j → cd2 k.toNat = cd k.toNat) : qtx_Y cd2 j gi ge :=
  ⟨h.1, fun cd' hc => h.2 cd' (fun k h1 h2 => (hc k h1 h2).trans (e k h1 h2))⟩
theorem qtx_Y_pl {cd : Nat → Int} {i j : Int} {gi ge f : (Nat → Int) → Int} (h : qtx_Y cd i gi ge) (hx : qtx_X cd i j f) (hl : j - i ≤ 120) (hc : cd j.toNat = 59 * 65536) : qtx_Y cd (j + 1) (fun N => qtx_gi (gi N) 1) (fun N => qtx_ge (gi N) 1 (ge N) (f N)) := by
  have h0 := h.1
  have h1 := hx.1
  refine ⟨by omega, fun cd' he N z s hz => Or.inl ⟨if_pos (Or.inr rfl), ?_⟩⟩
  have e : cd' j.toNat = 59 * 65536 := (he j (by omega) (by omega)).trans hc
  show qwv cd' N z 0 s 0 = qtx_ge (gi N) 1 (ge N) (f N)
  unfold qtx_ge
  rcases h.2 cd' (fun k b1 b2 => he k b1 (by omega)) N z s (by omega) with ⟨g1, g2⟩ | ⟨g1, g2, s1, g3⟩
  · rw [if_pos g1, g2]
  · obtain ⟨s2, a1, a2, a3⟩ := hx.2 cd' (fun k b1 b2 => he k (by omega) (by omega)) N z s1 0 (by omega) (Int.le_refl _) (by omega)
    rw [if_neg (by omega), if_pos rfl, g3, a3, qwv_s cd' N s2 (0 + 1) (by omega), if_neg (by omega), if_neg (by decide), if_pos (by omega)]
    exact a2
theorem qtx_Y_if {cd : Nat → Int} {i j k : Int} {gi ge f g : (Nat → Int) → Int} (h : qtx_Y cd i gi ge) (hx : qtx_X cd i j f) (hl : j - i ≤ 120) (hc : cd j.toNat = 63 * 65536 + (k + 1)) (hk : k < 65535) (hy : qtx_X cd (j + 1) k g) (hl2 : k - (j + 1) ≤ 120) (hc2 : cd k.toNat = 59 * 65536) : qtx_Y cd (k + 1) (fun N => qtx_gi (gi N) (if f N = 0 then 0 else 1)) (fun N => qtx_ge (gi N) (if f N = 0 then 0 else 1) (ge N) (g N)) := by
  have h0 := h.1
  have h1 := hx.1
  have h2 := hy.1
  refine ⟨by omega, fun cd' he N z s hz => ?_⟩
  have e : cd' j.toNat = 63 * 65536 + (k + 1) := (he j (by omega) (by omega)).trans hc
  have e2 : cd' k.toNat = 59 * 65536 := (he k (by omega) (by omega)).trans hc2
  show (qtx_gi (gi N) (if f N = 0 then 0 else 1) = 1 ∧ qwv cd' N z 0 s 0 = qtx_ge (gi N) (if f N = 0 then 0 else 1) (ge N) (g N)) ∨ (qtx_gi (gi N) (if f N = 0 then 0 else 1) = 0 ∧ qtx_ge (gi N) (if f N = 0 then 0 else 1) (ge N) (g N) = 0 ∧ ∃ s' : Nat → Int, qwv cd' N z 0 s 0 = qwv cd' N z (k + 1) s' 0)
  unfold qtx_gi qtx_ge
  rcases h.2 cd' (fun k b1 b2 => he k b1 (by omega)) N z s (by omega) with ⟨g1, g2⟩ | ⟨g1, g2, s1, g3⟩
  · exact Or.inl ⟨if_pos (Or.inl g1), by rw [if_pos g1, g2]⟩
  · obtain ⟨s2, a1, a2, a3⟩ := hx.2 cd' (fun x b1 b2 => he x (by omega) (by omega)) N z s1 0 (by omega) (Int.le_refl _) (by omega)
    have a4 : s2 (0 + 1 - 1 : Int).toNat = f N := a2
    have st : qwv cd' N z 0 s 0 = qwv cd' N z (if f N = 0 ∧ j + 1 ≤ k + 1 then k + 1 else j + 1) s2 0 := by
      rw [g3, a3, qwv_s cd' N s2 (0 + 1) (by omega), if_neg (by omega), if_neg (by decide), if_neg (by omega), if_pos (by omega), a4, show cd' j.toNat % 65536 = k + 1 by omega]
      rfl
    by_cases c : f N = 0
    · rw [if_pos ⟨c, by omega⟩] at st
      rw [if_pos c]
      exact Or.inr ⟨if_neg (by omega), by rw [if_neg (by omega), if_neg (by decide)]; exact g2, s2, st⟩
    · rw [if_neg (fun q => c q.1)] at st
      rw [if_neg c]
      obtain ⟨s3, b1, b2, b3⟩ := hy.2 cd' (fun x d1 d2 => he x (by omega) (by omega)) N z s2 0 (by omega) (Int.le_refl _) (by omega)
      refine Or.inl ⟨if_pos (Or.inr rfl), ?_⟩
      rw [if_neg (by omega), if_pos rfl, st, b3, qwv_s cd' N s3 (0 + 1) (by omega), if_neg (by omega), if_neg (by decide), if_pos (by omega)]
      exact b2
theorem qtx_Y_all {cd : Nat → Int} {j : Int} {gi ge : (Nat → Int) → Int} (h : qtx_Y cd j gi ge) (N s : Nat → Int) : qwv cd N j 0 s 0 = ge N := by
  rcases h.2 cd (fun _ _ _ => rfl) N j s (Int.le_refl _) with ⟨_, g2⟩ | ⟨_, g2, s', g3⟩
  · exact g2
  · rw [g3, g2, qwv_end (Int.le_refl _)]
/-- a step with its argument -/
theorem qtx_em {a b : Int} (ha : 0 ≤ a ∧ a ≤ 126) (hb : 0 ≤ b ∧ b < 65536) : qz_or (qz_shl a 16) b = a * 65536 + b := by
  have h1 : (qlz (qz_or (qz_shl a 16) b) : Int) = a * 65536 + b := by
    rw [qlz_or]
    have e1 : ∀ x : Fin 127, qlz (qz_shl ((x : Nat) : Int) 16) = (x : Nat) <<< 16 := by decide +kernel
    have e2 := e1 ⟨a.toNat, by omega⟩
    have e3 : ((a.toNat : Nat) : Int) = a := by omega
    have e4 : qlz (qz_shl a 16) = a.toNat <<< 16 := by rw [← e3]; exact e2
    have e5 := qlz_nn (a := b) (by omega)
    have e6 : qlz b < 2 ^ 16 := by omega
    rw [e4, ← Nat.shiftLeft_add_eq_or_of_lt e6, Nat.shiftLeft_eq]
    omega
  have h2 := qlz_nn (a := a * 65536 + b) (by omega)
  have h3 := qz_or_r (qz_shl a 16) b
  have h4 : qz (qz_or (qz_shl a 16) b) = qz (a * 65536 + b) := by
    have : (qz (qz_or (qz_shl a 16) b)).toBitVec = (qz (a * 65536 + b)).toBitVec := BitVec.eq_of_toNat_eq (show qlz _ = qlz _ by omega)
    exact Int32.toBitVec_inj.1 this
  exact qz_val h4 h3 (by omega)
end
section
/-! reading a text, step by step: what has been read, what was laid down for it -/
def qDep (nm : Int) (f : (Nat → Int) → Int) : Prop := ∀ N N' : Nat → Int, (∀ k : Int, 0 ≤ k → k < 9 → qbi nm k = 1 → N k.toNat = N' k.toNat) → f N = f N'
def qMo (nm nm2 : Int) : Prop := ∀ k : Int, 0 ≤ k → k < 9 → qbi nm k = 1 → qbi nm2 k = 1
def qCr (cd : Nat → Int) (i j : Int) : Prop := ∀ k : Int, i ≤ k → k < j → 0 ≤ cd k.toNat ∧ cd k.toNat < 8388608
def qKp (cd cd2 : Nat → Int) (j : Int) : Prop := ∀ k : Int, 0 ≤ k → k < j → cd2 k.toNat = cd k.toNat
theorem qDep_mo {nm nm2 : Int} {f : (Nat → Int) → Int} (h : qDep nm f) (hm : qMo nm nm2) : qDep nm2 f := fun N N' hn => h N N' (fun k h1 h2 h3 => hn k h1 h2 (hm k h1 h2 h3))
theorem qMo_rf (nm : Int) : qMo nm nm := fun _ _ _ h => h
theorem qMo_tr {a b c : Int} (h1 : qMo a b) (h2 : qMo b c) : qMo a c := fun k p q r => h2 k p q (h1 k p q r)
theorem qKp_rf (cd : Nat → Int) (j : Int) : qKp cd cd j := fun _ _ _ => rfl
theorem qKp_tr {a b c : Nat → Int} {j i : Int} (h1 : qKp a b j) (h2 : qKp b c i) (h : j ≤ i) : qKp a c j := fun k p q => (h2 k p (by omega)).trans (h1 k p q)
theorem qKp_u (cd : Nat → Int) {i j : Int} (v : Int) (h : j ≤ i) : qKp cd (qzu cd i.toNat v) j := fun k p q => by
  unfold qzu
  rw [if_neg (by omega)]
theorem qzu_at (cd : Nat → Int) (i : Nat) (v : Int) : qzu cd i v i = v := if_pos rfl
/-- from at_, sz, nm, cd on: P is what the text gives, at2 and so on is where it stands -/
def qRd (ln : Int) (P : (Nat → Int) → qtx_3) (at_ sz nm : Int) (cd : Nat → Int) (at2 sz2 nm2 sk2 : Int) (cd2 : Nat → Int) : Prop :=
  ((0 ≤ at_ ∧ at_ ≤ at2 ∧ at2 ≤ ln) ∧ (0 ≤ sz ∧ sz ≤ sz2 ∧ sz2 - sz ≤ at2 - at_) ∧ (-2147483648 ≤ nm2 ∧ nm2 ≤ 2147483647) ∧ (sk2 = 0 ∨ sk2 = 1)) ∧
  (∀ N, (P N).2.1 = at2 ∧ (P N).2.2 = sk2) ∧ qMo nm nm2 ∧ qKp cd cd2 sz ∧ qCr cd2 sz sz2 ∧
  (sk2 = 0 → qtx_X cd2 sz sz2 (fun N => (P N).1) ∧ qDep nm2 (fun N => (P N).1))
theorem qRd_cg {ln : Int} {P P' : (Nat → Int) → qtx_3} {at_ sz nm : Int} {cd : Nat → Int} {at2 sz2 nm2 sk2 : Int} {cd2 : Nat → Int} (h : qRd ln P at_ sz nm cd at2 sz2 nm2 sk2 cd2) (e : ∀ N, P' N = P N) : qRd ln P' at_ sz nm cd at2 sz2 nm2 sk2 cd2 := by
  rw [show P' = P from funext e]
  exact h
theorem qRd_st {ln : Int} {P : (Nat → Int) → qtx_3} {at_ sz nm : Int} (cd : Nat → Int) (h0 : 0 ≤ at_ ∧ at_ ≤ ln) (hs : 0 ≤ sz) (hn : -2147483648 ≤ nm ∧ nm ≤ 2147483647) (h : ∀ N, P N = (0, at_, 1)) : qRd ln P at_ sz nm cd at_ sz nm 1 cd :=
  ⟨⟨⟨h0.1, Int.le_refl _, h0.2⟩, ⟨hs, Int.le_refl _, by omega⟩, hn, Or.inr rfl⟩, fun N => by rw [h N]; exact ⟨rfl, rfl⟩, qMo_rf nm, qKp_rf cd sz, fun k h1 h2 => False.elim (by omega), fun e => absurd e (by decide)⟩
theorem qRd_num {ln : Int} {P : (Nat → Int) → qtx_3} {at_ sz nm at2 v : Int} (cd : Nat → Int) (h0 : 0 ≤ at_ ∧ at_ < at2 ∧ at2 ≤ ln) (hs : 0 ≤ sz) (hn : -2147483648 ≤ nm ∧ nm ≤ 2147483647) (hv : 0 ≤ v ∧ v < 65536) (h : ∀ N, P N = (v, at2, 0)) : qRd ln P at_ sz nm cd at2 (sz + 1) nm 0 (qzu cd sz.toNat (48 * 65536 + v)) := by
  refine ⟨⟨⟨h0.1, by omega, h0.2.2⟩, ⟨hs, by omega, by omega⟩, hn, Or.inl rfl⟩, fun N => by rw [h N]; exact ⟨rfl, rfl⟩, qMo_rf nm, qKp_u cd _ (Int.le_refl _), fun k h1 h2 => ?_, fun _ => ⟨?_, ?_⟩⟩
  · rw [show k = sz by omega, qzu_at]; omega
  · rw [show (fun N => (P N).1) = fun _ => v from funext fun N => by rw [h N]]
    exact qtx_X_num hs hv (qzu_at _ _ _)
  · intro N N' _
    show (P N).1 = (P N').1
    rw [h N, h N']
theorem qRd_nam {ln : Int} {P : (Nat → Int) → qtx_3} {at_ sz nm nm2 m : Int} (cd : Nat → Int) (h0 : 0 ≤ at_ ∧ at_ < ln) (hs : 0 ≤ sz) (hn : -2147483648 ≤ nm2 ∧ nm2 ≤ 2147483647) (hm : 0 ≤ m ∧ m < 9) (hb : ∀ k : Int, 0 ≤ k → k < 9 → (qbi nm2 k = 1 ↔ qbi nm k = 1 ∨ k = m)) (h : ∀ N, P N = (N m.toNat, at_ + 1, 0)) : qRd ln P at_ sz nm cd (at_ + 1) (sz + 1) nm2 0 (qzu cd sz.toNat (97 * 65536 + m)) := by
  refine ⟨⟨⟨h0.1, by omega, by omega⟩, ⟨hs, by omega, by omega⟩, hn, Or.inl rfl⟩, fun N => by rw [h N]; exact ⟨rfl, rfl⟩, fun k h1 h2 h3 => (hb k h1 h2).2 (Or.inl h3), qKp_u cd _ (Int.le_refl _), fun k h1 h2 => ?_, fun _ => ⟨?_, ?_⟩⟩
  · rw [show k = sz by omega, qzu_at]; omega
  · rw [show (fun N => (P N).1) = fun N => N m.toNat from funext fun N => by rw [h N]]
    exact qtx_X_nam hs hm (qzu_at _ _ _)
  · intro N N' hN
    show (P N).1 = (P N').1
    rw [h N, h N']
    exact hN m hm.1 hm.2 ((hb m hm.1 hm.2).2 (Or.inr rfl))
theorem qRd_un {ln : Int} {G P : (Nat → Int) → qtx_3} {at_ sz nm at2 sz2 nm2 sk2 c e : Int} {cd cd2 : Nat → Int} (ih : qRd ln G (at_ + 1) sz nm cd at2 sz2 nm2 sk2 cd2) (h0 : 0 ≤ at_) (hc : (c = 45 ∧ e = 126) ∨ (c = 33 ∧ e = 33)) (h : ∀ N, P N = qtx_un c (G N)) : qRd ln P at_ sz nm cd at2 (sz2 + 1) nm2 sk2 (qzu cd2 sz2.toNat (e * 65536 + 0)) := by
  obtain ⟨hr, h1, h2, h3, h4, h5⟩ := ih
  have hx : ∀ k : Int, sz ≤ k → k < sz2 → qzu cd2 sz2.toNat (e * 65536 + 0) k.toNat = cd2 k.toNat := fun k a b => qKp_u cd2 (i := sz2) _ (Int.le_refl _) k (by omega) b
  refine ⟨⟨⟨h0, by omega, by omega⟩, ⟨hr.2.1.1, by omega, by omega⟩, hr.2.2.1, hr.2.2.2⟩, fun N => by rw [h N]; exact h1 N, h2, qKp_tr h3 (qKp_u cd2 (i := sz2) _ (Int.le_refl _)) (by omega), fun k a b => ?_, fun z => ⟨?_, ?_⟩⟩
  · by_cases q : k = sz2
    · rw [q, qzu_at]; omega
    · rw [hx k a (by omega)]; exact h4 k a (by omega)
  · have hX := qtx_X_fr (h5 z).1 hx
    rw [show (fun N => (P N).1) = fun N => qtx_ng c (G N).1 from funext fun N => by rw [h N]; rfl]
    rcases hc with ⟨rfl, rfl⟩ | ⟨rfl, rfl⟩
    · exact qtx_X_neg hX (qzu_at _ _ _)
    · exact qtx_X_not hX (qzu_at _ _ _)
  · intro N N' hN
    show (P N).1 = (P N').1
    rw [h N, h N']
    exact congrArg (qtx_ng c) ((h5 z).2 N N' hN)
theorem qRd_pc {ln : Int} {T : Nat → Int} {G P : (Nat → Int) → qtx_3} {at_ sz nm at2 sz2 nm2 sk2 at3 sk3 : Int} {cd cd2 : Nat → Int} (ih : qRd ln G (at_ + 1) sz nm cd at2 sz2 nm2 sk2 cd2) (h0 : 0 ≤ at_) (hp : (sk2 = 0 ∧ qtx_c T ln at2 = 41 ∧ at3 = at2 + 1 ∧ sk3 = 0) ∨ (¬ (sk2 = 0 ∧ qtx_c T ln at2 = 41) ∧ at3 = at2 ∧ sk3 = 1)) (h : ∀ N, P N = qtx_pc T ln (G N)) : qRd ln P at_ sz nm cd at3 sz2 nm2 sk3 cd2 := by
  obtain ⟨hr, h1, h2, h3, h4, h5⟩ := ih
  have hc := qtx_c_c T ln at2
  rcases hp with ⟨p1, p2, rfl, rfl⟩ | ⟨p1, p2, p3⟩
  · have e : ∀ N, P N = ((G N).1, at2 + 1, 0) := fun N => by
      rw [h N]
      unfold qtx_pc
      rw [(h1 N).1, (h1 N).2, if_pos ⟨p1, p2⟩]
    refine ⟨⟨⟨h0, by omega, by omega⟩, ⟨hr.2.1.1, by omega, by omega⟩, hr.2.2.1, Or.inl rfl⟩, fun N => by rw [e N]; exact ⟨rfl, rfl⟩, h2, h3, h4, fun _ => ?_⟩
    rw [show (fun N => (P N).1) = fun N => (G N).1 from funext fun N => by rw [e N]]
    exact h5 p1
  · rw [p2, p3]
    have e : ∀ N, P N = (0, at2, 1) := fun N => by
      rw [h N]
      unfold qtx_pc
      rw [(h1 N).1, (h1 N).2, if_neg p1]
    exact ⟨⟨⟨h0, by omega, by omega⟩, ⟨hr.2.1.1, by omega, by omega⟩, hr.2.2.1, Or.inr rfl⟩, fun N => by rw [e N]; exact ⟨rfl, rfl⟩, h2, h3, h4, fun q => absurd q (by decide)⟩
theorem qRd_bin {ln : Int} {P S Q : (Nat → Int) → qtx_3} {at_ sz nm at1 sz1 nm1 at2 sz2 nm2 sk2 c : Int} {cd cd1 cd2 : Nat → Int} (hP : qRd ln P at_ sz nm cd at1 sz1 nm1 0 cd1) (hS : qRd ln S (at1 + 1) sz1 nm1 cd1 at2 sz2 nm2 sk2 cd2) (hc : 0 ≤ qtx_lo c) (h : ∀ N, Q N = qtx_cm c (P N) (S N)) : qRd ln Q at_ sz nm cd at2 (sz2 + 1) nm2 sk2 (qzu cd2 sz2.toNat (c * 65536 + 0)) := by
  obtain ⟨hr, h1, h2, h3, h4, h5⟩ := hP
  obtain ⟨gr, g1, g2, g3, g4, g5⟩ := hS
  have ho := qtx_lo_c c
  have hx : ∀ k : Int, 0 ≤ k → k < sz2 → qzu cd2 sz2.toNat (c * 65536 + 0) k.toNat = cd2 k.toNat := qKp_u cd2 (i := sz2) _ (Int.le_refl _)
  refine ⟨⟨⟨hr.1.1, by omega, by omega⟩, ⟨hr.2.1.1, by omega, by omega⟩, gr.2.2.1, gr.2.2.2⟩, fun N => by rw [h N]; exact g1 N, qMo_tr h2 g2, qKp_tr h3 (qKp_tr g3 (qKp_u cd2 (i := sz2) _ (Int.le_refl _)) (by omega)) (by omega), fun k a b => ?_, fun z => ⟨?_, ?_⟩⟩
  · by_cases q : k = sz2
    · rw [q, qzu_at]; omega
    · rw [hx k (by omega) (by omega)]
      by_cases q2 : k < sz1
      · rw [g3 k (by omega) q2]; exact h4 k a q2
      · exact g4 k (by omega) (by omega)
  · rw [show (fun N => (Q N).1) = fun N => qtx_ap c (P N).1 (S N).1 from funext fun N => by rw [h N]; rfl]
    refine qtx_X_bin (qtx_X_fr (h5 rfl).1 (fun k a b => ?_)) (qtx_X_fr (g5 z).1 (fun k a b => hx k (by omega) b)) hc ((qzu_at _ _ _).trans (by omega))
    rw [hx k (by omega) (by omega)]
    exact g3 k (by omega) b
  · intro N N' hN
    show (Q N).1 = (Q N').1
    rw [h N, h N']
    show qtx_ap c (P N).1 (S N).1 = qtx_ap c (P N').1 (S N').1
    have e1 : (P N).1 = (P N').1 := qDep_mo (h5 rfl).2 g2 N N' hN
    have e2 : (S N).1 = (S N').1 := (g5 z).2 N N' hN
    rw [e1, e2]
/-- a line -/
def qRl (ln : Int) (L : (Nat → Int) → Int × qtx_3) (at_ sz nm : Int) (cd : Nat → Int) (at2 sz2 nm2 sk2 : Int) (cd2 : Nat → Int) : Prop :=
  ((0 ≤ at_ ∧ at_ ≤ at2 ∧ at2 ≤ ln) ∧ (0 ≤ sz ∧ sz < sz2 ∧ sz2 - sz ≤ at2 - at_ + 1) ∧ (-2147483648 ≤ nm2 ∧ nm2 ≤ 2147483647) ∧ (sk2 = 0 ∨ sk2 = 1)) ∧
  (∀ N, (L N).2.2.1 = at2 ∧ (L N).2.2.2 = sk2) ∧ qMo nm nm2 ∧ qKp cd cd2 sz ∧ qCr cd2 sz sz2 ∧
  (sk2 = 0 → (∀ gi ge : (Nat → Int) → Int, qtx_Y cd sz gi ge → qtx_Y cd2 sz2 (fun N => qtx_gi (gi N) (L N).1) (fun N => qtx_ge (gi N) (L N).1 (ge N) (L N).2.1)) ∧ qDep nm2 (fun N => (L N).1) ∧ qDep nm2 (fun N => (L N).2.1))
theorem qRl_pl {ln : Int} {T : Nat → Int} {E : (Nat → Int) → Int → qtx_3} {at_ sz nm at2 sz2 nm2 sk2 : Int} {cd cd2 : Nat → Int} (hl : ln ≤ 120) (h : qRd ln (fun N => E N at_) at_ sz nm cd at2 sz2 nm2 sk2 cd2) (hc : ¬ (sk2 = 0 ∧ qtx_c T ln at2 = 63)) : qRl ln (fun N => qtx_ln T ln (E N) at_) at_ sz nm cd at2 (sz2 + 1) nm2 sk2 (qzu cd2 sz2.toNat (59 * 65536 + 0)) := by
  obtain ⟨hr, h1, h2, h3, h4, h5⟩ := h
  have hx : ∀ k : Int, 0 ≤ k → k < sz2 → qzu cd2 sz2.toNat (59 * 65536 + 0) k.toNat = cd2 k.toNat := qKp_u cd2 (i := sz2) _ (Int.le_refl _)
  have e : ∀ N, qtx_ln T ln (E N) at_ = (1, E N at_) := fun N => by
    unfold qtx_ln
    rw [(h1 N).1, (h1 N).2, if_neg hc]
  refine ⟨⟨⟨hr.1.1, by omega, by omega⟩, ⟨hr.2.1.1, by omega, by omega⟩, hr.2.2.1, hr.2.2.2⟩, fun N => by show (qtx_ln T ln (E N) at_).2.2.1 = at2 ∧ (qtx_ln T ln (E N) at_).2.2.2 = sk2; rw [e N]; exact h1 N, h2, qKp_tr h3 (qKp_u cd2 (i := sz2) _ (Int.le_refl _)) (by omega), fun k a b => ?_, fun z => ⟨fun gi ge hY => ?_, ?_, ?_⟩⟩
  · by_cases q : k = sz2
    · rw [q, qzu_at]; omega
    · rw [hx k (by omega) (by omega)]; exact h4 k a (by omega)
  · have hX := qtx_X_fr (h5 z).1 (cd2 := qzu cd2 sz2.toNat (59 * 65536 + 0)) (fun k a b => hx k (by omega) b)
    have hY2 := qtx_Y_fr hY (cd2 := qzu cd2 sz2.toNat (59 * 65536 + 0)) (fun k a b => (hx k a (by omega)).trans (h3 k a b))
    have := qtx_Y_pl hY2 hX (by omega) ((qzu_at _ _ _).trans (by omega))
    rw [show (fun N => qtx_gi (gi N) (qtx_ln T ln (E N) at_).1) = fun N => qtx_gi (gi N) 1 from funext fun N => by rw [e N], show (fun N => qtx_ge (gi N) (qtx_ln T ln (E N) at_).1 (ge N) (qtx_ln T ln (E N) at_).2.1) = fun N => qtx_ge (gi N) 1 (ge N) (E N at_).1 from funext fun N => by rw [e N]]
    exact this
  · intro N N' _
    show (qtx_ln T ln (E N) at_).1 = (qtx_ln T ln (E N') at_).1
    rw [e N, e N']
  · intro N N' hN
    show (qtx_ln T ln (E N) at_).2.1 = (qtx_ln T ln (E N') at_).2.1
    rw [e N, e N']
    exact (h5 z).2 N N' hN
theorem qRl_if {ln : Int} {T : Nat → Int} {E : (Nat → Int) → Int → qtx_3} {at_ sz nm at1 sz1 nm1 at2 sz2 nm2 sk2 : Int} {cd cd1 cd2 : Nat → Int} (hl : ln ≤ 120) (hb : 0 ≤ sz1 ∧ sz1 ≤ 121) (h : qRd ln (fun N => E N at_) at_ sz nm cd at1 sz1 nm1 0 cd1) (hc : qtx_c T ln at1 = 63) (hS : qRd ln (fun N => E N (at1 + 1)) (at1 + 1) (sz1 + 1) nm1 (qzu cd1 sz1.toNat (63 * 65536 + 0)) at2 sz2 nm2 sk2 cd2) : qRl ln (fun N => qtx_ln T ln (E N) at_) at_ sz nm cd at2 (sz2 + 1) nm2 sk2 (qzu (qzu cd2 sz2.toNat (59 * 65536 + 0)) sz1.toNat (63 * 65536 + (sz2 + 1))) := by
  obtain ⟨hr, h1, h2, h3, h4, h5⟩ := h
  obtain ⟨gr, g1, g2, g3, g4, g5⟩ := hS
  have hw : ∀ k : Int, 0 ≤ k → ¬ k = sz1 → k < sz2 → qzu (qzu cd2 sz2.toNat (59 * 65536 + 0)) sz1.toNat (63 * 65536 + (sz2 + 1)) k.toNat = cd2 k.toNat := fun k a b d => by
    unfold qzu
    rw [if_neg (by omega), if_neg (by omega)]
  have hv : ∀ k : Int, 0 ≤ k → k < sz1 → cd2 k.toNat = cd1 k.toNat := fun k a b => (g3 k a (by omega)).trans (qKp_u cd1 (i := sz1) _ (Int.le_refl _) k a b)
  have hz : qzu (qzu cd2 sz2.toNat (59 * 65536 + 0)) sz1.toNat (63 * 65536 + (sz2 + 1)) sz2.toNat = 59 * 65536 := by
    unfold qzu
    rw [if_neg (by omega), if_pos rfl]
    rfl
  have e : ∀ N, qtx_ln T ln (E N) at_ = ((if (E N at_).1 = 0 then 0 else 1), E N (at1 + 1)) := fun N => by
    unfold qtx_ln
    rw [(h1 N).1, (h1 N).2, if_pos ⟨rfl, hc⟩]
  refine ⟨⟨⟨hr.1.1, by omega, by omega⟩, ⟨hr.2.1.1, by omega, by omega⟩, gr.2.2.1, gr.2.2.2⟩, fun N => by show (qtx_ln T ln (E N) at_).2.2.1 = at2 ∧ (qtx_ln T ln (E N) at_).2.2.2 = sk2; rw [e N]; exact g1 N, qMo_tr h2 g2, fun k a b => (hw k a (by omega) (by omega)).trans ((hv k a (by omega)).trans (h3 k a b)), fun k a b => ?_, fun z => ⟨fun gi ge hY => ?_, ?_, ?_⟩⟩
  · by_cases q : k = sz1
    · rw [q, qzu_at]; omega
    · by_cases q2 : k = sz2
      · rw [q2, hz]; omega
      · rw [hw k (by omega) q (by omega)]
        by_cases q3 : k < sz1
        · rw [hv k (by omega) q3]; exact h4 k a q3
        · exact g4 k (by omega) (by omega)
  · have hX := qtx_X_fr (h5 rfl).1 (cd2 := qzu (qzu cd2 sz2.toNat (59 * 65536 + 0)) sz1.toNat (63 * 65536 + (sz2 + 1))) (fun k a b => (hw k (by omega) (by omega) (by omega)).trans (hv k (by omega) b))
    have hX2 := qtx_X_fr (g5 z).1 (cd2 := qzu (qzu cd2 sz2.toNat (59 * 65536 + 0)) sz1.toNat (63 * 65536 + (sz2 + 1))) (fun k a b => hw k (by omega) (by omega) b)
    have hY2 := qtx_Y_fr hY (cd2 := qzu (qzu cd2 sz2.toNat (59 * 65536 + 0)) sz1.toNat (63 * 65536 + (sz2 + 1))) (fun k a b => (hw k a (by omega) (by omega)).trans ((hv k a (by omega)).trans (h3 k a b)))
    have := qtx_Y_if hY2 hX (by omega) (qzu_at _ _ _) (by omega) hX2 (by omega) hz
    rw [show (fun N => qtx_gi (gi N) (qtx_ln T ln (E N) at_).1) = fun N => qtx_gi (gi N) (if (E N at_).1 = 0 then 0 else 1) from funext fun N => by rw [e N], show (fun N => qtx_ge (gi N) (qtx_ln T ln (E N) at_).1 (ge N) (qtx_ln T ln (E N) at_).2.1) = fun N => qtx_ge (gi N) (if (E N at_).1 = 0 then 0 else 1) (ge N) (E N (at1 + 1)).1 from funext fun N => by rw [e N]]
    exact this
  · intro N N' hN
    show (qtx_ln T ln (E N) at_).1 = (qtx_ln T ln (E N') at_).1
    rw [e N, e N']
    show (if (E N at_).1 = 0 then (0 : Int) else 1) = if (E N' at_).1 = 0 then 0 else 1
    have e1 : (E N at_).1 = (E N' at_).1 := qDep_mo (h5 rfl).2 g2 N N' hN
    rw [e1]
  · intro N N' hN
    show (qtx_ln T ln (E N) at_).2.1 = (qtx_ln T ln (E N') at_).2.1
    rw [e N, e N']
    exact (g5 z).2 N N' hN
/-- lines read so far; a text that was read -/
def qRs (ln : Int) (T : Nat → Int) (k : Nat) (at1 sz1 nm1 : Int) (cd1 : Nat → Int) : Prop :=
  ((0 ≤ at1 ∧ at1 ≤ ln) ∧ 0 ≤ sz1 ∧ sz1 + ln - at1 ≤ 120) ∧ ∃ gi ge : (Nat → Int) → Int, qtx_Y cd1 sz1 gi ge ∧ qDep nm1 gi ∧ qDep nm1 ge ∧ qCr cd1 0 sz1 ∧ ∀ N, qtx_W T ln N = qtx_pg T ln (qtx_E T ln N 6) k at1 (gi N) (ge N)
def qRt (ln : Int) (T : Nat → Int) (v sz2 nm2 : Int) (cd2 : Nat → Int) : Prop :=
  (v = -1 ∧ (∀ N, (qtx_W T ln N).2.2 = 0) ∧ (∃ gi : (Nat → Int) → Int, qtx_Y cd2 sz2 gi (fun N => (qtx_W T ln N).1)) ∧ qDep nm2 (fun N => (qtx_W T ln N).1) ∧ qCr cd2 0 sz2) ∨ (0 ≤ v ∧ ∀ N, (qtx_W T ln N).2.1 = v ∧ (qtx_W T ln N).2.2 = 1)
theorem qRs_0 {ln : Int} (T : Nat → Int) (nm : Int) (cd : Nat → Int) (h : 0 ≤ ln ∧ ln ≤ 120) : qRs ln T 121 0 0 nm cd :=
  ⟨⟨⟨Int.le_refl _, h.1⟩, Int.le_refl _, by omega⟩, fun _ => 0, fun _ => 0, qtx_Y_0 cd, fun _ _ _ => rfl, fun _ _ _ => rfl, fun k a b => False.elim (by omega), fun _ => rfl⟩
theorem qDep_gi {nm : Int} {gi h : (Nat → Int) → Int} (h1 : qDep nm gi) (h2 : qDep nm h) : qDep nm (fun N => qtx_gi (gi N) (h N)) := fun N N' hN => by
  show qtx_gi (gi N) (h N) = qtx_gi (gi N') (h N')
  rw [h1 N N' hN, h2 N N' hN]
theorem qDep_ge {nm : Int} {gi h ge v : (Nat → Int) → Int} (h1 : qDep nm gi) (h2 : qDep nm h) (h3 : qDep nm ge) (h4 : qDep nm v) : qDep nm (fun N => qtx_ge (gi N) (h N) (ge N) (v N)) := fun N N' hN => by
  show qtx_ge (gi N) (h N) (ge N) (v N) = qtx_ge (gi N') (h N') (ge N') (v N')
  rw [h1 N N' hN, h2 N N' hN, h3 N N' hN, h4 N N' hN]
theorem qCr_cat {cd cd2 : Nat → Int} {sz sz2 : Int} (h1 : qCr cd 0 sz) (h2 : qKp cd cd2 sz) (h3 : qCr cd2 sz sz2) : qCr cd2 0 sz2 := fun k a b => by
  by_cases c : k < sz
  · rw [h2 k a c]; exact h1 k a c
  · exact h3 k (by omega) b
theorem qRs_go {ln : Int} {T : Nat → Int} {k : Nat} {at1 sz1 nm1 at2 sz2 nm2 : Int} {cd1 cd2 : Nat → Int} (h : qRs ln T (k + 1) at1 sz1 nm1 cd1) (hL : qRl ln (fun N => qtx_ln T ln (qtx_E T ln N 6) at1) at1 sz1 nm1 cd1 at2 sz2 nm2 0 cd2) (hc : qtx_c T ln at2 = 59) : qRs ln T k (at2 + 1) sz2 nm2 cd2 := by
  obtain ⟨hb, gi, ge, hY, d1, d2, hr, hw⟩ := h
  obtain ⟨lr, l1, l2, l3, l4, l5⟩ := hL
  obtain ⟨y1, y2, y3⟩ := l5 rfl
  have c0 := qtx_c_c T ln at2
  refine ⟨⟨⟨by omega, by omega⟩, by omega, by omega⟩, _, _, y1 gi ge hY, qDep_gi (qDep_mo d1 l2) y2, qDep_ge (qDep_mo d1 l2) y2 (qDep_mo d2 l2) y3, qCr_cat hr l3 l4, fun N => ?_⟩
  have e := l1 N
  rw [hw N, qtx_pg_go (by rw [e.1, e.2]; exact ⟨rfl, hc⟩), e.1]
theorem qRs_end {ln : Int} {T : Nat → Int} {k : Nat} {at1 sz1 nm1 at2 sz2 nm2 : Int} {cd1 cd2 : Nat → Int} (h : qRs ln T (k + 1) at1 sz1 nm1 cd1) (hL : qRl ln (fun N => qtx_ln T ln (qtx_E T ln N 6) at1) at1 sz1 nm1 cd1 at2 sz2 nm2 0 cd2) (hc : ln ≤ at2) : qRt ln T (-1) sz2 nm2 cd2 := by
  obtain ⟨hb, gi, ge, hY, d1, d2, hr, hw⟩ := h
  obtain ⟨lr, l1, l2, l3, l4, l5⟩ := hL
  obtain ⟨y1, y2, y3⟩ := l5 rfl
  have c0 := qtx_c_c T ln at2
  have e : ∀ N, qtx_W T ln N = (qtx_ge (gi N) (qtx_ln T ln (qtx_E T ln N 6) at1).1 (ge N) (qtx_ln T ln (qtx_E T ln N 6) at1).2.1, at2, 0) := fun N => by
    have e := l1 N
    rw [hw N, qtx_pg_st (by rw [e.1, e.2]; omega), e.1, e.2, if_pos ⟨rfl, hc⟩]
  refine Or.inl ⟨rfl, fun N => by rw [e N], ⟨fun N => qtx_gi (gi N) (qtx_ln T ln (qtx_E T ln N 6) at1).1, ?_⟩, ?_, qCr_cat hr l3 l4⟩
  · rw [show (fun N => (qtx_W T ln N).1) = fun N => qtx_ge (gi N) (qtx_ln T ln (qtx_E T ln N 6) at1).1 (ge N) (qtx_ln T ln (qtx_E T ln N 6) at1).2.1 from funext fun N => by rw [e N]]
    exact y1 gi ge hY
  · rw [show (fun N => (qtx_W T ln N).1) = fun N => qtx_ge (gi N) (qtx_ln T ln (qtx_E T ln N 6) at1).1 (ge N) (qtx_ln T ln (qtx_E T ln N 6) at1).2.1 from funext fun N => by rw [e N]]
    exact qDep_ge (qDep_mo d1 l2) y2 (qDep_mo d2 l2) y3
theorem qRs_bad {ln : Int} {T : Nat → Int} {k : Nat} {at1 sz1 nm1 at2 sz2 nm2 sk2 : Int} {cd1 cd2 : Nat → Int} (h : qRs ln T (k + 1) at1 sz1 nm1 cd1) (hL : qRl ln (fun N => qtx_ln T ln (qtx_E T ln N 6) at1) at1 sz1 nm1 cd1 at2 sz2 nm2 sk2 cd2) (hc : sk2 = 1 ∨ (at2 < ln ∧ ¬ qtx_c T ln at2 = 59)) (sz3 nm3 : Int) (cd3 : Nat → Int) : qRt ln T at2 sz3 nm3 cd3 := by
  obtain ⟨hb, gi, ge, hY, d1, d2, hr, hw⟩ := h
  obtain ⟨lr, l1, l2, l3, l4, l5⟩ := hL
  refine Or.inr ⟨by omega, fun N => ?_⟩
  have e := l1 N
  rw [hw N, qtx_pg_st (by rw [e.1, e.2]; omega), e.1, e.2, if_neg (by omega)]
  exact ⟨rfl, rfl⟩
theorem qRt_cg {ln v sz2 nm2 : Int} {T T' cd cd' : Nat → Int} (hT : ∀ j : Nat, (j : Int) < ln → T j = T' j) (hc : ∀ k : Int, 0 ≤ k → k < sz2 → cd' k.toNat = cd k.toNat) (h : qRt ln T v sz2 nm2 cd) : qRt ln T' v sz2 nm2 cd' := by
  have e : ∀ N, qtx_W T' ln N = qtx_W T ln N := fun N => (qtx_W_cg hT N).symm
  rcases h with ⟨h1, h2, ⟨gi, h3⟩, h4, h5⟩ | ⟨h1, h2⟩
  · refine Or.inl ⟨h1, fun N => by rw [e N]; exact h2 N, ⟨gi, ?_⟩, ?_, fun k a b => by rw [hc k a b]; exact h5 k a b⟩
    · rw [show (fun N => (qtx_W T' ln N).1) = fun N => (qtx_W T ln N).1 from funext fun N => by rw [e N]]
      exact qtx_Y_fr h3 hc
    · rw [show (fun N => (qtx_W T' ln N).1) = fun N => (qtx_W T ln N).1 from funext fun N => by rw [e N]]
      exact h4
  · exact Or.inr ⟨h1, fun N => by rw [e N]; exact h2 N⟩
end
section
/-! the readers of texts, exactly -/
theorem qtx_b1 : ∀ c : Fin 256, qz_i2c ((c : Nat) : Int) = ((c : Nat) : Int) ∧ qz_i2b ((c : Nat) : Int) = (if (c : Nat) < 128 then ((c : Nat) : Int) else ((c : Nat) : Int) - 256) := by decide +kernel
theorem qtx_b2 {c : Int} (h : 0 ≤ c ∧ c ≤ 255) : qz_i2c c = c ∧ ((c < 128 ∧ qz_i2b c = c) ∨ (128 ≤ c ∧ qz_i2b c = c - 256)) := by
  have h1 := qtx_b1 ⟨c.toNat, by omega⟩
  have e : ((c.toNat : Nat) : Int) = c := by omega
  have h2 : qz_i2c ((c.toNat : Nat) : Int) = ((c.toNat : Nat) : Int) := h1.1
  have h3 : qz_i2b ((c.toNat : Nat) : Int) = (if c.toNat < 128 then ((c.toNat : Nat) : Int) else ((c.toNat : Nat) : Int) - 256) := h1.2
  rw [e] at h2 h3
  refine ⟨h2, ?_⟩
  by_cases k : c.toNat < 128
  · rw [if_pos k] at h3; exact Or.inl ⟨by omega, h3⟩
  · rw [if_neg k] at h3; exact Or.inr ⟨by omega, h3⟩
theorem qtx_c_b {t : Nat → Int} {ln a : Int} (hb : ∀ j : Nat, (j : Int) < ln → 0 ≤ t j ∧ t j ≤ 255) (h : 0 ≤ a) : -1 ≤ qtx_c t ln a ∧ qtx_c t ln a ≤ 255 := by
  have hc := qtx_c_c t ln a
  by_cases k : a < ln
  · have := hb a.toNat (by omega)
    omega
  · omega
def qtx_is (c v : Int) : Prop := (0 ≤ v ∧ v ≤ 8 ∧ (qe_bytes 4).getD v.toNat 0 = qz_i2b c) ∨ (v = -1 ∧ ∀ j : Nat, j < 9 → ¬ (qe_bytes 4).getD j 0 = qz_i2b c)
theorem qtx_is_nm {c v : Int} (h : 0 ≤ c ∧ c ≤ 255) (hv : qtx_is c v) : v = qtx_nm c := by
  have hb := (qtx_b2 h).2
  have hn := qtx_nm_c c
  rcases hv with ⟨h1, h2, h3⟩ | ⟨h1, h2⟩
  · obtain ⟨m, rfl⟩ : ∃ m : Nat, v = m := ⟨v.toNat, by omega⟩
    have hm : m = 0 ∨ m = 1 ∨ m = 2 ∨ m = 3 ∨ m = 4 ∨ m = 5 ∨ m = 6 ∨ m = 7 ∨ m = 8 := by omega
    rcases hm with rfl | rfl | rfl | rfl | rfl | rfl | rfl | rfl | rfl
    · have e : (102 : Int) = qz_i2b c := h3
      omega
    · have e : (110 : Int) = qz_i2b c := h3
      omega
    · have e : (99 : Int) = qz_i2b c := h3
      omega
    · have e : (119 : Int) = qz_i2b c := h3
      omega
    · have e : (118 : Int) = qz_i2b c := h3
      omega
    · have e : (108 : Int) = qz_i2b c := h3
      omega
    · have e : (107 : Int) = qz_i2b c := h3
      omega
    · have e : (111 : Int) = qz_i2b c := h3
      omega
    · have e : (100 : Int) = qz_i2b c := h3
      omega
  · have g0 : ¬ (102 : Int) = qz_i2b c := h2 0 (by decide)
    have g1 : ¬ (110 : Int) = qz_i2b c := h2 1 (by decide)
    have g2 : ¬ (99 : Int) = qz_i2b c := h2 2 (by decide)
    have g3 : ¬ (119 : Int) = qz_i2b c := h2 3 (by decide)
    have g4 : ¬ (118 : Int) = qz_i2b c := h2 4 (by decide)
    have g5 : ¬ (108 : Int) = qz_i2b c := h2 5 (by decide)
    have g6 : ¬ (107 : Int) = qz_i2b c := h2 6 (by decide)
    have g7 : ¬ (111 : Int) = qz_i2b c := h2 7 (by decide)
    have g8 : ¬ (100 : Int) = qz_i2b c := h2 8 (by decide)
    omega

set_option maxHeartbeats 4000000 in
set_option maxRecDepth 20000 in
theorem spx_cen {X : qm_X} {d : Nat} {w : qm_W} {a : Int} (ra : 0 ≤ a ∧ a ≤ 255)  : qm_T X (d + 1) 29 [.int (qz a)] (w) (fun r w' => w' = w ∧ ∃ v : Int, r = some (.int (qz v)) ∧ v = 1) := by
  refine qr_start (d := d + 0) qv_e29 (Nat.le_of_ble_eq_true rfl) ?_
  show qr_W X (d + 0) qx_e29 _ (0, [(0, .int (qz a))], [], w, 0, 0)
  refine qr_iload_n 1 rfl rfl rfl ?_
  refine qr_if_lt 15 4 rfl rfl rfl (by omega) (fun h1 => ?_) (fun h1 => ?_)
  · exact False.elim (by omega)
  · skip
    refine qr_iload_n 5 rfl rfl rfl ?_
    refine qr_sipush 8 rfl (by decide) rfl ?_
    refine qr_icmp_gt 15 11 rfl rfl rfl (by omega) (by omega) (fun h2 => ?_) (fun h2 => ?_)
    · exact False.elim (by omega)
    · skip
      refine qr_iconst 12 rfl rfl ?_
      refine qr_goto 16 rfl rfl ?_
      refine qr_retZ rfl rfl (by omega) (by decide) (by decide) ?_
      exact ⟨rfl, _, rfl, by omega⟩
set_option maxHeartbeats 4000000 in
set_option maxRecDepth 20000 in
theorem spx_ixc {L : Nat} {xs : Nat → Int} {vb : Bool} {d : Nat} {w : qm_W} {c : Int} (rc : 0 ≤ c ∧ c ≤ 255)  : qm_T (qe L xs vb) (d + 1) 31 [.ref 8, .int (qz c), .int (qz 0), .int (qz 9)] (w) (fun r w' => w' = w ∧ ∃ v : Int, r = some (.int (qz v)) ∧ qtx_is c v) := by
  refine qr_start (d := d + 0) qv_e31 (Nat.le_of_ble_eq_true rfl) ?_
  show qr_W (qe L xs vb) (d + 0) qx_e31 _ (0, [(0, .ref 8), (1, .int (qz c)), (2, .int (qz 0)), (3, .int (qz 9))], [], w, 0, 0)
  refine qr_iload_n 1 rfl rfl rfl ?_
  refine qr_i2b 2 rfl rfl ?_
  refine qr_topI (fun b hb => ?_)
  have rb : -2147483648 ≤ b ∧ b ≤ 2147483647 := by rw [hb]; exact qz_i2b_r _
  refine qr_istore [(4, .int (qz b)), (0, .ref 8), (1, .int (qz c)), (2, .int (qz 0)), (3, .int (qz 9))] 4 rfl (by decide) rfl rfl ?_
  refine qr_iload_n 5 rfl rfl rfl ?_
  refine qr_istore [(5, .int (qz 0)), (4, .int (qz b)), (0, .ref 8), (1, .int (qz c)), (2, .int (qz 0)), (3, .int (qz 9))] 7 rfl (by decide) rfl rfl ?_
  have loop : ∀ (n : Nat) (i : Int), 0 ≤ i ∧ i ≤ 9 → 9 - i < n → (∀ j : Nat, (j : Int) < i → ¬ (qe_bytes 4).getD j 0 = b) → qr_W (qe L xs vb) (d + 0) qx_e31 (fun r w' => w' = w ∧ ∃ v : Int, r = some (.int (qz v)) ∧ qtx_is c v) (7, [(5, .int (qz i)), (4, .int (qz b)), (0, .ref 8), (1, .int (qz c)), (2, .int (qz 0)), (3, .int (qz 9))], [], w, 0, 0) := by
    intro n
    induction n with
    | zero => intro i h1 h2 hq; omega
    | succ n ih =>
      intro i h1 h2 hq
      refine qr_iload 9 rfl rfl rfl ?_
      refine qr_iload_n 10 rfl rfl rfl ?_
      refine qr_icmp_ge 31 13 rfl rfl rfl (by omega) (by omega) (fun h3 => ?_) (fun h3 => ?_)
      · refine qr_iconst 32 rfl rfl ?_
        refine qr_retI rfl rfl (Nat.zero_le _) (Nat.zero_le _) ?_
        exact ⟨rfl, -1, rfl, Or.inr ⟨rfl, fun j hj => by rw [← hb]; exact hq j (by omega)⟩⟩
      · refine qr_aload_n 14 rfl rfl rfl ?_
        refine qr_iload 16 rfl rfl rfl ?_
        refine qr_bbload 17 rfl (by decide) rfl (by omega) (by decide) rfl ?_
        refine qr_topI (fun y hy => ?_)
        have ry : -2147483648 ≤ y ∧ y ≤ 2147483647 := by
          have h5 : ∀ k : Nat, k < 9 → -2147483648 ≤ (qe_bytes 4).getD k 0 ∧ (qe_bytes 4).getD k 0 ≤ 2147483647 := by decide +kernel
          rw [hy]
          exact h5 _ (by omega)
        refine qr_iload 19 rfl rfl rfl ?_
        refine qr_icmp_ne 25 22 rfl rfl rfl (by omega) (by omega) (fun h4 => ?_) (fun h4 => ?_)
        · refine qr_iincG (fun u => [(5, .int (qz u)), (4, .int (qz b)), (0, .ref 8), (1, .int (qz c)), (2, .int (qz 0)), (3, .int (qz 9))]) 28 rfl rfl (by decide) (fun _ => rfl) rfl (fun u hu => ?_)
          refine qr_goto 7 rfl rfl ?_
          refine ih u (by omega) (by omega) (fun j hj => ?_)
          by_cases e : j = i.toNat
          · rw [e, ← hy]; omega
          · exact hq j (by omega)
        · refine qr_iload 24 rfl rfl rfl ?_
          refine qr_retI rfl rfl (Nat.zero_le _) (Nat.zero_le _) ?_
          exact ⟨rfl, i, rfl, Or.inl ⟨by omega, by omega, by rw [← hb, ← hy]; omega⟩⟩
  exact loop 10 0 (by omega) (by omega) (fun j hj => False.elim (by omega))
set_option maxHeartbeats 4000000 in
set_option maxRecDepth 20000 in
theorem spx_lix {L : Nat} {xs : Nat → Int} {vb : Bool} {d : Nat} {w : qm_W} {c : Int} (rc : 0 ≤ c ∧ c ≤ 255)  : qm_T (qe L xs vb) (d + 2) 28 [.ref 8, .int (qz c), .int (qz 0), .int (qz 9)] (w) (fun r w' => w' = w ∧ ∃ v : Int, r = some (.int (qz v)) ∧ qtx_is c v) := by
  refine qr_start (d := d + 1) qv_e28 (Nat.le_of_ble_eq_true rfl) ?_
  show qr_W (qe L xs vb) (d + 1) qx_e28 _ (0, [(0, .ref 8), (1, .int (qz c)), (2, .int (qz 0)), (3, .int (qz 9))], [], w, 0, 0)
  refine qr_iload_n 1 rfl rfl rfl ?_
  refine qr_callN 4 rfl rfl rfl (spx_cen rc) ?_
  rintro _ _ ⟨rfl, b, rfl, hb⟩
  simp only [Option.toList, List.drop, List.cons_append, List.nil_append]
  refine qr_if_ne 9 7 rfl rfl rfl (by omega) (fun h1 => ?_) (fun h1 => ?_)
  · refine qr_iload_n 10 rfl rfl rfl ?_
    refine qr_iconst 11 rfl rfl ?_
    refine qr_callN 14 rfl rfl rfl (sp_mmax (by decide) (by decide)) ?_
    rintro _ _ ⟨rfl, b2, rfl, hb2⟩
    simp only [Option.toList, List.drop, List.cons_append, List.nil_append]
    have e2 : b2 = 0 := by omega
    subst e2
    refine qr_istore_n [(2, .int (qz 0)), (0, .ref 8), (1, .int (qz c)), (3, .int (qz 9))] 15 rfl (by decide) rfl rfl ?_
    refine qr_iload_n 16 rfl rfl rfl ?_
    refine qr_aload_n 17 rfl rfl rfl ?_
    refine qr_alen 18 rfl rfl (Or.inl (by decide)) rfl ?_
    refine qr_callN 21 rfl rfl rfl (sp_mmin (by decide) (by omega)) ?_
    rintro _ _ ⟨rfl, b3, rfl, hb3⟩
    simp only [Option.toList, List.drop, List.cons_append, List.nil_append]
    have e3 : b3 = 9 := by omega
    subst e3
    refine qr_istore_n [(3, .int (qz 9)), (2, .int (qz 0)), (0, .ref 8), (1, .int (qz c))] 22 rfl (by decide) rfl rfl ?_
    refine qr_iload_n 23 rfl rfl rfl ?_
    refine qr_iload_n 24 rfl rfl rfl ?_
    refine qr_icmp_lt 29 27 rfl rfl rfl (by omega) (by omega) (fun h2 => ?_) (fun h2 => ?_)
    · refine qr_aload_n 30 rfl rfl rfl ?_
      refine qr_iload_n 31 rfl rfl rfl ?_
      refine qr_iload_n 32 rfl rfl rfl ?_
      refine qr_iload_n 33 rfl rfl rfl ?_
      refine qr_callN 36 rfl rfl rfl (spx_ixc rc) ?_
      rintro _ _ ⟨rfl, v, rfl, hv⟩
      simp only [Option.toList, List.drop, List.cons_append, List.nil_append]
      refine qr_retI rfl rfl (Nat.zero_le _) (Nat.zero_le _) ?_
      exact ⟨rfl, _, rfl, hv⟩
    · exact False.elim (by omega)
  · exact False.elim (by omega)
set_option maxHeartbeats 4000000 in
set_option maxRecDepth 20000 in
theorem spx_six {L : Nat} {xs : Nat → Int} {vb : Bool} {d : Nat} {w : qm_W} {c : Int} (rc : 0 ≤ c ∧ c ≤ 255)  : qm_T (qe L xs vb) (d + 3) 27 [.ref 4, .int (qz c), .int (qz 0)] (w) (fun r w' => w' = w ∧ ∃ v : Int, r = some (.int (qz v)) ∧ qtx_is c v) := by
  refine qr_start (d := d + 2) qv_e27 (Nat.le_of_ble_eq_true rfl) ?_
  show qr_W (qe L xs vb) (d + 2) qx_e27 _ (0, [(0, .ref 4), (1, .int (qz c)), (2, .int (qz 0))], [], w, 0, 0)
  refine qr_aload_n 1 rfl rfl rfl ?_
  refine qr_callN 4 rfl rfl rfl (sp_lat4) ?_
  rintro _ _ ⟨rfl, rfl⟩
  simp only [Option.toList, List.drop, List.cons_append, List.nil_append]
  refine qr_if_eq (a := 1) 23 7 rfl rfl rfl (by decide) (fun h => absurd h (by decide)) (fun _ => ?_)
  refine qr_aload_n 8 rfl rfl rfl ?_
  refine qr_get 11 rfl rfl rfl (by decide) rfl ?_
  refine qr_iload_n 12 rfl rfl rfl ?_
  refine qr_iload_n 13 rfl rfl rfl ?_
  refine qr_aload_n 14 rfl rfl rfl ?_
  refine qr_callN 17 rfl rfl rfl (sp_len4) ?_
  rintro _ _ ⟨rfl, rfl⟩
  simp only [Option.toList, List.drop, List.cons_append, List.nil_append]
  refine qr_callN 20 rfl rfl rfl (spx_lix rc) ?_
  rintro _ _ ⟨rfl, v, rfl, hv⟩
  simp only [Option.toList, List.drop, List.cons_append, List.nil_append]
  refine qr_goto 36 rfl rfl ?_
  refine qr_retI rfl rfl (Nat.zero_le _) (Nat.zero_le _) ?_
  exact ⟨rfl, _, rfl, hv⟩
set_option maxHeartbeats 4000000 in
set_option maxRecDepth 20000 in
theorem spx_ix {L : Nat} {xs : Nat → Int} {vb : Bool} {d : Nat} {w : qm_W} {c : Int} (rc : 0 ≤ c ∧ c ≤ 255)  : qm_T (qe L xs vb) (d + 4) 26 [.ref 4, .int (qz c)] (w) (fun r w' => w' = w ∧ ∃ v : Int, r = some (.int (qz v)) ∧ qtx_is c v) := by
  refine qr_start (d := d + 3) qv_e26 (Nat.le_of_ble_eq_true rfl) ?_
  show qr_W (qe L xs vb) (d + 3) qx_e26 _ (0, [(0, .ref 4), (1, .int (qz c))], [], w, 0, 0)
  refine qr_aload_n 1 rfl rfl rfl ?_
  refine qr_iload_n 2 rfl rfl rfl ?_
  refine qr_iconst 3 rfl rfl ?_
  refine qr_callN 6 rfl rfl rfl (spx_six rc) ?_
  rintro _ _ ⟨rfl, v, rfl, hv⟩
  simp only [Option.toList, List.drop, List.cons_append, List.nil_append]
  refine qr_retI rfl rfl (Nat.zero_le _) (Nat.zero_le _) ?_
  exact ⟨rfl, _, rfl, hv⟩
set_option maxHeartbeats 4000000 in
set_option maxRecDepth 20000 in
theorem spx_isDigit {X : qm_X} {d : Nat} {w : qm_W} {s : Int} (rs : -2147483648 ≤ s ∧ s ≤ 2147483647)  : qm_T X (d + 1) 23 [.int (qz s)] (w) (fun r w' => w' = w ∧ ∃ b : Int, r = some (.int (qz b)) ∧ ((b = 1 ∧ 48 ≤ s ∧ s ≤ 57) ∨ (b = 0 ∧ ¬ (48 ≤ s ∧ s ≤ 57)))) := by
  refine qr_start (d := d + 0) qv_e23 (Nat.le_of_ble_eq_true rfl) ?_
  show qr_W X (d + 0) qx_e23 _ (0, [(0, .int (qz s))], [], w, 0, 0)
  refine qr_iload_n 1 rfl rfl rfl ?_
  refine qr_bipush 3 rfl (by decide) rfl ?_
  refine qr_icmp_lt 16 6 rfl rfl rfl (by omega) (by omega) (fun h1 => ?_) (fun h1 => ?_)
  · skip
    refine qr_iconst 17 rfl rfl ?_
    refine qr_retZ rfl rfl (by omega) (Nat.zero_le _) (Nat.zero_le _) ?_
    exact ⟨rfl, _, rfl, by omega⟩
  · skip
    refine qr_iload_n 7 rfl rfl rfl ?_
    refine qr_bipush 9 rfl (by decide) rfl ?_
    refine qr_icmp_gt 16 12 rfl rfl rfl (by omega) (by omega) (fun h2 => ?_) (fun h2 => ?_)
    · skip
      refine qr_iconst 17 rfl rfl ?_
      refine qr_retZ rfl rfl (by omega) (Nat.zero_le _) (Nat.zero_le _) ?_
      exact ⟨rfl, _, rfl, by omega⟩
    · skip
      refine qr_iconst 13 rfl rfl ?_
      refine qr_goto 17 rfl rfl ?_
      refine qr_retZ rfl rfl (by omega) (Nat.zero_le _) (Nat.zero_le _) ?_
      exact ⟨rfl, _, rfl, by omega⟩
set_option maxHeartbeats 4000000 in
set_option maxRecDepth 20000 in
theorem spx_levelOf {X : qm_X} {d : Nat} {w : qm_W} {s : Int} (rs : -2147483648 ≤ s ∧ s ≤ 2147483647)  : qm_T X (d + 1) 33 [.int (qz s)] (w) (fun r w' => w' = w ∧ ∃ b : Int, r = some (.int (qz b)) ∧ b = qtx_lo s) := by
  refine qr_start (d := d + 0) qv_e33 (Nat.le_of_ble_eq_true rfl) ?_
  show qr_W X (d + 0) qx_e33 _ (0, [(0, .int (qz s))], [], w, 0, 0)
  refine qr_iload_n 1 rfl rfl rfl ?_
  by_cases k1 : (37 : Int) = s
  · refine qr_look (off := 99) 100 rfl (by omega) (by decide) (by rw [← k1] <;> decide) rfl ?_
    refine qr_iconst 101 rfl rfl ?_
    refine qr_retI rfl rfl (Nat.zero_le _) (Nat.zero_le _) ?_
    exact ⟨rfl, _, rfl, by have hq := qtx_lo_c s; omega⟩
  by_cases k2 : (38 : Int) = s
  · refine qr_look (off := 93) 94 rfl (by omega) (by decide) (by rw [← k2] <;> decide) rfl ?_
    refine qr_iconst 95 rfl rfl ?_
    refine qr_retI rfl rfl (Nat.zero_le _) (Nat.zero_le _) ?_
    exact ⟨rfl, _, rfl, by have hq := qtx_lo_c s; omega⟩
  by_cases k3 : (42 : Int) = s
  · refine qr_look (off := 99) 100 rfl (by omega) (by decide) (by rw [← k3] <;> decide) rfl ?_
    refine qr_iconst 101 rfl rfl ?_
    refine qr_retI rfl rfl (Nat.zero_le _) (Nat.zero_le _) ?_
    exact ⟨rfl, _, rfl, by have hq := qtx_lo_c s; omega⟩
  by_cases k4 : (43 : Int) = s
  · refine qr_look (off := 97) 98 rfl (by omega) (by decide) (by rw [← k4] <;> decide) rfl ?_
    refine qr_iconst 99 rfl rfl ?_
    refine qr_retI rfl rfl (Nat.zero_le _) (Nat.zero_le _) ?_
    exact ⟨rfl, _, rfl, by have hq := qtx_lo_c s; omega⟩
  by_cases k5 : (45 : Int) = s
  · refine qr_look (off := 97) 98 rfl (by omega) (by decide) (by rw [← k5] <;> decide) rfl ?_
    refine qr_iconst 99 rfl rfl ?_
    refine qr_retI rfl rfl (Nat.zero_le _) (Nat.zero_le _) ?_
    exact ⟨rfl, _, rfl, by have hq := qtx_lo_c s; omega⟩
  by_cases k6 : (47 : Int) = s
  · refine qr_look (off := 99) 100 rfl (by omega) (by decide) (by rw [← k6] <;> decide) rfl ?_
    refine qr_iconst 101 rfl rfl ?_
    refine qr_retI rfl rfl (Nat.zero_le _) (Nat.zero_le _) ?_
    exact ⟨rfl, _, rfl, by have hq := qtx_lo_c s; omega⟩
  by_cases k7 : (60 : Int) = s
  · refine qr_look (off := 95) 96 rfl (by omega) (by decide) (by rw [← k7] <;> decide) rfl ?_
    refine qr_iconst 97 rfl rfl ?_
    refine qr_retI rfl rfl (Nat.zero_le _) (Nat.zero_le _) ?_
    exact ⟨rfl, _, rfl, by have hq := qtx_lo_c s; omega⟩
  by_cases k8 : (61 : Int) = s
  · refine qr_look (off := 95) 96 rfl (by omega) (by decide) (by rw [← k8] <;> decide) rfl ?_
    refine qr_iconst 97 rfl rfl ?_
    refine qr_retI rfl rfl (Nat.zero_le _) (Nat.zero_le _) ?_
    exact ⟨rfl, _, rfl, by have hq := qtx_lo_c s; omega⟩
  by_cases k9 : (62 : Int) = s
  · refine qr_look (off := 95) 96 rfl (by omega) (by decide) (by rw [← k9] <;> decide) rfl ?_
    refine qr_iconst 97 rfl rfl ?_
    refine qr_retI rfl rfl (Nat.zero_le _) (Nat.zero_le _) ?_
    exact ⟨rfl, _, rfl, by have hq := qtx_lo_c s; omega⟩
  by_cases k10 : (124 : Int) = s
  · refine qr_look (off := 91) 92 rfl (by omega) (by decide) (by rw [← k10] <;> decide) rfl ?_
    refine qr_iconst 93 rfl rfl ?_
    refine qr_retI rfl rfl (Nat.zero_le _) (Nat.zero_le _) ?_
    exact ⟨rfl, _, rfl, by have hq := qtx_lo_c s; omega⟩
  refine qr_look (off := 101) 102 rfl (by omega) (by decide) (by simp [Op.lookupswitch.offset_cons, Op.lookupswitch.offset_nil, k1, k2, k3, k4, k5, k6, k7, k8, k9, k10]) rfl ?_
  refine qr_iconst 103 rfl rfl ?_
  refine qr_retI rfl rfl (Nat.zero_le _) (Nat.zero_le _) ?_
  exact ⟨rfl, _, rfl, by have hq := qtx_lo_c s; omega⟩
set_option maxHeartbeats 4000000 in
set_option maxRecDepth 20000 in
theorem spx_next {X : qm_X} {d : Nat} {w : qm_W} {a : Nat} {ln at_ sz nm sk : Int} {t cd : Nat → Int} (hi : qc_in w a) (ht : ∀ j, -2147483648 ≤ t j ∧ t j ≤ 2147483647) (hl : 0 ≤ ln ∧ ln ≤ 120) (h0 : 0 ≤ at_ ∧ at_ ≤ ln ∧ 0 ≤ sz ∧ sz ≤ 122 ∧ -2147483648 ≤ nm ∧ nm ≤ 2147483647 ∧ (sk = 0 ∨ sk = 1))  : qm_T X (d + 1) 22 [.ref a] (qc w a ln at_ sz nm sk t cd) (fun r w' => w' = qc w a ln at_ sz nm sk t cd ∧ ∃ b : Int, r = some (.int (qz b)) ∧ (-2147483648 ≤ b ∧ b ≤ 2147483647) ∧ b = qtx_c t ln at_) := by
  refine qr_start (d := d + 0) qv_e22 (Nat.le_of_ble_eq_true rfl) ?_
  show qr_W X (d + 0) qx_e22 _ (0, [(0, .ref a)], [], qc w a ln at_ sz nm sk t cd, 0, 0)
  refine qr_aload_n 1 rfl rfl rfl ?_
  refine qr_cget4 hi 4 rfl rfl ?_
  refine qr_aload_n 5 rfl rfl rfl ?_
  refine qr_cget3 hi 8 rfl rfl ?_
  refine qr_icmp_ge 23 11 rfl rfl rfl (by omega) (by omega) (fun h1 => ?_) (fun h1 => ?_)
  · skip
    refine qr_iconst 24 rfl rfl ?_
    refine qr_retI rfl rfl (Nat.zero_le _) (Nat.zero_le _) ?_
    exact ⟨rfl, _, rfl, by omega, by have hq := qtx_c_c t ln at_; omega⟩
  · skip
    refine qr_aload_n 12 rfl rfl rfl ?_
    refine qr_cget0 hi 15 rfl rfl ?_
    refine qr_aload_n 16 rfl rfl rfl ?_
    refine qr_cget4 hi 19 rfl rfl ?_
    refine qr_ctload hi 20 rfl (by omega) rfl ?_
    refine qr_topI (fun v2 hv2 => ?_)
    have rv2 : -2147483648 ≤ v2 ∧ v2 ≤ 2147483647 := by rw [hv2]; exact ht _
    refine qr_goto 24 rfl rfl ?_
    refine qr_retI rfl rfl (Nat.zero_le _) (Nat.zero_le _) ?_
    exact ⟨rfl, _, rfl, by omega, by have hq := qtx_c_c t ln at_; omega⟩
set_option maxHeartbeats 4000000 in
set_option maxRecDepth 20000 in
theorem spx_emit {X : qm_X} {d : Nat} {w : qm_W} {a : Nat} {ln at_ sz nm sk : Int} {t cd : Nat → Int} (hi : qc_in w a) (hs : 0 ≤ sz ∧ sz ≤ 121) {s u : Int} (rs : 0 ≤ s ∧ s ≤ 126) (ru : 0 ≤ u ∧ u < 65536) : qm_T X (d + 1) 25 [.ref a, .int (qz s), .int (qz u)] (qc w a ln at_ sz nm sk t cd) (fun r w' => r = some (.int (qz sz)) ∧ w' = qc w a ln at_ (sz + 1) nm sk t (qzu cd (sz : Int).toNat (s * 65536 + u))) := by
  refine qr_start (d := d + 0) qv_e25 (Nat.le_of_ble_eq_true rfl) ?_
  show qr_W X (d + 0) qx_e25 _ (0, [(0, .ref a), (1, .int (qz s)), (2, .int (qz u))], [], qc w a ln at_ sz nm sk t cd, 0, 0)
  refine qr_aload_n 1 rfl rfl rfl ?_
  refine qr_cget5 hi 4 rfl rfl ?_
  refine qr_aload_n 5 rfl rfl rfl ?_
  refine qr_cget1 hi 8 rfl rfl ?_
  refine qr_cclen hi 9 rfl rfl ?_
  refine qr_icmp_lt 14 12 rfl rfl rfl (by omega) (by omega) (fun h1 => ?_) (fun h1 => False.elim (by omega))
  refine qr_aload_n 15 rfl rfl rfl ?_
  refine qr_cget1 hi 18 rfl rfl ?_
  refine qr_aload_n 19 rfl rfl rfl ?_
  refine qr_cget5 hi 22 rfl rfl ?_
  refine qr_iload_n 23 rfl rfl rfl ?_
  refine qr_bipush 25 rfl (by decide) rfl ?_
  refine qr_ishl 26 rfl rfl ?_
  refine qr_iload_n 27 rfl rfl rfl ?_
  refine qr_ior 28 rfl rfl ?_
  refine qr_topI (fun v hv => ?_)
  have ev : v = s * 65536 + u := by
    rw [hv]
    have e : qz_or (qz_shl s 16) u = s * 65536 + u := qtx_em rs ru
    exact e
  subst ev
  refine qr_ccstore hi 29 rfl (by omega) rfl ?_
  refine qr_aload_n 30 rfl rfl rfl ?_
  refine qr_dup 31 rfl rfl rfl ?_
  refine qr_cget5 hi 34 rfl rfl ?_
  refine qr_dup_x1 35 rfl rfl rfl rfl ?_
  refine qr_iconst 36 rfl rfl ?_
  refine qr_iadd 37 rfl rfl ?_
  refine qr_cput5 hi 40 rfl rfl ?_
  refine qr_retI rfl rfl (Nat.zero_le _) (Nat.zero_le _) ?_
  exact ⟨rfl, rfl⟩
set_option maxHeartbeats 4000000 in
set_option maxRecDepth 20000 in
theorem spx_pass {X : qm_X} {d : Nat} {w : qm_W} {a : Nat} {ln at_ sz nm sk : Int} {t cd : Nat → Int} (hi : qc_in w a) (ht : ∀ j, -2147483648 ≤ t j ∧ t j ≤ 2147483647) (hl : 0 ≤ ln ∧ ln ≤ 120) (h0 : 0 ≤ at_ ∧ at_ ≤ ln ∧ 0 ≤ sz ∧ sz ≤ 122 ∧ -2147483648 ≤ nm ∧ nm ≤ 2147483647 ∧ (sk = 0 ∨ sk = 1)) {s : Int} (rs : 0 ≤ s ∧ s ≤ 2147483647) : qm_T X (d + 2) 32 [.ref a, .int (qz s)] (qc w a ln at_ sz nm sk t cd) (fun r w' => r = none ∧ ∃ at2 sk2 : Int, w' = qc w a ln at2 sz nm sk2 t cd ∧ ((sk = 0 ∧ qtx_c t ln at_ = s ∧ at2 = at_ + 1 ∧ sk2 = 0) ∨ (¬ (sk = 0 ∧ qtx_c t ln at_ = s) ∧ at2 = at_ ∧ sk2 = 1))) := by
  refine qr_start (d := d + 1) qv_e32 (Nat.le_of_ble_eq_true rfl) ?_
  show qr_W X (d + 1) qx_e32 _ (0, [(0, .ref a), (1, .int (qz s))], [], qc w a ln at_ sz nm sk t cd, 0, 0)
  refine qr_aload_n 1 rfl rfl rfl ?_
  refine qr_cget7 hi 4 rfl rfl ?_
  refine qr_if_ne 15 7 rfl rfl rfl (by omega) (fun h1 => ?_) (fun h1 => ?_)
  · skip
    refine qr_aload_n 16 rfl rfl rfl ?_
    refine qr_iconst 17 rfl rfl ?_
    refine qr_cput7 hi (by omega) 20 rfl rfl ?_
    refine qr_goto 33 rfl rfl ?_
    refine qr_retV rfl rfl (Nat.zero_le _) (Nat.zero_le _) ?_
    exact ⟨rfl, _, _, rfl, by omega⟩
  · skip
    refine qr_aload_n 8 rfl rfl rfl ?_
    refine qr_ccall (as := []) (rest := []) hi 11 rfl rfl (Nat.le_of_ble_eq_true rfl) rfl rfl (spx_next hi ht hl (by omega)) ?_
    rintro _ _ ⟨rfl, b2, rfl, hb3, hc3⟩
    simp only [Option.toList, List.cons_append, List.nil_append]
    refine qr_iload_n 12 rfl rfl rfl ?_
    refine qr_icmp_eq 23 15 rfl rfl rfl (by omega) (by omega) (fun h4 => ?_) (fun h4 => ?_)
    · skip
      refine qr_aload_n 24 rfl rfl rfl ?_
      refine qr_dup 25 rfl rfl rfl ?_
      refine qr_cget4 hi 28 rfl rfl ?_
      refine qr_iconst 29 rfl rfl ?_
      refine qr_iadd 30 rfl rfl ?_
      refine qr_cput4 hi 33 rfl rfl ?_
      refine qr_retV rfl rfl (Nat.zero_le _) (Nat.zero_le _) ?_
      have h7 : sk = 0 := by omega
      subst h7
      exact ⟨rfl, _, _, rfl, by omega⟩
    · skip
      refine qr_aload_n 16 rfl rfl rfl ?_
      refine qr_iconst 17 rfl rfl ?_
      refine qr_cput7 hi (by omega) 20 rfl rfl ?_
      refine qr_goto 33 rfl rfl ?_
      refine qr_retV rfl rfl (Nat.zero_le _) (Nat.zero_le _) ?_
      exact ⟨rfl, _, _, rfl, by omega⟩
set_option maxHeartbeats 4000000 in
set_option maxRecDepth 20000 in
theorem spx_readNumber {X : qm_X} {d : Nat} {w : qm_W} {a : Nat} {ln at_ sz nm : Int} {t cd : Nat → Int} (hi : qc_in w a) (ht : ∀ j, -2147483648 ≤ t j ∧ t j ≤ 2147483647) (hb : ∀ j : Nat, (j : Int) < ln → 0 ≤ t j ∧ t j ≤ 255) (hl : 0 ≤ ln ∧ ln ≤ 120) (h0 : 0 ≤ at_ ∧ at_ ≤ ln ∧ 0 ≤ sz ∧ sz + ln - at_ ≤ 121 ∧ -2147483648 ≤ nm ∧ nm ≤ 2147483647) : qm_T X (d + 2) 24 [.ref a] (qc w a ln at_ sz nm 0 t cd) (fun r w' => r = none ∧ w' = qc w a ln (qtx_num t ln 4 0 at_).2 (sz + 1) nm 0 t (qzu cd (sz : Int).toNat (48 * 65536 + (qtx_num t ln 4 0 at_).1))) := by
  refine qr_start (d := d + 1) qv_e24 (Nat.le_of_ble_eq_true rfl) ?_
  show qr_W X (d + 1) qx_e24 _ (0, [(0, .ref a)], [], qc w a ln at_ sz nm 0 t cd, 0, 0)
  have hnb := qtx_num_b (T := t) (n := ln) 4 0 at_ (by omega) (by omega)
  have hpp : qtx_p 4 = 10000 := by decide
  have loop : ∀ (n : Nat) (i u at1 : Int), (i + n = 4 ∧ 0 ≤ i) → (0 ≤ at1 ∧ at1 ≤ ln ∧ 0 ≤ u) → qtx_num t ln 4 0 at_ = qtx_num t ln n u at1 → qr_W X (d + 1) qx_e24 (fun r w' => r = none ∧ w' = qc w a ln (qtx_num t ln 4 0 at_).2 (sz + 1) nm 0 t (qzu cd (sz : Int).toNat (48 * 65536 + (qtx_num t ln 4 0 at_).1))) (4, [(2, .int (qz i)), (1, .int (qz u)), (0, .ref a)], [], qc w a ln at1 sz nm 0 t cd, 0, 0) := by
    intro n
    induction n with
    | zero =>
      intro i u at1 hi4 h1 hq
      have hi5 : i = 4 := by omega
      subst hi5
      have hu : (qtx_num t ln 4 0 at_).1 = u := by rw [hq]; rfl
      refine qr_iload_n 5 rfl rfl rfl ?_
      refine qr_iconst 6 rfl rfl ?_
      refine qr_icmp_ge 48 9 rfl rfl rfl (by omega) (by omega) (fun _ => ?_) (fun h => False.elim (by omega))
      refine qr_aload_n 49 rfl rfl rfl ?_
      refine qr_bipush 51 rfl (by decide) rfl ?_
      refine qr_iload_n 52 rfl rfl rfl ?_
      refine qr_ccall (as := [.int (qz 48), .int (qz u)]) (rest := []) hi 55 rfl rfl (Nat.le_of_ble_eq_true rfl) rfl rfl (spx_emit hi (by omega) (by omega) (by omega)) ?_
      rintro _ _ ⟨rfl, rfl⟩
      simp only [Option.toList, List.cons_append, List.nil_append]
      refine qr_pop 56 rfl rfl rfl ?_
      refine qr_retV rfl rfl (Nat.zero_le _) (Nat.zero_le _) ?_
      rw [show qtx_num t ln 4 0 at_ = (u, at1) from hq]
      exact ⟨rfl, rfl⟩
    | succ n ih =>
      intro i u at1 hi4 h1 hq
      refine qr_iload_n 5 rfl rfl rfl ?_
      refine qr_iconst 6 rfl rfl ?_
      refine qr_icmp_ge 48 9 rfl rfl rfl (by omega) (by omega) (fun h1 => ?_) (fun h1 => ?_)
      · skip
        have e0 : qtx_num t ln (n + 1) u at1 = (u, at1) := qtx_num_st (by omega)
        have hu : (qtx_num t ln 4 0 at_).1 = u := by rw [hq, e0]
        refine qr_aload_n 49 rfl rfl rfl ?_
        refine qr_bipush 51 rfl (by decide) rfl ?_
        refine qr_iload_n 52 rfl rfl rfl ?_
        refine qr_ccall (as := [.int (qz 48), .int (qz u)]) (rest := []) hi 55 rfl rfl (Nat.le_of_ble_eq_true rfl) rfl rfl (spx_emit hi (by omega) (by omega) (by omega)) ?_
        rintro _ _ ⟨rfl, rfl⟩
        simp only [Option.toList, List.cons_append, List.nil_append]
        refine qr_pop 56 rfl rfl rfl ?_
        refine qr_retV rfl rfl (Nat.zero_le _) (Nat.zero_le _) ?_
        have e1 : qtx_num t ln (n + 1) u at1 = (u, at1) := qtx_num_st (by omega)
        rw [← hq] at e1
        rw [e1]
        exact ⟨rfl, rfl⟩
      · skip
        refine qr_aload_n 10 rfl rfl rfl ?_
        refine qr_ccall (as := []) (rest := []) hi 13 rfl rfl (Nat.le_of_ble_eq_true rfl) rfl rfl (spx_next hi ht hl (by omega)) ?_
        rintro _ _ ⟨rfl, b2, rfl, hb3, rfl⟩
        simp only [Option.toList, List.cons_append, List.nil_append]
        have hc4r := qtx_c_b (a := at1) hb (by omega)
        have hc4c := qtx_c_c t ln at1
        refine qr_callN 16 rfl rfl rfl (spx_isDigit (by omega)) ?_
        rintro _ _ ⟨rfl, b5, rfl, hb6⟩
        simp only [Option.toList, List.drop, List.cons_append, List.nil_append]
        refine qr_if_eq 48 19 rfl rfl rfl (by omega) (fun h7 => ?_) (fun h7 => ?_)
        · skip
          have e0 : qtx_num t ln (n + 1) u at1 = (u, at1) := qtx_num_st (by omega)
          have hu : (qtx_num t ln 4 0 at_).1 = u := by rw [hq, e0]
          refine qr_aload_n 49 rfl rfl rfl ?_
          refine qr_bipush 51 rfl (by decide) rfl ?_
          refine qr_iload_n 52 rfl rfl rfl ?_
          refine qr_ccall (as := [.int (qz 48), .int (qz u)]) (rest := []) hi 55 rfl rfl (Nat.le_of_ble_eq_true rfl) rfl rfl (spx_emit hi (by omega) (by omega) (by omega)) ?_
          rintro _ _ ⟨rfl, rfl⟩
          simp only [Option.toList, List.cons_append, List.nil_append]
          refine qr_pop 56 rfl rfl rfl ?_
          refine qr_retV rfl rfl (Nat.zero_le _) (Nat.zero_le _) ?_
          have e1 : qtx_num t ln (n + 1) u at1 = (u, at1) := qtx_num_st (by omega)
          rw [← hq] at e1
          rw [e1]
          exact ⟨rfl, rfl⟩
        · skip
          refine qr_iload_n 20 rfl rfl rfl ?_
          refine qr_bipush 22 rfl (by decide) rfl ?_
          refine qr_imul 23 rfl rfl ?_
          refine qr_aload_n 24 rfl rfl rfl ?_
          refine qr_ccall (as := []) (rest := [.int (qz (u * 10))]) hi 27 rfl rfl (Nat.le_of_ble_eq_true rfl) rfl rfl (spx_next hi ht hl (by omega)) ?_
          rintro _ _ ⟨rfl, b8, rfl, hb9, rfl⟩
          simp only [Option.toList, List.cons_append, List.nil_append]
          have hc10r := qtx_c_b (a := at1) hb (by omega)
          have hc10c := qtx_c_c t ln at1
          refine qr_iadd 28 rfl rfl ?_
          refine qr_bipush 30 rfl (by decide) rfl ?_
          refine qr_isub 31 rfl rfl ?_
          refine qr_istore_n [(1, .int (qz (((u * 10) + (qtx_c t ln at1)) - 48))), (2, .int (qz i)), (0, .ref a)] 32 rfl (by decide) rfl rfl ?_
          refine qr_aload_n 33 rfl rfl rfl ?_
          refine qr_dup 34 rfl rfl rfl ?_
          refine qr_cget4 hi 37 rfl rfl ?_
          refine qr_iconst 38 rfl rfl ?_
          refine qr_iadd 39 rfl rfl ?_
          refine qr_cput4 hi 42 rfl rfl ?_
          refine qr_iinc [(2, .int (qz (i + 1))), (1, .int (qz (((u * 10) + (qtx_c t ln at1)) - 48))), (0, .ref a)] 45 rfl rfl (by decide) rfl rfl ?_
          refine qr_goto 4 rfl rfl ?_
          refine ih (i + 1) (((u * 10) + (qtx_c t ln at1)) - 48) (at1 + 1) (by omega) (by omega) ?_
          rw [hq, qtx_num_go (by omega)]
          congr 1
          omega
  refine qr_iconst 1 rfl rfl ?_
  refine qr_istore_n [(1, .int (qz 0)), (0, .ref a)] 2 rfl (by decide) rfl rfl ?_
  refine qr_iconst 3 rfl rfl ?_
  refine qr_istore_n [(2, .int (qz 0)), (1, .int (qz 0)), (0, .ref a)] 4 rfl (by decide) rfl rfl ?_
  exact loop 4 0 0 at_ (by omega) (by omega) rfl

/-- what a reader leaves behind, exactly -/
abbrev qpx (w : qm_W) (a : Nat) (ln : Int) (t : Nat → Int) (F : (Nat → Int) → Int → qtx_3) (at_ sz nm : Int) (cd : Nat → Int) : Option Value → qm_W → Prop := fun r w' => r = none ∧ ∃ (at2 sz2 nm2 sk2 : Int) (cd2 : Nat → Int), w' = qc w a ln at2 sz2 nm2 sk2 t cd2 ∧ qRd ln (fun N => F N at_) at_ sz nm cd at2 sz2 nm2 sk2 cd2
theorem qtx_on_o {T : Nat → Int} {n : Int} {N : Nat → Int} {r : Nat} {a : Int} (h : (r = 0 ∨ (¬ qtx_c T n a = 40 ∧ ¬ qtx_c T n a = 33 ∧ ¬ qtx_c T n a = 45))) : qtx_on T n N r a = qtx_oo T n N a := by
  cases r with
  | zero => rfl
  | succ r =>
    have h1 : ¬ qtx_c T n a = 40 ∧ ¬ qtx_c T n a = 33 ∧ ¬ qtx_c T n a = 45 := by omega
    exact (if_neg h1.1).trans (if_neg (by omega))
theorem qtx_on_p {T : Nat → Int} {n : Int} {N : Nat → Int} {r : Nat} {a : Int} (hr : 0 < r) (h : qtx_c T n a = 40) : qtx_on T n N r a = qtx_pc T n (qtx_E T n N (r - 1) (a + 1)) := by
  obtain ⟨m, rfl⟩ : ∃ m, r = m + 1 := ⟨r - 1, by omega⟩
  exact if_pos h
theorem qtx_on_u {T : Nat → Int} {n : Int} {N : Nat → Int} {r : Nat} {a c : Int} (hr : 0 < r) (h : qtx_c T n a = c) (hc : c = 33 ∨ c = 45) : qtx_on T n N r a = qtx_un c (qtx_on T n N (r - 1) (a + 1)) := by
  obtain ⟨m, rfl⟩ : ∃ m, r = m + 1 := ⟨r - 1, by omega⟩
  refine (if_neg (by omega)).trans ((if_pos (by omega)).trans ?_)
  rw [h]
  rfl
theorem qtx_oo_n {T : Nat → Int} {n : Int} {N : Nat → Int} {a : Int} (h : 0 ≤ qtx_nm (qtx_c T n a)) : qtx_oo T n N a = (N (qtx_nm (qtx_c T n a)).toNat, a + 1, 0) := if_pos h
theorem qtx_oo_d {T : Nat → Int} {n : Int} {N : Nat → Int} {a : Int} (h : 48 ≤ qtx_c T n a ∧ qtx_c T n a ≤ 57) : qtx_oo T n N a = ((qtx_num T n 4 0 a).1, (qtx_num T n 4 0 a).2, 0) := by
  have hn := qtx_nm_c (qtx_c T n a)
  exact (if_neg (by omega)).trans (if_pos h)
theorem qtx_oo_b {T : Nat → Int} {n : Int} {N : Nat → Int} {a : Int} (h1 : qtx_nm (qtx_c T n a) < 0) (h2 : ¬ (48 ≤ qtx_c T n a ∧ qtx_c T n a ≤ 57)) : qtx_oo T n N a = (0, a, 1) := (if_neg (by omega)).trans (if_neg h2)

theorem qbi_or1 {nm m k : Int} (hm : 0 ≤ m ∧ m < 9) (h1 : 0 ≤ k) (h2 : k < 32) : qbi (qz_or nm (qz_shl 1 m)) k = 1 ↔ qbi nm k = 1 ∨ k = m := by
  rw [qbi_or, qbi_shl (by omega) h1]
  by_cases e : k = m
  · rw [if_pos e, if_pos (Or.inr rfl)]
    exact ⟨fun _ => Or.inr e, fun _ => rfl⟩
  · rw [if_neg e]
    by_cases f : qbi nm k = 1
    · rw [if_pos (Or.inl f)]
      exact ⟨fun _ => Or.inl f, fun _ => rfl⟩
    · rw [if_neg (by omega)]
      exact ⟨fun h => absurd h (by decide), fun h => by omega⟩
theorem qtx_num_gt {T : Nat → Int} {n a : Int} (h : 48 ≤ qtx_c T n a ∧ qtx_c T n a ≤ 57) (ha : 0 ≤ a ∧ a ≤ n) : a < (qtx_num T n 4 0 a).2 := by
  have hc := qtx_c_c T n a
  rw [qtx_num_go h]
  have hb := qtx_num_b (T := T) (n := n) 3 (10 * 0 + qtx_c T n a - 48) (a + 1) (by omega) (by omega)
  omega

set_option maxHeartbeats 4000000 in
set_option maxRecDepth 20000 in
theorem spx_opS {L : Nat} {xs : Nat → Int} {vb : Bool} {d : Nat} {w : qm_W} {a : Nat} {ln at_ sz nm : Int} {t cd : Nat → Int} (hi : qc_in w a) (ht : ∀ j, -2147483648 ≤ t j ∧ t j ≤ 2147483647) (hb : ∀ j : Nat, (j : Int) < ln → 0 ≤ t j ∧ t j ≤ 255) (hl : 0 ≤ ln ∧ ln ≤ 120) (h0 : 0 ≤ at_ ∧ at_ ≤ ln ∧ 0 ≤ sz ∧ sz + ln - at_ ≤ 121 ∧ -2147483648 ≤ nm ∧ nm ≤ 2147483647) {op : Int} {r : Nat} (ho : 0 ≤ op ∧ op ≤ 6 ∧ (r : Int) = 6 - op) (iho : op < 6 → ∀ v : Int, v = op + 1 → ∀ (at1 sz1 nm1 : Int) (cd1 : Nat → Int), (0 ≤ at1 ∧ at1 ≤ ln ∧ 0 ≤ sz1 ∧ sz1 + ln - at1 ≤ 121 ∧ -2147483648 ≤ nm1 ∧ nm1 ≤ 2147483647) → qm_T (qe L xs vb) (d + 5) 21 [.ref a, .int (qz v)] (qc w a ln at1 sz1 nm1 0 t cd1) (qpx w a ln t (fun N b => qtx_on t ln N (r - 1) b) at1 sz1 nm1 cd1)) (ihp : op < 6 → ∀ v : Int, v = op + 1 → ∀ (at1 sz1 nm1 : Int) (cd1 : Nat → Int), (0 ≤ at1 ∧ at1 ≤ ln ∧ 0 ≤ sz1 ∧ sz1 + ln - at1 ≤ 121 ∧ -2147483648 ≤ nm1 ∧ nm1 ≤ 2147483647) → qm_T (qe L xs vb) (d + 5) 20 [.ref a, .int (qz 0), .int (qz v)] (qc w a ln at1 sz1 nm1 0 t cd1) (qpx w a ln t (fun N b => qtx_E t ln N (r - 1) b) at1 sz1 nm1 cd1)) : qm_T (qe L xs vb) (d + 6) 21 [.ref a, .int (qz op)] (qc w a ln at_ sz nm 0 t cd) (qpx w a ln t (fun N b => qtx_on t ln N r b) at_ sz nm cd) := by
  refine qr_start (d := d + 5) qv_e21 (Nat.le_of_ble_eq_true rfl) ?_
  show qr_W (qe L xs vb) (d + 5) qx_e21 _ (0, [(0, .ref a), (1, .int (qz op))], [], qc w a ln at_ sz nm 0 t cd, 0, 0)
  refine qr_aload_n 1 rfl rfl rfl ?_
  refine qr_ccall (as := []) (rest := []) hi 4 rfl rfl (Nat.le_of_ble_eq_true rfl) rfl rfl (spx_next hi ht hl (by omega)) ?_
  rintro _ _ ⟨rfl, b1, rfl, hb2, rfl⟩
  simp only [Option.toList, List.cons_append, List.nil_append]
  have hc3r := qtx_c_b (a := at_) hb (by omega)
  have hc3c := qtx_c_c t ln at_
  refine qr_istore_n [(2, .int (qz (qtx_c t ln at_))), (0, .ref a), (1, .int (qz op))] 5 rfl (by decide) rfl rfl ?_
  refine qr_aload_n 6 rfl rfl rfl ?_
  refine qr_cget7 hi 9 rfl rfl ?_
  refine qr_if_eq 13 12 rfl rfl rfl (by omega) (fun _ => ?_) (fun h => False.elim (by omega))
  refine qr_iload_n 14 rfl rfl rfl ?_
  refine qr_callN 17 rfl rfl rfl (spx_isDigit (by omega)) ?_
  rintro _ _ ⟨rfl, b4, rfl, hb5⟩
  simp only [Option.toList, List.drop, List.cons_append, List.nil_append]
  refine qr_if_eq 27 20 rfl rfl rfl (by omega) (fun h6 => ?_) (fun h6 => ?_)
  · skip
    refine qr_iload_n 28 rfl rfl rfl ?_
    refine qr_if_lt 82 31 rfl rfl rfl (by omega) (fun h7 => ?_) (fun h7 => ?_)
    · skip
      refine qr_iload_n 83 rfl rfl rfl ?_
      refine qr_bipush 85 rfl (by decide) rfl ?_
      refine qr_icmp_ge 121 88 rfl rfl rfl (by omega) (by omega) (fun h8 => ?_) (fun h8 => ?_)
      · skip
        refine qr_iload_n 122 rfl rfl rfl ?_
        refine qr_bipush 124 rfl (by decide) rfl ?_
        refine qr_icmp_ge 178 127 rfl rfl rfl (by omega) (by omega) (fun h9 => ?_) (fun h9 => ?_)
        · skip
          refine qr_aload_n 179 rfl rfl rfl ?_
          refine qr_iconst 180 rfl rfl ?_
          refine qr_cput7 hi (by omega) 183 rfl rfl ?_
          refine qr_retV rfl rfl (Nat.zero_le _) (Nat.zero_le _) ?_
          have hcn := qtx_nm_c (qtx_c t ln at_)
          first | exact ⟨rfl, _, _, _, _, _, rfl, (qRd_st cd (by omega) (by omega) (by omega) (fun N => (qtx_on_o (by omega)).trans (qtx_oo_b (by omega) (by omega))))⟩ | exact False.elim (by omega)
        · skip
          refine qr_iload_n 128 rfl rfl rfl ?_
          refine qr_bipush 130 rfl (by decide) rfl ?_
          refine qr_icmp_eq 139 133 rfl rfl rfl (by omega) (by omega) (fun h10 => ?_) (fun h10 => ?_)
          · skip
            refine qr_aload_n 140 rfl rfl rfl ?_
            refine qr_dup 141 rfl rfl rfl ?_
            refine qr_cget4 hi 144 rfl rfl ?_
            refine qr_iconst 145 rfl rfl ?_
            refine qr_iadd 146 rfl rfl ?_
            refine qr_cput4 hi 149 rfl rfl ?_
            refine qr_aload_n 150 rfl rfl rfl ?_
            refine qr_iload_n 151 rfl rfl rfl ?_
            refine qr_iconst 152 rfl rfl ?_
            refine qr_iadd 153 rfl rfl ?_
            refine qr_ccall (as := [.int (qz (op + 1))]) (rest := []) hi 156 rfl rfl (Nat.le_of_ble_eq_true rfl) rfl rfl (iho (by omega) _ rfl _ _ _ _ (by omega)) ?_
            rintro _ _ ⟨rfl, at11, sz12, nm13, sk14, cd15, rfl, hr16⟩
            simp only [Option.toList, List.cons_append, List.nil_append]
            have hr16q : qRd ln (fun N => qtx_on t ln N (r - 1) (at_ + 1)) (at_ + 1) sz nm cd at11 sz12 nm13 sk14 cd15 := hr16
            have hr16b := hr16q.1
            refine qr_aload_n 157 rfl rfl rfl ?_
            refine qr_iload_n 158 rfl rfl rfl ?_
            refine qr_bipush 160 rfl (by decide) rfl ?_
            refine qr_icmp_ne 168 163 rfl rfl rfl (by omega) (by omega) (fun h17 => ?_) (fun h17 => ?_)
            · skip
              refine qr_bipush 170 rfl (by decide) rfl ?_
              refine qr_iconst 171 rfl rfl ?_
              refine qr_ccall (as := [.int (qz 126), .int (qz 0)]) (rest := []) hi 174 rfl rfl (Nat.le_of_ble_eq_true rfl) rfl rfl (spx_emit hi (by omega) (by omega) (by omega)) ?_
              rintro _ _ ⟨rfl, rfl⟩
              simp only [Option.toList, List.cons_append, List.nil_append]
              refine qr_pop 175 rfl rfl rfl ?_
              refine qr_goto 183 rfl rfl ?_
              refine qr_retV rfl rfl (Nat.zero_le _) (Nat.zero_le _) ?_
              first | exact ⟨rfl, _, _, _, _, _, rfl, (qRd_un (c := 45) (e := 126) hr16q (by omega) (by omega) (fun N => qtx_on_u (by omega) (by omega) (by omega)))⟩ | exact False.elim (by omega)
            · skip
              refine qr_bipush 165 rfl (by decide) rfl ?_
              refine qr_goto 170 rfl rfl ?_
              refine qr_iconst 171 rfl rfl ?_
              refine qr_ccall (as := [.int (qz 33), .int (qz 0)]) (rest := []) hi 174 rfl rfl (Nat.le_of_ble_eq_true rfl) rfl rfl (spx_emit hi (by omega) (by omega) (by omega)) ?_
              rintro _ _ ⟨rfl, rfl⟩
              simp only [Option.toList, List.cons_append, List.nil_append]
              refine qr_pop 175 rfl rfl rfl ?_
              refine qr_goto 183 rfl rfl ?_
              refine qr_retV rfl rfl (Nat.zero_le _) (Nat.zero_le _) ?_
              first | exact ⟨rfl, _, _, _, _, _, rfl, (qRd_un (c := 33) (e := 33) hr16q (by omega) (by omega) (fun N => qtx_on_u (by omega) (by omega) (by omega)))⟩ | exact False.elim (by omega)
          · skip
            refine qr_iload_n 134 rfl rfl rfl ?_
            refine qr_bipush 136 rfl (by decide) rfl ?_
            refine qr_icmp_ne 178 139 rfl rfl rfl (by omega) (by omega) (fun h18 => ?_) (fun h18 => ?_)
            · skip
              refine qr_aload_n 179 rfl rfl rfl ?_
              refine qr_iconst 180 rfl rfl ?_
              refine qr_cput7 hi (by omega) 183 rfl rfl ?_
              refine qr_retV rfl rfl (Nat.zero_le _) (Nat.zero_le _) ?_
              have hcn := qtx_nm_c (qtx_c t ln at_)
              first | exact ⟨rfl, _, _, _, _, _, rfl, (qRd_st cd (by omega) (by omega) (by omega) (fun N => (qtx_on_o (by omega)).trans (qtx_oo_b (by omega) (by omega))))⟩ | exact False.elim (by omega)
            · skip
              refine qr_aload_n 140 rfl rfl rfl ?_
              refine qr_dup 141 rfl rfl rfl ?_
              refine qr_cget4 hi 144 rfl rfl ?_
              refine qr_iconst 145 rfl rfl ?_
              refine qr_iadd 146 rfl rfl ?_
              refine qr_cput4 hi 149 rfl rfl ?_
              refine qr_aload_n 150 rfl rfl rfl ?_
              refine qr_iload_n 151 rfl rfl rfl ?_
              refine qr_iconst 152 rfl rfl ?_
              refine qr_iadd 153 rfl rfl ?_
              refine qr_ccall (as := [.int (qz (op + 1))]) (rest := []) hi 156 rfl rfl (Nat.le_of_ble_eq_true rfl) rfl rfl (iho (by omega) _ rfl _ _ _ _ (by omega)) ?_
              rintro _ _ ⟨rfl, at19, sz20, nm21, sk22, cd23, rfl, hr24⟩
              simp only [Option.toList, List.cons_append, List.nil_append]
              have hr24q : qRd ln (fun N => qtx_on t ln N (r - 1) (at_ + 1)) (at_ + 1) sz nm cd at19 sz20 nm21 sk22 cd23 := hr24
              have hr24b := hr24q.1
              refine qr_aload_n 157 rfl rfl rfl ?_
              refine qr_iload_n 158 rfl rfl rfl ?_
              refine qr_bipush 160 rfl (by decide) rfl ?_
              refine qr_icmp_ne 168 163 rfl rfl rfl (by omega) (by omega) (fun h25 => ?_) (fun h25 => ?_)
              · skip
                refine qr_bipush 170 rfl (by decide) rfl ?_
                refine qr_iconst 171 rfl rfl ?_
                refine qr_ccall (as := [.int (qz 126), .int (qz 0)]) (rest := []) hi 174 rfl rfl (Nat.le_of_ble_eq_true rfl) rfl rfl (spx_emit hi (by omega) (by omega) (by omega)) ?_
                rintro _ _ ⟨rfl, rfl⟩
                simp only [Option.toList, List.cons_append, List.nil_append]
                refine qr_pop 175 rfl rfl rfl ?_
                refine qr_goto 183 rfl rfl ?_
                refine qr_retV rfl rfl (Nat.zero_le _) (Nat.zero_le _) ?_
                first | exact ⟨rfl, _, _, _, _, _, rfl, (qRd_un (c := 45) (e := 126) hr24q (by omega) (by omega) (fun N => qtx_on_u (by omega) (by omega) (by omega)))⟩ | exact False.elim (by omega)
              · skip
                refine qr_bipush 165 rfl (by decide) rfl ?_
                refine qr_goto 170 rfl rfl ?_
                refine qr_iconst 171 rfl rfl ?_
                refine qr_ccall (as := [.int (qz 33), .int (qz 0)]) (rest := []) hi 174 rfl rfl (Nat.le_of_ble_eq_true rfl) rfl rfl (spx_emit hi (by omega) (by omega) (by omega)) ?_
                rintro _ _ ⟨rfl, rfl⟩
                simp only [Option.toList, List.cons_append, List.nil_append]
                refine qr_pop 175 rfl rfl rfl ?_
                refine qr_goto 183 rfl rfl ?_
                refine qr_retV rfl rfl (Nat.zero_le _) (Nat.zero_le _) ?_
                first | exact ⟨rfl, _, _, _, _, _, rfl, (qRd_un (c := 33) (e := 33) hr24q (by omega) (by omega) (fun N => qtx_on_u (by omega) (by omega) (by omega)))⟩ | exact False.elim (by omega)
      · skip
        refine qr_iload_n 89 rfl rfl rfl ?_
        refine qr_bipush 91 rfl (by decide) rfl ?_
        refine qr_icmp_ne 121 94 rfl rfl rfl (by omega) (by omega) (fun h26 => ?_) (fun h26 => ?_)
        · skip
          refine qr_iload_n 122 rfl rfl rfl ?_
          refine qr_bipush 124 rfl (by decide) rfl ?_
          refine qr_icmp_ge 178 127 rfl rfl rfl (by omega) (by omega) (fun h27 => ?_) (fun h27 => ?_)
          · skip
            refine qr_aload_n 179 rfl rfl rfl ?_
            refine qr_iconst 180 rfl rfl ?_
            refine qr_cput7 hi (by omega) 183 rfl rfl ?_
            refine qr_retV rfl rfl (Nat.zero_le _) (Nat.zero_le _) ?_
            have hcn := qtx_nm_c (qtx_c t ln at_)
            first | exact ⟨rfl, _, _, _, _, _, rfl, (qRd_st cd (by omega) (by omega) (by omega) (fun N => (qtx_on_o (by omega)).trans (qtx_oo_b (by omega) (by omega))))⟩ | exact False.elim (by omega)
          · skip
            refine qr_iload_n 128 rfl rfl rfl ?_
            refine qr_bipush 130 rfl (by decide) rfl ?_
            refine qr_icmp_eq 139 133 rfl rfl rfl (by omega) (by omega) (fun h28 => ?_) (fun h28 => ?_)
            · skip
              refine qr_aload_n 140 rfl rfl rfl ?_
              refine qr_dup 141 rfl rfl rfl ?_
              refine qr_cget4 hi 144 rfl rfl ?_
              refine qr_iconst 145 rfl rfl ?_
              refine qr_iadd 146 rfl rfl ?_
              refine qr_cput4 hi 149 rfl rfl ?_
              refine qr_aload_n 150 rfl rfl rfl ?_
              refine qr_iload_n 151 rfl rfl rfl ?_
              refine qr_iconst 152 rfl rfl ?_
              refine qr_iadd 153 rfl rfl ?_
              refine qr_ccall (as := [.int (qz (op + 1))]) (rest := []) hi 156 rfl rfl (Nat.le_of_ble_eq_true rfl) rfl rfl (iho (by omega) _ rfl _ _ _ _ (by omega)) ?_
              rintro _ _ ⟨rfl, at29, sz30, nm31, sk32, cd33, rfl, hr34⟩
              simp only [Option.toList, List.cons_append, List.nil_append]
              have hr34q : qRd ln (fun N => qtx_on t ln N (r - 1) (at_ + 1)) (at_ + 1) sz nm cd at29 sz30 nm31 sk32 cd33 := hr34
              have hr34b := hr34q.1
              refine qr_aload_n 157 rfl rfl rfl ?_
              refine qr_iload_n 158 rfl rfl rfl ?_
              refine qr_bipush 160 rfl (by decide) rfl ?_
              refine qr_icmp_ne 168 163 rfl rfl rfl (by omega) (by omega) (fun h35 => ?_) (fun h35 => ?_)
              · skip
                refine qr_bipush 170 rfl (by decide) rfl ?_
                refine qr_iconst 171 rfl rfl ?_
                refine qr_ccall (as := [.int (qz 126), .int (qz 0)]) (rest := []) hi 174 rfl rfl (Nat.le_of_ble_eq_true rfl) rfl rfl (spx_emit hi (by omega) (by omega) (by omega)) ?_
                rintro _ _ ⟨rfl, rfl⟩
                simp only [Option.toList, List.cons_append, List.nil_append]
                refine qr_pop 175 rfl rfl rfl ?_
                refine qr_goto 183 rfl rfl ?_
                refine qr_retV rfl rfl (Nat.zero_le _) (Nat.zero_le _) ?_
                first | exact ⟨rfl, _, _, _, _, _, rfl, (qRd_un (c := 45) (e := 126) hr34q (by omega) (by omega) (fun N => qtx_on_u (by omega) (by omega) (by omega)))⟩ | exact False.elim (by omega)
              · skip
                refine qr_bipush 165 rfl (by decide) rfl ?_
                refine qr_goto 170 rfl rfl ?_
                refine qr_iconst 171 rfl rfl ?_
                refine qr_ccall (as := [.int (qz 33), .int (qz 0)]) (rest := []) hi 174 rfl rfl (Nat.le_of_ble_eq_true rfl) rfl rfl (spx_emit hi (by omega) (by omega) (by omega)) ?_
                rintro _ _ ⟨rfl, rfl⟩
                simp only [Option.toList, List.cons_append, List.nil_append]
                refine qr_pop 175 rfl rfl rfl ?_
                refine qr_goto 183 rfl rfl ?_
                refine qr_retV rfl rfl (Nat.zero_le _) (Nat.zero_le _) ?_
                first | exact ⟨rfl, _, _, _, _, _, rfl, (qRd_un (c := 33) (e := 33) hr34q (by omega) (by omega) (fun N => qtx_on_u (by omega) (by omega) (by omega)))⟩ | exact False.elim (by omega)
            · skip
              refine qr_iload_n 134 rfl rfl rfl ?_
              refine qr_bipush 136 rfl (by decide) rfl ?_
              refine qr_icmp_ne 178 139 rfl rfl rfl (by omega) (by omega) (fun h36 => ?_) (fun h36 => ?_)
              · skip
                refine qr_aload_n 179 rfl rfl rfl ?_
                refine qr_iconst 180 rfl rfl ?_
                refine qr_cput7 hi (by omega) 183 rfl rfl ?_
                refine qr_retV rfl rfl (Nat.zero_le _) (Nat.zero_le _) ?_
                have hcn := qtx_nm_c (qtx_c t ln at_)
                first | exact ⟨rfl, _, _, _, _, _, rfl, (qRd_st cd (by omega) (by omega) (by omega) (fun N => (qtx_on_o (by omega)).trans (qtx_oo_b (by omega) (by omega))))⟩ | exact False.elim (by omega)
              · skip
                refine qr_aload_n 140 rfl rfl rfl ?_
                refine qr_dup 141 rfl rfl rfl ?_
                refine qr_cget4 hi 144 rfl rfl ?_
                refine qr_iconst 145 rfl rfl ?_
                refine qr_iadd 146 rfl rfl ?_
                refine qr_cput4 hi 149 rfl rfl ?_
                refine qr_aload_n 150 rfl rfl rfl ?_
                refine qr_iload_n 151 rfl rfl rfl ?_
                refine qr_iconst 152 rfl rfl ?_
                refine qr_iadd 153 rfl rfl ?_
                refine qr_ccall (as := [.int (qz (op + 1))]) (rest := []) hi 156 rfl rfl (Nat.le_of_ble_eq_true rfl) rfl rfl (iho (by omega) _ rfl _ _ _ _ (by omega)) ?_
                rintro _ _ ⟨rfl, at37, sz38, nm39, sk40, cd41, rfl, hr42⟩
                simp only [Option.toList, List.cons_append, List.nil_append]
                have hr42q : qRd ln (fun N => qtx_on t ln N (r - 1) (at_ + 1)) (at_ + 1) sz nm cd at37 sz38 nm39 sk40 cd41 := hr42
                have hr42b := hr42q.1
                refine qr_aload_n 157 rfl rfl rfl ?_
                refine qr_iload_n 158 rfl rfl rfl ?_
                refine qr_bipush 160 rfl (by decide) rfl ?_
                refine qr_icmp_ne 168 163 rfl rfl rfl (by omega) (by omega) (fun h43 => ?_) (fun h43 => ?_)
                · skip
                  refine qr_bipush 170 rfl (by decide) rfl ?_
                  refine qr_iconst 171 rfl rfl ?_
                  refine qr_ccall (as := [.int (qz 126), .int (qz 0)]) (rest := []) hi 174 rfl rfl (Nat.le_of_ble_eq_true rfl) rfl rfl (spx_emit hi (by omega) (by omega) (by omega)) ?_
                  rintro _ _ ⟨rfl, rfl⟩
                  simp only [Option.toList, List.cons_append, List.nil_append]
                  refine qr_pop 175 rfl rfl rfl ?_
                  refine qr_goto 183 rfl rfl ?_
                  refine qr_retV rfl rfl (Nat.zero_le _) (Nat.zero_le _) ?_
                  first | exact ⟨rfl, _, _, _, _, _, rfl, (qRd_un (c := 45) (e := 126) hr42q (by omega) (by omega) (fun N => qtx_on_u (by omega) (by omega) (by omega)))⟩ | exact False.elim (by omega)
                · skip
                  refine qr_bipush 165 rfl (by decide) rfl ?_
                  refine qr_goto 170 rfl rfl ?_
                  refine qr_iconst 171 rfl rfl ?_
                  refine qr_ccall (as := [.int (qz 33), .int (qz 0)]) (rest := []) hi 174 rfl rfl (Nat.le_of_ble_eq_true rfl) rfl rfl (spx_emit hi (by omega) (by omega) (by omega)) ?_
                  rintro _ _ ⟨rfl, rfl⟩
                  simp only [Option.toList, List.cons_append, List.nil_append]
                  refine qr_pop 175 rfl rfl rfl ?_
                  refine qr_goto 183 rfl rfl ?_
                  refine qr_retV rfl rfl (Nat.zero_le _) (Nat.zero_le _) ?_
                  first | exact ⟨rfl, _, _, _, _, _, rfl, (qRd_un (c := 33) (e := 33) hr42q (by omega) (by omega) (fun N => qtx_on_u (by omega) (by omega) (by omega)))⟩ | exact False.elim (by omega)
        · skip
          refine qr_aload_n 95 rfl rfl rfl ?_
          refine qr_dup 96 rfl rfl rfl ?_
          refine qr_cget4 hi 99 rfl rfl ?_
          refine qr_iconst 100 rfl rfl ?_
          refine qr_iadd 101 rfl rfl ?_
          refine qr_cput4 hi 104 rfl rfl ?_
          refine qr_aload_n 105 rfl rfl rfl ?_
          refine qr_iconst 106 rfl rfl ?_
          refine qr_iload_n 107 rfl rfl rfl ?_
          refine qr_iconst 108 rfl rfl ?_
          refine qr_iadd 109 rfl rfl ?_
          refine qr_ccall (as := [.int (qz 0), .int (qz (op + 1))]) (rest := []) hi 112 rfl rfl (Nat.le_of_ble_eq_true rfl) rfl rfl (ihp (by omega) _ rfl _ _ _ _ (by omega)) ?_
          rintro _ _ ⟨rfl, at44, sz45, nm46, sk47, cd48, rfl, hr49⟩
          simp only [Option.toList, List.cons_append, List.nil_append]
          have hr49q : qRd ln (fun N => qtx_E t ln N (r - 1) (at_ + 1)) (at_ + 1) sz nm cd at44 sz45 nm46 sk47 cd48 := hr49
          have hr49b := hr49q.1
          refine qr_aload_n 113 rfl rfl rfl ?_
          refine qr_bipush 115 rfl (by decide) rfl ?_
          refine qr_ccall (as := [.int (qz 41)]) (rest := []) hi 118 rfl rfl (Nat.le_of_ble_eq_true rfl) rfl rfl (spx_pass hi ht hl (by omega) (by decide)) ?_
          rintro _ _ ⟨rfl, at50, sk51, rfl, hp52⟩
          simp only [Option.toList, List.cons_append, List.nil_append]
          refine qr_goto 183 rfl rfl ?_
          refine qr_retV rfl rfl (Nat.zero_le _) (Nat.zero_le _) ?_
          first | exact ⟨rfl, _, _, _, _, _, rfl, (qRd_pc (T := t) hr49q (by omega) hp52 (fun N => qtx_on_p (by omega) (by omega)))⟩ | exact False.elim (by omega)
    · skip
      refine qr_ldcs 33 rfl rfl ?_
      refine qr_iload_n 34 rfl rfl rfl ?_
      refine qr_i2c 35 rfl rfl ?_
      rw [(qtx_b2 (c := (qtx_c t ln at_)) (by omega)).1]
      refine qr_callN 38 rfl rfl rfl (spx_ix (by omega)) ?_
      rintro _ _ ⟨rfl, b53, rfl, hb54⟩
      simp only [Option.toList, List.drop, List.cons_append, List.nil_append]
      have hb54n := qtx_is_nm (by omega) hb54
      have hb54m := qtx_nm_c (qtx_c t ln at_)
      refine qr_if_lt 82 41 rfl rfl rfl (by omega) (fun h55 => ?_) (fun h55 => ?_)
      · skip
        refine qr_iload_n 83 rfl rfl rfl ?_
        refine qr_bipush 85 rfl (by decide) rfl ?_
        refine qr_icmp_ge 121 88 rfl rfl rfl (by omega) (by omega) (fun h56 => ?_) (fun h56 => ?_)
        · skip
          refine qr_iload_n 122 rfl rfl rfl ?_
          refine qr_bipush 124 rfl (by decide) rfl ?_
          refine qr_icmp_ge 178 127 rfl rfl rfl (by omega) (by omega) (fun h57 => ?_) (fun h57 => ?_)
          · skip
            refine qr_aload_n 179 rfl rfl rfl ?_
            refine qr_iconst 180 rfl rfl ?_
            refine qr_cput7 hi (by omega) 183 rfl rfl ?_
            refine qr_retV rfl rfl (Nat.zero_le _) (Nat.zero_le _) ?_
            have hcn := qtx_nm_c (qtx_c t ln at_)
            first | exact ⟨rfl, _, _, _, _, _, rfl, (qRd_st cd (by omega) (by omega) (by omega) (fun N => (qtx_on_o (by omega)).trans (qtx_oo_b (by omega) (by omega))))⟩ | exact False.elim (by omega)
          · skip
            refine qr_iload_n 128 rfl rfl rfl ?_
            refine qr_bipush 130 rfl (by decide) rfl ?_
            refine qr_icmp_eq 139 133 rfl rfl rfl (by omega) (by omega) (fun h58 => ?_) (fun h58 => ?_)
            · skip
              refine qr_aload_n 140 rfl rfl rfl ?_
              refine qr_dup 141 rfl rfl rfl ?_
              refine qr_cget4 hi 144 rfl rfl ?_
              refine qr_iconst 145 rfl rfl ?_
              refine qr_iadd 146 rfl rfl ?_
              refine qr_cput4 hi 149 rfl rfl ?_
              refine qr_aload_n 150 rfl rfl rfl ?_
              refine qr_iload_n 151 rfl rfl rfl ?_
              refine qr_iconst 152 rfl rfl ?_
              refine qr_iadd 153 rfl rfl ?_
              refine qr_ccall (as := [.int (qz (op + 1))]) (rest := []) hi 156 rfl rfl (Nat.le_of_ble_eq_true rfl) rfl rfl (iho (by omega) _ rfl _ _ _ _ (by omega)) ?_
              rintro _ _ ⟨rfl, at59, sz60, nm61, sk62, cd63, rfl, hr64⟩
              simp only [Option.toList, List.cons_append, List.nil_append]
              have hr64q : qRd ln (fun N => qtx_on t ln N (r - 1) (at_ + 1)) (at_ + 1) sz nm cd at59 sz60 nm61 sk62 cd63 := hr64
              have hr64b := hr64q.1
              refine qr_aload_n 157 rfl rfl rfl ?_
              refine qr_iload_n 158 rfl rfl rfl ?_
              refine qr_bipush 160 rfl (by decide) rfl ?_
              refine qr_icmp_ne 168 163 rfl rfl rfl (by omega) (by omega) (fun h65 => ?_) (fun h65 => ?_)
              · skip
                refine qr_bipush 170 rfl (by decide) rfl ?_
                refine qr_iconst 171 rfl rfl ?_
                refine qr_ccall (as := [.int (qz 126), .int (qz 0)]) (rest := []) hi 174 rfl rfl (Nat.le_of_ble_eq_true rfl) rfl rfl (spx_emit hi (by omega) (by omega) (by omega)) ?_
                rintro _ _ ⟨rfl, rfl⟩
                simp only [Option.toList, List.cons_append, List.nil_append]
                refine qr_pop 175 rfl rfl rfl ?_
                refine qr_goto 183 rfl rfl ?_
                refine qr_retV rfl rfl (Nat.zero_le _) (Nat.zero_le _) ?_
                first | exact ⟨rfl, _, _, _, _, _, rfl, (qRd_un (c := 45) (e := 126) hr64q (by omega) (by omega) (fun N => qtx_on_u (by omega) (by omega) (by omega)))⟩ | exact False.elim (by omega)
              · skip
                refine qr_bipush 165 rfl (by decide) rfl ?_
                refine qr_goto 170 rfl rfl ?_
                refine qr_iconst 171 rfl rfl ?_
                refine qr_ccall (as := [.int (qz 33), .int (qz 0)]) (rest := []) hi 174 rfl rfl (Nat.le_of_ble_eq_true rfl) rfl rfl (spx_emit hi (by omega) (by omega) (by omega)) ?_
                rintro _ _ ⟨rfl, rfl⟩
                simp only [Option.toList, List.cons_append, List.nil_append]
                refine qr_pop 175 rfl rfl rfl ?_
                refine qr_goto 183 rfl rfl ?_
                refine qr_retV rfl rfl (Nat.zero_le _) (Nat.zero_le _) ?_
                first | exact ⟨rfl, _, _, _, _, _, rfl, (qRd_un (c := 33) (e := 33) hr64q (by omega) (by omega) (fun N => qtx_on_u (by omega) (by omega) (by omega)))⟩ | exact False.elim (by omega)
            · skip
              refine qr_iload_n 134 rfl rfl rfl ?_
              refine qr_bipush 136 rfl (by decide) rfl ?_
              refine qr_icmp_ne 178 139 rfl rfl rfl (by omega) (by omega) (fun h66 => ?_) (fun h66 => ?_)
              · skip
                refine qr_aload_n 179 rfl rfl rfl ?_
                refine qr_iconst 180 rfl rfl ?_
                refine qr_cput7 hi (by omega) 183 rfl rfl ?_
                refine qr_retV rfl rfl (Nat.zero_le _) (Nat.zero_le _) ?_
                have hcn := qtx_nm_c (qtx_c t ln at_)
                first | exact ⟨rfl, _, _, _, _, _, rfl, (qRd_st cd (by omega) (by omega) (by omega) (fun N => (qtx_on_o (by omega)).trans (qtx_oo_b (by omega) (by omega))))⟩ | exact False.elim (by omega)
              · skip
                refine qr_aload_n 140 rfl rfl rfl ?_
                refine qr_dup 141 rfl rfl rfl ?_
                refine qr_cget4 hi 144 rfl rfl ?_
                refine qr_iconst 145 rfl rfl ?_
                refine qr_iadd 146 rfl rfl ?_
                refine qr_cput4 hi 149 rfl rfl ?_
                refine qr_aload_n 150 rfl rfl rfl ?_
                refine qr_iload_n 151 rfl rfl rfl ?_
                refine qr_iconst 152 rfl rfl ?_
                refine qr_iadd 153 rfl rfl ?_
                refine qr_ccall (as := [.int (qz (op + 1))]) (rest := []) hi 156 rfl rfl (Nat.le_of_ble_eq_true rfl) rfl rfl (iho (by omega) _ rfl _ _ _ _ (by omega)) ?_
                rintro _ _ ⟨rfl, at67, sz68, nm69, sk70, cd71, rfl, hr72⟩
                simp only [Option.toList, List.cons_append, List.nil_append]
                have hr72q : qRd ln (fun N => qtx_on t ln N (r - 1) (at_ + 1)) (at_ + 1) sz nm cd at67 sz68 nm69 sk70 cd71 := hr72
                have hr72b := hr72q.1
                refine qr_aload_n 157 rfl rfl rfl ?_
                refine qr_iload_n 158 rfl rfl rfl ?_
                refine qr_bipush 160 rfl (by decide) rfl ?_
                refine qr_icmp_ne 168 163 rfl rfl rfl (by omega) (by omega) (fun h73 => ?_) (fun h73 => ?_)
                · skip
                  refine qr_bipush 170 rfl (by decide) rfl ?_
                  refine qr_iconst 171 rfl rfl ?_
                  refine qr_ccall (as := [.int (qz 126), .int (qz 0)]) (rest := []) hi 174 rfl rfl (Nat.le_of_ble_eq_true rfl) rfl rfl (spx_emit hi (by omega) (by omega) (by omega)) ?_
                  rintro _ _ ⟨rfl, rfl⟩
                  simp only [Option.toList, List.cons_append, List.nil_append]
                  refine qr_pop 175 rfl rfl rfl ?_
                  refine qr_goto 183 rfl rfl ?_
                  refine qr_retV rfl rfl (Nat.zero_le _) (Nat.zero_le _) ?_
                  first | exact ⟨rfl, _, _, _, _, _, rfl, (qRd_un (c := 45) (e := 126) hr72q (by omega) (by omega) (fun N => qtx_on_u (by omega) (by omega) (by omega)))⟩ | exact False.elim (by omega)
                · skip
                  refine qr_bipush 165 rfl (by decide) rfl ?_
                  refine qr_goto 170 rfl rfl ?_
                  refine qr_iconst 171 rfl rfl ?_
                  refine qr_ccall (as := [.int (qz 33), .int (qz 0)]) (rest := []) hi 174 rfl rfl (Nat.le_of_ble_eq_true rfl) rfl rfl (spx_emit hi (by omega) (by omega) (by omega)) ?_
                  rintro _ _ ⟨rfl, rfl⟩
                  simp only [Option.toList, List.cons_append, List.nil_append]
                  refine qr_pop 175 rfl rfl rfl ?_
                  refine qr_goto 183 rfl rfl ?_
                  refine qr_retV rfl rfl (Nat.zero_le _) (Nat.zero_le _) ?_
                  first | exact ⟨rfl, _, _, _, _, _, rfl, (qRd_un (c := 33) (e := 33) hr72q (by omega) (by omega) (fun N => qtx_on_u (by omega) (by omega) (by omega)))⟩ | exact False.elim (by omega)
        · skip
          refine qr_iload_n 89 rfl rfl rfl ?_
          refine qr_bipush 91 rfl (by decide) rfl ?_
          refine qr_icmp_ne 121 94 rfl rfl rfl (by omega) (by omega) (fun h74 => ?_) (fun h74 => ?_)
          · skip
            refine qr_iload_n 122 rfl rfl rfl ?_
            refine qr_bipush 124 rfl (by decide) rfl ?_
            refine qr_icmp_ge 178 127 rfl rfl rfl (by omega) (by omega) (fun h75 => ?_) (fun h75 => ?_)
            · skip
              refine qr_aload_n 179 rfl rfl rfl ?_
              refine qr_iconst 180 rfl rfl ?_
              refine qr_cput7 hi (by omega) 183 rfl rfl ?_
              refine qr_retV rfl rfl (Nat.zero_le _) (Nat.zero_le _) ?_
              have hcn := qtx_nm_c (qtx_c t ln at_)
              first | exact ⟨rfl, _, _, _, _, _, rfl, (qRd_st cd (by omega) (by omega) (by omega) (fun N => (qtx_on_o (by omega)).trans (qtx_oo_b (by omega) (by omega))))⟩ | exact False.elim (by omega)
            · skip
              refine qr_iload_n 128 rfl rfl rfl ?_
              refine qr_bipush 130 rfl (by decide) rfl ?_
              refine qr_icmp_eq 139 133 rfl rfl rfl (by omega) (by omega) (fun h76 => ?_) (fun h76 => ?_)
              · skip
                refine qr_aload_n 140 rfl rfl rfl ?_
                refine qr_dup 141 rfl rfl rfl ?_
                refine qr_cget4 hi 144 rfl rfl ?_
                refine qr_iconst 145 rfl rfl ?_
                refine qr_iadd 146 rfl rfl ?_
                refine qr_cput4 hi 149 rfl rfl ?_
                refine qr_aload_n 150 rfl rfl rfl ?_
                refine qr_iload_n 151 rfl rfl rfl ?_
                refine qr_iconst 152 rfl rfl ?_
                refine qr_iadd 153 rfl rfl ?_
                refine qr_ccall (as := [.int (qz (op + 1))]) (rest := []) hi 156 rfl rfl (Nat.le_of_ble_eq_true rfl) rfl rfl (iho (by omega) _ rfl _ _ _ _ (by omega)) ?_
                rintro _ _ ⟨rfl, at77, sz78, nm79, sk80, cd81, rfl, hr82⟩
                simp only [Option.toList, List.cons_append, List.nil_append]
                have hr82q : qRd ln (fun N => qtx_on t ln N (r - 1) (at_ + 1)) (at_ + 1) sz nm cd at77 sz78 nm79 sk80 cd81 := hr82
                have hr82b := hr82q.1
                refine qr_aload_n 157 rfl rfl rfl ?_
                refine qr_iload_n 158 rfl rfl rfl ?_
                refine qr_bipush 160 rfl (by decide) rfl ?_
                refine qr_icmp_ne 168 163 rfl rfl rfl (by omega) (by omega) (fun h83 => ?_) (fun h83 => ?_)
                · skip
                  refine qr_bipush 170 rfl (by decide) rfl ?_
                  refine qr_iconst 171 rfl rfl ?_
                  refine qr_ccall (as := [.int (qz 126), .int (qz 0)]) (rest := []) hi 174 rfl rfl (Nat.le_of_ble_eq_true rfl) rfl rfl (spx_emit hi (by omega) (by omega) (by omega)) ?_
                  rintro _ _ ⟨rfl, rfl⟩
                  simp only [Option.toList, List.cons_append, List.nil_append]
                  refine qr_pop 175 rfl rfl rfl ?_
                  refine qr_goto 183 rfl rfl ?_
                  refine qr_retV rfl rfl (Nat.zero_le _) (Nat.zero_le _) ?_
                  first | exact ⟨rfl, _, _, _, _, _, rfl, (qRd_un (c := 45) (e := 126) hr82q (by omega) (by omega) (fun N => qtx_on_u (by omega) (by omega) (by omega)))⟩ | exact False.elim (by omega)
                · skip
                  refine qr_bipush 165 rfl (by decide) rfl ?_
                  refine qr_goto 170 rfl rfl ?_
                  refine qr_iconst 171 rfl rfl ?_
                  refine qr_ccall (as := [.int (qz 33), .int (qz 0)]) (rest := []) hi 174 rfl rfl (Nat.le_of_ble_eq_true rfl) rfl rfl (spx_emit hi (by omega) (by omega) (by omega)) ?_
                  rintro _ _ ⟨rfl, rfl⟩
                  simp only [Option.toList, List.cons_append, List.nil_append]
                  refine qr_pop 175 rfl rfl rfl ?_
                  refine qr_goto 183 rfl rfl ?_
                  refine qr_retV rfl rfl (Nat.zero_le _) (Nat.zero_le _) ?_
                  first | exact ⟨rfl, _, _, _, _, _, rfl, (qRd_un (c := 33) (e := 33) hr82q (by omega) (by omega) (fun N => qtx_on_u (by omega) (by omega) (by omega)))⟩ | exact False.elim (by omega)
              · skip
                refine qr_iload_n 134 rfl rfl rfl ?_
                refine qr_bipush 136 rfl (by decide) rfl ?_
                refine qr_icmp_ne 178 139 rfl rfl rfl (by omega) (by omega) (fun h84 => ?_) (fun h84 => ?_)
                · skip
                  refine qr_aload_n 179 rfl rfl rfl ?_
                  refine qr_iconst 180 rfl rfl ?_
                  refine qr_cput7 hi (by omega) 183 rfl rfl ?_
                  refine qr_retV rfl rfl (Nat.zero_le _) (Nat.zero_le _) ?_
                  have hcn := qtx_nm_c (qtx_c t ln at_)
                  first | exact ⟨rfl, _, _, _, _, _, rfl, (qRd_st cd (by omega) (by omega) (by omega) (fun N => (qtx_on_o (by omega)).trans (qtx_oo_b (by omega) (by omega))))⟩ | exact False.elim (by omega)
                · skip
                  refine qr_aload_n 140 rfl rfl rfl ?_
                  refine qr_dup 141 rfl rfl rfl ?_
                  refine qr_cget4 hi 144 rfl rfl ?_
                  refine qr_iconst 145 rfl rfl ?_
                  refine qr_iadd 146 rfl rfl ?_
                  refine qr_cput4 hi 149 rfl rfl ?_
                  refine qr_aload_n 150 rfl rfl rfl ?_
                  refine qr_iload_n 151 rfl rfl rfl ?_
                  refine qr_iconst 152 rfl rfl ?_
                  refine qr_iadd 153 rfl rfl ?_
                  refine qr_ccall (as := [.int (qz (op + 1))]) (rest := []) hi 156 rfl rfl (Nat.le_of_ble_eq_true rfl) rfl rfl (iho (by omega) _ rfl _ _ _ _ (by omega)) ?_
                  rintro _ _ ⟨rfl, at85, sz86, nm87, sk88, cd89, rfl, hr90⟩
                  simp only [Option.toList, List.cons_append, List.nil_append]
                  have hr90q : qRd ln (fun N => qtx_on t ln N (r - 1) (at_ + 1)) (at_ + 1) sz nm cd at85 sz86 nm87 sk88 cd89 := hr90
                  have hr90b := hr90q.1
                  refine qr_aload_n 157 rfl rfl rfl ?_
                  refine qr_iload_n 158 rfl rfl rfl ?_
                  refine qr_bipush 160 rfl (by decide) rfl ?_
                  refine qr_icmp_ne 168 163 rfl rfl rfl (by omega) (by omega) (fun h91 => ?_) (fun h91 => ?_)
                  · skip
                    refine qr_bipush 170 rfl (by decide) rfl ?_
                    refine qr_iconst 171 rfl rfl ?_
                    refine qr_ccall (as := [.int (qz 126), .int (qz 0)]) (rest := []) hi 174 rfl rfl (Nat.le_of_ble_eq_true rfl) rfl rfl (spx_emit hi (by omega) (by omega) (by omega)) ?_
                    rintro _ _ ⟨rfl, rfl⟩
                    simp only [Option.toList, List.cons_append, List.nil_append]
                    refine qr_pop 175 rfl rfl rfl ?_
                    refine qr_goto 183 rfl rfl ?_
                    refine qr_retV rfl rfl (Nat.zero_le _) (Nat.zero_le _) ?_
                    first | exact ⟨rfl, _, _, _, _, _, rfl, (qRd_un (c := 45) (e := 126) hr90q (by omega) (by omega) (fun N => qtx_on_u (by omega) (by omega) (by omega)))⟩ | exact False.elim (by omega)
                  · skip
                    refine qr_bipush 165 rfl (by decide) rfl ?_
                    refine qr_goto 170 rfl rfl ?_
                    refine qr_iconst 171 rfl rfl ?_
                    refine qr_ccall (as := [.int (qz 33), .int (qz 0)]) (rest := []) hi 174 rfl rfl (Nat.le_of_ble_eq_true rfl) rfl rfl (spx_emit hi (by omega) (by omega) (by omega)) ?_
                    rintro _ _ ⟨rfl, rfl⟩
                    simp only [Option.toList, List.cons_append, List.nil_append]
                    refine qr_pop 175 rfl rfl rfl ?_
                    refine qr_goto 183 rfl rfl ?_
                    refine qr_retV rfl rfl (Nat.zero_le _) (Nat.zero_le _) ?_
                    first | exact ⟨rfl, _, _, _, _, _, rfl, (qRd_un (c := 33) (e := 33) hr90q (by omega) (by omega) (fun N => qtx_on_u (by omega) (by omega) (by omega)))⟩ | exact False.elim (by omega)
          · skip
            refine qr_aload_n 95 rfl rfl rfl ?_
            refine qr_dup 96 rfl rfl rfl ?_
            refine qr_cget4 hi 99 rfl rfl ?_
            refine qr_iconst 100 rfl rfl ?_
            refine qr_iadd 101 rfl rfl ?_
            refine qr_cput4 hi 104 rfl rfl ?_
            refine qr_aload_n 105 rfl rfl rfl ?_
            refine qr_iconst 106 rfl rfl ?_
            refine qr_iload_n 107 rfl rfl rfl ?_
            refine qr_iconst 108 rfl rfl ?_
            refine qr_iadd 109 rfl rfl ?_
            refine qr_ccall (as := [.int (qz 0), .int (qz (op + 1))]) (rest := []) hi 112 rfl rfl (Nat.le_of_ble_eq_true rfl) rfl rfl (ihp (by omega) _ rfl _ _ _ _ (by omega)) ?_
            rintro _ _ ⟨rfl, at92, sz93, nm94, sk95, cd96, rfl, hr97⟩
            simp only [Option.toList, List.cons_append, List.nil_append]
            have hr97q : qRd ln (fun N => qtx_E t ln N (r - 1) (at_ + 1)) (at_ + 1) sz nm cd at92 sz93 nm94 sk95 cd96 := hr97
            have hr97b := hr97q.1
            refine qr_aload_n 113 rfl rfl rfl ?_
            refine qr_bipush 115 rfl (by decide) rfl ?_
            refine qr_ccall (as := [.int (qz 41)]) (rest := []) hi 118 rfl rfl (Nat.le_of_ble_eq_true rfl) rfl rfl (spx_pass hi ht hl (by omega) (by decide)) ?_
            rintro _ _ ⟨rfl, at98, sk99, rfl, hp100⟩
            simp only [Option.toList, List.cons_append, List.nil_append]
            refine qr_goto 183 rfl rfl ?_
            refine qr_retV rfl rfl (Nat.zero_le _) (Nat.zero_le _) ?_
            first | exact ⟨rfl, _, _, _, _, _, rfl, (qRd_pc (T := t) hr97q (by omega) hp100 (fun N => qtx_on_p (by omega) (by omega)))⟩ | exact False.elim (by omega)
      · skip
        refine qr_aload_n 42 rfl rfl rfl ?_
        refine qr_dup 43 rfl rfl rfl ?_
        refine qr_cget4 hi 46 rfl rfl ?_
        refine qr_iconst 47 rfl rfl ?_
        refine qr_iadd 48 rfl rfl ?_
        refine qr_cput4 hi 51 rfl rfl ?_
        refine qr_ldcs 53 rfl rfl ?_
        refine qr_iload_n 54 rfl rfl rfl ?_
        refine qr_i2c 55 rfl rfl ?_
        rw [(qtx_b2 (c := (qtx_c t ln at_)) (by omega)).1]
        refine qr_callN 58 rfl rfl rfl (spx_ix (by omega)) ?_
        rintro _ _ ⟨rfl, b101, rfl, hb102⟩
        simp only [Option.toList, List.drop, List.cons_append, List.nil_append]
        have hb102n := qtx_is_nm (by omega) hb102
        have hb102m := qtx_nm_c (qtx_c t ln at_)
        refine qr_istore_n [(3, .int (qz b101)), (2, .int (qz (qtx_c t ln at_))), (0, .ref a), (1, .int (qz op))] 59 rfl (by decide) rfl rfl ?_
        refine qr_aload_n 60 rfl rfl rfl ?_
        refine qr_dup 61 rfl rfl rfl ?_
        refine qr_cget6 hi 64 rfl rfl ?_
        refine qr_iconst 65 rfl rfl ?_
        refine qr_iload_n 66 rfl rfl rfl ?_
        refine qr_ishl 67 rfl rfl ?_
        refine qr_ior 68 rfl rfl ?_
        refine qr_cput6 hi 71 rfl rfl ?_
        refine qr_aload_n 72 rfl rfl rfl ?_
        refine qr_bipush 74 rfl (by decide) rfl ?_
        refine qr_iload_n 75 rfl rfl rfl ?_
        refine qr_ccall (as := [.int (qz 97), .int (qz b101)]) (rest := []) hi 78 rfl rfl (Nat.le_of_ble_eq_true rfl) rfl rfl (spx_emit hi (by omega) (by omega) (by omega)) ?_
        rintro _ _ ⟨rfl, rfl⟩
        simp only [Option.toList, List.cons_append, List.nil_append]
        refine qr_pop 79 rfl rfl rfl ?_
        refine qr_goto 183 rfl rfl ?_
        refine qr_retV rfl rfl (Nat.zero_le _) (Nat.zero_le _) ?_
        have hat : at_ < ln := by have := qtx_c_c t ln at_; omega
        first | exact ⟨rfl, _, _, _, _, _, rfl, (qRd_nam cd (m := b101) (by omega) (by omega) (qz_or_r _ _) (by omega) (fun k h1 h2 => qbi_or1 (by omega) h1 (by omega)) (fun N => (qtx_on_o (by omega)).trans ((qtx_oo_n (by omega)).trans (by rw [← hb102n]))))⟩ | exact False.elim (by omega)
  · skip
    refine qr_aload_n 21 rfl rfl rfl ?_
    refine qr_ccall (as := []) (rest := []) hi 24 rfl rfl (Nat.le_of_ble_eq_true rfl) rfl rfl (spx_readNumber hi ht hb hl (by omega)) ?_
    rintro _ _ ⟨rfl, rfl⟩
    simp only [Option.toList, List.cons_append, List.nil_append]
    refine qr_goto 183 rfl rfl ?_
    refine qr_retV rfl rfl (Nat.zero_le _) (Nat.zero_le _) ?_
    have hnb := qtx_num_b (T := t) (n := ln) 4 0 at_ (by omega) (by omega)
    have hpp : ((0 : Int) + 1) * qtx_p 4 = 10000 := by decide
    first | exact ⟨rfl, _, _, _, _, _, rfl, (qRd_num cd (v := (qtx_num t ln 4 0 at_).1) (by have := qtx_num_gt (T := t) (n := ln) (a := at_) (by omega) (by omega); omega) (by omega) (by omega) (by omega) (fun N => (qtx_on_o (by omega)).trans (qtx_oo_d (by omega))))⟩ | exact False.elim (by omega)

theorem qtx_lp_x {T : Nat → Int} {n : Int} {sub : Int → qtx_3} {l at1 sk1 : Int} {k : Nat} {p : qtx_3} (h : p.2.1 = at1 ∧ p.2.2 = sk1) (hn : ¬ (sk1 = 0 ∧ qtx_lo (qtx_c T n at1) = l)) : qtx_lp T n sub l k p = p := qtx_lp_st (by rw [h.1, h.2]; exact hn)
theorem qtx_lp_n {T : Nat → Int} {n : Int} {sub : Int → qtx_3} {l at1 : Int} {k : Nat} {p : qtx_3} (h : p.2.1 = at1 ∧ p.2.2 = 0) (hl : qtx_lo (qtx_c T n at1) = l) : qtx_lp T n sub l (k + 1) p = qtx_lp T n sub l k (qtx_cm (qtx_c T n at1) p (sub (at1 + 1))) := by
  rw [qtx_lp_go (by rw [h.1, h.2]; exact ⟨rfl, hl⟩), h.1]
theorem qtx_em2 {b : Int} (hb : 0 ≤ b ∧ b < 65536) : qz_or 4128768 b = 63 * 65536 + b := by
  have h := qtx_em (a := 63) (by decide) hb
  rwa [show qz_shl 63 16 = 4128768 by decide +kernel] at h

set_option maxHeartbeats 4000000 in
set_option maxRecDepth 20000 in
theorem spx_part5 {L : Nat} {xs : Nat → Int} {vb : Bool} {d : Nat} {w : qm_W} {a : Nat} {ln at_ sz nm : Int} {t cd : Nat → Int} (hi : qc_in w a) (ht : ∀ j, -2147483648 ≤ t j ∧ t j ≤ 2147483647) (hb : ∀ j : Nat, (j : Int) < ln → 0 ≤ t j ∧ t j ≤ 255) (hl : 0 ≤ ln ∧ ln ≤ 120) (h0 : 0 ≤ at_ ∧ at_ ≤ ln ∧ 0 ≤ sz ∧ sz + ln - at_ ≤ 121 ∧ -2147483648 ≤ nm ∧ nm ≤ 2147483647) {lv op : Int} {r : Nat} (hv : lv = 5) (iho : ∀ (at1 sz1 nm1 : Int) (cd1 : Nat → Int), (0 ≤ at1 ∧ at1 ≤ ln ∧ 0 ≤ sz1 ∧ sz1 + ln - at1 ≤ 121 ∧ -2147483648 ≤ nm1 ∧ nm1 ≤ 2147483647) → qm_T (qe L xs vb) (d + 5) 21 [.ref a, .int (qz op)] (qc w a ln at1 sz1 nm1 0 t cd1) (qpx w a ln t (fun N b => qtx_on t ln N r b) at1 sz1 nm1 cd1)) : qm_T (qe L xs vb) (d + 6) 20 [.ref a, .int (qz lv), .int (qz op)] (qc w a ln at_ sz nm 0 t cd) (qpx w a ln t (fun N b => qtx_lv t ln (fun b => qtx_on t ln N r b) 0 b) at_ sz nm cd) := by
  refine qr_start (d := d + 5) qv_e20 (Nat.le_of_ble_eq_true rfl) ?_
  show qr_W (qe L xs vb) (d + 5) qx_e20 _ (0, [(0, .ref a), (1, .int (qz lv)), (2, .int (qz op))], [], qc w a ln at_ sz nm 0 t cd, 0, 0)
  refine qr_iload_n 1 rfl rfl rfl ?_
  refine qr_iconst 2 rfl rfl ?_
  refine qr_icmp_lt 11 5 rfl rfl rfl (by omega) (by omega) (fun h1 => ?_) (fun h1 => ?_)
  · skip
    exact False.elim (by omega)
  · skip
    refine qr_aload_n 6 rfl rfl rfl ?_
    refine qr_iload_n 7 rfl rfl rfl ?_
    refine qr_ccall (as := [.int (qz op)]) (rest := []) hi 10 rfl rfl (Nat.le_of_ble_eq_true rfl) rfl rfl (iho _ _ _ _ (by omega)) ?_
    rintro _ _ ⟨rfl, at2, sz3, nm4, sk5, cd6, rfl, hr7⟩
    simp only [Option.toList, List.cons_append, List.nil_append]
    have hr7q : qRd ln (fun N => qtx_on t ln N r at_) at_ sz nm cd at2 sz3 nm4 sk5 cd6 := hr7
    have hr7b := hr7q.1
    refine qr_retV rfl rfl (Nat.zero_le _) (Nat.zero_le _) ?_
    exact ⟨rfl, _, _, _, _, _, rfl, hr7q⟩

set_option maxHeartbeats 4000000 in
set_option maxRecDepth 20000 in
theorem spx_partS {L : Nat} {xs : Nat → Int} {vb : Bool} {d : Nat} {w : qm_W} {a : Nat} {ln at_ sz nm : Int} {t cd : Nat → Int} (hi : qc_in w a) (ht : ∀ j, -2147483648 ≤ t j ∧ t j ≤ 2147483647) (hb : ∀ j : Nat, (j : Int) < ln → 0 ≤ t j ∧ t j ≤ 255) (hl : 0 ≤ ln ∧ ln ≤ 120) (h0 : 0 ≤ at_ ∧ at_ ≤ ln ∧ 0 ≤ sz ∧ sz + ln - at_ ≤ 121 ∧ -2147483648 ≤ nm ∧ nm ≤ 2147483647) {lv op : Int} {r m : Nat} (hv : 0 ≤ lv ∧ lv < 5 ∧ (m : Int) = 4 - lv) (ihp : ∀ v : Int, v = lv + 1 → ∀ (at1 sz1 nm1 : Int) (cd1 : Nat → Int), (0 ≤ at1 ∧ at1 ≤ ln ∧ 0 ≤ sz1 ∧ sz1 + ln - at1 ≤ 121 ∧ -2147483648 ≤ nm1 ∧ nm1 ≤ 2147483647) → qm_T (qe L xs vb) (d + 5) 20 [.ref a, .int (qz v), .int (qz op)] (qc w a ln at1 sz1 nm1 0 t cd1) (qpx w a ln t (fun N b => qtx_lv t ln (fun b => qtx_on t ln N r b) m b) at1 sz1 nm1 cd1)) : qm_T (qe L xs vb) (d + 6) 20 [.ref a, .int (qz lv), .int (qz op)] (qc w a ln at_ sz nm 0 t cd) (qpx w a ln t (fun N b => qtx_lv t ln (fun b => qtx_on t ln N r b) (m + 1) b) at_ sz nm cd) := by
  refine qr_start (d := d + 5) qv_e20 (Nat.le_of_ble_eq_true rfl) ?_
  show qr_W (qe L xs vb) (d + 5) qx_e20 _ (0, [(0, .ref a), (1, .int (qz lv)), (2, .int (qz op))], [], qc w a ln at_ sz nm 0 t cd, 0, 0)
  have loop : ∀ (n : Nat) (i u at1 sz1 nm1 sk1 : Int) (cd1 : Nat → Int) (k : Nat) (P : (Nat → Int) → qtx_3), (0 ≤ i ∧ i ≤ 120 ∧ 120 - i < n) → ((lv = 2 ∧ i = 0 ∧ k = 1) ∨ (¬ lv = 2 ∧ (k : Int) = 120 - i)) → qRd ln P at_ sz nm cd at1 sz1 nm1 sk1 cd1 → (∀ N, qtx_lv t ln (fun b => qtx_on t ln N r b) (m + 1) at_ = qtx_lp t ln (fun b => qtx_lv t ln (fun b => qtx_on t ln N r b) m b) (4 - (m : Int)) k (P N)) → qr_W (qe L xs vb) (d + 5) qx_e20 (qpx w a ln t (fun N b => qtx_lv t ln (fun b => qtx_on t ln N r b) (m + 1) b) at_ sz nm cd) (21, [(3, .int (qz i)), (4, .int (qz u)), (0, .ref a), (1, .int (qz lv)), (2, .int (qz op))], [], qc w a ln at1 sz1 nm1 sk1 t cd1, 0, 0) := by
    intro n
    induction n with
    | zero => intro i u at1 sz1 nm1 sk1 cd1 k P h1 h2 hr0 hq; exact absurd h1 (by omega)
    | succ n ih =>
      intro i u at1 sz1 nm1 sk1 cd1 k P h1 hk2 hr0 hq
      have hr0b := hr0.1
      refine qr_iload_n 22 rfl rfl rfl ?_
      refine qr_bipush 24 rfl (by decide) rfl ?_
      refine qr_icmp_ge 91 27 rfl rfl rfl (by omega) (by omega) (fun h1 => ?_) (fun h1 => ?_)
      · skip
        refine qr_retV rfl rfl (Nat.zero_le _) (Nat.zero_le _) ?_
        first | exact ⟨rfl, _, _, _, _, _, rfl, qRd_cg hr0 (fun N => (hq N).trans (qtx_lp_x (hr0.2.1 N) (by omega)))⟩ | exact False.elim (by omega) | (have hk0 : k = 0 := (by omega); rw [hk0] at hq; exact ⟨rfl, _, _, _, _, _, rfl, qRd_cg hr0 (fun N => hq N)⟩)
      · skip
        refine qr_aload_n 28 rfl rfl rfl ?_
        refine qr_cget7 hi 31 rfl rfl ?_
        refine qr_if_ne 91 34 rfl rfl rfl (by omega) (fun h2 => ?_) (fun h2 => ?_)
        · skip
          refine qr_retV rfl rfl (Nat.zero_le _) (Nat.zero_le _) ?_
          first | exact ⟨rfl, _, _, _, _, _, rfl, qRd_cg hr0 (fun N => (hq N).trans (qtx_lp_x (hr0.2.1 N) (by omega)))⟩ | exact False.elim (by omega) | (have hk0 : k = 0 := (by omega); rw [hk0] at hq; exact ⟨rfl, _, _, _, _, _, rfl, qRd_cg hr0 (fun N => hq N)⟩)
        · skip
          have hz : sk1 = 0 := by omega
          subst hz
          obtain ⟨k1, rfl⟩ : ∃ k1, k = k1 + 1 := ⟨k - 1, by omega⟩
          refine qr_aload_n 35 rfl rfl rfl ?_
          refine qr_ccall (as := []) (rest := []) hi 38 rfl rfl (Nat.le_of_ble_eq_true rfl) rfl rfl (spx_next hi ht hl (by omega)) ?_
          rintro _ _ ⟨rfl, b3, rfl, hb4, rfl⟩
          simp only [Option.toList, List.cons_append, List.nil_append]
          have hc5r := qtx_c_b (a := at1) hb (by omega)
          have hc5c := qtx_c_c t ln at1
          refine qr_callN 41 rfl rfl rfl (spx_levelOf (by omega)) ?_
          rintro _ _ ⟨rfl, b6, rfl, rfl⟩
          simp only [Option.toList, List.drop, List.cons_append, List.nil_append]
          have hb7 := qtx_lo_c (qtx_c t ln at1)
          refine qr_iload_n 42 rfl rfl rfl ?_
          refine qr_icmp_ne 91 45 rfl rfl rfl (by omega) (by omega) (fun h8 => ?_) (fun h8 => ?_)
          · skip
            refine qr_retV rfl rfl (Nat.zero_le _) (Nat.zero_le _) ?_
            first | exact ⟨rfl, _, _, _, _, _, rfl, qRd_cg hr0 (fun N => (hq N).trans (qtx_lp_x (hr0.2.1 N) (by omega)))⟩ | exact False.elim (by omega) | (have hk0 : k = 0 := (by omega); rw [hk0] at hq; exact ⟨rfl, _, _, _, _, _, rfl, qRd_cg hr0 (fun N => hq N)⟩)
          · skip
            refine qr_aload_n 46 rfl rfl rfl ?_
            refine qr_ccall (as := []) (rest := []) hi 49 rfl rfl (Nat.le_of_ble_eq_true rfl) rfl rfl (spx_next hi ht hl (by omega)) ?_
            rintro _ _ ⟨rfl, b9, rfl, hb10, rfl⟩
            simp only [Option.toList, List.cons_append, List.nil_append]
            have hc11r := qtx_c_b (a := at1) hb (by omega)
            have hc11c := qtx_c_c t ln at1
            refine qr_istore [(4, .int (qz (qtx_c t ln at1))), (3, .int (qz i)), (0, .ref a), (1, .int (qz lv)), (2, .int (qz op))] 51 rfl (by decide) rfl rfl ?_
            refine qr_aload_n 52 rfl rfl rfl ?_
            refine qr_dup 53 rfl rfl rfl ?_
            refine qr_cget4 hi 56 rfl rfl ?_
            refine qr_iconst 57 rfl rfl ?_
            refine qr_iadd 58 rfl rfl ?_
            refine qr_cput4 hi 61 rfl rfl ?_
            refine qr_aload_n 62 rfl rfl rfl ?_
            refine qr_iload_n 63 rfl rfl rfl ?_
            refine qr_iconst 64 rfl rfl ?_
            refine qr_iadd 65 rfl rfl ?_
            refine qr_iload_n 66 rfl rfl rfl ?_
            refine qr_ccall (as := [.int (qz (lv + 1)), .int (qz op)]) (rest := []) hi 69 rfl rfl (Nat.le_of_ble_eq_true rfl) rfl rfl (ihp _ rfl _ _ _ _ (by omega)) ?_
            rintro _ _ ⟨rfl, at12, sz13, nm14, sk15, cd16, rfl, hr17⟩
            simp only [Option.toList, List.cons_append, List.nil_append]
            have hr17q : qRd ln (fun N => qtx_lv t ln (fun b => qtx_on t ln N r b) m (at1 + 1)) (at1 + 1) sz1 nm1 cd1 at12 sz13 nm14 sk15 cd16 := hr17
            have hr17b := hr17q.1
            refine qr_aload_n 70 rfl rfl rfl ?_
            refine qr_iload 72 rfl rfl rfl ?_
            refine qr_iconst 73 rfl rfl ?_
            refine qr_ccall (as := [.int (qz (qtx_c t ln at1)), .int (qz 0)]) (rest := []) hi 76 rfl rfl (Nat.le_of_ble_eq_true rfl) rfl rfl (spx_emit hi (by omega) (by omega) (by omega)) ?_
            rintro _ _ ⟨rfl, rfl⟩
            simp only [Option.toList, List.cons_append, List.nil_append]
            refine qr_pop 77 rfl rfl rfl ?_
            have hQ := qRd_bin (Q := fun N => qtx_cm (qtx_c t ln at1) (P N) (qtx_lv t ln (fun b => qtx_on t ln N r b) m (at1 + 1))) hr0 hr17q (by omega) (fun N => rfl)
            have hq2 : ∀ N, qtx_lv t ln (fun b => qtx_on t ln N r b) (m + 1) at_ = qtx_lp t ln (fun b => qtx_lv t ln (fun b => qtx_on t ln N r b) m b) (4 - (m : Int)) k1 (qtx_cm (qtx_c t ln at1) (P N) (qtx_lv t ln (fun b => qtx_on t ln N r b) m (at1 + 1))) := fun N => (hq N).trans (qtx_lp_n (hr0.2.1 N) (by omega))
            refine qr_iload_n 78 rfl rfl rfl ?_
            refine qr_iconst 79 rfl rfl ?_
            refine qr_icmp_ne 85 82 rfl rfl rfl (by omega) (by omega) (fun h18 => ?_) (fun h18 => ?_)
            · skip
              refine qr_iinc [(3, .int (qz (i + 1))), (4, .int (qz (qtx_c t ln at1))), (0, .ref a), (1, .int (qz lv)), (2, .int (qz op))] 88 rfl rfl (by decide) rfl rfl ?_
              refine qr_goto 21 rfl rfl ?_
              exact ih (i + 1) (qtx_c t ln at1) at12 (sz13 + 1) nm14 sk15 (qzu cd16 (sz13 : Int).toNat ((qtx_c t ln at1) * 65536 + 0)) k1 _ (by omega) (by omega) hQ hq2
            · skip
              refine qr_goto 91 rfl rfl ?_
              refine qr_retV rfl rfl (Nat.zero_le _) (Nat.zero_le _) ?_
              have hk0 : k1 = 0 := by omega
              subst hk0
              exact ⟨rfl, _, _, _, _, _, rfl, qRd_cg hQ (fun N => hq2 N)⟩
  refine qr_iload_n 1 rfl rfl rfl ?_
  refine qr_iconst 2 rfl rfl ?_
  refine qr_icmp_lt 11 5 rfl rfl rfl (by omega) (by omega) (fun h1 => ?_) (fun h1 => ?_)
  · skip
    refine qr_aload_n 12 rfl rfl rfl ?_
    refine qr_iload_n 13 rfl rfl rfl ?_
    refine qr_iconst 14 rfl rfl ?_
    refine qr_iadd 15 rfl rfl ?_
    refine qr_iload_n 16 rfl rfl rfl ?_
    refine qr_ccall (as := [.int (qz (lv + 1)), .int (qz op)]) (rest := []) hi 19 rfl rfl (Nat.le_of_ble_eq_true rfl) rfl rfl (ihp _ rfl _ _ _ _ (by omega)) ?_
    rintro _ _ ⟨rfl, at2, sz3, nm4, sk5, cd6, rfl, hr7⟩
    simp only [Option.toList, List.cons_append, List.nil_append]
    have hr7q : qRd ln (fun N => qtx_lv t ln (fun b => qtx_on t ln N r b) m at_) at_ sz nm cd at2 sz3 nm4 sk5 cd6 := hr7
    have hr7b := hr7q.1
    obtain ⟨k, hk⟩ : ∃ k : Nat, k = (if m = 2 then 1 else 120) := ⟨_, rfl⟩
    have hk2 : (lv = 2 ∧ (0 : Int) = 0 ∧ k = 1) ∨ (¬ lv = 2 ∧ (k : Int) = 120 - 0) := by rw [hk]; split <;> omega
    have hq : ∀ N, qtx_lv t ln (fun b => qtx_on t ln N r b) (m + 1) at_ = qtx_lp t ln (fun b => qtx_lv t ln (fun b => qtx_on t ln N r b) m b) (4 - (m : Int)) k (qtx_lv t ln (fun b => qtx_on t ln N r b) m at_) := fun N => by rw [hk]; rfl
    refine qr_iconst 20 rfl rfl ?_
    refine qr_istore_n [(3, .int (qz 0)), (0, .ref a), (1, .int (qz lv)), (2, .int (qz op))] 21 rfl (by decide) rfl rfl ?_
    refine qr_iload_n 22 rfl rfl rfl ?_
    refine qr_bipush 24 rfl (by decide) rfl ?_
    refine qr_icmp_ge 91 27 rfl rfl rfl (by omega) (by omega) (fun h8 => ?_) (fun h8 => ?_)
    · skip
      refine qr_retV rfl rfl (Nat.zero_le _) (Nat.zero_le _) ?_
      first | exact ⟨rfl, _, _, _, _, _, rfl, qRd_cg hr7q (fun N => (hq N).trans (qtx_lp_x (hr7q.2.1 N) (by omega)))⟩ | exact False.elim (by omega) | (have hk0 : k = 0 := (by omega); rw [hk0] at hq; exact ⟨rfl, _, _, _, _, _, rfl, qRd_cg hr7q (fun N => hq N)⟩)
    · skip
      refine qr_aload_n 28 rfl rfl rfl ?_
      refine qr_cget7 hi 31 rfl rfl ?_
      refine qr_if_ne 91 34 rfl rfl rfl (by omega) (fun h9 => ?_) (fun h9 => ?_)
      · skip
        refine qr_retV rfl rfl (Nat.zero_le _) (Nat.zero_le _) ?_
        first | exact ⟨rfl, _, _, _, _, _, rfl, qRd_cg hr7q (fun N => (hq N).trans (qtx_lp_x (hr7q.2.1 N) (by omega)))⟩ | exact False.elim (by omega) | (have hk0 : k = 0 := (by omega); rw [hk0] at hq; exact ⟨rfl, _, _, _, _, _, rfl, qRd_cg hr7q (fun N => hq N)⟩)
      · skip
        have hz : sk5 = 0 := by omega
        subst hz
        obtain ⟨k1, rfl⟩ : ∃ k1, k = k1 + 1 := ⟨k - 1, by omega⟩
        refine qr_aload_n 35 rfl rfl rfl ?_
        refine qr_ccall (as := []) (rest := []) hi 38 rfl rfl (Nat.le_of_ble_eq_true rfl) rfl rfl (spx_next hi ht hl (by omega)) ?_
        rintro _ _ ⟨rfl, b10, rfl, hb11, rfl⟩
        simp only [Option.toList, List.cons_append, List.nil_append]
        have hc12r := qtx_c_b (a := at2) hb (by omega)
        have hc12c := qtx_c_c t ln at2
        refine qr_callN 41 rfl rfl rfl (spx_levelOf (by omega)) ?_
        rintro _ _ ⟨rfl, b13, rfl, rfl⟩
        simp only [Option.toList, List.drop, List.cons_append, List.nil_append]
        have hb14 := qtx_lo_c (qtx_c t ln at2)
        refine qr_iload_n 42 rfl rfl rfl ?_
        refine qr_icmp_ne 91 45 rfl rfl rfl (by omega) (by omega) (fun h15 => ?_) (fun h15 => ?_)
        · skip
          refine qr_retV rfl rfl (Nat.zero_le _) (Nat.zero_le _) ?_
          first | exact ⟨rfl, _, _, _, _, _, rfl, qRd_cg hr7q (fun N => (hq N).trans (qtx_lp_x (hr7q.2.1 N) (by omega)))⟩ | exact False.elim (by omega) | (have hk0 : k = 0 := (by omega); rw [hk0] at hq; exact ⟨rfl, _, _, _, _, _, rfl, qRd_cg hr7q (fun N => hq N)⟩)
        · skip
          refine qr_aload_n 46 rfl rfl rfl ?_
          refine qr_ccall (as := []) (rest := []) hi 49 rfl rfl (Nat.le_of_ble_eq_true rfl) rfl rfl (spx_next hi ht hl (by omega)) ?_
          rintro _ _ ⟨rfl, b16, rfl, hb17, rfl⟩
          simp only [Option.toList, List.cons_append, List.nil_append]
          have hc18r := qtx_c_b (a := at2) hb (by omega)
          have hc18c := qtx_c_c t ln at2
          refine qr_istore [(4, .int (qz (qtx_c t ln at2))), (3, .int (qz 0)), (0, .ref a), (1, .int (qz lv)), (2, .int (qz op))] 51 rfl (by decide) rfl rfl ?_
          refine qr_aload_n 52 rfl rfl rfl ?_
          refine qr_dup 53 rfl rfl rfl ?_
          refine qr_cget4 hi 56 rfl rfl ?_
          refine qr_iconst 57 rfl rfl ?_
          refine qr_iadd 58 rfl rfl ?_
          refine qr_cput4 hi 61 rfl rfl ?_
          refine qr_aload_n 62 rfl rfl rfl ?_
          refine qr_iload_n 63 rfl rfl rfl ?_
          refine qr_iconst 64 rfl rfl ?_
          refine qr_iadd 65 rfl rfl ?_
          refine qr_iload_n 66 rfl rfl rfl ?_
          refine qr_ccall (as := [.int (qz (lv + 1)), .int (qz op)]) (rest := []) hi 69 rfl rfl (Nat.le_of_ble_eq_true rfl) rfl rfl (ihp _ rfl _ _ _ _ (by omega)) ?_
          rintro _ _ ⟨rfl, at19, sz20, nm21, sk22, cd23, rfl, hr24⟩
          simp only [Option.toList, List.cons_append, List.nil_append]
          have hr24q : qRd ln (fun N => qtx_lv t ln (fun b => qtx_on t ln N r b) m (at2 + 1)) (at2 + 1) sz3 nm4 cd6 at19 sz20 nm21 sk22 cd23 := hr24
          have hr24b := hr24q.1
          refine qr_aload_n 70 rfl rfl rfl ?_
          refine qr_iload 72 rfl rfl rfl ?_
          refine qr_iconst 73 rfl rfl ?_
          refine qr_ccall (as := [.int (qz (qtx_c t ln at2)), .int (qz 0)]) (rest := []) hi 76 rfl rfl (Nat.le_of_ble_eq_true rfl) rfl rfl (spx_emit hi (by omega) (by omega) (by omega)) ?_
          rintro _ _ ⟨rfl, rfl⟩
          simp only [Option.toList, List.cons_append, List.nil_append]
          refine qr_pop 77 rfl rfl rfl ?_
          have hQ := qRd_bin (Q := fun N => qtx_cm (qtx_c t ln at2) ((fun N => qtx_lv t ln (fun b => qtx_on t ln N r b) m at_) N) (qtx_lv t ln (fun b => qtx_on t ln N r b) m (at2 + 1))) hr7q hr24q (by omega) (fun N => rfl)
          have hq2 : ∀ N, qtx_lv t ln (fun b => qtx_on t ln N r b) (m + 1) at_ = qtx_lp t ln (fun b => qtx_lv t ln (fun b => qtx_on t ln N r b) m b) (4 - (m : Int)) k1 (qtx_cm (qtx_c t ln at2) ((fun N => qtx_lv t ln (fun b => qtx_on t ln N r b) m at_) N) (qtx_lv t ln (fun b => qtx_on t ln N r b) m (at2 + 1))) := fun N => (hq N).trans (qtx_lp_n (hr7q.2.1 N) (by omega))
          refine qr_iload_n 78 rfl rfl rfl ?_
          refine qr_iconst 79 rfl rfl ?_
          refine qr_icmp_ne 85 82 rfl rfl rfl (by omega) (by omega) (fun h25 => ?_) (fun h25 => ?_)
          · skip
            refine qr_iinc [(3, .int (qz (0 + 1))), (4, .int (qz (qtx_c t ln at2))), (0, .ref a), (1, .int (qz lv)), (2, .int (qz op))] 88 rfl rfl (by decide) rfl rfl ?_
            refine qr_goto 21 rfl rfl ?_
            exact loop 121 (0 + 1) (qtx_c t ln at2) at19 (sz20 + 1) nm21 sk22 (qzu cd23 (sz20 : Int).toNat ((qtx_c t ln at2) * 65536 + 0)) k1 _ (by omega) (by omega) hQ hq2
          · skip
            refine qr_goto 91 rfl rfl ?_
            refine qr_retV rfl rfl (Nat.zero_le _) (Nat.zero_le _) ?_
            have hk0 : k1 = 0 := by omega
            subst hk0
            exact ⟨rfl, _, _, _, _, _, rfl, qRd_cg hQ (fun N => hq2 N)⟩
  · skip
    exact False.elim (by omega)

/-- operands and parts, by their measure -/
theorem spx_both {L : Nat} {xs : Nat → Int} {vb : Bool} {d : Nat} (mm : Nat) :
    (∀ (w : qm_W) (a : Nat) (ln at_ sz nm : Int) (t cd : Nat → Int) (op : Int) (r : Nat), qc_in w a → (∀ j, -2147483648 ≤ t j ∧ t j ≤ 2147483647) → (∀ j : Nat, (j : Int) < ln → 0 ≤ t j ∧ t j ≤ 255) → (0 ≤ ln ∧ ln ≤ 120) → (0 ≤ at_ ∧ at_ ≤ ln ∧ 0 ≤ sz ∧ sz + ln - at_ ≤ 121 ∧ -2147483648 ≤ nm ∧ nm ≤ 2147483647) → (0 ≤ op ∧ op ≤ 6 ∧ (r : Int) = 6 - op ∧ (6 - op) * 7 < mm) → qm_T (qe L xs vb) (d + mm + 5) 21 [.ref a, .int (qz op)] (qc w a ln at_ sz nm 0 t cd) (qpx w a ln t (fun N b => qtx_on t ln N r b) at_ sz nm cd)) ∧
    (∀ (w : qm_W) (a : Nat) (ln at_ sz nm : Int) (t cd : Nat → Int) (lv op : Int) (r m : Nat), qc_in w a → (∀ j, -2147483648 ≤ t j ∧ t j ≤ 2147483647) → (∀ j : Nat, (j : Int) < ln → 0 ≤ t j ∧ t j ≤ 255) → (0 ≤ ln ∧ ln ≤ 120) → (0 ≤ at_ ∧ at_ ≤ ln ∧ 0 ≤ sz ∧ sz + ln - at_ ≤ 121 ∧ -2147483648 ≤ nm ∧ nm ≤ 2147483647) → (0 ≤ op ∧ op ≤ 6 ∧ 0 ≤ lv ∧ lv ≤ 5 ∧ (m : Int) = 5 - lv ∧ (r : Int) = 6 - op ∧ (6 - op) * 7 + 6 - lv < mm) → qm_T (qe L xs vb) (d + mm + 5) 20 [.ref a, .int (qz lv), .int (qz op)] (qc w a ln at_ sz nm 0 t cd) (qpx w a ln t (fun N b => qtx_lv t ln (fun b => qtx_on t ln N r b) m b) at_ sz nm cd)) := by
  induction mm with
  | zero => exact ⟨fun w a ln at_ sz nm t cd op r _ _ _ _ _ h => absurd h (by omega), fun w a ln at_ sz nm t cd lv op r m _ _ _ _ _ h => absurd h (by omega)⟩
  | succ mm ih =>
    obtain ⟨ihO, ihP⟩ := ih
    have e : d + (mm + 1) + 5 = d + mm + 6 := by omega
    rw [e]
    constructor
    · intro w a ln at_ sz nm t cd op r hi ht hb hl h0 hm
      refine spx_opS (d := d + mm) hi ht hb hl h0 ⟨by omega, by omega, by omega⟩ ?_ ?_
      · intro h v hv at1 sz1 nm1 cd1 hb1
        exact ihO w a ln at1 sz1 nm1 t cd1 v (r - 1) hi ht hb hl hb1 (by omega)
      · intro h v hv at1 sz1 nm1 cd1 hb1
        exact ihP w a ln at1 sz1 nm1 t cd1 0 v (r - 1) 5 hi ht hb hl hb1 (by omega)
    · intro w a ln at_ sz nm t cd lv op r m hi ht hb hl h0 hm
      by_cases h5 : lv = 5
      · have hm0 : m = 0 := by omega
        subst hm0
        refine spx_part5 (d := d + mm) hi ht hb hl h0 h5 ?_
        intro at1 sz1 nm1 cd1 hb1
        exact ihO w a ln at1 sz1 nm1 t cd1 op r hi ht hb hl hb1 (by omega)
      · obtain ⟨m, rfl⟩ : ∃ m', m = m' + 1 := ⟨m - 1, by omega⟩
        refine spx_partS (d := d + mm) hi ht hb hl h0 ⟨by omega, by omega, by omega⟩ ?_
        intro v hv at1 sz1 nm1 cd1 hb1
        exact ihP w a ln at1 sz1 nm1 t cd1 v op r m hi ht hb hl hb1 (by omega)

theorem spx_part0 {L : Nat} {xs : Nat → Int} {vb : Bool} {d : Nat} {w : qm_W} {a : Nat} {ln at_ sz nm : Int} {t cd : Nat → Int} (hi : qc_in w a) (ht : ∀ j, -2147483648 ≤ t j ∧ t j ≤ 2147483647) (hb : ∀ j : Nat, (j : Int) < ln → 0 ≤ t j ∧ t j ≤ 255) (hl : 0 ≤ ln ∧ ln ≤ 120) (h0 : 0 ≤ at_ ∧ at_ ≤ ln ∧ 0 ≤ sz ∧ sz + ln - at_ ≤ 121 ∧ -2147483648 ≤ nm ∧ nm ≤ 2147483647) : qm_T (qe L xs vb) (d + 54) 20 [.ref a, .int (qz 0), .int (qz 0)] (qc w a ln at_ sz nm 0 t cd) (qpx w a ln t (fun N b => qtx_E t ln N 6 b) at_ sz nm cd) :=
  (spx_both (d := d) 49).2 w a ln at_ sz nm t cd 0 0 6 5 hi ht hb hl h0 (by omega)

set_option maxHeartbeats 4000000 in
set_option maxRecDepth 20000 in
theorem spx_line {L : Nat} {xs : Nat → Int} {vb : Bool} {d : Nat} {w : qm_W} {a : Nat} {ln at_ sz nm : Int} {t cd : Nat → Int} (hi : qc_in w a) (ht : ∀ j, -2147483648 ≤ t j ∧ t j ≤ 2147483647) (hb : ∀ j : Nat, (j : Int) < ln → 0 ≤ t j ∧ t j ≤ 255) (hl : 0 ≤ ln ∧ ln ≤ 120) (h0 : 0 ≤ at_ ∧ at_ ≤ ln ∧ 0 ≤ sz ∧ sz + ln - at_ ≤ 120 ∧ -2147483648 ≤ nm ∧ nm ≤ 2147483647) : qm_T (qe L xs vb) (d + 55) 19 [.ref a] (qc w a ln at_ sz nm 0 t cd) (fun r w' => r = none ∧ ∃ (at2 sz2 nm2 sk2 : Int) (cd2 : Nat → Int), w' = qc w a ln at2 sz2 nm2 sk2 t cd2 ∧ qRl ln (fun N => qtx_ln t ln (qtx_E t ln N 6) at_) at_ sz nm cd at2 sz2 nm2 sk2 cd2) := by
  refine qr_start (d := d + 54) qv_e19 (Nat.le_of_ble_eq_true rfl) ?_
  show qr_W (qe L xs vb) (d + 54) qx_e19 _ (0, [(0, .ref a)], [], qc w a ln at_ sz nm 0 t cd, 0, 0)
  refine qr_aload_n 1 rfl rfl rfl ?_
  refine qr_iconst 2 rfl rfl ?_
  refine qr_iconst 3 rfl rfl ?_
  refine qr_ccall (as := [.int (qz 0), .int (qz 0)]) (rest := []) hi 6 rfl rfl (Nat.le_of_ble_eq_true rfl) rfl rfl (spx_part0 hi ht hb hl (by omega)) ?_
  rintro _ _ ⟨rfl, at1, sz2, nm3, sk4, cd5, rfl, hr6⟩
  simp only [Option.toList, List.cons_append, List.nil_append]
  have hr6q : qRd ln (fun N => qtx_E t ln N 6 at_) at_ sz nm cd at1 sz2 nm3 sk4 cd5 := hr6
  have hr6b := hr6q.1
  refine qr_aload_n 7 rfl rfl rfl ?_
  refine qr_cget7 hi 10 rfl rfl ?_
  refine qr_if_ne 22 13 rfl rfl rfl (by omega) (fun h7 => ?_) (fun h7 => ?_)
  · skip
    refine qr_aload_n 23 rfl rfl rfl ?_
    refine qr_bipush 25 rfl (by decide) rfl ?_
    refine qr_iconst 26 rfl rfl ?_
    refine qr_ccall (as := [.int (qz 59), .int (qz 0)]) (rest := []) hi 29 rfl rfl (Nat.le_of_ble_eq_true rfl) rfl rfl (spx_emit hi (by omega) (by omega) (by omega)) ?_
    rintro _ _ ⟨rfl, rfl⟩
    simp only [Option.toList, List.cons_append, List.nil_append]
    refine qr_pop 30 rfl rfl rfl ?_
    refine qr_retV rfl rfl (Nat.zero_le _) (Nat.zero_le _) ?_
    exact ⟨rfl, _, _, _, _, _, rfl, qRl_pl (T := t) (E := fun N => qtx_E t ln N 6) hl.2 hr6q (by omega)⟩
  · skip
    refine qr_aload_n 14 rfl rfl rfl ?_
    refine qr_ccall (as := []) (rest := []) hi 17 rfl rfl (Nat.le_of_ble_eq_true rfl) rfl rfl (spx_next hi ht hl (by omega)) ?_
    rintro _ _ ⟨rfl, b8, rfl, hb9, rfl⟩
    simp only [Option.toList, List.cons_append, List.nil_append]
    have hc10r := qtx_c_b (a := at1) hb (by omega)
    have hc10c := qtx_c_c t ln at1
    refine qr_bipush 19 rfl (by decide) rfl ?_
    refine qr_icmp_eq 31 22 rfl rfl rfl (by omega) (by omega) (fun h11 => ?_) (fun h11 => ?_)
    · skip
      have hz : sk4 = 0 := by omega
      subst hz
      refine qr_aload_n 32 rfl rfl rfl ?_
      refine qr_dup 33 rfl rfl rfl ?_
      refine qr_cget4 hi 36 rfl rfl ?_
      refine qr_iconst 37 rfl rfl ?_
      refine qr_iadd 38 rfl rfl ?_
      refine qr_cput4 hi 41 rfl rfl ?_
      refine qr_aload_n 42 rfl rfl rfl ?_
      refine qr_bipush 44 rfl (by decide) rfl ?_
      refine qr_iconst 45 rfl rfl ?_
      refine qr_ccall (as := [.int (qz 63), .int (qz 0)]) (rest := []) hi 48 rfl rfl (Nat.le_of_ble_eq_true rfl) rfl rfl (spx_emit hi (by omega) (by omega) (by omega)) ?_
      rintro _ _ ⟨rfl, rfl⟩
      simp only [Option.toList, List.cons_append, List.nil_append]
      refine qr_istore_n [(1, .int (qz sz2)), (0, .ref a)] 49 rfl (by decide) rfl rfl ?_
      refine qr_aload_n 50 rfl rfl rfl ?_
      refine qr_iconst 51 rfl rfl ?_
      refine qr_iconst 52 rfl rfl ?_
      refine qr_ccall (as := [.int (qz 0), .int (qz 0)]) (rest := []) hi 55 rfl rfl (Nat.le_of_ble_eq_true rfl) rfl rfl (spx_part0 hi ht hb hl (by omega)) ?_
      rintro _ _ ⟨rfl, at12, sz13, nm14, sk15, cd16, rfl, hr17⟩
      simp only [Option.toList, List.cons_append, List.nil_append]
      have hr17q : qRd ln (fun N => qtx_E t ln N 6 (at1 + 1)) (at1 + 1) (sz2 + 1) nm3 (qzu cd5 (sz2 : Int).toNat (63 * 65536 + 0)) at12 sz13 nm14 sk15 cd16 := hr17
      have hr17b := hr17q.1
      refine qr_aload_n 56 rfl rfl rfl ?_
      refine qr_bipush 58 rfl (by decide) rfl ?_
      refine qr_iconst 59 rfl rfl ?_
      refine qr_ccall (as := [.int (qz 59), .int (qz 0)]) (rest := []) hi 62 rfl rfl (Nat.le_of_ble_eq_true rfl) rfl rfl (spx_emit hi (by omega) (by omega) (by omega)) ?_
      rintro _ _ ⟨rfl, rfl⟩
      simp only [Option.toList, List.cons_append, List.nil_append]
      refine qr_pop 63 rfl rfl rfl ?_
      refine qr_aload_n 64 rfl rfl rfl ?_
      refine qr_cget1 hi 67 rfl rfl ?_
      refine qr_iload_n 68 rfl rfl rfl ?_
      refine qr_ldc 4128768 70 rfl (by decide) rfl ?_
      refine qr_aload_n 71 rfl rfl rfl ?_
      refine qr_cget5 hi 74 rfl rfl ?_
      refine qr_ior 75 rfl rfl ?_
      refine qy_v (63 * 65536 + (sz13 + 1)) (qtx_em2 (by omega)) ?_
      refine qr_ccstore hi 76 rfl (by omega) rfl ?_
      refine qr_retV rfl rfl (Nat.zero_le _) (Nat.zero_le _) ?_
      exact ⟨rfl, _, _, _, _, _, rfl, qRl_if (T := t) (E := fun N => qtx_E t ln N 6) hl.2 (by omega) hr6q (by omega) hr17q⟩
    · skip
      refine qr_aload_n 23 rfl rfl rfl ?_
      refine qr_bipush 25 rfl (by decide) rfl ?_
      refine qr_iconst 26 rfl rfl ?_
      refine qr_ccall (as := [.int (qz 59), .int (qz 0)]) (rest := []) hi 29 rfl rfl (Nat.le_of_ble_eq_true rfl) rfl rfl (spx_emit hi (by omega) (by omega) (by omega)) ?_
      rintro _ _ ⟨rfl, rfl⟩
      simp only [Option.toList, List.cons_append, List.nil_append]
      refine qr_pop 30 rfl rfl rfl ?_
      refine qr_retV rfl rfl (Nat.zero_le _) (Nat.zero_le _) ?_
      exact ⟨rfl, _, _, _, _, _, rfl, qRl_pl (T := t) (E := fun N => qtx_E t ln N 6) hl.2 hr6q (by omega)⟩

set_option maxHeartbeats 4000000 in
set_option maxRecDepth 20000 in
theorem spx_lines {L : Nat} {xs : Nat → Int} {vb : Bool} {d : Nat} {w : qm_W} {a : Nat} {ln at_ sz nm sk : Int} {t cd : Nat → Int} (hi : qc_in w a) (ht : ∀ j, -2147483648 ≤ t j ∧ t j ≤ 2147483647) (hb : ∀ j : Nat, (j : Int) < ln → 0 ≤ t j ∧ t j ≤ 255) (hl : 0 ≤ ln ∧ ln ≤ 120) : qm_T (qe L xs vb) (d + 56) 18 [.ref a] (qc w a ln at_ sz nm sk t cd) (fun r w' => ∃ (v at2 sz2 nm2 sk2 : Int) (cd2 : Nat → Int), r = some (.int (qz v)) ∧ w' = qc w a ln at2 sz2 nm2 sk2 t cd2 ∧ (0 ≤ at2 ∧ at2 ≤ ln ∧ 0 ≤ sz2 ∧ sz2 ≤ 122 ∧ -2147483648 ≤ nm2 ∧ nm2 ≤ 2147483647 ∧ (sk2 = 0 ∨ sk2 = 1) ∧ -1 ≤ v ∧ v ≤ 120) ∧ qRt ln t v sz2 nm2 cd2) := by
  refine qr_start (d := d + 55) qv_e18 (Nat.le_of_ble_eq_true rfl) ?_
  show qr_W (qe L xs vb) (d + 55) qx_e18 _ (0, [(0, .ref a)], [], qc w a ln at_ sz nm sk t cd, 0, 0)
  have loop : ∀ (n : Nat) (i at1 sz1 nm1 : Int) (cd1 : Nat → Int), (i + n = 121 ∧ 0 ≤ i ∧ i ≤ at1) → (-2147483648 ≤ nm1 ∧ nm1 ≤ 2147483647) → qRs ln t n at1 sz1 nm1 cd1 → qr_W (qe L xs vb) (d + 55) qx_e18 (fun r w' => ∃ (v at2 sz2 nm2 sk2 : Int) (cd2 : Nat → Int), r = some (.int (qz v)) ∧ w' = qc w a ln at2 sz2 nm2 sk2 t cd2 ∧ (0 ≤ at2 ∧ at2 ≤ ln ∧ 0 ≤ sz2 ∧ sz2 ≤ 122 ∧ -2147483648 ≤ nm2 ∧ nm2 ≤ 2147483647 ∧ (sk2 = 0 ∨ sk2 = 1) ∧ -1 ≤ v ∧ v ≤ 120) ∧ qRt ln t v sz2 nm2 cd2) (22, [(1, .int (qz i)), (0, .ref a)], [], qc w a ln at1 sz1 nm1 0 t cd1, 0, 0) := by
    intro n
    induction n with
    | zero => intro i at1 sz1 nm1 cd1 h1 h2 hs; have hsb := hs.1; exact False.elim (by omega)
    | succ n ih =>
      intro i at1 sz1 nm1 cd1 h1 h2 hs
      have hsb := hs.1
      refine qr_iload_n 23 rfl rfl rfl ?_
      refine qr_bipush 25 rfl (by decide) rfl ?_
      refine qr_icmp_gt 72 28 rfl rfl rfl (by omega) (by omega) (fun h1 => ?_) (fun h1 => ?_)
      · skip
        refine qr_aload_n 73 rfl rfl rfl ?_
        refine qr_cget7 hi 76 rfl rfl ?_
        refine qr_if_eq 86 79 rfl rfl rfl (by omega) (fun _ => ?_) (fun h => False.elim (by omega))
        refine qr_iconst 87 rfl rfl ?_
        refine qr_retI rfl rfl (Nat.zero_le _) (Nat.zero_le _) ?_
        exact False.elim (by omega)
      · skip
        refine qr_aload_n 29 rfl rfl rfl ?_
        refine qr_cget7 hi 32 rfl rfl ?_
        refine qr_if_ne 72 35 rfl rfl rfl (by omega) (fun h => False.elim (by omega)) (fun _ => ?_)
        refine qr_aload_n 36 rfl rfl rfl ?_
        refine qr_ccall (as := []) (rest := []) hi 39 rfl rfl (Nat.le_of_ble_eq_true rfl) rfl rfl (spx_line hi ht hb hl (by omega)) ?_
        rintro _ _ ⟨rfl, at2, sz3, nm4, sk5, cd6, rfl, hr7⟩
        simp only [Option.toList, List.cons_append, List.nil_append]
        have hr7q : qRl ln (fun N => qtx_ln t ln (qtx_E t ln N 6) at1) at1 sz1 nm1 cd1 at2 sz3 nm4 sk5 cd6 := hr7
        have hr7b := hr7q.1
        refine qr_aload_n 40 rfl rfl rfl ?_
        refine qr_cget7 hi 43 rfl rfl ?_
        refine qr_if_ne 72 46 rfl rfl rfl (by omega) (fun h8 => ?_) (fun h8 => ?_)
        · skip
          refine qr_aload_n 73 rfl rfl rfl ?_
          refine qr_cget7 hi 76 rfl rfl ?_
          refine qr_if_eq 86 79 rfl rfl rfl (by omega) (fun h9 => ?_) (fun h9 => ?_)
          · skip
            refine qr_iconst 87 rfl rfl ?_
            refine qr_retI rfl rfl (Nat.zero_le _) (Nat.zero_le _) ?_
            first | exact False.elim (by omega) | (have hz : sk5 = 0 := (by omega); rw [hz] at hr7q; exact ⟨_, _, _, _, _, _, rfl, rfl, by omega, qRs_end hs hr7q (by omega)⟩)
          · skip
            refine qr_aload_n 80 rfl rfl rfl ?_
            refine qr_cget4 hi 83 rfl rfl ?_
            refine qr_goto 87 rfl rfl ?_
            refine qr_retI rfl rfl (Nat.zero_le _) (Nat.zero_le _) ?_
            first | exact ⟨_, _, _, _, _, _, rfl, rfl, by omega, qRs_bad hs hr7q (by omega) _ _ _⟩ | exact False.elim (by omega)
        · skip
          refine qr_aload_n 47 rfl rfl rfl ?_
          refine qr_cget4 hi 50 rfl rfl ?_
          refine qr_aload_n 51 rfl rfl rfl ?_
          refine qr_cget3 hi 54 rfl rfl ?_
          refine qr_icmp_lt 60 57 rfl rfl rfl (by omega) (by omega) (fun h10 => ?_) (fun h10 => ?_)
          · skip
            refine qr_aload_n 61 rfl rfl rfl ?_
            refine qr_bipush 63 rfl (by decide) rfl ?_
            refine qr_ccall (as := [.int (qz 59)]) (rest := []) hi 66 rfl rfl (Nat.le_of_ble_eq_true rfl) rfl rfl (spx_pass hi ht hl (by omega) (by decide)) ?_
            rintro _ _ ⟨rfl, at11, sk12, rfl, hp13⟩
            simp only [Option.toList, List.cons_append, List.nil_append]
            rcases hp13 with ⟨hpa, hpb, rfl, rfl⟩ | ⟨hpn, rfl, rfl⟩
            · skip
              subst hpa
              refine qr_iinc [(1, .int (qz (i + 1))), (0, .ref a)] 69 rfl rfl (by decide) rfl rfl ?_
              refine qr_goto 22 rfl rfl ?_
              exact ih (i + 1) (at2 + 1) sz3 nm4 cd6 (by omega) (by omega) (qRs_go hs hr7q hpb)
            · skip
              refine qr_iinc [(1, .int (qz (i + 1))), (0, .ref a)] 69 rfl rfl (by decide) rfl rfl ?_
              refine qr_goto 22 rfl rfl ?_
              refine qr_iload_n 23 rfl rfl rfl ?_
              refine qr_bipush 25 rfl (by decide) rfl ?_
              refine qr_icmp_gt 72 28 rfl rfl rfl (by omega) (by omega) (fun h14 => ?_) (fun h14 => ?_)
              · skip
                refine qr_aload_n 73 rfl rfl rfl ?_
                refine qr_cget7 hi 76 rfl rfl ?_
                refine qr_if_eq 86 79 rfl rfl rfl (by omega) (fun h => False.elim (by omega)) (fun _ => ?_)
                refine qr_aload_n 80 rfl rfl rfl ?_
                refine qr_cget4 hi 83 rfl rfl ?_
                refine qr_goto 87 rfl rfl ?_
                refine qr_retI rfl rfl (Nat.zero_le _) (Nat.zero_le _) ?_
                first | exact ⟨_, _, _, _, _, _, rfl, rfl, by omega, qRs_bad hs hr7q (by omega) _ _ _⟩ | exact False.elim (by omega)
              · skip
                refine qr_aload_n 29 rfl rfl rfl ?_
                refine qr_cget7 hi 32 rfl rfl ?_
                refine qr_if_ne 72 35 rfl rfl rfl (by omega) (fun _ => ?_) (fun h => False.elim (by omega))
                refine qr_aload_n 73 rfl rfl rfl ?_
                refine qr_cget7 hi 76 rfl rfl ?_
                refine qr_if_eq 86 79 rfl rfl rfl (by omega) (fun h => False.elim (by omega)) (fun _ => ?_)
                refine qr_aload_n 80 rfl rfl rfl ?_
                refine qr_cget4 hi 83 rfl rfl ?_
                refine qr_goto 87 rfl rfl ?_
                refine qr_retI rfl rfl (Nat.zero_le _) (Nat.zero_le _) ?_
                first | exact ⟨_, _, _, _, _, _, rfl, rfl, by omega, qRs_bad hs hr7q (by omega) _ _ _⟩ | exact False.elim (by omega)
          · skip
            refine qr_goto 72 rfl rfl ?_
            refine qr_aload_n 73 rfl rfl rfl ?_
            refine qr_cget7 hi 76 rfl rfl ?_
            refine qr_if_eq 86 79 rfl rfl rfl (by omega) (fun h15 => ?_) (fun h15 => ?_)
            · skip
              refine qr_iconst 87 rfl rfl ?_
              refine qr_retI rfl rfl (Nat.zero_le _) (Nat.zero_le _) ?_
              first | exact False.elim (by omega) | (have hz : sk5 = 0 := (by omega); rw [hz] at hr7q; exact ⟨_, _, _, _, _, _, rfl, rfl, by omega, qRs_end hs hr7q (by omega)⟩)
            · skip
              refine qr_aload_n 80 rfl rfl rfl ?_
              refine qr_cget4 hi 83 rfl rfl ?_
              refine qr_goto 87 rfl rfl ?_
              refine qr_retI rfl rfl (Nat.zero_le _) (Nat.zero_le _) ?_
              first | exact ⟨_, _, _, _, _, _, rfl, rfl, by omega, qRs_bad hs hr7q (by omega) _ _ _⟩ | exact False.elim (by omega)
  refine qr_aload_n 1 rfl rfl rfl ?_
  refine qr_iconst 2 rfl rfl ?_
  refine qr_cput4 hi 5 rfl rfl ?_
  refine qr_aload_n 6 rfl rfl rfl ?_
  refine qr_iconst 7 rfl rfl ?_
  refine qr_cput5 hi 10 rfl rfl ?_
  refine qr_aload_n 11 rfl rfl rfl ?_
  refine qr_iconst 12 rfl rfl ?_
  refine qr_cput6 hi 15 rfl rfl ?_
  refine qr_aload_n 16 rfl rfl rfl ?_
  refine qr_iconst 17 rfl rfl ?_
  refine qr_cput7 hi (by omega) 20 rfl rfl ?_
  refine qr_iconst 21 rfl rfl ?_
  refine qr_istore_n [(1, .int (qz 0)), (0, .ref a)] 22 rfl (by decide) rfl rfl ?_
  exact loop 121 0 0 0 0 cd (by omega) (by omega) (qRs_0 t 0 cd hl)
end
section
/-! the same text gone through by the reference -/
def qRes (X : qtx_3) (v a fa : Int) : Prop := (X.2.2 = 0 ∧ v = X.1 ∧ a = X.2.1 ∧ fa = -1) ∨ (X.2.2 = 1 ∧ a = X.2.1 ∧ fa = X.2.1)
def qLI (T : Nat → Int) (n : Int) (sub : Int → qtx_3) (l : Int) (G : qtx_3) (u a fa : Int) : Prop := (fa = -1 ∧ ∃ k : Nat, G = qtx_lp T n sub l k (u, a, 0) ∧ n - a ≤ (k : Int)) ∨ (0 ≤ fa ∧ G.2.2 = 1 ∧ G.2.1 = a ∧ fa = a)
theorem qRes_eq {X : qtx_3} {v a : Int} (h : qRes X v a (-1)) (ha : 0 ≤ a) : X = (v, a, 0) := by
  rcases h with ⟨h1, h2, h3, _⟩ | ⟨_, h2, h3⟩
  · rw [h2, h3, ← h1]
  · exact False.elim (by omega)
theorem qRes_f {X : qtx_3} {v a fa : Int} (h : qRes X v a fa) (hf : 0 ≤ fa) : X.2.2 = 1 ∧ X.2.1 = a ∧ fa = a := by
  rcases h with ⟨_, _, _, h4⟩ | ⟨h1, h2, h3⟩
  · exact False.elim (by omega)
  · exact ⟨h1, h2.symm, by omega⟩
theorem qRes_ok {X : qtx_3} {v a : Int} (h : X = (v, a, 0)) : qRes X v a (-1) := by
  rw [h]
  exact Or.inl ⟨rfl, rfl, rfl, rfl⟩
theorem qRes_bad {X : qtx_3} {a : Int} (v : Int) (h : X.2.2 = 1 ∧ X.2.1 = a) : qRes X v a a := Or.inr ⟨h.1, h.2.symm, h.2.symm⟩
theorem qRes_fa {X : qtx_3} {v a fa : Int} (h : qRes X v a fa) (ha : 0 ≤ a) : fa = -1 ∨ (0 ≤ fa ∧ fa = a) := by
  rcases h with ⟨_, _, _, h4⟩ | ⟨_, h2, h3⟩
  · exact Or.inl h4
  · exact Or.inr ⟨by omega, by omega⟩
theorem qLI_0 {T : Nat → Int} {n : Int} {sub : Int → qtx_3} {l a0 v a fa : Int} (h : qRes (sub a0) v a fa) (ha : 0 ≤ a ∧ n - a ≤ 120) : qLI T n sub l (qtx_lp T n sub l 120 (sub a0)) v a fa := by
  rcases qRes_fa h ha.1 with rfl | ⟨f1, f2⟩
  · refine Or.inl ⟨rfl, 120, ?_, by omega⟩
    rw [qRes_eq h ha.1]
  · have hf := qRes_f h f1
    refine Or.inr ⟨f1, ?_⟩
    rw [qtx_lp_st (by rw [hf.1]; omega)]
    exact hf
theorem qLI_s {T : Nat → Int} {n : Int} {sub : Int → qtx_3} {l u a w a2 fa2 u2 : Int} {G : qtx_3} (h : qLI T n sub l G u a (-1)) (ha : 0 ≤ a) (hl0 : 0 ≤ l) (hl : qtx_lo (qtx_c T n a) = l) (hw : qRes (sub (a + 1)) w a2 fa2) (hm : a + 1 ≤ a2) (hu : fa2 = -1 → u2 = qtx_ap (qtx_c T n a) u w) : qLI T n sub l G u2 a2 fa2 := by
  have hc := qtx_c_c T n a
  have hq := qtx_lo_c (qtx_c T n a)
  rcases h with ⟨_, k, e, hk⟩ | ⟨h0, _⟩
  · obtain ⟨k, rfl⟩ : ∃ m, k = m + 1 := ⟨k - 1, by omega⟩
    have e1 : G = qtx_lp T n sub l k (qtx_cm (qtx_c T n a) (u, a, 0) (sub (a + 1))) := e.trans (qtx_lp_go ⟨rfl, hl⟩)
    rcases qRes_fa hw (by omega) with rfl | ⟨f1, f2⟩
    · refine Or.inl ⟨rfl, k, ?_, by omega⟩
      rw [e1, qRes_eq hw (by omega), hu rfl]
      rfl
    · have hf := qRes_f hw f1
      have e2 : G = qtx_cm (qtx_c T n a) (u, a, 0) (sub (a + 1)) := e1.trans (qtx_lp_st (fun z => by
        have z1 : (sub (a + 1)).2.2 = 0 := z.1
        omega))
      rw [e2]
      exact Or.inr ⟨f1, hf⟩
  · exact absurd h0 (by decide)
theorem qLI_e {T : Nat → Int} {n : Int} {sub : Int → qtx_3} {l u a fa : Int} {G : qtx_3} (h : qLI T n sub l G u a fa) (he : fa = -1 → ¬ qtx_lo (qtx_c T n a) = l) : qRes G u a fa := by
  rcases h with ⟨h1, k, e, _⟩ | ⟨h1, h2, h3, h4⟩
  · have e2 : G = (u, a, 0) := e.trans (qtx_lp_st (fun z => he h1 z.2))
    rw [h1]
    exact qRes_ok e2
  · rw [h4]
    exact qRes_bad u ⟨h2, h3⟩
theorem qC1_e {T : Nat → Int} {n : Int} {sub : Int → qtx_3} {l a0 v a fa : Int} (h : qRes (sub a0) v a fa) (ha : 0 ≤ a) (he : fa = -1 → ¬ qtx_lo (qtx_c T n a) = l) : qRes (qtx_lp T n sub l 1 (sub a0)) v a fa := by
  rcases qRes_fa h ha with rfl | ⟨f1, f2⟩
  · have e := qRes_eq h ha
    rw [e]
    exact qRes_ok (qtx_lp_st (fun z => he rfl z.2))
  · have hf := qRes_f h f1
    rw [qtx_lp_st (by rw [hf.1]; omega)]
    exact h
theorem qC1_s {T : Nat → Int} {n : Int} {sub : Int → qtx_3} {l a0 v a w a2 fa2 u2 : Int} (h : qRes (sub a0) v a (-1)) (ha : 0 ≤ a) (hl : qtx_lo (qtx_c T n a) = l) (hw : qRes (sub (a + 1)) w a2 fa2) (hm : a + 1 ≤ a2) (hu : fa2 = -1 → u2 = qtx_ap (qtx_c T n a) v w) : qRes (qtx_lp T n sub l 1 (sub a0)) u2 a2 fa2 := by
  have e1 : qtx_lp T n sub l 1 (sub a0) = qtx_cm (qtx_c T n a) (v, a, 0) (sub (a + 1)) := by
    rw [qRes_eq h ha]
    exact qtx_lp_go ⟨rfl, hl⟩
  rw [e1]
  rcases qRes_fa hw (by omega) with rfl | ⟨f1, f2⟩
  · rw [qRes_eq hw (by omega), hu rfl]
    exact qRes_ok rfl
  · have hf := qRes_f hw f1
    rw [hf.2.2]
    exact qRes_bad u2 ⟨hf.1, hf.2.1⟩
theorem qtx_can {v y : Int} (h : qz v = qz y) (hv : -2147483648 ≤ v ∧ v ≤ 2147483647) : v = (qz y).toInt := by rw [← h, qz_ti hv]
/-- operands -/
theorem qO_b {T : Nat → Int} {n : Int} {N : Nat → Int} {r : Nat} {a : Int} (v : Int) (h : (r = 0 ∧ (qtx_c T n a = 40 ∨ qtx_c T n a = 33 ∨ qtx_c T n a = 45)) ∨ (¬ qtx_c T n a = 40 ∧ ¬ qtx_c T n a = 33 ∧ ¬ qtx_c T n a = 45 ∧ qtx_nm (qtx_c T n a) < 0 ∧ ¬ (48 ≤ qtx_c T n a ∧ qtx_c T n a ≤ 57))) : qRes (qtx_on T n N r a) v a a := by
  have hn := qtx_nm_c (qtx_c T n a)
  refine qRes_bad v ?_
  rw [qtx_on_o (by omega), qtx_oo_b (by omega) (by omega)]
  exact ⟨rfl, rfl⟩
theorem qO_n {T : Nat → Int} {n : Int} {N : Nat → Int} {r : Nat} {a m v : Int} (hm : qtx_nm (qtx_c T n a) = m) (h0 : 0 ≤ m) (hv : v = N m.toNat) : qRes (qtx_on T n N r a) v (a + 1) (-1) := by
  have hn := qtx_nm_c (qtx_c T n a)
  refine qRes_ok ?_
  rw [qtx_on_o (by omega), qtx_oo_n (by omega), hm, hv]
theorem qO_d {T : Nat → Int} {n : Int} {N : Nat → Int} {r : Nat} {a v a2 : Int} (h : 48 ≤ qtx_c T n a ∧ qtx_c T n a ≤ 57) (e : qtx_num T n 4 0 a = (v, a2)) : qRes (qtx_on T n N r a) v a2 (-1) := by
  refine qRes_ok ?_
  rw [qtx_on_o (by omega), qtx_oo_d h, e]
theorem qO_u {T : Nat → Int} {n : Int} {N : Nat → Int} {r : Nat} {a c w a2 fa v : Int} (hr : 0 < r) (hc : qtx_c T n a = c) (hc2 : c = 33 ∨ c = 45) (hw : qRes (qtx_on T n N (r - 1) (a + 1)) w a2 fa) (ha : 0 ≤ a2) (hv : fa = -1 → v = qtx_ng c w) : qRes (qtx_on T n N r a) v a2 fa := by
  rw [qtx_on_u hr hc hc2]
  rcases qRes_fa hw ha with rfl | ⟨f1, f2⟩
  · rw [qRes_eq hw ha, hv rfl]
    exact qRes_ok rfl
  · have hf := qRes_f hw f1
    rw [hf.2.2]
    exact qRes_bad v ⟨hf.1, hf.2.1⟩
theorem qO_p {T : Nat → Int} {n : Int} {N : Nat → Int} {r : Nat} {a w a2 fa a3 fa3 v : Int} (hr : 0 < r) (hc : qtx_c T n a = 40) (hw : qRes (qtx_E T n N (r - 1) (a + 1)) w a2 fa) (ha : 0 ≤ a2) (h : (fa = -1 ∧ qtx_c T n a2 = 41 ∧ a3 = a2 + 1 ∧ fa3 = -1 ∧ v = w) ∨ (¬ (fa = -1 ∧ qtx_c T n a2 = 41) ∧ a3 = a2 ∧ fa3 = a2)) : qRes (qtx_on T n N r a) v a3 fa3 := by
  rw [qtx_on_p hr hc]
  rcases h with ⟨rfl, h2, rfl, rfl, rfl⟩ | ⟨h1, h2, h3⟩
  · rw [qRes_eq hw ha]
    exact qRes_ok (if_pos ⟨rfl, h2⟩)
  · rw [h2, h3]
    refine qRes_bad v ?_
    have e : qtx_pc T n (qtx_E T n N (r - 1) (a + 1)) = (0, a2, 1) := by
      have ea : (qtx_E T n N (r - 1) (a + 1)).2.1 = a2 := by
        rcases hw with ⟨_, _, h3, _⟩ | ⟨_, h3, _⟩ <;> exact h3.symm
      unfold qtx_pc
      rw [ea, if_neg]
      intro z
      rcases qRes_fa hw ha with f | ⟨f1, f2⟩
      · exact h1 ⟨f, z.2⟩
      · have hf := qRes_f hw f1
        omega
    rw [e]
    exact ⟨rfl, rfl⟩
/-- lines, the whole text -/
def qReL (L : Int × qtx_3) (h v a fa : Int) : Prop := (L.2.2.2 = 0 ∧ fa = -1 ∧ a = L.2.2.1 ∧ h = L.1 ∧ v = L.2.1) ∨ (L.2.2.2 = 1 ∧ a = L.2.2.1 ∧ fa = L.2.2.1)
theorem qL_1 {T : Nat → Int} {n : Int} {E : Int → qtx_3} {a0 v a fa : Int} (h : qRes (E a0) v a fa) (ha : 0 ≤ a) (hc : ¬ (fa = -1 ∧ qtx_c T n a = 63)) : qReL (qtx_ln T n E a0) 1 v a fa := by
  have e : qtx_ln T n E a0 = (1, E a0) := by
    have ea : (E a0).2.1 = a := by rcases h with ⟨_, _, h3, _⟩ | ⟨_, h3, _⟩ <;> exact h3.symm
    unfold qtx_ln
    rw [ea, if_neg]
    intro z
    rcases qRes_fa h ha with f | ⟨f1, f2⟩
    · exact hc ⟨f, z.2⟩
    · have hf := qRes_f h f1
      omega
  rw [e]
  rcases h with ⟨h1, h2, h3, h4⟩ | ⟨h1, h2, h3⟩
  · exact Or.inl ⟨h1, h4, h3, rfl, h2⟩
  · exact Or.inr ⟨h1, h2, h3⟩
theorem qL_2 {T : Nat → Int} {n : Int} {E : Int → qtx_3} {a0 v1 a1 v a fa h : Int} (h1 : qRes (E a0) v1 a1 (-1)) (ha1 : 0 ≤ a1) (hc : qtx_c T n a1 = 63) (h2 : qRes (E (a1 + 1)) v a fa) (hh : (v1 = 0 ∧ h = 0) ∨ (¬ v1 = 0 ∧ h = 1)) : qReL (qtx_ln T n E a0) h v a fa := by
  have e : qtx_ln T n E a0 = ((if v1 = 0 then 0 else 1), E (a1 + 1)) := by
    unfold qtx_ln
    rw [qRes_eq h1 ha1]
    exact if_pos ⟨rfl, hc⟩
  have e2 : (if v1 = 0 then (0 : Int) else 1) = h := by
    rcases hh with ⟨b1, b2⟩ | ⟨b1, b2⟩
    · rw [if_pos b1, b2]
    · rw [if_neg b1, b2]
  rw [e, e2]
  rcases h2 with ⟨g1, g2, g3, g4⟩ | ⟨g1, g2, g3⟩
  · exact Or.inl ⟨g1, g4, g3, rfl, g2⟩
  · exact Or.inr ⟨g1, g2, g3⟩
def qWI (T : Nat → Int) (n : Int) (E : Int → qtx_3) (W : qtx_3) (gi ge more a fa : Int) : Prop := (more = 1 ∧ fa = -1 ∧ ∃ k : Nat, W = qtx_pg T n E k a gi ge ∧ n - a < (k : Int)) ∨ (more = 0 ∧ fa = -1 ∧ W = (ge, a, if n ≤ a then 0 else 1)) ∨ (more = 0 ∧ 0 ≤ fa ∧ W.2.2 = 1 ∧ W.2.1 = fa)
theorem qWI_s {T : Nat → Int} {n : Int} {E : Int → qtx_3} {W : qtx_3} {gi ge a0 h v a fa gi2 ge2 more a3 : Int} (hW : qWI T n E W gi ge 1 a0 (-1)) (h0 : 0 ≤ a0 ∧ a0 ≤ n) (hL : qReL (qtx_ln T n E a0) h v a fa) (ha : a0 ≤ a) (hf : fa = -1 ∨ fa = a) (hg : fa = -1 → gi2 = qtx_gi gi h ∧ ge2 = qtx_ge gi h ge v) (hm : (more = 1 ∧ fa = -1 ∧ qtx_c T n a = 59 ∧ a3 = a + 1) ∨ (more = 0 ∧ ¬ (fa = -1 ∧ qtx_c T n a = 59) ∧ a3 = a)) : qWI T n E W gi2 ge2 more a3 fa := by
  rcases hW with ⟨_, _, k, e, hk⟩ | ⟨z, _⟩ | ⟨z, _⟩
  · obtain ⟨k, rfl⟩ : ∃ m, k = m + 1 := ⟨k - 1, by omega⟩
    rcases hL with ⟨l1, l2, l3, l4, l5⟩ | ⟨l1, l2, l3⟩
    · have hgg := hg l2
      rcases hm with ⟨m1, m2, m3, m4⟩ | ⟨m1, m2, m3⟩
      · have e1 := e.trans (qtx_pg_go ⟨l1, by rw [← l3]; exact m3⟩)
        refine Or.inl ⟨m1, l2, k, ?_, by omega⟩
        rw [e1, hgg.1, hgg.2, m4, l3, l4, l5]
      · have e1 := e.trans (qtx_pg_st (fun z => m2 ⟨l2, by rw [l3]; exact z.2⟩))
        refine Or.inr (Or.inl ⟨m1, l2, ?_⟩)
        rw [e1, hgg.2, m3, l1, ← l3, ← l4, ← l5]
        by_cases c : n ≤ a
        · rw [if_pos ⟨rfl, c⟩, if_pos c]
        · rw [if_neg (fun z => c z.2), if_neg c]
    · have hm0 : more = 0 := by omega
      have e1 := e.trans (qtx_pg_st (fun z => by omega))
      refine Or.inr (Or.inr ⟨hm0, by omega, ?_⟩)
      rw [e1, l1, if_neg (by omega)]
      exact ⟨rfl, l3.symm⟩
  · exact absurd z (by decide)
  · exact absurd z (by decide)
/-- what the whole of it leaves: its number, or where it fails -/
def qReW (W : qtx_3) (v fa : Int) : Prop := (W.2.2 = 0 ∧ v = W.1 ∧ fa = -1) ∨ (W.2.2 = 1 ∧ fa = W.2.1 ∧ 0 ≤ fa)
theorem qWI_e1 {T : Nat → Int} {n : Int} {E : Int → qtx_3} {W : qtx_3} {gi ge a : Int} (v : Int) (h : qWI T n E W gi ge 0 a (-1)) (ha : 0 ≤ a ∧ a < n) : qReW W v a := by
  rcases h with ⟨z, _⟩ | ⟨_, _, e⟩ | ⟨_, z, _⟩
  · exact absurd z (by decide)
  · rw [e, if_neg (by omega)]
    exact Or.inr ⟨rfl, rfl, ha.1⟩
  · exact absurd z (by decide)
theorem qWI_e2 {T : Nat → Int} {n : Int} {E : Int → qtx_3} {W : qtx_3} {gi ge a fa : Int} (h : qWI T n E W gi ge 0 a fa) (ha : ¬ (fa = -1 ∧ a < n)) : qReW W ge fa := by
  rcases h with ⟨z, _⟩ | ⟨_, f, e⟩ | ⟨_, f, e1, e2⟩
  · exact absurd z (by decide)
  · rw [e, if_pos (by omega)]
    exact Or.inl ⟨rfl, rfl, f⟩
  · exact Or.inr ⟨e1, e2.symm, f⟩
end
section
/-! the tape: bytes of a number, the lowest first -/
theorem qlz_ushr {v b : Int} (k : Nat) (hb : ((qz b).toUInt32 &&& Int32.toUInt32 31) = UInt32.ofNat k) (hk : k < 32) : qlz (qz_ushr v b) = qlz v / 2 ^ k := by
  have e4 : (qz v).toUInt32.toNat = qlz v := rfl
  have e5 : ((qz v).toUInt32 >>> UInt32.ofNat k).toNat = qlz v / 2 ^ k := by
    rw [UInt32.toNat_shiftRight, e4, UInt32.toNat_ofNat_of_lt' (Nat.lt_trans hk (by decide)), Nat.mod_eq_of_lt hk, Nat.shiftRight_eq_div_pow]
  show (qz (qz_ushr v b)).toBitVec.toNat = qlz v / 2 ^ k
  unfold qz_ushr
  rw [hb, ← qz_of]
  exact e5
theorem qlz_shr (v : Int) {m i : Nat} (h : i + m < 32) : (qlz (qz_shr v (m : Int))).testBit i = (qlz v).testBit (m + i) := by
  have g0 : (qz (qz_shr v (m : Int))).toBitVec = (qz v).toBitVec.sshiftRight m := by
    unfold qz_shr
    rw [← qz_of, Int32.toBitVec_shiftRight, qb31s ⟨m, by omega⟩]
    show (qz v).toBitVec.sshiftRight (BitVec.ofNat 32 m).toNat = _
    rw [BitVec.toNat_ofNat, Nat.mod_eq_of_lt (by omega)]
  unfold qlz
  rw [BitVec.testBit_toNat, BitVec.testBit_toNat, g0, BitVec.getLsbD_sshiftRight]
  simp [show m + i < 32 by omega, show ¬ 32 ≤ i by omega]
theorem qby_m (v : Int) {m : Nat} (hm : m ≤ 24) (hb : ((qz (m : Int)).toUInt32 &&& Int32.toUInt32 31) = UInt32.ofNat m) : qz_and (qz_ushr v (m : Int)) 255 = qz_and (qz_shr v (m : Int)) 255 := by
  refine qbi_ext (qz_rng _) (qz_rng _) (fun i h0 h1 => ?_)
  rw [qbi_and, qbi_and]
  by_cases hi : i < 8
  · have e : qbi (qz_ushr v (m : Int)) i = qbi (qz_shr v (m : Int)) i := by
      rw [qbi_if, qbi_if (qz_shr v (m : Int)), qlz_ushr m hb (by omega), Nat.testBit_div_two_pow, qlz_shr v (by omega), Nat.add_comm i.toNat m]
    rw [e]
  · have e : qbi 255 i = 0 := by
      rw [qbi_if, show qlz 255 = 2 ^ 8 - 1 by decide +kernel, Nat.testBit_two_pow_sub_one, if_neg (by rw [decide_eq_true_eq]; omega)]
    rw [e, if_neg (by omega), if_neg (by omega)]
theorem qby_eq {v k : Int} (hk : 0 ≤ k ∧ k ≤ 3) : qz_and (qz_ushr v (8 * k)) 255 = qz_and (qz_shr v (8 * k)) 255 := by
  have h : k = 0 ∨ k = 1 ∨ k = 2 ∨ k = 3 := by omega
  rcases h with rfl | rfl | rfl | rfl
  · exact qby_m v (m := 0) (by decide) (by decide)
  · exact qby_m v (m := 8) (by decide) (by decide)
  · exact qby_m v (m := 16) (by decide) (by decide)
  · exact qby_m v (m := 24) (by decide) (by decide)
def qby (v : Int) (k : Nat) : Int := qz_and (qz_shr v (8 * (k : Int))) 255
def qfd (f : Nat → Int) (t v : Int) : Nat → Nat → Int
  | 0 => f
  | k + 1 => qzu (qfd f t v k) (t + (k : Int)).toNat (qby v k)
theorem qfd_s {f : Nat → Int} {t v u val : Int} {ix : Nat} (hu : 0 ≤ u) (hi : ix = (t + u).toNat) (hv : val = qz_and (qz_shr v (8 * u)) 255) : qzu (qfd f t v u.toNat) ix val = qfd f t v (u + 1).toNat := by
  rw [show (u + 1).toNat = u.toNat + 1 by omega]
  show qzu (qfd f t v u.toNat) ix val = qzu (qfd f t v u.toNat) (t + ((u.toNat : Nat) : Int)).toNat (qby v u.toNat)
  unfold qby
  rw [show ((u.toNat : Nat) : Int) = u by omega, hi, hv]
theorem qfd_r {f : Nat → Int} (t v : Int) (h : ∀ j, 0 ≤ f j ∧ f j ≤ 255) : ∀ (k j : Nat), 0 ≤ qfd f t v k j ∧ qfd f t v k j ≤ 255 := by
  intro k
  induction k with
  | zero => exact h
  | succ k ih =>
    intro j
    show 0 ≤ qzu (qfd f t v k) (t + (k : Int)).toNat (qby v k) j ∧ qzu (qfd f t v k) (t + (k : Int)).toNat (qby v k) j ≤ 255
    unfold qzu
    by_cases e : j = (t + (k : Int)).toNat
    · rw [if_pos e]
      unfold qby
      rw [qz_and_c]
      exact qz_andL _ (by decide)
    · rw [if_neg e]
      exact ih j

set_option maxHeartbeats 4000000 in
set_option maxRecDepth 20000 in
/-- OneRoof.feed -/
theorem sf_84_16x {L : Nat} {xs : Nat → Int} {vb : Bool} {d : Nat} {σ α : Nat → Nat → Int} {κ : Nat → Option Nat} {ρ : Nat} {x1 : Int} {x2 : Int} (hI : qI σ α κ ρ) (r1 : (-2147483648) ≤ x1 ∧ x1 ≤ 2147483647) (r2 : (-2147483648) ≤ x2 ∧ x2 ≤ 2147483647) : qm_T (qe L xs vb) (d + 1) 84 [.ref 16, .int (qz x1), .int (qz x2)] (qw σ α κ ρ) (fun r w' => ∃ σ' α', w' = qw σ' α' κ ρ ∧ qI σ' α' κ ρ ∧ qFr [(16, 15)] [81] σ α σ' α' ∧ ∃ v : Int, r = some (.int (qz v)) ∧ ((-2147483648) ≤ v ∧ v ≤ 2147483647) ∧ (((v = -1 ∧ ¬ (1 ≤ x1 ∧ x1 ≤ 4) ∧ σ' 16 15 = σ 16 15) ∧ α' 81 = α 81) ∨ ((v = -3 ∧ (1 ≤ x1 ∧ x1 ≤ 4) ∧ 120 < σ 16 15 + x1 ∧ σ' 16 15 = σ 16 15) ∧ α' 81 = α 81) ∨ ((v = σ 16 15 + x1 ∧ (1 ≤ x1 ∧ x1 ≤ 4) ∧ σ 16 15 + x1 ≤ 120 ∧ σ' 16 15 = v) ∧ α' 81 = qfd (α 81) (σ 16 15) x2 (x1 : Int).toNat))) := by
  refine qr_start (d := d + 0) qv_e84 (Nat.le_of_ble_eq_true rfl) ?_
  show qr_W (qe L xs vb) (d + 0) qx_e84 _ (0, [(0, .ref 16), (1, .int (qz x1)), (2, .int (qz x2))], [], _, 0, 0)
  have hF0 := qFr_rf [(16, 15)] [81] σ α
  have hz16_15 : 0 ≤ σ 16 15 ∧ σ 16 15 ≤ 120 := hI.1 16 15
  refine qr_iload_n 1 rfl rfl rfl ?_
  refine qr_iconst 2 rfl rfl ?_
  refine qr_icmp_lt 10 5 rfl rfl rfl r1 (by decide) (fun h1 => ?_) (fun h1 => ?_)
  · skip
    refine qr_iconst 11 rfl rfl ?_
    refine qr_retI rfl rfl (by decide) (by decide) ?_
    have hw2 : σ 16 15 = (σ 16 15) := rfl
    exact ⟨_, _, rfl, hI, hF0, (-1), rfl, (by decide), (Or.inl ⟨by omega, rfl⟩)⟩
  · skip
    refine qr_iload_n 6 rfl rfl rfl ?_
    refine qr_iconst 7 rfl rfl ?_
    refine qr_icmp_le 12 10 rfl rfl rfl r1 (by decide) (fun h3 => ?_) (fun h3 => ?_)
    · skip
      refine qr_aload_n 13 rfl rfl rfl ?_
      refine qr_get 16 rfl rfl rfl (by decide) rfl ?_
      refine qr_iload_n 17 rfl rfl rfl ?_
      refine qr_iadd 18 rfl rfl ?_
      refine qr_bipush 20 rfl (by decide) rfl ?_
      refine qr_icmp_le 26 23 rfl rfl rfl (by omega) (by decide) (fun h4 => ?_) (fun h4 => ?_)
      · skip
        refine qr_iconst 27 rfl rfl ?_
        refine qr_istore_n _ 28 rfl (by decide) rfl rfl ?_
        have hL111 : ∀ (n : Nat) (ls : qm_L) (u103 : Int) (α105 : Nat → Nat → Int), 4 - u103 < (n : Int) → qm_get ls 0 = some (.ref 16) → qm_get ls 1 = some (.int (qz x1)) → qm_get ls 2 = some (.int (qz x2)) → qm_get ls 3 = some (.int (qz u103)) → (0 ≤ u103 ∧ u103 ≤ 4) → qI σ α105 κ ρ → qFr [(16, 15)] [81] σ α σ α105 → α105 81 = (qfd (α 81) (σ 16 15) x2 (u103 : Int).toNat) → u103 ≤ x1 → qr_W (qe L xs vb) (d + 0) qx_e84 (fun r w' => ∃ σ' α', w' = qw σ' α' κ ρ ∧ qI σ' α' κ ρ ∧ qFr [(16, 15)] [81] σ α σ' α' ∧ ∃ v : Int, r = some (.int (qz v)) ∧ ((-2147483648) ≤ v ∧ v ≤ 2147483647) ∧ (((v = -1 ∧ ¬ (1 ≤ x1 ∧ x1 ≤ 4) ∧ σ' 16 15 = σ 16 15) ∧ α' 81 = α 81) ∨ ((v = -3 ∧ (1 ≤ x1 ∧ x1 ≤ 4) ∧ 120 < σ 16 15 + x1 ∧ σ' 16 15 = σ 16 15) ∧ α' 81 = α 81) ∨ ((v = σ 16 15 + x1 ∧ (1 ≤ x1 ∧ x1 ≤ 4) ∧ σ 16 15 + x1 ≤ 120 ∧ σ' 16 15 = v) ∧ α' 81 = qfd (α 81) (σ 16 15) x2 (x1 : Int).toNat))) (28, ls, [], qw σ α105 κ ρ, 0, 0) := by
          intro n
          induction n with
          | zero => intro ls u103 α105 hm g99 g100 g101 g102 hf108 hI106 hF107 hx109 hx110; exact False.elim (by omega)
          | succ n ih112 =>
            intro ls u103 α105 hm g99 g100 g101 g102 hf108 hI106 hF107 hx109 hx110
            refine qr_iload_n 29 rfl g102 rfl ?_
            refine qr_iload_n 30 rfl g100 rfl ?_
            refine qr_icmp_ge 60 33 rfl rfl rfl (qrg hf108 (by decide) (by decide)) r1 (fun h113 => ?_) (fun h113 => ?_)
            · skip
              refine qr_aload_n 61 rfl g99 rfl ?_
              refine qr_dup 62 rfl rfl rfl ?_
              refine qr_get 65 rfl rfl rfl (by decide) rfl ?_
              refine qr_iload_n 66 rfl g100 rfl ?_
              refine qr_iadd 67 rfl rfl ?_
              refine qr_put 70 rfl (by decide) rfl (Nat.le_of_ble_eq_true rfl) (Nat.le_of_ble_eq_true rfl) (Or.inl rfl) (qr_fitI rfl _) rfl ?_
              refine qy_wS (qw_s σ 16 15 ((σ 16 15) + x1)) rfl (fun σ114 e115 => ?_)
              have hI116 : qI σ114 α105 κ ρ := by rw [e115]; exact qI_s hI106 16 15 rfl (show 0 ≤ ((σ 16 15) + x1) ∧ ((σ 16 15) + x1) ≤ 120 by omega)
              have hF117 : qFr [(16, 15)] [81] σ α σ114 α105 := by rw [e115]; exact qFr_s hF107 16 15 _ (by decide)
              refine qr_aload_n 71 rfl g99 rfl ?_
              refine qr_get 74 rfl rfl rfl (by decide) rfl ?_
              refine qy_v ((σ 16 15) + x1) ((congrFun (congrFun e115 16) 15).trans rfl) ?_
              refine qr_retI rfl rfl (by decide) (by decide) ?_
              have hw118 : σ114 16 15 = ((σ 16 15) + x1) := (congrFun (congrFun e115 16) 15).trans rfl
              exact ⟨_, _, rfl, hI116, hF117, ((σ 16 15) + x1), rfl, (by omega), (Or.inr (Or.inr (⟨by omega, (hx109.trans (by congr 1; omega))⟩)))⟩
            · skip
              refine qr_aload_n 34 rfl g99 rfl ?_
              refine qr_get 37 rfl rfl rfl (by decide) rfl ?_
              refine qr_aload_n 38 rfl g99 rfl ?_
              refine qr_get 41 rfl rfl rfl (by decide) rfl ?_
              refine qr_iload_n 42 rfl g102 rfl ?_
              refine qr_iadd 43 rfl rfl ?_
              refine qr_iload_n 44 rfl g101 rfl ?_
              refine qr_bipush 46 rfl (by decide) rfl ?_
              refine qr_iload_n 47 rfl g102 rfl ?_
              refine qr_imul 48 rfl rfl ?_
              refine qr_iushr 49 rfl rfl ?_
              refine qy_canE (fun v119 hv119 hev119 => ?_)
              refine qr_sipush 52 rfl (by decide) rfl ?_
              refine qr_iand 53 rfl rfl ?_
              refine qy_andrE (by omega) (fun v120 hv120 hev120 => ?_)
              refine qr_iastore 54 rfl (by decide) rfl (by omega) (by decide) rfl ?_
              refine qy_wA (qw_r α105 81 (qzu (α105 81) (((σ 16 15) + u103) : Int).toNat v120)) rfl (fun α121 e122 => ?_)
              have hI123 : qI σ α121 κ ρ := by rw [e122]; exact qI_r hI106 81 _ rfl (show (-2147483648) ≤ v120 ∧ v120 ≤ 2147483647 by omega)
              have hF124 : qFr [(16, 15)] [81] σ α σ α121 := by rw [e122]; exact qFr_r hF107 81 _ (by decide)
              refine qr_iinc _ 57 rfl g102 (by decide) rfl rfl ?_
              refine qr_goto 28 rfl rfl ?_
              exact ih112 _ (u103 + 1) α121 (by omega) (qm_gk g99 (by decide) (Or.inl (by decide))) (qm_gk g100 (by decide) (Or.inl (by decide))) (qm_gk g101 (by decide) (Or.inr rfl)) (qm_ge _ _ _) (by omega) hI123 hF124 (((congrFun e122 81).trans (qw_r_eq.trans (congrArg (fun f => qzu f (((σ 16 15) + u103) : Int).toNat v120) hx109))).trans (qfd_s (by omega) (by omega) (by rw [hev120, qz_val hev119 (by omega) (qz_ushr_r _ _)]; exact qby_eq (by omega)))) (by omega)
        exact hL111 ((4 - 0 + 1 : Int)).toNat _ 0 α (by omega) rfl rfl rfl rfl (by decide) hI hF0 rfl (by omega)
      · skip
        refine qr_bipush 25 rfl (by decide) rfl ?_
        refine qr_retI rfl rfl (by decide) (by decide) ?_
        have hw125 : σ 16 15 = (σ 16 15) := rfl
        exact ⟨_, _, rfl, hI, hF0, (-3), rfl, (by decide), (Or.inr (Or.inl ⟨by omega, rfl⟩))⟩
    · skip
      refine qr_iconst 11 rfl rfl ?_
      refine qr_retI rfl rfl (by decide) (by decide) ?_
      have hw126 : σ 16 15 = (σ 16 15) := rfl
      exact ⟨_, _, rfl, hI, hF0, (-1), rfl, (by decide), (Or.inl ⟨by omega, rfl⟩)⟩

set_option maxHeartbeats 4000000 in
set_option maxRecDepth 20000 in
/-- OneRoofModel.feed -/
theorem sf_211_86x {L : Nat} {xs : Nat → Int} {vb : Bool} {d : Nat} {σ α : Nat → Nat → Int} {κ : Nat → Option Nat} {ρ : Nat} {x1 : Int} {x2 : Int} (hI : qI σ α κ ρ) (r1 : (-2147483648) ≤ x1 ∧ x1 ≤ 2147483647) (r2 : (-2147483648) ≤ x2 ∧ x2 ≤ 2147483647) : qm_T (qe L xs vb) (d + 2) 211 [.ref 86, .int (qz x1), .int (qz x2)] (qw σ α κ ρ) (fun r w' => ∃ σ' α', w' = qw σ' α' κ ρ ∧ qI σ' α' κ ρ ∧ qFr [(86, 32)] [106] σ α σ' α' ∧ ∃ v : Int, r = some (.int (qz v)) ∧ ((-2147483648) ≤ v ∧ v ≤ 2147483647) ∧ (((v = -1 ∧ ¬ (1 ≤ x1 ∧ x1 ≤ 4) ∧ σ' 86 32 = σ 86 32) ∧ α' 106 = α 106) ∨ ((v = -3 ∧ (1 ≤ x1 ∧ x1 ≤ 4) ∧ 120 < σ 86 32 + x1 ∧ σ' 86 32 = σ 86 32) ∧ α' 106 = α 106) ∨ ((v = σ 86 32 + x1 ∧ (1 ≤ x1 ∧ x1 ≤ 4) ∧ σ 86 32 + x1 ≤ 120 ∧ σ' 86 32 = v) ∧ α' 106 = qfd (α 106) (σ 86 32) x2 (x1 : Int).toNat))) := by
  refine qr_start (d := d + 1) qv_e211 (Nat.le_of_ble_eq_true rfl) ?_
  show qr_W (qe L xs vb) (d + 1) qx_e211 _ (0, [(0, .ref 86), (1, .int (qz x1)), (2, .int (qz x2))], [], _, 0, 0)
  have hF0 := qFr_rf [(86, 32)] [106] σ α
  have hz86_32 : 0 ≤ σ 86 32 ∧ σ 86 32 ≤ 120 := hI.1 86 32
  refine qr_iload_n 1 rfl rfl rfl ?_
  refine qr_i2l 2 rfl r1 rfl ?_
  refine qr_lconst 3 rfl rfl ?_
  refine qy_vl 1 rfl ?_
  refine qr_ldc2 4 6 rfl (by decide) rfl ?_
  refine qr_callN 9 rfl rfl rfl (sf_176 (d := d + 0) hI (qrg r1 (by decide) (by decide)) (by decide) (by decide)) ?_
  rintro _ _ ⟨rfl, v1, rfl, hv1, hp2⟩
  show qr_W (qe L xs vb) (d + 1) qx_e211 _ (9, _, [.int (qz v1)], qw σ α κ ρ, 0, 0)
  refine qr_if_ne 14 12 rfl rfl rfl (qrg hv1 (by decide) (by decide)) (fun h3 => ?_) (fun h3 => ?_)
  · skip
    refine qr_aload_n 15 rfl rfl rfl ?_
    refine qr_get 18 rfl rfl rfl (by decide) rfl ?_
    refine qr_iload_n 19 rfl rfl rfl ?_
    refine qr_iadd 20 rfl rfl ?_
    refine qr_bipush 22 rfl (by decide) rfl ?_
    refine qr_icmp_le 28 25 rfl rfl rfl (by omega) (by decide) (fun h4 => ?_) (fun h4 => ?_)
    · skip
      refine qr_iconst 29 rfl rfl ?_
      refine qr_istore_n _ 30 rfl (by decide) rfl rfl ?_
      have hL117 : ∀ (n : Nat) (ls : qm_L) (u107 : Int) (σ108 α109 : Nat → Nat → Int), 4 - u107 < (n : Int) → qm_get ls 0 = some (.ref 86) → qm_get ls 1 = some (.int (qz x1)) → qm_get ls 2 = some (.int (qz x2)) → qm_get ls 3 = some (.int (qz u107)) → (0 ≤ u107 ∧ u107 ≤ 4) → qI σ108 α109 κ ρ → qFr [(86, 32)] [106] σ α σ108 α109 → α109 106 = (qfd (α 106) (σ 86 32) x2 (u107 : Int).toNat) → u107 ≤ x1 → σ108 86 32 = σ 86 32 + u107 → σ108 86 32 + (x1 - u107) ≤ 120 → qr_W (qe L xs vb) (d + 1) qx_e211 (fun r w' => ∃ σ' α', w' = qw σ' α' κ ρ ∧ qI σ' α' κ ρ ∧ qFr [(86, 32)] [106] σ α σ' α' ∧ ∃ v : Int, r = some (.int (qz v)) ∧ ((-2147483648) ≤ v ∧ v ≤ 2147483647) ∧ (((v = -1 ∧ ¬ (1 ≤ x1 ∧ x1 ≤ 4) ∧ σ' 86 32 = σ 86 32) ∧ α' 106 = α 106) ∨ ((v = -3 ∧ (1 ≤ x1 ∧ x1 ≤ 4) ∧ 120 < σ 86 32 + x1 ∧ σ' 86 32 = σ 86 32) ∧ α' 106 = α 106) ∨ ((v = σ 86 32 + x1 ∧ (1 ≤ x1 ∧ x1 ≤ 4) ∧ σ 86 32 + x1 ≤ 120 ∧ σ' 86 32 = v) ∧ α' 106 = qfd (α 106) (σ 86 32) x2 (x1 : Int).toNat))) (30, ls, [], qw σ108 α109 κ ρ, 0, 0) := by
        intro n
        induction n with
        | zero => intro ls u107 σ108 α109 hm g103 g104 g105 g106 hf112 hI110 hF111 hx113 hx114 hx115 hx116; exact False.elim (by omega)
        | succ n ih118 =>
          intro ls u107 σ108 α109 hm g103 g104 g105 g106 hf112 hI110 hF111 hx113 hx114 hx115 hx116
          have hs119 : 0 ≤ σ108 86 32 ∧ σ108 86 32 ≤ 120 := hI110.1 86 32
          refine qr_iload_n 31 rfl g106 rfl ?_
          refine qr_iload_n 32 rfl g104 rfl ?_
          refine qr_icmp_ge 70 35 rfl rfl rfl (qrg hf112 (by decide) (by decide)) r1 (fun h120 => ?_) (fun h120 => ?_)
          · skip
            refine qr_aload_n 71 rfl g103 rfl ?_
            refine qr_get 74 rfl rfl rfl (by decide) rfl ?_
            refine qr_retI rfl rfl (by decide) (by decide) ?_
            have hw121 : σ108 86 32 = (σ108 86 32) := rfl
            exact ⟨_, _, rfl, hI110, hF111, (σ108 86 32), rfl, (by omega), (Or.inr (Or.inr (⟨by omega, (hx113.trans (by congr 1; omega))⟩)))⟩
          · skip
            refine qr_aload_n 36 rfl g103 rfl ?_
            refine qr_get 39 rfl rfl rfl (by decide) rfl ?_
            refine qr_aload_n 40 rfl g103 rfl ?_
            refine qr_get 43 rfl rfl rfl (by decide) rfl ?_
            refine qr_iload_n 44 rfl g105 rfl ?_
            refine qr_bipush 46 rfl (by decide) rfl ?_
            refine qr_iload_n 47 rfl g106 rfl ?_
            refine qr_imul 48 rfl rfl ?_
            refine qr_ishr 49 rfl rfl ?_
            refine qy_canE (fun v122 hv122 hev122 => ?_)
            refine qr_sipush 52 rfl (by decide) rfl ?_
            refine qr_iand 53 rfl rfl ?_
            refine qy_andrE (by omega) (fun v123 hv123 hev123 => ?_)
            refine qr_iastore 54 rfl (by decide) rfl (by omega) (by decide) rfl ?_
            refine qy_wA (qw_r α109 106 (qzu (α109 106) ((σ108 86 32) : Int).toNat v123)) rfl (fun α124 e125 => ?_)
            have hI126 : qI σ108 α124 κ ρ := by rw [e125]; exact qI_r hI110 106 _ rfl (show (-2147483648) ≤ v123 ∧ v123 ≤ 2147483647 by omega)
            have hF127 : qFr [(86, 32)] [106] σ α σ108 α124 := by rw [e125]; exact qFr_r hF111 106 _ (by decide)
            refine qr_aload_n 55 rfl g103 rfl ?_
            refine qr_dup 56 rfl rfl rfl ?_
            refine qr_get 59 rfl rfl rfl (by decide) rfl ?_
            refine qr_iconst 60 rfl rfl ?_
            refine qr_iadd 61 rfl rfl ?_
            refine qr_put 64 rfl (by decide) rfl (Nat.le_of_ble_eq_true rfl) (Nat.le_of_ble_eq_true rfl) (Or.inl rfl) (qr_fitI rfl _) rfl ?_
            refine qy_wS (qw_s σ108 86 32 ((σ108 86 32) + 1)) rfl (fun σ128 e129 => ?_)
            have hI130 : qI σ128 α124 κ ρ := by rw [e129]; exact qI_s hI126 86 32 rfl (show 0 ≤ ((σ108 86 32) + 1) ∧ ((σ108 86 32) + 1) ≤ 120 by omega)
            have hF131 : qFr [(86, 32)] [106] σ α σ128 α124 := by rw [e129]; exact qFr_s hF127 86 32 _ (by decide)
            refine qr_iinc _ 67 rfl g106 (by decide) rfl rfl ?_
            refine qr_goto 30 rfl rfl ?_
            exact ih118 _ (u107 + 1) σ128 α124 (by omega) (qm_gk g103 (by decide) (Or.inl (by decide))) (qm_gk g104 (by decide) (Or.inl (by decide))) (qm_gk g105 (by decide) (Or.inr rfl)) (qm_ge _ _ _) (by omega) hI130 hF131 (((congrFun e125 106).trans (qw_r_eq.trans (congrArg (fun f => qzu f ((σ108 86 32) : Int).toNat v123) hx113))).trans (qfd_s (by omega) (by omega) (by rw [hev123, qz_val hev122 (by omega) (qz_shr_r _ _)]))) (by omega) (by have hw : σ128 86 32 = ((σ108 86 32) + 1) := (congrFun (congrFun e129 86) 32).trans rfl; omega) (by have hw : σ128 86 32 = ((σ108 86 32) + 1) := (congrFun (congrFun e129 86) 32).trans rfl; omega)
      exact hL117 ((4 - 0 + 1 : Int)).toNat _ 0 σ α (by omega) rfl rfl rfl rfl (by decide) hI hF0 rfl (by omega) (by have hw : σ 86 32 = (σ 86 32) := rfl; omega) (by have hw : σ 86 32 = (σ 86 32) := rfl; omega)
    · skip
      refine qr_bipush 27 rfl (by decide) rfl ?_
      refine qr_retI rfl rfl (by decide) (by decide) ?_
      have hw132 : σ 86 32 = (σ 86 32) := rfl
      exact ⟨_, _, rfl, hI, hF0, (-3), rfl, (by decide), (Or.inr (Or.inl ⟨by omega, rfl⟩))⟩
  · skip
    refine qr_iconst 13 rfl rfl ?_
    refine qr_retI rfl rfl (by decide) (by decide) ?_
    have hw133 : σ 86 32 = (σ 86 32) := rfl
    exact ⟨_, _, rfl, hI, hF0, (-1), rfl, (by decide), (Or.inl ⟨by omega, rfl⟩)⟩
/-! the tape both sides hold alike -/
def qTp (α : Nat → Nat → Int) : Prop := α 81 = α 106 ∧ ∀ j : Nat, 0 ≤ α 81 j ∧ α 81 j ≤ 255
theorem qTp_fr {S : List (Nat × Nat)} {R : List Nat} {σ α σ' α' : Nat → Nat → Int} (hG : qFr S R σ α σ' α') (hr : [81, 106].all (fun x => !R.contains x) = true) (h : qTp α) : qTp α' := by
  have er : ∀ a, a ∈ [81, 106] → α' a = α a := fun a hm => hG.2 a (fun hn => by
    have h1 := List.all_eq_true.mp hr a hm
    rw [List.contains_iff_mem.mpr hn] at h1
    exact absurd h1 (by decide))
  unfold qTp
  rw [er 81 (by decide), er 106 (by decide)]
  exact h
theorem qTp_0 (s g : Nat → Nat → Int) : qTp (qJ_r g) := ⟨rfl, fun _ => ⟨show (0 : Int) ≤ 0 by decide, show (0 : Int) ≤ 255 by decide⟩⟩
set_option maxHeartbeats 4000000 in
theorem rl_feed {σ α σ1 α1 σ2 α2 : Nat → Nat → Int} {x1 x2 v1 v2 : Int} (he : σ 16 15 = σ 86 32) (hT : qTp α) (hG1 : qFr [(16, 15)] [81] σ α σ1 α1) (hG2 : qFr [(86, 32)] [106] σ1 α1 σ2 α2) (hx : ((v1 = -1 ∧ ¬ (1 ≤ x1 ∧ x1 ≤ 4) ∧ σ1 16 15 = σ 16 15) ∧ α1 81 = α 81) ∨ ((v1 = -3 ∧ (1 ≤ x1 ∧ x1 ≤ 4) ∧ 120 < σ 16 15 + x1 ∧ σ1 16 15 = σ 16 15) ∧ α1 81 = α 81) ∨ ((v1 = σ 16 15 + x1 ∧ (1 ≤ x1 ∧ x1 ≤ 4) ∧ σ 16 15 + x1 ≤ 120 ∧ σ1 16 15 = v1) ∧ α1 81 = qfd (α 81) (σ 16 15) x2 (x1 : Int).toNat)) (hy : ((v2 = -1 ∧ ¬ (1 ≤ x1 ∧ x1 ≤ 4) ∧ σ2 86 32 = σ1 86 32) ∧ α2 106 = α1 106) ∨ ((v2 = -3 ∧ (1 ≤ x1 ∧ x1 ≤ 4) ∧ 120 < σ1 86 32 + x1 ∧ σ2 86 32 = σ1 86 32) ∧ α2 106 = α1 106) ∨ ((v2 = σ1 86 32 + x1 ∧ (1 ≤ x1 ∧ x1 ≤ 4) ∧ σ1 86 32 + x1 ≤ 120 ∧ σ2 86 32 = v2) ∧ α2 106 = qfd (α1 106) (σ1 86 32) x2 (x1 : Int).toNat)) : v1 = v2 ∧ σ2 16 15 = σ2 86 32 ∧ qTp α2 := by
  have c32 := hG1.1 86 32 (by decide)
  have c106 := hG1.2 106 (by decide)
  have d15 := hG2.1 16 15 (by decide)
  have d81 := hG2.2 81 (by decide)
  rw [c32, c106] at hy
  have hl := hT.2
  have same : α1 81 = α 81 → α2 106 = α 106 → qTp α2 := fun e1 e2 => by
    unfold qTp
    rw [d81, e1, e2]
    exact hT
  rcases hx with ⟨x0, x81⟩ | ⟨x0, x81⟩ | ⟨x0, x81⟩
  · rcases hy with ⟨y0, y106⟩ | ⟨y0, y106⟩ | ⟨y0, y106⟩
    · exact ⟨by omega, by omega, same x81 y106⟩
    · exact False.elim (by omega)
    · exact False.elim (by omega)
  · rcases hy with ⟨y0, y106⟩ | ⟨y0, y106⟩ | ⟨y0, y106⟩
    · exact False.elim (by omega)
    · exact ⟨by omega, by omega, same x81 y106⟩
    · exact False.elim (by omega)
  · rcases hy with ⟨y0, y106⟩ | ⟨y0, y106⟩ | ⟨y0, y106⟩
    · exact False.elim (by omega)
    · exact False.elim (by omega)
    · refine ⟨by omega, by omega, ?_⟩
      unfold qTp
      rw [d81, x81, y106, he, hT.1]
      rw [hT.1] at hl
      exact ⟨rfl, fun j => qfd_r _ _ hl _ j⟩
end
section
set_option maxHeartbeats 4000000 in
set_option maxRecDepth 20000 in
theorem sf_18_50x {L : Nat} {xs : Nat → Int} {vb : Bool} {d : Nat} {σ α : Nat → Nat → Int} {κ : Nat → Option Nat} {ρ : Nat} (hI : qI σ α κ ρ) (hb : ∀ j : Nat, (j : Int) < σ 50 3 → 0 ≤ α 51 j ∧ α 51 j ≤ 255) : qm_T (qe L xs vb) (d + 56) 18 [.ref 50] (qw σ α κ ρ) (fun r w' => ∃ σ' α', w' = qw σ' α' κ ρ ∧ qI σ' α' κ ρ ∧ qFr [(50, 4), (50, 5), (50, 6), (50, 7)] [52] σ α σ' α' ∧ ∃ v : Int, r = some (.int (qz v)) ∧ (-1 ≤ v ∧ v ≤ 120) ∧ qRt (σ 50 3) (α 51) v (σ' 50 5) (σ' 50 6) (α' 52)) := by
  have e : qw σ α κ ρ = qc (qw σ α κ ρ) 50 (σ 50 3) (σ 50 4) (σ 50 5) (σ 50 6) (σ 50 7) (fun j => (qz (α 51 j)).toInt) (α 52) := by
    unfold qc
    rw [← qzf_can (α 51)]
    rfl
  have hl : 0 ≤ σ 50 3 ∧ σ 50 3 ≤ 120 := hI.1 50 3
  have ht : ∀ j : Nat, (j : Int) < σ 50 3 → (qz (α 51 j)).toInt = α 51 j := fun j hj => qz_ti (by have := hb j hj; omega)
  rw [e]
  refine qr_mono (spx_lines (a := 50) (t := fun j => (qz (α 51 j)).toInt) ⟨by decide, Nat.le_of_ble_eq_true rfl⟩ (fun j => qz_rng _) (fun j hj => by show 0 ≤ (qz (α 51 j)).toInt ∧ (qz (α 51 j)).toInt ≤ 255; rw [ht j hj]; exact hb j hj) hl) ?_
  rintro r w' ⟨v, at2, sz2, nm2, sk2, cd2, rfl, rfl, h1, hq⟩
  refine ⟨qw_s (qw_s (qw_s (qw_s σ 50 4 at2) 50 5 sz2) 50 6 nm2) 50 7 sk2, qw_r α 52 (fun j => (qz (cd2 j)).toInt), ?_, ?_, ?_, v, rfl, by omega, ?_⟩
  · unfold qc
    rw [← qzf_can (α 51), qzf_can cd2]
    rfl
  · refine qI_rw ?_ 52 _ rfl (fun j _ => qz_rng _)
    refine qI_s ?_ 50 7 rfl (show 0 ≤ sk2 ∧ sk2 ≤ 1 by omega)
    refine qI_s ?_ 50 6 rfl (show -2147483648 ≤ nm2 ∧ nm2 ≤ 2147483647 by omega)
    refine qI_s ?_ 50 5 rfl (show 0 ≤ sz2 ∧ sz2 ≤ 122 by omega)
    exact qI_s hI 50 4 rfl (show 0 ≤ at2 ∧ at2 ≤ 120 by omega)
  · refine qFr_r ?_ 52 _ (by decide)
    refine qFr_s ?_ 50 7 _ (by decide)
    refine qFr_s ?_ 50 6 _ (by decide)
    refine qFr_s ?_ 50 5 _ (by decide)
    exact qFr_s (qFr_rf _ _ _ _) 50 4 _ (by decide)
  · show qRt (σ 50 3) (α 51) v sz2 nm2 (fun j => (qz (cd2 j)).toInt)
    rcases hq with hq | hq
    · refine qRt_cg ht (fun k q1 q2 => ?_) (Or.inl hq)
      have := hq.2.2.2.2 k q1 q2
      exact qz_ti (by omega)
    · exact Or.inr ⟨hq.1, fun N => by rw [← qtx_W_cg ht N]; exact hq.2 N⟩
set_option maxHeartbeats 4000000 in
set_option maxRecDepth 20000 in
theorem sf_18_54x {L : Nat} {xs : Nat → Int} {vb : Bool} {d : Nat} {σ α : Nat → Nat → Int} {κ : Nat → Option Nat} {ρ : Nat} (hI : qI σ α κ ρ) (hb : ∀ j : Nat, (j : Int) < σ 54 3 → 0 ≤ α 55 j ∧ α 55 j ≤ 255) : qm_T (qe L xs vb) (d + 56) 18 [.ref 54] (qw σ α κ ρ) (fun r w' => ∃ σ' α', w' = qw σ' α' κ ρ ∧ qI σ' α' κ ρ ∧ qFr [(54, 4), (54, 5), (54, 6), (54, 7)] [56] σ α σ' α' ∧ ∃ v : Int, r = some (.int (qz v)) ∧ (-1 ≤ v ∧ v ≤ 120) ∧ qRt (σ 54 3) (α 55) v (σ' 54 5) (σ' 54 6) (α' 56)) := by
  have e : qw σ α κ ρ = qc (qw σ α κ ρ) 54 (σ 54 3) (σ 54 4) (σ 54 5) (σ 54 6) (σ 54 7) (fun j => (qz (α 55 j)).toInt) (α 56) := by
    unfold qc
    rw [← qzf_can (α 55)]
    rfl
  have hl : 0 ≤ σ 54 3 ∧ σ 54 3 ≤ 120 := hI.1 54 3
  have ht : ∀ j : Nat, (j : Int) < σ 54 3 → (qz (α 55 j)).toInt = α 55 j := fun j hj => qz_ti (by have := hb j hj; omega)
  rw [e]
  refine qr_mono (spx_lines (a := 54) (t := fun j => (qz (α 55 j)).toInt) ⟨by decide, Nat.le_of_ble_eq_true rfl⟩ (fun j => qz_rng _) (fun j hj => by show 0 ≤ (qz (α 55 j)).toInt ∧ (qz (α 55 j)).toInt ≤ 255; rw [ht j hj]; exact hb j hj) hl) ?_
  rintro r w' ⟨v, at2, sz2, nm2, sk2, cd2, rfl, rfl, h1, hq⟩
  refine ⟨qw_s (qw_s (qw_s (qw_s σ 54 4 at2) 54 5 sz2) 54 6 nm2) 54 7 sk2, qw_r α 56 (fun j => (qz (cd2 j)).toInt), ?_, ?_, ?_, v, rfl, by omega, ?_⟩
  · unfold qc
    rw [← qzf_can (α 55), qzf_can cd2]
    rfl
  · refine qI_rw ?_ 56 _ rfl (fun j _ => qz_rng _)
    refine qI_s ?_ 54 7 rfl (show 0 ≤ sk2 ∧ sk2 ≤ 1 by omega)
    refine qI_s ?_ 54 6 rfl (show -2147483648 ≤ nm2 ∧ nm2 ≤ 2147483647 by omega)
    refine qI_s ?_ 54 5 rfl (show 0 ≤ sz2 ∧ sz2 ≤ 122 by omega)
    exact qI_s hI 54 4 rfl (show 0 ≤ at2 ∧ at2 ≤ 120 by omega)
  · refine qFr_r ?_ 56 _ (by decide)
    refine qFr_s ?_ 54 7 _ (by decide)
    refine qFr_s ?_ 54 6 _ (by decide)
    refine qFr_s ?_ 54 5 _ (by decide)
    exact qFr_s (qFr_rf _ _ _ _) 54 4 _ (by decide)
  · show qRt (σ 54 3) (α 55) v sz2 nm2 (fun j => (qz (cd2 j)).toInt)
    rcases hq with hq | hq
    · refine qRt_cg ht (fun k q1 q2 => ?_) (Or.inl hq)
      have := hq.2.2.2.2 k q1 q2
      exact qz_ti (by omega)
    · exact Or.inr ⟨hq.1, fun N => by rw [← qtx_W_cg ht N]; exact hq.2 N⟩
set_option maxHeartbeats 4000000 in
set_option maxRecDepth 20000 in
theorem sf_18_82x {L : Nat} {xs : Nat → Int} {vb : Bool} {d : Nat} {σ α : Nat → Nat → Int} {κ : Nat → Option Nat} {ρ : Nat} (hI : qI σ α κ ρ) (hb : ∀ j : Nat, (j : Int) < σ 82 3 → 0 ≤ α 83 j ∧ α 83 j ≤ 255) : qm_T (qe L xs vb) (d + 56) 18 [.ref 82] (qw σ α κ ρ) (fun r w' => ∃ σ' α', w' = qw σ' α' κ ρ ∧ qI σ' α' κ ρ ∧ qFr [(82, 4), (82, 5), (82, 6), (82, 7)] [84] σ α σ' α' ∧ ∃ v : Int, r = some (.int (qz v)) ∧ (-1 ≤ v ∧ v ≤ 120) ∧ qRt (σ 82 3) (α 83) v (σ' 82 5) (σ' 82 6) (α' 84)) := by
  have e : qw σ α κ ρ = qc (qw σ α κ ρ) 82 (σ 82 3) (σ 82 4) (σ 82 5) (σ 82 6) (σ 82 7) (fun j => (qz (α 83 j)).toInt) (α 84) := by
    unfold qc
    rw [← qzf_can (α 83)]
    rfl
  have hl : 0 ≤ σ 82 3 ∧ σ 82 3 ≤ 120 := hI.1 82 3
  have ht : ∀ j : Nat, (j : Int) < σ 82 3 → (qz (α 83 j)).toInt = α 83 j := fun j hj => qz_ti (by have := hb j hj; omega)
  rw [e]
  refine qr_mono (spx_lines (a := 82) (t := fun j => (qz (α 83 j)).toInt) ⟨by decide, Nat.le_of_ble_eq_true rfl⟩ (fun j => qz_rng _) (fun j hj => by show 0 ≤ (qz (α 83 j)).toInt ∧ (qz (α 83 j)).toInt ≤ 255; rw [ht j hj]; exact hb j hj) hl) ?_
  rintro r w' ⟨v, at2, sz2, nm2, sk2, cd2, rfl, rfl, h1, hq⟩
  refine ⟨qw_s (qw_s (qw_s (qw_s σ 82 4 at2) 82 5 sz2) 82 6 nm2) 82 7 sk2, qw_r α 84 (fun j => (qz (cd2 j)).toInt), ?_, ?_, ?_, v, rfl, by omega, ?_⟩
  · unfold qc
    rw [← qzf_can (α 83), qzf_can cd2]
    rfl
  · refine qI_rw ?_ 84 _ rfl (fun j _ => qz_rng _)
    refine qI_s ?_ 82 7 rfl (show 0 ≤ sk2 ∧ sk2 ≤ 1 by omega)
    refine qI_s ?_ 82 6 rfl (show -2147483648 ≤ nm2 ∧ nm2 ≤ 2147483647 by omega)
    refine qI_s ?_ 82 5 rfl (show 0 ≤ sz2 ∧ sz2 ≤ 122 by omega)
    exact qI_s hI 82 4 rfl (show 0 ≤ at2 ∧ at2 ≤ 120 by omega)
  · refine qFr_r ?_ 84 _ (by decide)
    refine qFr_s ?_ 82 7 _ (by decide)
    refine qFr_s ?_ 82 6 _ (by decide)
    refine qFr_s ?_ 82 5 _ (by decide)
    exact qFr_s (qFr_rf _ _ _ _) 82 4 _ (by decide)
  · show qRt (σ 82 3) (α 83) v sz2 nm2 (fun j => (qz (cd2 j)).toInt)
    rcases hq with hq | hq
    · refine qRt_cg ht (fun k q1 q2 => ?_) (Or.inl hq)
      have := hq.2.2.2.2 k q1 q2
      exact qz_ti (by omega)
    · exact Or.inr ⟨hq.1, fun N => by rw [← qtx_W_cg ht N]; exact hq.2 N⟩

set_option maxHeartbeats 4000000 in
set_option maxRecDepth 20000 in
/-- OneRoof$Custom.read -/
theorem sf_86_50_81x {L : Nat} {xs : Nat → Int} {vb : Bool} {d : Nat} {σ α : Nat → Nat → Int} {κ : Nat → Option Nat} {ρ : Nat} {x2 : Int} (hI : qI σ α κ ρ) (r2 : 0 ≤ x2 ∧ x2 ≤ 120) (p0 : ∀ j : Nat, (j : Int) < x2 → 0 ≤ α 81 j ∧ α 81 j ≤ 255) : qm_T (qe L xs vb) (d + 57) 86 [.ref 50, .ref 81, .int (qz x2)] (qw σ α κ ρ) (fun r w' => ∃ σ' α', w' = qw σ' α' κ ρ ∧ qI σ' α' κ ρ ∧ qFr [(50, 3), (50, 4), (50, 5), (50, 6), (50, 7)] [51, 52] σ α σ' α' ∧ ∃ v : Int, r = some (.int (qz v)) ∧ ((-1) ≤ v ∧ v ≤ 120) ∧ qRt x2 (α 81) v (σ' 50 5) (σ' 50 6) (α' 52)) := by
  refine qr_start (d := d + 56) qv_e86 (Nat.le_of_ble_eq_true rfl) ?_
  show qr_W (qe L xs vb) (d + 56) qx_e86 _ (0, [(0, .ref 50), (1, .ref 81), (2, .int (qz x2))], [], _, 0, 0)
  have hF0 := qFr_rf [(50, 3), (50, 4), (50, 5), (50, 6), (50, 7)] [51, 52] σ α
  have hz50_3 : 0 ≤ σ 50 3 ∧ σ 50 3 ≤ 120 := hI.1 50 3
  refine qr_aload_n 1 rfl rfl rfl ?_
  refine qr_iload_n 2 rfl rfl rfl ?_
  refine qr_aload_n 3 rfl rfl rfl ?_
  refine qr_alen 4 rfl rfl (by first | exact Or.inl (by decide) | exact Or.inr (Or.inl rfl) | exact Or.inr (Or.inr (Or.inl rfl)) | exact Or.inr (Or.inr (Or.inr (Or.inl rfl)))) rfl ?_
  refine qy_v 120 rfl ?_
  refine qr_callN 7 rfl rfl rfl (sf_12 (d := d + 55) hI (qrg r2 (by decide) (by decide)) (by decide)) ?_
  rintro _ _ ⟨rfl, v1, rfl, hv1, hp2⟩
  show qr_W (qe L xs vb) (d + 56) qx_e86 _ (7, _, [.int (qz v1), .ref 50], qw σ α κ ρ, 0, 0)
  refine qr_aload_n 8 rfl rfl rfl ?_
  refine qr_get 11 rfl rfl rfl (by decide) rfl ?_
  refine qr_alen 12 rfl rfl (by first | exact Or.inl (by decide) | exact Or.inr (Or.inl rfl) | exact Or.inr (Or.inr (Or.inl rfl)) | exact Or.inr (Or.inr (Or.inr (Or.inl rfl)))) rfl ?_
  refine qy_v 120 rfl ?_
  refine qr_callN 15 rfl rfl rfl (sf_12 (d := d + 55) hI hv1 (by decide)) ?_
  rintro _ _ ⟨rfl, v3, rfl, hv3, hp4⟩
  show qr_W (qe L xs vb) (d + 56) qx_e86 _ (15, _, [.int (qz v3), .ref 50], qw σ α κ ρ, 0, 0)
  refine qr_put 18 rfl (by decide) rfl (Nat.le_of_ble_eq_true rfl) (Nat.le_of_ble_eq_true rfl) (Or.inl rfl) (qr_fitI rfl _) rfl ?_
  refine qy_wS (qw_s σ 50 3 v3) rfl (fun σ5 e6 => ?_)
  have hI7 : qI σ5 α κ ρ := by rw [e6]; exact qI_s hI 50 3 rfl (show 0 ≤ v3 ∧ v3 ≤ 120 by omega)
  have hF8 : qFr [(50, 3), (50, 4), (50, 5), (50, 6), (50, 7)] [51, 52] σ α σ5 α := by rw [e6]; exact qFr_s hF0 50 3 _ (by decide)
  refine qr_aload_n 19 rfl rfl rfl ?_
  refine qr_iconst 20 rfl rfl ?_
  refine qr_aload_n 21 rfl rfl rfl ?_
  refine qr_get 24 rfl rfl rfl (by decide) rfl ?_
  refine qr_iconst 25 rfl rfl ?_
  refine qr_aload_n 26 rfl rfl rfl ?_
  refine qr_get 29 rfl rfl rfl (by decide) rfl ?_
  refine qy_v v3 ((congrFun (congrFun e6 50) 3).trans rfl) ?_
  refine qy_copyi 32 rfl (by decide) (by decide) rfl rfl (by omega) (by omega) (by omega) (by omega) (by omega) (by decide) (by decide) rfl ?_
  refine qy_wA (qw_r α 51 (va_cpy (α 81) (α 51) (0 : Int).toNat (0 : Int).toNat (v3 : Int).toNat)) rfl (fun α9 e10 => ?_)
  have hI11 : qI σ5 α9 κ ρ := by rw [e10]; exact qI_cpy hI7 81 51 rfl rfl (show _ ≤ 120 by omega)
  have hF12 : qFr [(50, 3), (50, 4), (50, 5), (50, 6), (50, 7)] [51, 52] σ α σ5 α9 := by rw [e10]; exact qFr_r hF8 51 _ (by decide)
  refine qr_aload_n 33 rfl rfl rfl ?_
  refine qr_callN 36 rfl rfl rfl (sf_18_50x (d := d + 0) hI11 (fun j hj => by have hw : σ5 50 3 = v3 := (congrFun (congrFun e6 50) 3).trans rfl; rw [show α9 51 j = α 81 j from (congrFun ((congrFun e10 51).trans qw_r_eq) j).trans (by unfold va_cpy; rw [if_pos (by omega)]; congr 1; omega)]; exact p0 j (by omega))) ?_
  rintro _ _ ⟨σ15, α16, rfl, hI17, hG18, v13, rfl, hv13, hx14⟩
  have hF19 : qFr [(50, 3), (50, 4), (50, 5), (50, 6), (50, 7)] [51, 52] σ α σ15 α16 := qFr_t hF12 hG18 (by decide) (by decide)
  show qr_W (qe L xs vb) (d + 56) qx_e86 _ (36, _, [.int (qz v13)], qw σ15 α16 κ ρ, 0, 0)
  refine qr_retI rfl rfl (by decide) (by decide) ?_
  exact ⟨_, _, rfl, hI17, hF19, v13, rfl, hv13, (by have hw : σ5 50 3 = v3 := (congrFun (congrFun e6 50) 3).trans rfl; have hq := hx14; rw [show σ5 50 3 = x2 by omega] at hq; exact qRt_cg (fun j hj => (congrFun ((congrFun e10 51).trans qw_r_eq) j).trans (by unfold va_cpy; rw [if_pos (by omega)]; congr 1; omega)) (fun k q1 q2 => rfl) hq)⟩

set_option maxHeartbeats 4000000 in
set_option maxRecDepth 20000 in
/-- OneRoof$Custom.read -/
theorem sf_86_54_81x {L : Nat} {xs : Nat → Int} {vb : Bool} {d : Nat} {σ α : Nat → Nat → Int} {κ : Nat → Option Nat} {ρ : Nat} {x2 : Int} (hI : qI σ α κ ρ) (r2 : 0 ≤ x2 ∧ x2 ≤ 120) (p0 : ∀ j : Nat, (j : Int) < x2 → 0 ≤ α 81 j ∧ α 81 j ≤ 255) : qm_T (qe L xs vb) (d + 57) 86 [.ref 54, .ref 81, .int (qz x2)] (qw σ α κ ρ) (fun r w' => ∃ σ' α', w' = qw σ' α' κ ρ ∧ qI σ' α' κ ρ ∧ qFr [(54, 3), (54, 4), (54, 5), (54, 6), (54, 7)] [55, 56] σ α σ' α' ∧ ∃ v : Int, r = some (.int (qz v)) ∧ ((-1) ≤ v ∧ v ≤ 120) ∧ qRt x2 (α 81) v (σ' 54 5) (σ' 54 6) (α' 56)) := by
  refine qr_start (d := d + 56) qv_e86 (Nat.le_of_ble_eq_true rfl) ?_
  show qr_W (qe L xs vb) (d + 56) qx_e86 _ (0, [(0, .ref 54), (1, .ref 81), (2, .int (qz x2))], [], _, 0, 0)
  have hF0 := qFr_rf [(54, 3), (54, 4), (54, 5), (54, 6), (54, 7)] [55, 56] σ α
  have hz54_3 : 0 ≤ σ 54 3 ∧ σ 54 3 ≤ 120 := hI.1 54 3
  refine qr_aload_n 1 rfl rfl rfl ?_
  refine qr_iload_n 2 rfl rfl rfl ?_
  refine qr_aload_n 3 rfl rfl rfl ?_
  refine qr_alen 4 rfl rfl (by first | exact Or.inl (by decide) | exact Or.inr (Or.inl rfl) | exact Or.inr (Or.inr (Or.inl rfl)) | exact Or.inr (Or.inr (Or.inr (Or.inl rfl)))) rfl ?_
  refine qy_v 120 rfl ?_
  refine qr_callN 7 rfl rfl rfl (sf_12 (d := d + 55) hI (qrg r2 (by decide) (by decide)) (by decide)) ?_
  rintro _ _ ⟨rfl, v1, rfl, hv1, hp2⟩
  show qr_W (qe L xs vb) (d + 56) qx_e86 _ (7, _, [.int (qz v1), .ref 54], qw σ α κ ρ, 0, 0)
  refine qr_aload_n 8 rfl rfl rfl ?_
  refine qr_get 11 rfl rfl rfl (by decide) rfl ?_
  refine qr_alen 12 rfl rfl (by first | exact Or.inl (by decide) | exact Or.inr (Or.inl rfl) | exact Or.inr (Or.inr (Or.inl rfl)) | exact Or.inr (Or.inr (Or.inr (Or.inl rfl)))) rfl ?_
  refine qy_v 120 rfl ?_
  refine qr_callN 15 rfl rfl rfl (sf_12 (d := d + 55) hI hv1 (by decide)) ?_
  rintro _ _ ⟨rfl, v3, rfl, hv3, hp4⟩
  show qr_W (qe L xs vb) (d + 56) qx_e86 _ (15, _, [.int (qz v3), .ref 54], qw σ α κ ρ, 0, 0)
  refine qr_put 18 rfl (by decide) rfl (Nat.le_of_ble_eq_true rfl) (Nat.le_of_ble_eq_true rfl) (Or.inl rfl) (qr_fitI rfl _) rfl ?_
  refine qy_wS (qw_s σ 54 3 v3) rfl (fun σ5 e6 => ?_)
  have hI7 : qI σ5 α κ ρ := by rw [e6]; exact qI_s hI 54 3 rfl (show 0 ≤ v3 ∧ v3 ≤ 120 by omega)
  have hF8 : qFr [(54, 3), (54, 4), (54, 5), (54, 6), (54, 7)] [55, 56] σ α σ5 α := by rw [e6]; exact qFr_s hF0 54 3 _ (by decide)
  refine qr_aload_n 19 rfl rfl rfl ?_
  refine qr_iconst 20 rfl rfl ?_
  refine qr_aload_n 21 rfl rfl rfl ?_
  refine qr_get 24 rfl rfl rfl (by decide) rfl ?_
  refine qr_iconst 25 rfl rfl ?_
  refine qr_aload_n 26 rfl rfl rfl ?_
  refine qr_get 29 rfl rfl rfl (by decide) rfl ?_
  refine qy_v v3 ((congrFun (congrFun e6 54) 3).trans rfl) ?_
  refine qy_copyi 32 rfl (by decide) (by decide) rfl rfl (by omega) (by omega) (by omega) (by omega) (by omega) (by decide) (by decide) rfl ?_
  refine qy_wA (qw_r α 55 (va_cpy (α 81) (α 55) (0 : Int).toNat (0 : Int).toNat (v3 : Int).toNat)) rfl (fun α9 e10 => ?_)
  have hI11 : qI σ5 α9 κ ρ := by rw [e10]; exact qI_cpy hI7 81 55 rfl rfl (show _ ≤ 120 by omega)
  have hF12 : qFr [(54, 3), (54, 4), (54, 5), (54, 6), (54, 7)] [55, 56] σ α σ5 α9 := by rw [e10]; exact qFr_r hF8 55 _ (by decide)
  refine qr_aload_n 33 rfl rfl rfl ?_
  refine qr_callN 36 rfl rfl rfl (sf_18_54x (d := d + 0) hI11 (fun j hj => by have hw : σ5 54 3 = v3 := (congrFun (congrFun e6 54) 3).trans rfl; rw [show α9 55 j = α 81 j from (congrFun ((congrFun e10 55).trans qw_r_eq) j).trans (by unfold va_cpy; rw [if_pos (by omega)]; congr 1; omega)]; exact p0 j (by omega))) ?_
  rintro _ _ ⟨σ15, α16, rfl, hI17, hG18, v13, rfl, hv13, hx14⟩
  have hF19 : qFr [(54, 3), (54, 4), (54, 5), (54, 6), (54, 7)] [55, 56] σ α σ15 α16 := qFr_t hF12 hG18 (by decide) (by decide)
  show qr_W (qe L xs vb) (d + 56) qx_e86 _ (36, _, [.int (qz v13)], qw σ15 α16 κ ρ, 0, 0)
  refine qr_retI rfl rfl (by decide) (by decide) ?_
  exact ⟨_, _, rfl, hI17, hF19, v13, rfl, hv13, (by have hw : σ5 54 3 = v3 := (congrFun (congrFun e6 54) 3).trans rfl; have hq := hx14; rw [show σ5 54 3 = x2 by omega] at hq; exact qRt_cg (fun j hj => (congrFun ((congrFun e10 55).trans qw_r_eq) j).trans (by unfold va_cpy; rw [if_pos (by omega)]; congr 1; omega)) (fun k q1 q2 => rfl) hq)⟩

set_option maxHeartbeats 4000000 in
set_option maxRecDepth 20000 in
/-- OneRoof$Custom.read -/
theorem sf_86_82_81x {L : Nat} {xs : Nat → Int} {vb : Bool} {d : Nat} {σ α : Nat → Nat → Int} {κ : Nat → Option Nat} {ρ : Nat} {x2 : Int} (hI : qI σ α κ ρ) (r2 : 0 ≤ x2 ∧ x2 ≤ 120) (p0 : ∀ j : Nat, (j : Int) < x2 → 0 ≤ α 81 j ∧ α 81 j ≤ 255) : qm_T (qe L xs vb) (d + 57) 86 [.ref 82, .ref 81, .int (qz x2)] (qw σ α κ ρ) (fun r w' => ∃ σ' α', w' = qw σ' α' κ ρ ∧ qI σ' α' κ ρ ∧ qFr [(82, 3), (82, 4), (82, 5), (82, 6), (82, 7)] [83, 84] σ α σ' α' ∧ ∃ v : Int, r = some (.int (qz v)) ∧ ((-1) ≤ v ∧ v ≤ 120) ∧ qRt x2 (α 81) v (σ' 82 5) (σ' 82 6) (α' 84)) := by
  refine qr_start (d := d + 56) qv_e86 (Nat.le_of_ble_eq_true rfl) ?_
  show qr_W (qe L xs vb) (d + 56) qx_e86 _ (0, [(0, .ref 82), (1, .ref 81), (2, .int (qz x2))], [], _, 0, 0)
  have hF0 := qFr_rf [(82, 3), (82, 4), (82, 5), (82, 6), (82, 7)] [83, 84] σ α
  have hz82_3 : 0 ≤ σ 82 3 ∧ σ 82 3 ≤ 120 := hI.1 82 3
  refine qr_aload_n 1 rfl rfl rfl ?_
  refine qr_iload_n 2 rfl rfl rfl ?_
  refine qr_aload_n 3 rfl rfl rfl ?_
  refine qr_alen 4 rfl rfl (by first | exact Or.inl (by decide) | exact Or.inr (Or.inl rfl) | exact Or.inr (Or.inr (Or.inl rfl)) | exact Or.inr (Or.inr (Or.inr (Or.inl rfl)))) rfl ?_
  refine qy_v 120 rfl ?_
  refine qr_callN 7 rfl rfl rfl (sf_12 (d := d + 55) hI (qrg r2 (by decide) (by decide)) (by decide)) ?_
  rintro _ _ ⟨rfl, v1, rfl, hv1, hp2⟩
  show qr_W (qe L xs vb) (d + 56) qx_e86 _ (7, _, [.int (qz v1), .ref 82], qw σ α κ ρ, 0, 0)
  refine qr_aload_n 8 rfl rfl rfl ?_
  refine qr_get 11 rfl rfl rfl (by decide) rfl ?_
  refine qr_alen 12 rfl rfl (by first | exact Or.inl (by decide) | exact Or.inr (Or.inl rfl) | exact Or.inr (Or.inr (Or.inl rfl)) | exact Or.inr (Or.inr (Or.inr (Or.inl rfl)))) rfl ?_
  refine qy_v 120 rfl ?_
  refine qr_callN 15 rfl rfl rfl (sf_12 (d := d + 55) hI hv1 (by decide)) ?_
  rintro _ _ ⟨rfl, v3, rfl, hv3, hp4⟩
  show qr_W (qe L xs vb) (d + 56) qx_e86 _ (15, _, [.int (qz v3), .ref 82], qw σ α κ ρ, 0, 0)
  refine qr_put 18 rfl (by decide) rfl (Nat.le_of_ble_eq_true rfl) (Nat.le_of_ble_eq_true rfl) (Or.inl rfl) (qr_fitI rfl _) rfl ?_
  refine qy_wS (qw_s σ 82 3 v3) rfl (fun σ5 e6 => ?_)
  have hI7 : qI σ5 α κ ρ := by rw [e6]; exact qI_s hI 82 3 rfl (show 0 ≤ v3 ∧ v3 ≤ 120 by omega)
  have hF8 : qFr [(82, 3), (82, 4), (82, 5), (82, 6), (82, 7)] [83, 84] σ α σ5 α := by rw [e6]; exact qFr_s hF0 82 3 _ (by decide)
  refine qr_aload_n 19 rfl rfl rfl ?_
  refine qr_iconst 20 rfl rfl ?_
  refine qr_aload_n 21 rfl rfl rfl ?_
  refine qr_get 24 rfl rfl rfl (by decide) rfl ?_
  refine qr_iconst 25 rfl rfl ?_
  refine qr_aload_n 26 rfl rfl rfl ?_
  refine qr_get 29 rfl rfl rfl (by decide) rfl ?_
  refine qy_v v3 ((congrFun (congrFun e6 82) 3).trans rfl) ?_
  refine qy_copyi 32 rfl (by decide) (by decide) rfl rfl (by omega) (by omega) (by omega) (by omega) (by omega) (by decide) (by decide) rfl ?_
  refine qy_wA (qw_r α 83 (va_cpy (α 81) (α 83) (0 : Int).toNat (0 : Int).toNat (v3 : Int).toNat)) rfl (fun α9 e10 => ?_)
  have hI11 : qI σ5 α9 κ ρ := by rw [e10]; exact qI_cpy hI7 81 83 rfl rfl (show _ ≤ 120 by omega)
  have hF12 : qFr [(82, 3), (82, 4), (82, 5), (82, 6), (82, 7)] [83, 84] σ α σ5 α9 := by rw [e10]; exact qFr_r hF8 83 _ (by decide)
  refine qr_aload_n 33 rfl rfl rfl ?_
  refine qr_callN 36 rfl rfl rfl (sf_18_82x (d := d + 0) hI11 (fun j hj => by have hw : σ5 82 3 = v3 := (congrFun (congrFun e6 82) 3).trans rfl; rw [show α9 83 j = α 81 j from (congrFun ((congrFun e10 83).trans qw_r_eq) j).trans (by unfold va_cpy; rw [if_pos (by omega)]; congr 1; omega)]; exact p0 j (by omega))) ?_
  rintro _ _ ⟨σ15, α16, rfl, hI17, hG18, v13, rfl, hv13, hx14⟩
  have hF19 : qFr [(82, 3), (82, 4), (82, 5), (82, 6), (82, 7)] [83, 84] σ α σ15 α16 := qFr_t hF12 hG18 (by decide) (by decide)
  show qr_W (qe L xs vb) (d + 56) qx_e86 _ (36, _, [.int (qz v13)], qw σ15 α16 κ ρ, 0, 0)
  refine qr_retI rfl rfl (by decide) (by decide) ?_
  exact ⟨_, _, rfl, hI17, hF19, v13, rfl, hv13, (by have hw : σ5 82 3 = v3 := (congrFun (congrFun e6 82) 3).trans rfl; have hq := hx14; rw [show σ5 82 3 = x2 by omega] at hq; exact qRt_cg (fun j hj => (congrFun ((congrFun e10 83).trans qw_r_eq) j).trans (by unfold va_cpy; rw [if_pos (by omega)]; congr 1; omega)) (fun k q1 q2 => rfl) hq)⟩
end
