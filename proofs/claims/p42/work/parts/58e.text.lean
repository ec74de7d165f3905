/-! texts: how one is read, and what it gives -/
abbrev qtx_3 : Type := Int × Int × Int
def qtx_c (T : Nat → Int) (n a : Int) : Int := if 0 ≤ a ∧ a < n then T a.toNat else -1
theorem qtx_c_c (T : Nat → Int) (n a : Int) : (a < 0 ∧ qtx_c T n a = -1) ∨ ((0 ≤ a ∧ a < n) ∧ qtx_c T n a = T a.toNat) ∨ ((0 ≤ a ∧ n ≤ a) ∧ qtx_c T n a = -1) := by
  unfold qtx_c
  by_cases h : 0 ≤ a ∧ a < n
  · exact Or.inr (Or.inl ⟨h, if_pos h⟩)
  · by_cases h2 : a < 0
    · exact Or.inl ⟨h2, if_neg h⟩
    · exact Or.inr (Or.inr ⟨by omega, if_neg h⟩)
theorem qtx_c_cg {T T' : Nat → Int} {n : Int} (h : ∀ j : Nat, (j : Int) < n → T j = T' j) : qtx_c T n = qtx_c T' n := funext fun a => by
  unfold qtx_c
  by_cases c : 0 ≤ a ∧ a < n
  · rw [if_pos c, if_pos c, h a.toNat (by omega)]
  · rw [if_neg c, if_neg c]
def qtx_nm (c : Int) : Int := if c = 102 then 0 else if c = 110 then 1 else if c = 99 then 2 else if c = 119 then 3 else if c = 118 then 4 else if c = 108 then 5 else if c = 107 then 6 else if c = 111 then 7 else if c = 100 then 8 else -1
theorem qtx_nm_c (c : Int) : (c = 102 ∧ qtx_nm c = 0) ∨ (c = 110 ∧ qtx_nm c = 1) ∨ (c = 99 ∧ qtx_nm c = 2) ∨ (c = 119 ∧ qtx_nm c = 3) ∨ (c = 118 ∧ qtx_nm c = 4) ∨ (c = 108 ∧ qtx_nm c = 5) ∨ (c = 107 ∧ qtx_nm c = 6) ∨ (c = 111 ∧ qtx_nm c = 7) ∨ (c = 100 ∧ qtx_nm c = 8) ∨ (¬ c = 102 ∧ ¬ c = 110 ∧ ¬ c = 99 ∧ ¬ c = 119 ∧ ¬ c = 118 ∧ ¬ c = 108 ∧ ¬ c = 107 ∧ ¬ c = 111 ∧ ¬ c = 100 ∧ qtx_nm c = -1) := by
  unfold qtx_nm
  repeat' split
  all_goals omega
def qtx_lo (c : Int) : Int := if c = 124 then 0 else if c = 38 then 1 else if c = 60 ∨ c = 61 ∨ c = 62 then 2 else if c = 43 ∨ c = 45 then 3 else if c = 42 ∨ c = 47 ∨ c = 37 then 4 else -1
theorem qtx_lo_c (c : Int) : (c = 124 ∧ qtx_lo c = 0) ∨ (c = 38 ∧ qtx_lo c = 1) ∨ ((c = 60 ∨ c = 61 ∨ c = 62) ∧ qtx_lo c = 2) ∨ ((c = 43 ∨ c = 45) ∧ qtx_lo c = 3) ∨ ((c = 42 ∨ c = 47 ∨ c = 37) ∧ qtx_lo c = 4) ∨ ((¬ c = 124 ∧ ¬ c = 38 ∧ ¬ c = 60 ∧ ¬ c = 61 ∧ ¬ c = 62 ∧ ¬ c = 43 ∧ ¬ c = 45 ∧ ¬ c = 42 ∧ ¬ c = 47 ∧ ¬ c = 37) ∧ qtx_lo c = -1) := by
  unfold qtx_lo
  repeat' split
  all_goals omega
/-- numbers: at most so many digits -/
def qtx_num (T : Nat → Int) (n : Int) : Nat → Int → Int → Int × Int
  | 0, v, a => (v, a)
  | k + 1, v, a => if 48 ≤ qtx_c T n a ∧ qtx_c T n a ≤ 57 then qtx_num T n k (10 * v + qtx_c T n a - 48) (a + 1) else (v, a)
theorem qtx_num_go {T : Nat → Int} {n : Int} {k : Nat} {v a : Int} (h : 48 ≤ qtx_c T n a ∧ qtx_c T n a ≤ 57) : qtx_num T n (k + 1) v a = qtx_num T n k (10 * v + qtx_c T n a - 48) (a + 1) := if_pos h
theorem qtx_num_st {T : Nat → Int} {n : Int} {k : Nat} {v a : Int} (h : ¬ (48 ≤ qtx_c T n a ∧ qtx_c T n a ≤ 57)) : qtx_num T n k v a = (v, a) := by
  cases k with
  | zero => rfl
  | succ k => exact if_neg h
def qtx_p : Nat → Int
  | 0 => 1
  | k + 1 => 10 * qtx_p k
theorem qtx_num_b {T : Nat → Int} {n : Int} : ∀ (k : Nat) (v a : Int), 0 ≤ v → a ≤ n → a ≤ (qtx_num T n k v a).2 ∧ (qtx_num T n k v a).2 ≤ n ∧ (qtx_num T n k v a).2 ≤ a + k ∧ 0 ≤ (qtx_num T n k v a).1 ∧ (qtx_num T n k v a).1 + 1 ≤ (v + 1) * qtx_p k := by
  intro k
  induction k with
  | zero =>
    intro v a hv ha
    refine ⟨Int.le_refl _, ha, ?_, hv, ?_⟩
    · show a ≤ a + ((0 : Nat) : Int)
      omega
    · show v + 1 ≤ (v + 1) * 1
      omega
  | succ k ih =>
    intro v a hv ha
    by_cases h : 48 ≤ qtx_c T n a ∧ qtx_c T n a ≤ 57
    · have hc := qtx_c_c T n a
      have h1 := ih (10 * v + qtx_c T n a - 48) (a + 1) (by omega) (by omega)
      rw [qtx_num_go h]
      refine ⟨by omega, h1.2.1, by omega, h1.2.2.2.1, Int.le_trans h1.2.2.2.2 ?_⟩
      have hp : ∀ j : Nat, 0 ≤ qtx_p j := by
        intro j
        induction j with
        | zero => decide
        | succ j ihj => show 0 ≤ 10 * qtx_p j; omega
      show (10 * v + qtx_c T n a - 48 + 1) * qtx_p k ≤ (v + 1) * (10 * qtx_p k)
      rw [← Int.mul_assoc, Int.mul_comm (v + 1) 10]
      exact Int.mul_le_mul_of_nonneg_right (by omega) (hp k)
    · rw [qtx_num_st h]
      refine ⟨Int.le_refl _, ha, by omega, hv, ?_⟩
      have hp : ∀ j : Nat, 1 ≤ qtx_p j := by
        intro j
        induction j with
        | zero => decide
        | succ j ihj => show 1 ≤ 10 * qtx_p j; omega
      have h2 : (v + 1) * 1 ≤ (v + 1) * qtx_p (k + 1) := Int.mul_le_mul_of_nonneg_left (hp _) (by omega)
      show v + 1 ≤ (v + 1) * qtx_p (k + 1)
      omega
/-- what signs give -/
def qtx_ap (c x y : Int) : Int := if c = 124 then (if x = 0 ∧ y = 0 then 0 else 1) else if c = 38 then (if x = 0 ∨ y = 0 then 0 else 1) else if c = 60 then (if x < y then 1 else 0) else if c = 61 then (if x = y then 1 else 0) else if c = 62 then (if y < x then 1 else 0) else if c = 43 then (qz (x + y)).toInt else if c = 45 then (qz (x - y)).toInt else if c = 42 then (qz (x * y)).toInt else if y = 0 then 0 else if c = 47 then qz_tdiv x y else if c = 37 then qz_trem x y else 0
def qtx_ng (c x : Int) : Int := if c = 45 then (qz (-x)).toInt else if x = 0 then 1 else 0
def qtx_cm (c : Int) (p q : qtx_3) : qtx_3 := (qtx_ap c p.1 q.1, q.2.1, q.2.2)
/-- what goes on as long as signs of a level stand there -/
def qtx_lp (T : Nat → Int) (n : Int) (sub : Int → qtx_3) (l : Int) : Nat → qtx_3 → qtx_3
  | 0, p => p
  | k + 1, p => if p.2.2 = 0 ∧ qtx_lo (qtx_c T n p.2.1) = l then qtx_lp T n sub l k (qtx_cm (qtx_c T n p.2.1) p (sub (p.2.1 + 1))) else p
theorem qtx_lp_go {T : Nat → Int} {n : Int} {sub : Int → qtx_3} {l : Int} {k : Nat} {p : qtx_3} (h : p.2.2 = 0 ∧ qtx_lo (qtx_c T n p.2.1) = l) : qtx_lp T n sub l (k + 1) p = qtx_lp T n sub l k (qtx_cm (qtx_c T n p.2.1) p (sub (p.2.1 + 1))) := if_pos h
theorem qtx_lp_st {T : Nat → Int} {n : Int} {sub : Int → qtx_3} {l : Int} {k : Nat} {p : qtx_3} (h : ¬ (p.2.2 = 0 ∧ qtx_lo (qtx_c T n p.2.1) = l)) : qtx_lp T n sub l k p = p := by
  cases k with
  | zero => rfl
  | succ k => exact if_neg h
/-- parts of a level, operands given: m levels above operands -/
def qtx_lv (T : Nat → Int) (n : Int) (one : Int → qtx_3) : Nat → Int → qtx_3
  | 0, a => one a
  | m + 1, a => qtx_lp T n (qtx_lv T n one m) (4 - (m : Int)) (if m = 2 then 1 else 120) (qtx_lv T n one m a)
def qtx_oo (T : Nat → Int) (n : Int) (N : Nat → Int) (a : Int) : qtx_3 :=
  if 0 ≤ qtx_nm (qtx_c T n a) then (N (qtx_nm (qtx_c T n a)).toNat, a + 1, 0)
  else if 48 ≤ qtx_c T n a ∧ qtx_c T n a ≤ 57 then ((qtx_num T n 4 0 a).1, (qtx_num T n 4 0 a).2, 0)
  else (0, a, 1)
def qtx_pc (T : Nat → Int) (n : Int) (x : qtx_3) : qtx_3 := if x.2.2 = 0 ∧ qtx_c T n x.2.1 = 41 then (x.1, x.2.1 + 1, 0) else (0, x.2.1, 1)
def qtx_un (c : Int) (x : qtx_3) : qtx_3 := (qtx_ng c x.1, x.2.1, x.2.2)
/-- an operand, with so many still to be opened -/
def qtx_on (T : Nat → Int) (n : Int) (N : Nat → Int) : Nat → Int → qtx_3
  | 0, a => qtx_oo T n N a
  | r + 1, a =>
    if qtx_c T n a = 40 then qtx_pc T n (qtx_lv T n (fun b => qtx_on T n N r b) 5 (a + 1))
    else if qtx_c T n a = 33 ∨ qtx_c T n a = 45 then qtx_un (qtx_c T n a) (qtx_on T n N r (a + 1))
    else qtx_oo T n N a
def qtx_E (T : Nat → Int) (n : Int) (N : Nat → Int) (r : Nat) : Int → qtx_3 := qtx_lv T n (fun b => qtx_on T n N r b) 5
/-- a line: whether it counts, what it gives -/
def qtx_ln (T : Nat → Int) (n : Int) (E : Int → qtx_3) (a : Int) : Int × qtx_3 :=
  if (E a).2.2 = 0 ∧ qtx_c T n (E a).2.1 = 63 then ((if (E a).1 = 0 then 0 else 1), E ((E a).2.1 + 1)) else (1, E a)
def qtx_gi (gi h : Int) : Int := if gi = 1 ∨ h = 1 then 1 else 0
def qtx_ge (gi h ge v : Int) : Int := if gi = 1 then ge else if h = 1 then v else ge
/-- a text from a line on -/
def qtx_pg (T : Nat → Int) (n : Int) (E : Int → qtx_3) : Nat → Int → Int → Int → qtx_3
  | 0, a, _, ge => (ge, a, 0)
  | k + 1, a, gi, ge =>
    if (qtx_ln T n E a).2.2.2 = 0 ∧ qtx_c T n (qtx_ln T n E a).2.2.1 = 59 then qtx_pg T n E k ((qtx_ln T n E a).2.2.1 + 1) (qtx_gi gi (qtx_ln T n E a).1) (qtx_ge gi (qtx_ln T n E a).1 ge (qtx_ln T n E a).2.1)
    else (qtx_ge gi (qtx_ln T n E a).1 ge (qtx_ln T n E a).2.1, (qtx_ln T n E a).2.2.1, if (qtx_ln T n E a).2.2.2 = 0 ∧ n ≤ (qtx_ln T n E a).2.2.1 then 0 else 1)
theorem qtx_pg_go {T : Nat → Int} {n : Int} {E : Int → qtx_3} {k : Nat} {a gi ge : Int} (h : (qtx_ln T n E a).2.2.2 = 0 ∧ qtx_c T n (qtx_ln T n E a).2.2.1 = 59) : qtx_pg T n E (k + 1) a gi ge = qtx_pg T n E k ((qtx_ln T n E a).2.2.1 + 1) (qtx_gi gi (qtx_ln T n E a).1) (qtx_ge gi (qtx_ln T n E a).1 ge (qtx_ln T n E a).2.1) := if_pos h
theorem qtx_pg_st {T : Nat → Int} {n : Int} {E : Int → qtx_3} {k : Nat} {a gi ge : Int} (h : ¬ ((qtx_ln T n E a).2.2.2 = 0 ∧ qtx_c T n (qtx_ln T n E a).2.2.1 = 59)) : qtx_pg T n E (k + 1) a gi ge = (qtx_ge gi (qtx_ln T n E a).1 ge (qtx_ln T n E a).2.1, (qtx_ln T n E a).2.2.1, if (qtx_ln T n E a).2.2.2 = 0 ∧ n ≤ (qtx_ln T n E a).2.2.1 then 0 else 1) := if_neg h
/-- the whole text -/
def qtx_W (T : Nat → Int) (n : Int) (N : Nat → Int) : qtx_3 := qtx_pg T n (qtx_E T n N 6) 121 0 0 0
/-! texts that are alike as far as they go -/
theorem qtx_num_cg {T T' : Nat → Int} {n : Int} (hC : qtx_c T n = qtx_c T' n) : ∀ (k : Nat) (v a : Int), qtx_num T n k v a = qtx_num T' n k v a := by
  intro k
  induction k with
  | zero => intro v a; rfl
  | succ k ih =>
    intro v a
    show (if 48 ≤ qtx_c T n a ∧ qtx_c T n a ≤ 57 then qtx_num T n k (10 * v + qtx_c T n a - 48) (a + 1) else (v, a)) = (if 48 ≤ qtx_c T' n a ∧ qtx_c T' n a ≤ 57 then qtx_num T' n k (10 * v + qtx_c T' n a - 48) (a + 1) else (v, a))
    rw [hC, ih]
theorem qtx_lp_cg {T T' : Nat → Int} {n : Int} (hC : qtx_c T n = qtx_c T' n) (sub : Int → qtx_3) (l : Int) : ∀ (k : Nat) (p : qtx_3), qtx_lp T n sub l k p = qtx_lp T' n sub l k p := by
  intro k
  induction k with
  | zero => intro p; rfl
  | succ k ih =>
    intro p
    show (if p.2.2 = 0 ∧ qtx_lo (qtx_c T n p.2.1) = l then qtx_lp T n sub l k (qtx_cm (qtx_c T n p.2.1) p (sub (p.2.1 + 1))) else p) = (if p.2.2 = 0 ∧ qtx_lo (qtx_c T' n p.2.1) = l then qtx_lp T' n sub l k (qtx_cm (qtx_c T' n p.2.1) p (sub (p.2.1 + 1))) else p)
    rw [hC, ih]
theorem qtx_lv_cg {T T' : Nat → Int} {n : Int} (hC : qtx_c T n = qtx_c T' n) (one : Int → qtx_3) : ∀ m : Nat, qtx_lv T n one m = qtx_lv T' n one m := by
  intro m
  induction m with
  | zero => rfl
  | succ m ih =>
    funext a
    show qtx_lp T n (qtx_lv T n one m) (4 - (m : Int)) (if m = 2 then 1 else 120) (qtx_lv T n one m a) = qtx_lp T' n (qtx_lv T' n one m) (4 - (m : Int)) (if m = 2 then 1 else 120) (qtx_lv T' n one m a)
    rw [ih, qtx_lp_cg hC]
theorem qtx_oo_cg {T T' : Nat → Int} {n : Int} (hC : qtx_c T n = qtx_c T' n) (N : Nat → Int) (a : Int) : qtx_oo T n N a = qtx_oo T' n N a := by
  unfold qtx_oo
  rw [hC, qtx_num_cg hC]
theorem qtx_on_cg {T T' : Nat → Int} {n : Int} (hC : qtx_c T n = qtx_c T' n) (N : Nat → Int) : ∀ (r : Nat) (a : Int), qtx_on T n N r a = qtx_on T' n N r a := by
  intro r
  induction r with
  | zero => exact qtx_oo_cg hC N
  | succ r ih =>
    intro a
    show (if qtx_c T n a = 40 then qtx_pc T n (qtx_lv T n (fun b => qtx_on T n N r b) 5 (a + 1)) else if qtx_c T n a = 33 ∨ qtx_c T n a = 45 then qtx_un (qtx_c T n a) (qtx_on T n N r (a + 1)) else qtx_oo T n N a) = (if qtx_c T' n a = 40 then qtx_pc T' n (qtx_lv T' n (fun b => qtx_on T' n N r b) 5 (a + 1)) else if qtx_c T' n a = 33 ∨ qtx_c T' n a = 45 then qtx_un (qtx_c T' n a) (qtx_on T' n N r (a + 1)) else qtx_oo T' n N a)
    have e : (fun b => qtx_on T n N r b) = fun b => qtx_on T' n N r b := funext ih
    have e2 : ∀ x : qtx_3, qtx_pc T n x = qtx_pc T' n x := fun x => by unfold qtx_pc; rw [hC]
    rw [hC, e, ih, e2, qtx_lv_cg hC, qtx_oo_cg hC]
theorem qtx_E_cg {T T' : Nat → Int} {n : Int} (hC : qtx_c T n = qtx_c T' n) (N : Nat → Int) (r : Nat) : qtx_E T n N r = qtx_E T' n N r := by
  have e : (fun b => qtx_on T n N r b) = fun b => qtx_on T' n N r b := funext (qtx_on_cg hC N r)
  unfold qtx_E
  rw [e, qtx_lv_cg hC]
theorem qtx_ln_cg {T T' : Nat → Int} {n : Int} (hC : qtx_c T n = qtx_c T' n) (E : Int → qtx_3) (a : Int) : qtx_ln T n E a = qtx_ln T' n E a := by
  unfold qtx_ln
  rw [hC]
theorem qtx_pg_cg {T T' : Nat → Int} {n : Int} (hC : qtx_c T n = qtx_c T' n) (E : Int → qtx_3) : ∀ (k : Nat) (a gi ge : Int), qtx_pg T n E k a gi ge = qtx_pg T' n E k a gi ge := by
  intro k
  induction k with
  | zero => intro a gi ge; rfl
  | succ k ih =>
    intro a gi ge
    by_cases h : (qtx_ln T n E a).2.2.2 = 0 ∧ qtx_c T n (qtx_ln T n E a).2.2.1 = 59
    · rw [qtx_pg_go h, qtx_pg_go (by rw [← qtx_ln_cg hC, ← hC]; exact h), ih, qtx_ln_cg hC]
    · rw [qtx_pg_st h, qtx_pg_st (by rw [← qtx_ln_cg hC, ← hC]; exact h), qtx_ln_cg hC]
theorem qtx_W_cg {T T' : Nat → Int} {n : Int} (h : ∀ j : Nat, (j : Int) < n → T j = T' j) (N : Nat → Int) : qtx_W T n N = qtx_W T' n N := by
  have hC := qtx_c_cg h
  unfold qtx_W
  rw [qtx_E_cg hC, qtx_pg_cg hC]
