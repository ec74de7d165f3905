section
section QO
variable {X : qm_X} {d : Nat} {x : qs_Ent} {Q : Option Value → qm_W → Prop} {pc : Nat} {ls : qm_L} {st : List Value} {R T : qm_W} {c n r1 r2 r3 : Nat} {rv : Value} {a : Nat}
theorem qo_len {e : qm_E} {m : Nat} (h : R.length = m) (b : Nat) (hb : 16 + (m + 1) = b) : b = 16 + (e :: R).length := by rw [List.length_cons, h, hb]
theorem qo_put {z m m2 m3 : Nat} {fs : List Value} {v : Value} (fs' : List Value) (p : Nat) (hR : R.length = m) (hT : T.length = m2) (hm : m + m2 = m3) (hq : qm_fetch x.2.2.2.2.2.2.2 pc = some (pc, .putfield z, 3, r1, r2, 0, rv)) (hl : r2 < fs.length) (hN : r2 < qr_N r1) (hfin : (qx_T r1 r2).2.2.2 = false ∨ ((qm_M1 x).2.2.1 = true ∧ (qm_M1 x).2.2.2.1 = r1)) (hfit : qm_fitb (qx_ty r1 r2) v = true) (hs : fs.set r2 v = fs') (hp : pc + 3 = p) (k : ∀ R', R' = R ++ T → R'.length = m3 → qr_W X d x Q (p, ls, st, .inr (r1, fs') :: R', c, n)) : qr_W X d x Q (pc, ls, v :: .ref 16 :: st, .inr (r1, fs) :: R ++ T, c, n) := by
  subst hs
  refine qr_put p hq (by omega) rfl hl hN hfin hfit hp ?_
  exact k (R ++ T) rfl (by rw [List.length_append]; omega)
theorem qo_put0 {z : Nat} {fs : List Value} {v : Value} (fs' : List Value) (p : Nat) (hq : qm_fetch x.2.2.2.2.2.2.2 pc = some (pc, .putfield z, 3, r1, r2, 0, rv)) (hl : r2 < fs.length) (hN : r2 < qr_N r1) (hfin : (qx_T r1 r2).2.2.2 = false ∨ ((qm_M1 x).2.2.1 = true ∧ (qm_M1 x).2.2.2.1 = r1)) (hfit : qm_fitb (qx_ty r1 r2) v = true) (hs : fs.set r2 v = fs') (hp : pc + 3 = p) (k : qr_W X d x Q (p, ls, st, .inr (r1, fs') :: R, c, n)) : qr_W X d x Q (pc, ls, v :: .ref 16 :: st, .inr (r1, fs) :: R, c, n) := by
  subst hs
  exact qr_put p hq (by omega) rfl hl hN hfin hfit hp k
theorem qo_get (u : qm_W) {e : qm_E} {b j : Nat} (hb : b = 16 + u.length + 1 + j) (hj : T[j]? = some e) (e0 : qm_E) : ((u ++ [e0]) ++ T)[b - 16]? = some e := by
  subst hb
  rw [show 16 + u.length + 1 + j - 16 = (u ++ [e0]).length + j by rw [List.length_append, List.length_singleton]; omega, List.getElem?_append_right (Nat.le_add_right _ _), Nat.add_sub_cancel_left, hj]
theorem qo_aast {u : qm_W} {N b j : Nat} {y : Int} {vs : List Value} {f : Nat → Option Nat} (p : Nat) (ha : a = 16 + u.length) (hb : a + 1 + j = b) (hj : T[j]? = some (.inr (7, vs))) (hq : qm_fetch x.2.2.2.2.2.2.2 pc = some (pc, .aastore, 1, r1, r2, r3, rv)) (hz : 0 ≤ y ∧ y < (N : Int)) (hN : N ≤ 1000000) (hp : pc + 1 = p) (k : qr_W X d x Q (p, ls, st, (u ++ [.inl (.object "OneRoof$Custom", N, .inr (.inr (.inr (.inr (va_up f y.toNat (some b))))))]) ++ T, c, n)) : qr_W X d x Q (pc, ls, .ref b :: .int (qz y) :: .ref a :: st, (u ++ [.inl (.object "OneRoof$Custom", N, .inr (.inr (.inr (.inr f))))]) ++ T, c, n) := by
  have h0 : ((u ++ [(.inl (.object "OneRoof$Custom", N, .inr (.inr (.inr (.inr f)))) : qm_E)]) ++ T)[a - 16]? = some (.inl (.object "OneRoof$Custom", N, .inr (.inr (.inr (.inr f))))) := by
    rw [List.append_assoc]
    exact qi_g u ha _ _
  refine qr_aastore p hq (by omega) (by omega) h0 (qo_get u (by omega) hj _) hz hN hp ?_
  rw [List.append_assoc, List.singleton_append, qi_s u ha]
  rw [List.append_assoc, List.singleton_append] at k
  exact k
end QO
/-- the numbers of the fresh objects: three customs', else 0 -/
def qo_s (s : Nat → Nat → Int) : Nat → Nat → Int := fun a k => if a = 50 then s 0 k else if a = 54 then s 1 k else if a = 82 then s 2 k else if a = 86 then (if k = 51 then -1 else 0) else 0
/-- the rows of the fresh objects -/
def qo_r (g : Nat → Nat → Int) : Nat → Nat → Int := fun a => if a = 24 then g 24 else if a = 26 then g 26 else if a = 51 then g 51 else if a = 52 then g 52 else if a = 55 then g 55 else if a = 56 then g 56 else if a = 83 then g 83 else if a = 84 then g 84 else if a = 45 then (qzu (qzu (qzu (qzu (qzu (qzu (fun _ => 0) (0 : Int).toNat 6) (1 : Int).toNat 6) (2 : Int).toNat 6) (3 : Int).toNat 6) (4 : Int).toNat 6) (5 : Int).toNat 6) else if a = 108 then (qzu (qzu (fun _ => 0) (0 : Int).toNat (-1)) (1 : Int).toNat (-1)) else if a = 121 then (qzu (qzu (qzu (qzu (qzu (qzu (fun _ => 0) (0 : Int).toNat (-1)) (1 : Int).toNat (-1)) (2 : Int).toNat (-1)) (3 : Int).toNat (-1)) (4 : Int).toNat (-1)) (5 : Int).toNat (-1)) else fun _ => 0
/-- a custom's numbers -/
def qo_c (ln at_ sz nm sk : Int) : Nat → Int := fun k => if k = 3 then ln else if k = 4 then at_ else if k = 5 then sz else if k = 6 then nm else sk
/-- which numbers, which rows they may be -/
def qo_ok (s g : Nat → Nat → Int) : Prop := (s 0 3 = 4 ∧ s 1 3 = 5 ∧ s 2 3 = 1) ∧ (∀ i, i < 3 → (0 ≤ s i 4 ∧ s i 4 ≤ 5) ∧ (0 ≤ s i 5 ∧ s i 5 ≤ 122) ∧ (-2147483648 ≤ s i 6 ∧ s i 6 ≤ 2147483647) ∧ (s i 7 = 0 ∨ s i 7 = 1)) ∧ (∀ i, i = 24 ∨ i = 26 → ∀ j : Nat, j < 1024 → g i j = if j % 33 = 0 then 0 else 99) ∧ ∀ i, i = 51 ∨ i = 55 ∨ i = 83 → ∀ j, -2147483648 ≤ g i j ∧ g i j ≤ 2147483647
abbrev qo_k : Nat → Option Nat := va_up (va_up (fun _ => none) (0 : Int).toNat (some 50)) (1 : Int).toNat (some 54)
end
section
/-! steps between people: the kin as ties, the fewest ties from one to another one (99: more, or none) -/
def qAj (A B : Nat → Int) (m p q : Int) : Prop := ∃ k : Nat, (k : Int) < m ∧ ((A k = p ∧ B k = q) ∨ (A k = q ∧ B k = p))
def qWk (A B : Nat → Int) (m : Int) : Nat → Int → Int → Prop
  | 0, p, q => p = q
  | n + 1, p, q => ∃ r, qWk A B m n p r ∧ qAj A B m r q
/-- t is how far it is from p to q -/
def qDi (A B : Nat → Int) (m t p q : Int) : Prop := (0 ≤ t ∧ t ≤ 99) ∧ (t < 99 → qWk A B m t.toNat p q) ∧ ∀ n : Nat, qWk A B m n p q → t ≤ (n : Int)
theorem qAj_sym {A B : Nat → Int} {m p q : Int} (h : qAj A B m p q) : qAj A B m q p := by
  obtain ⟨k, h1, h2⟩ := h
  exact ⟨k, h1, h2.symm⟩
theorem qWk_cat {A B : Nat → Int} {m p r : Int} {n : Nat} (h : qWk A B m n p r) : ∀ {k : Nat} {q : Int}, qWk A B m k r q → qWk A B m (n + k) p q
  | 0, q, h2 => by
    have e : r = q := h2
    subst e
    exact h
  | k + 1, q, h2 => by
    obtain ⟨s, h3, h4⟩ := h2
    exact ⟨s, qWk_cat h h3, h4⟩
theorem qWk_one {A B : Nat → Int} {m p q : Int} (h : qAj A B m p q) : qWk A B m 1 p q := ⟨p, rfl, h⟩
theorem qWk_rev {A B : Nat → Int} {m p : Int} : ∀ {n : Nat} {q : Int}, qWk A B m n p q → qWk A B m n q p
  | 0, q, h => Eq.symm (show p = q from h)
  | n + 1, q, h => by
    obtain ⟨r, h1, h2⟩ := h
    have h3 := qWk_cat (qWk_one (qAj_sym h2)) (qWk_rev h1)
    rw [Nat.add_comm] at h3
    exact h3
theorem qDi_step {A B : Nat → Int} {m t1 t2 p r q : Int} (h1 : qDi A B m t1 p r) (h2 : qDi A B m t2 p q) (ha : qAj A B m r q) : t2 ≤ t1 + 1 := by
  by_cases e : t1 < 99
  · have h3 := h2.2.2 (t1.toNat + 1) ⟨r, h1.2.1 e, ha⟩
    have h4 := h1.1
    omega
  · have h3 := h2.1
    omega
theorem qDi_un {A B : Nat → Int} {m t1 t2 p q : Int} (h1 : qDi A B m t1 p q) (h2 : qDi A B m t2 p q) : t1 = t2 := by
  have h3 := h1.1
  have h4 := h2.1
  by_cases e1 : t1 < 99
  · have h5 := h2.2.2 _ (h1.2.1 e1)
    have h6 := h1.2.2 _ (h2.2.1 (by omega))
    omega
  · by_cases e2 : t2 < 99
    · have h5 := h1.2.2 _ (h2.2.1 e2)
      omega
    · omega
theorem qDi_self {A B : Nat → Int} {m t p : Int} (h : qDi A B m t p p) : t = 0 := by
  have h1 := h.2.2 0 rfl
  have h2 := h.1
  omega
/-- one without ties goes nowhere -/
theorem qWk_iso {A B : Nat → Int} {m p : Int} (hp : ∀ q, ¬ qAj A B m p q) : ∀ {n : Nat} {q : Int}, qWk A B m n p q → p = q
  | 0, q, h => h
  | n + 1, q, h => by
    obtain ⟨r, h1, h2⟩ := h
    have e := qWk_iso hp h1
    subst e
    exact absurd h2 (hp q)
/-- one tie more -/
def qAk (A : Nat → Int) (m a : Int) : Nat → Int := qzu A m.toNat a
theorem qAj_old {A B : Nat → Int} {m a b p q : Int} (hm : 0 ≤ m) (h : qAj A B m p q) : qAj (qAk A m a) (qAk B m b) (m + 1) p q := by
  obtain ⟨k, h1, h2⟩ := h
  refine ⟨k, by omega, ?_⟩
  unfold qAk qzu
  rw [if_neg (by omega), if_neg (by omega)]
  exact h2
theorem qAj_new {A B : Nat → Int} {m a b : Int} (hm : 0 ≤ m) : qAj (qAk A m a) (qAk B m b) (m + 1) a b := by
  refine ⟨m.toNat, by omega, ?_⟩
  unfold qAk qzu
  rw [if_pos rfl, if_pos rfl]
  exact Or.inl ⟨rfl, rfl⟩
theorem qAj_inv {A B : Nat → Int} {m a b p q : Int} (h : qAj (qAk A m a) (qAk B m b) (m + 1) p q) : qAj A B m p q ∨ (p = a ∧ q = b) ∨ (p = b ∧ q = a) := by
  obtain ⟨k, h1, h2⟩ := h
  by_cases e : k = m.toNat
  · unfold qAk qzu at h2
    rw [if_pos e, if_pos e] at h2
    omega
  · unfold qAk qzu at h2
    rw [if_neg e, if_neg e] at h2
    exact Or.inl ⟨k, by omega, h2⟩
theorem qWk_old {A B : Nat → Int} {m a b p : Int} (hm : 0 ≤ m) : ∀ {n : Nat} {q : Int}, qWk A B m n p q → qWk (qAk A m a) (qAk B m b) (m + 1) n p q
  | 0, q, h => h
  | n + 1, q, h => by
    obtain ⟨r, h1, h2⟩ := h
    exact ⟨r, qWk_old hm h1, qAj_old hm h2⟩
/-- a table that is right stays right, if each way is no longer than the one before and than the ones over the new tie, and each is a way -/
theorem qDi_join {A B : Nat → Int} {m a b : Int} {T U : Int → Int → Int} (hm : 0 ≤ m) (ha : 0 ≤ a ∧ a < 32) (hb : 0 ≤ b ∧ b < 32)
    (hR : ∀ p q, qAj A B m p q → (0 ≤ q ∧ q < 32))
    (hT : ∀ x y, (0 ≤ x ∧ x < 32) → (0 ≤ y ∧ y < 32) → qDi A B m (T x y) x y)
    (h1 : ∀ x y, (0 ≤ x ∧ x < 32) → (0 ≤ y ∧ y < 32) → U x y ≤ T x y)
    (h2 : ∀ x y, (0 ≤ x ∧ x < 32) → (0 ≤ y ∧ y < 32) → 0 ≤ U x y ∧ (U x y < 99 → qWk (qAk A m a) (qAk B m b) (m + 1) (U x y).toNat x y))
    (h3 : ∀ x y, (0 ≤ x ∧ x < 32) → (0 ≤ y ∧ y < 32) → U x y ≤ T x a + T b y + 1 ∧ U x y ≤ T x b + T a y + 1) :
    ∀ x y, (0 ≤ x ∧ x < 32) → (0 ≤ y ∧ y < 32) → qDi (qAk A m a) (qAk B m b) (m + 1) (U x y) x y := by
  have key : ∀ (n : Nat) (x y : Int), (0 ≤ x ∧ x < 32) → qWk (qAk A m a) (qAk B m b) (m + 1) n x y → (0 ≤ y ∧ y < 32) ∧ (T x y ≤ (n : Int) ∨ T x a + T b y + 1 ≤ (n : Int) ∨ T x b + T a y + 1 ≤ (n : Int)) := by
    intro n
    induction n with
    | zero =>
      intro x y hx h
      have e : x = y := h
      subst e
      exact ⟨hx, Or.inl (by have := qDi_self (hT x x hx hx); omega)⟩
    | succ n ih =>
      intro x y hx h
      obtain ⟨r, h4, h5⟩ := h
      obtain ⟨hr, h6⟩ := ih x r hx h4
      have aa := qDi_self (hT a a ha ha)
      have bb := qDi_self (hT b b hb hb)
      have ab := (hT a b ha hb).1
      have ba := (hT b a hb ha).1
      rcases qAj_inv h5 with h7 | ⟨rfl, rfl⟩ | ⟨rfl, rfl⟩
      · have hy := hR _ _ h7
        refine ⟨hy, ?_⟩
        have s1 := qDi_step (hT x r hx hr) (hT x y hx hy) h7
        have s2 := qDi_step (hT b r hb hr) (hT b y hb hy) h7
        have s3 := qDi_step (hT a r ha hr) (hT a y ha hy) h7
        omega
      · exact ⟨hb, by omega⟩
      · exact ⟨ha, by omega⟩
  intro x y hx hy
  have hU := h2 x y hx hy
  have hL := h1 x y hx hy
  have hV := h3 x y hx hy
  have hT2 := (hT x y hx hy).1
  refine ⟨by omega, hU.2, fun n hn => ?_⟩
  have h4 := (key n x y hx hn).2
  omega
def qTb (f : Nat → Int) (x y : Int) : Int := f (x * 32 + y).toNat
theorem qTb_u {g : Nat → Int} {i j v : Int} {k : Nat} (hk : k = (i * 32 + j : Int).toNat) (hi : 0 ≤ i ∧ i < 32) (hj : 0 ≤ j ∧ j < 32) {x y : Int} (hx : 0 ≤ x) (hy : 0 ≤ y ∧ y < 32) : qTb (qzu g k v) x y = if x = i ∧ y = j then v else qTb g x y := by
  unfold qTb qzu
  by_cases e : x = i ∧ y = j
  · rw [if_pos e, if_pos (by omega)]
  · rw [if_neg e, if_neg (by omega)]
/-! the reference's own way to find steps: ties gone over till nothing gets nearer -/
def qC1 (P : Int → Int → Int → Prop) (n p q : Int) : Prop := ∀ t r : Int, (0 ≤ r ∧ r < n) → P t r p → P (t + 1) r q
def qNr (P : Int → Int → Int → Prop) (f g : Nat → Int) (n p q u more : Int) : Prop := (∀ x y : Int, (0 ≤ x ∧ x < n) → (0 ≤ y ∧ y < n) → qTb g x y ≤ qTb f x y) ∧ (∀ x y : Int, (0 ≤ x ∧ x < n) → (0 ≤ y ∧ y < n) → P (qTb g x y) x y) ∧ (∀ x : Int, (0 ≤ x ∧ x < u) → qTb g x q ≤ qTb g x p + 1) ∧ (more = 0 → g = f)
theorem qNr_0 {P : Int → Int → Int → Prop} {f : Nat → Int} {n p q : Int} (h : ∀ x y : Int, (0 ≤ x ∧ x < n) → (0 ≤ y ∧ y < n) → P (qTb f x y) x y) : qNr P f f n p q 0 0 :=
  ⟨fun _ _ _ _ => Int.le_refl _, h, fun x hx => False.elim (by omega), fun _ => rfl⟩
theorem qNr_end {P : Int → Int → Int → Prop} {f g : Nat → Int} {n p q u more : Int} (h : qNr P f g n p q u more) (hu : n ≤ u) : qNr P f g n p q n more :=
  ⟨h.1, h.2.1, fun x hx => h.2.2.1 x (by omega), h.2.2.2⟩
theorem qNr_skip {P : Int → Int → Int → Prop} {f g : Nat → Int} {n p q u more t1 t2 : Int} (h : qNr P f g n p q u more) (e1 : t1 = qTb g u p) (e2 : t2 = qTb g u q) (hl : t2 ≤ t1 + 1) : qNr P f g n p q (u + 1) more := by
  refine ⟨h.1, h.2.1, fun x hx => ?_, h.2.2.2⟩
  by_cases e : x = u
  · subst e
    omega
  · exact h.2.2.1 x (by omega)
theorem qNr_set {P : Int → Int → Int → Prop} {f g : Nat → Int} {n p q u more t1 t2 : Int} {k : Nat} (h : qNr P f g n p q u more) (cl : qC1 P n p q) (hn : n ≤ 32) (hu : 0 ≤ u ∧ u < n) (hp : 0 ≤ p ∧ p < n) (hq : 0 ≤ q ∧ q < n) (hk : k = (u * 32 + q : Int).toNat) (e1 : t1 = qTb g u p) (e2 : t2 = qTb g u q) (hl : t1 + 1 < t2) : qNr P f (qzu g k (t1 + 1)) n p q (u + 1) 1 := by
  have hq2 : 0 ≤ q ∧ q < 32 := by omega
  have hu2 : 0 ≤ u ∧ u < 32 := by omega
  have hpq : ¬ p = q := fun e => by
    subst e
    omega
  refine ⟨fun x y hx hy => ?_, fun x y hx hy => ?_, fun x hx => ?_, fun h0 => absurd h0 (by decide)⟩
  · rw [qTb_u hk hu2 hq2 hx.1 (by omega)]
    split
    · next e =>
      obtain ⟨rfl, rfl⟩ := e
      have h1 := h.1 x y hx hy
      omega
    · exact h.1 x y hx hy
  · rw [qTb_u hk hu2 hq2 hx.1 (by omega)]
    split
    · next e =>
      obtain ⟨rfl, rfl⟩ := e
      rw [e1]
      exact cl _ x hx (h.2.1 x p hx hp)
    · exact h.2.1 x y hx hy
  · have a1 := qTb_u (g := g) (v := t1 + 1) hk hu2 hq2 (x := x) (y := q) hx.1 hq2
    have a2 := qTb_u (g := g) (v := t1 + 1) hk hu2 hq2 (x := x) (y := p) hx.1 (by omega)
    rw [if_neg (fun e => hpq e.2)] at a2
    rw [a1, a2]
    by_cases e : x = u
    · rw [if_pos ⟨e, rfl⟩, e]
      omega
    · rw [if_neg (fun e2 => e e2.1)]
      exact h.2.2.1 x (by omega)
theorem qTb_c {f : Nat → Int} {v x y : Int} (h : v = f (32 * x + y : Int).toNat) : v = qTb f x y := by
  rw [h]
  unfold qTb
  congr 2
  omega
/-- the table as it is begun: places (x, y) ahead of (i, j) -/
def qFi (g : Nat → Int) (n i j : Int) : Prop := ∀ x y : Int, (0 ≤ x ∧ x < n) → (0 ≤ y ∧ y < n) → (x < i ∨ (x = i ∧ y < j)) → qTb g x y = if x = y then 0 else 99
theorem qFi_0 {g : Nat → Int} {n : Int} : qFi g n 0 0 := fun x y hx hy hp => False.elim (by omega)
theorem qFi_row {g : Nat → Int} {n i j : Int} (h : qFi g n i j) (hj : n ≤ j) : qFi g n (i + 1) 0 := fun x y hx hy hp => h x y hx hy (by omega)
theorem qFi_set {g : Nat → Int} {n i j v : Int} {k : Nat} (h : qFi g n i j) (hn : n ≤ 32) (hi : 0 ≤ i ∧ i < n) (hj : 0 ≤ j ∧ j < n) (hk : k = (i * 32 + j : Int).toNat) (hv : v = if i = j then 0 else 99) : qFi (qzu g k v) n i (j + 1) := by
  intro x y hx hy hp
  rw [qTb_u hk (by omega) (by omega) hx.1 (by omega)]
  split
  · next e =>
    obtain ⟨rfl, rfl⟩ := e
    exact hv
  · exact h x y hx hy (by omega)
/-- no tie brings anything nearer -/
def qFx (g : Nat → Int) (n p q : Int) : Prop := ∀ x : Int, (0 ≤ x ∧ x < n) → qTb g x q ≤ qTb g x p + 1 ∧ qTb g x p ≤ qTb g x q + 1
/-- while ties are gone over: k of them so far, more: whether anything got nearer -/
def qWh (P : Int → Int → Int → Prop) (g A B : Nat → Int) (n k more : Int) : Prop := (∀ x y : Int, (0 ≤ x ∧ x < n) → (0 ≤ y ∧ y < n) → P (qTb g x y) x y) ∧ (∀ x : Int, (0 ≤ x ∧ x < n) → qTb g x x ≤ 0) ∧ (more = 0 → ∀ j : Nat, (j : Int) < k → qFx g n (A j) (B j))
theorem qWh_0 {P : Int → Int → Int → Prop} {g A B : Nat → Int} {n k m m2 : Int} (h : qWh P g A B n k m) : qWh P g A B n 0 m2 := ⟨h.1, h.2.1, fun _ j hj => False.elim (by omega)⟩
theorem qWh_i {P : Int → Int → Int → Prop} {g A B : Nat → Int} {n i m : Int} (h : qFi g n i 0) (hi : n ≤ i) (p1 : ∀ x, P 0 x x) (p2 : ∀ x y, P 99 x y) : qWh P g A B n 0 m := by
  refine ⟨fun x y hx hy => ?_, fun x hx => ?_, fun _ j hj => False.elim (by omega)⟩
  · rw [h x y hx hy (by omega)]
    split
    · next e => subst e; exact p1 x
    · exact p2 x y
  · rw [h x x hx hx (by omega), if_pos rfl]
    exact Int.le_refl _
theorem qWh_s {P : Int → Int → Int → Prop} {g g1 g2 A B : Nat → Int} {n k m p q p2 q2 v w m2 : Int} (h : qWh P g A B n k m) (h1 : qNr P g g1 n p q n v) (h2 : qNr P g1 g2 n q2 p2 n w) (ep : p = A k.toNat) (eq : q = B k.toNat) (ep2 : p2 = A k.toNat) (eq2 : q2 = B k.toNat) (hk : 0 ≤ k) (hm : m2 = 0 → m = 0 ∧ v = 0 ∧ w = 0) : qWh P g2 A B n (k + 1) m2 := by
  rw [eq2, ep2, ← ep, ← eq] at h2
  refine ⟨h2.2.1, fun x hx => ?_, fun h0 j hj => ?_⟩
  · have a1 := h2.1 x x hx hx
    have a2 := h1.1 x x hx hx
    have a3 := h.2.1 x hx
    omega
  · obtain ⟨b1, b2, b3⟩ := hm h0
    have e1 := h1.2.2.2 b2
    have e2 := h2.2.2.2 b3
    by_cases e : j = k.toNat
    · subst e
      intro x hx
      rw [← ep, ← eq]
      have c1 := h1.2.2.1 x hx
      have c2 := h2.2.2.1 x hx
      rw [e2] at c2
      rw [e2]
      exact ⟨c1, c2⟩
    · have c := h.2.2 b1 j (by omega)
      rw [e2, e1]
      exact c
/-- a table at rest is right -/
theorem qDi_rest {A B : Nat → Int} {m n : Int} {g : Nat → Int} (hE : ∀ j : Nat, (j : Int) < m → (0 ≤ A j ∧ A j < n) ∧ (0 ≤ B j ∧ B j < n)) (hr : ∀ x y : Int, (0 ≤ x ∧ x < n) → (0 ≤ y ∧ y < n) → qTb g x y ≤ 99) (h : qWh (fun t x y => 0 ≤ t ∧ (t < 99 → qWk A B m t.toNat x y)) g A B n m 0) : ∀ x y : Int, (0 ≤ x ∧ x < n) → (0 ≤ y ∧ y < n) → qDi A B m (qTb g x y) x y := by
  have key : ∀ (k : Nat) (x y : Int), (0 ≤ x ∧ x < n) → qWk A B m k x y → (0 ≤ y ∧ y < n) ∧ qTb g x y ≤ (k : Int) := by
    intro k
    induction k with
    | zero =>
      intro x y hx hw
      have e : x = y := hw
      subst e
      exact ⟨hx, h.2.1 x hx⟩
    | succ k ih =>
      intro x y hx hw
      obtain ⟨r, h1, j, hj, h2⟩ := hw
      obtain ⟨hr2, h3⟩ := ih x r hx h1
      have f := h.2.2 rfl j hj x hx
      have e2 := hE j hj
      rcases h2 with ⟨rfl, rfl⟩ | ⟨rfl, rfl⟩
      · exact ⟨e2.2, by omega⟩
      · exact ⟨e2.1, by omega⟩
  intro x y hx hy
  have hp := h.1 x y hx hy
  exact ⟨⟨hp.1, hr x y hx hy⟩, hp.2, fun k hk => (key k x y hx hk).2⟩
theorem qAj_cg {A B A' B' : Nat → Int} {m p q : Int} (hA : ∀ k : Nat, (k : Int) < m → A' k = A k) (hB : ∀ k : Nat, (k : Int) < m → B' k = B k) (h : qAj A B m p q) : qAj A' B' m p q := by
  obtain ⟨k, h1, h2⟩ := h
  refine ⟨k, h1, ?_⟩
  rw [hA k h1, hB k h1]
  exact h2
theorem qWk_cg {A B A' B' : Nat → Int} {m p : Int} (hA : ∀ k : Nat, (k : Int) < m → A' k = A k) (hB : ∀ k : Nat, (k : Int) < m → B' k = B k) : ∀ {n : Nat} {q : Int}, qWk A B m n p q → qWk A' B' m n p q
  | 0, q, h => h
  | n + 1, q, h => by
    obtain ⟨r, h1, h2⟩ := h
    exact ⟨r, qWk_cg hA hB h1, qAj_cg hA hB h2⟩
theorem qDi_cg {A B A' B' : Nat → Int} {m t p q : Int} (hA : ∀ k : Nat, (k : Int) < m → A' k = A k) (hB : ∀ k : Nat, (k : Int) < m → B' k = B k) (h : qDi A B m t p q) : qDi A' B' m t p q :=
  ⟨h.1, fun hl => qWk_cg hA hB (h.2.1 hl), fun n hw => h.2.2 n (qWk_cg (fun k hk => (hA k hk).symm) (fun k hk => (hB k hk).symm) hw)⟩
/-- what the reference's table says of a number: it is a way, if it is less than 99 -/
def qPw (A B : Nat → Int) (m t x y : Int) : Prop := 0 ≤ t ∧ (t < 99 → qWk A B m t.toNat x y)
theorem qPw_c1 {A B : Nat → Int} {m n p q : Int} (h : qAj A B m p q) : qC1 (qPw A B m) n p q := by
  rintro t r hr ⟨h1, h2⟩
  refine ⟨by omega, fun hl => ?_⟩
  rw [show (t + 1).toNat = t.toNat + 1 by omega]
  exact ⟨p, h2 (by omega), h⟩
end
section
section QY
variable {X : qm_X} {d : Nat} {x : qs_Ent} {Q : Option Value → qm_W → Prop} {pc : Nat} {ls : qm_L} {st : List Value} {w : qm_W} {c n r1 r2 r3 : Nat} {rv : Value}
theorem qy_v {y : Int} (v : Int) (h : y = v) (k : qr_W X d x Q (pc, ls, .int (qz v) :: st, w, c, n)) : qr_W X d x Q (pc, ls, .int (qz y) :: st, w, c, n) := by
  rw [h]
  exact k
theorem qy_vl {y : Int} (v : Int) (h : y = v) (k : qr_W X d x Q (pc, ls, .long (ql v) :: st, w, c, n)) : qr_W X d x Q (pc, ls, .long (ql y) :: st, w, c, n) := by
  rw [h]
  exact k
theorem qy_wA {σ : Nat → Nat → Int} {κ : Nat → Option Nat} {ρ : Nat} (α : Nat → Nat → Int) (h : w = qw σ α κ ρ) (k : ∀ α', α' = α → qr_W X d x Q (pc, ls, st, qw σ α' κ ρ, c, n)) : qr_W X d x Q (pc, ls, st, w, c, n) := by
  rw [h]
  exact k α rfl
theorem qy_wS {α : Nat → Nat → Int} {κ : Nat → Option Nat} {ρ : Nat} (σ : Nat → Nat → Int) (h : w = qw σ α κ ρ) (k : ∀ σ', σ' = σ → qr_W X d x Q (pc, ls, st, qw σ' α κ ρ, c, n)) : qr_W X d x Q (pc, ls, st, w, c, n) := by
  rw [h]
  exact k σ rfl
theorem qy_w (w' : qm_W) (h : w = w') (k : qr_W X d x Q (pc, ls, st, w', c, n)) : qr_W X d x Q (pc, ls, st, w, c, n) := by
  rw [h]
  exact k
end QY
/-! the ranges of all numbers and rows of both objects; what a call leaves as it was. -/
def qI_st : List (Nat × Nat × Int × Int) := [(16, 15, 0, 120), (17, 5, (-9223372036854775808), 9223372036854775807), (17, 6, 0, 32), (27, 6, (-9223372036854775808), 9223372036854775807), (27, 7, 0, 40), (34, 7, 0, 60), (50, 3, 0, 120), (50, 4, 0, 120), (50, 5, 0, 122), (50, 7, 0, 1), (54, 3, 0, 120), (54, 4, 0, 120), (54, 5, 0, 122), (54, 7, 0, 1), (58, 10, (-9223372036854775808), 9223372036854775807), (64, 2, 0, 12), (70, 2, 0, 31), (70, 3, (-9223372036854775808), 9223372036854775807), (70, 5, 0, 60), (70, 6, (-9223372036854775808), 9223372036854775807), (73, 2, 0, 31), (73, 3, (-9223372036854775808), 9223372036854775807), (73, 5, 0, 60), (73, 6, (-9223372036854775808), 9223372036854775807), (76, 7, 0, 40), (76, 8, 0, 40), (82, 3, 0, 120), (82, 4, 0, 120), (82, 5, 0, 122), (82, 7, 0, 1), (86, 4, 0, 40), (86, 5, 0, 40), (86, 6, 0, 32), (86, 10, (-9223372036854775808), 9223372036854775807), (86, 11, 0, 61), (86, 15, 0, 1), (86, 16, 0, 40), (86, 22, (-9223372036854775808), 9223372036854775807), (86, 24, 0, 60), (86, 29, (-9223372036854775808), 9223372036854775807), (86, 32, 0, 120), (86, 35, (-1), 120), (86, 36, 0, 120), (86, 37, 0, 120), (86, 38, (-1), 120), (86, 39, 0, 6), (86, 41, 0, 1), (86, 43, 0, 32), (86, 50, 0, 31), (86, 51, (-9223372036854775808), 9223372036854775807)]
def qI_sr (a k : Nat) : Int × Int := match qI_st.find? (fun q => q.1 == a && q.2.1 == k) with | some q => (q.2.2.1, q.2.2.2) | none => (-2147483648, 2147483647)
def qI_rt : List (Nat × Nat × Int × Int) := [(18, 32, (-1), 31), (19, 32, 0, 99), (20, 32, (-2147483648), 2147483647), (21, 32, (-2147483648), 2147483647), (22, 32, (-9223372036854775808), 9223372036854775807), (24, 1024, 0, 99), (26, 1024, 0, 99), (28, 40, 0, 31), (29, 40, 0, 31), (30, 40, (-2147483648), 2147483647), (31, 40, 0, 3), (32, 40, (-2147483648), 2147483647), (33, 40, (-2147483648), 2147483647), (35, 60, (-2147483648), 2147483647), (36, 60, (-2147483648), 2147483647), (37, 60, (-2147483648), 2147483647), (38, 60, (-2147483648), 2147483647), (39, 60, (-2147483648), 2147483647), (40, 60, (-2147483648), 2147483647), (41, 60, (-9223372036854775808), 9223372036854775807), (43, 24, (-2147483648), 2147483647), (45, 6, 0, 6), (46, 6, 0, 60), (47, 6, (-1), 59), (48, 360, (-9223372036854775808), 9223372036854775807), (51, 120, (-2147483648), 2147483647), (52, 122, (-2147483648), 2147483647), (53, 120, (-2147483648), 2147483647), (55, 120, (-2147483648), 2147483647), (56, 122, (-2147483648), 2147483647), (57, 120, (-2147483648), 2147483647), (59, 9, (-2147483648), 2147483647), (60, 496, 0, 576), (61, 496, (-2147483648), 2147483647), (62, 496, (-9223372036854775808), 9223372036854775807), (63, 496, (-2147483648), 2147483647), (65, 12, 0, 31), (66, 12, (-2147483648), 2147483647), (67, 4096, (-2147483648), 2147483647), (68, 36, (-2147483648), 2147483647), (69, 6, 0, 11), (71, 31, 0, 3131), (72, 60, 0, 59), (74, 31, 0, 3131), (75, 60, 0, 59), (77, 40, (-2147483648), 2147483647), (78, 40, 0, 1919), (79, 40, (-2147483648), 2147483647), (80, 40, (-2147483648), 2147483647), (81, 120, (-2147483648), 2147483647), (83, 120, (-2147483648), 2147483647), (84, 122, (-2147483648), 2147483647), (85, 120, (-2147483648), 2147483647), (87, 252, (-2147483648), 2147483647), (88, 40, 0, 251), (89, 40, (-2147483648), 2147483647), (90, 40, (-2147483648), 2147483647), (91, 32, (-1), 31), (92, 32, (-2147483648), 2147483647), (93, 32, (-2147483648), 2147483647), (94, 61, 0, 31), (95, 61, 0, 31), (96, 1024, 0, 99), (97, 40, 0, 31), (98, 40, 0, 31), (99, 40, (-2147483648), 2147483647), (100, 40, (-2147483648), 2147483647), (101, 40, (-2147483648), 2147483647), (102, 60, 0, 31), (103, 60, (-2147483648), 2147483647), (104, 60, (-2147483648), 2147483647), (105, 60, (-2147483648), 2147483647), (106, 120, (-2147483648), 2147483647), (107, 240, (-2147483648), 2147483647), (108, 2, (-1), 120), (109, 9, (-2147483648), 2147483647), (110, 32, 0, 31), (111, 12, (-2147483648), 2147483647), (112, 4096, (-2147483648), 2147483647), (113, 10, 0, 39), (114, 6, 0, 5), (115, 31, 0, 31), (116, 31, 0, 31), (117, 31, 0, 31), (118, 31, 0, 31), (119, 1024, 0, 1), (120, 24, (-2147483648), 2147483647), (121, 6, (-1), 64), (122, 6, 0, 60), (123, 360, (-9223372036854775808), 9223372036854775807), (124, 60, (-9223372036854775808), 9223372036854775807)]
def qI_rr (a : Nat) : Nat × Int × Int := match qI_rt.find? (fun q => q.1 == a) with | some q => (q.2.1, q.2.2.1, q.2.2.2) | none => (0, 0, 0)
def qI_c (x : Nat) : Prop := x = 50 ∨ x = 54 ∨ x = 82
/-- the reference's ties lie among its people, and its table is right when it says so -/
def qK (σ α : Nat → Nat → Int) : Prop := (∀ j : Nat, (j : Int) < σ 86 11 → (0 ≤ α 94 j ∧ α 94 j < σ 86 6) ∧ (0 ≤ α 95 j ∧ α 95 j < σ 86 6)) ∧ (σ 86 15 = 1 → ∀ x y : Int, (0 ≤ x ∧ x < σ 86 6) → (0 ≤ y ∧ y < σ 86 6) → qDi (α 94) (α 95) (σ 86 11) (qTb (α 96) x y) x y)
/-- what ties numbers together: the list of guests rises; who is struck is one of 32; what was changed lies in its row; a lord came ahead -/
def qIx (σ α : Nat → Nat → Int) : Prop := (∀ i j : Nat, i < j → (j : Int) < σ 64 2 → α 65 i < α 65 j) ∧ (∀ a, a = 71 ∨ a = 74 → ∀ j, j < 31 → α a j % 100 ≤ 31) ∧ (∀ j, j < 40 → (α 77 j = 0 → α 78 j ≤ 39) ∧ (α 77 j = 2 → α 78 j ≤ 31) ∧ (¬ α 77 j = 0 → ¬ α 77 j = 1 → ¬ α 77 j = 2 → α 78 j ≤ 59)) ∧ (∀ j : Nat, j < 32 → α 91 j < (j : Int) ∨ (j = 0 ∧ σ 86 6 = 0)) ∧ σ 86 5 ≤ σ 86 4 ∧ qK σ α
/-- the numbers are in their ranges, the customs are three objects -/
def qI (σ α : Nat → Nat → Int) (κ : Nat → Option Nat) (ρ : Nat) : Prop := (∀ a k, (qI_sr a k).1 ≤ σ a k ∧ σ a k ≤ (qI_sr a k).2) ∧ (∀ a j, j < (qI_rr a).1 → (qI_rr a).2.1 ≤ α a j ∧ α a j ≤ (qI_rr a).2.2) ∧ ((∃ x, κ 0 = some x ∧ qI_c x) ∧ (∃ x, κ 1 = some x ∧ qI_c x) ∧ qI_c ρ) ∧ qIx σ α
/-- but for these numbers and rows all is as it was -/
def qFr (S : List (Nat × Nat)) (R : List Nat) (σ α σ' α' : Nat → Nat → Int) : Prop := (∀ a k, ¬ (a, k) ∈ S → σ' a k = σ a k) ∧ ∀ a, ¬ a ∈ R → α' a = α a
theorem qFr_rf (S : List (Nat × Nat)) (R : List Nat) (σ α : Nat → Nat → Int) : qFr S R σ α σ α := ⟨fun _ _ _ => rfl, fun _ _ => rfl⟩
theorem qFr_t {S S' : List (Nat × Nat)} {R R' : List Nat} {σ α σ1 α1 σ2 α2 : Nat → Nat → Int} (h : qFr S R σ α σ1 α1) (h' : qFr S' R' σ1 α1 σ2 α2) (hs : S'.all (fun x => S.contains x) = true) (hr : R'.all (fun x => R.contains x) = true) : qFr S R σ α σ2 α2 := by
  refine ⟨fun a k hn => (h'.1 a k (fun hm => hn ?_)).trans (h.1 a k hn), fun a hn => (h'.2 a (fun hm => hn ?_)).trans (h.2 a hn)⟩
  · exact List.contains_iff_mem.mp (List.all_eq_true.mp hs _ hm)
  · exact List.contains_iff_mem.mp (List.all_eq_true.mp hr _ hm)
theorem qFr_s {S : List (Nat × Nat)} {R : List Nat} {σ α σ1 α1 : Nat → Nat → Int} (h : qFr S R σ α σ1 α1) (a k : Nat) (v : Int) (hm : S.contains (a, k) = true) : qFr S R σ α (qw_s σ1 a k v) α1 := by
  refine ⟨fun a' k' hn => ?_, h.2⟩
  unfold qw_s
  by_cases h1 : a' = a
  · rw [if_pos h1]
    by_cases h2 : k' = k
    · subst h1 h2
      exact absurd (List.contains_iff_mem.mp hm) hn
    · rw [if_neg h2]
      exact h.1 a' k' hn
  · rw [if_neg h1]
    exact h.1 a' k' hn
theorem qFr_r {S : List (Nat × Nat)} {R : List Nat} {σ α σ1 α1 : Nat → Nat → Int} (h : qFr S R σ α σ1 α1) (a : Nat) (f : Nat → Int) (hm : R.contains a = true) : qFr S R σ α σ1 (qw_r α1 a f) := by
  refine ⟨h.1, fun a' hn => ?_⟩
  unfold qw_r
  by_cases h1 : a' = a
  · subst h1
    exact absurd (List.contains_iff_mem.mp hm) hn
  · rw [if_neg h1]
    exact h.2 a' hn
theorem qIx_g {σ α σ' α' : Nat → Nat → Int} (h : qIx σ α) (h1 : σ' 64 2 = σ 64 2) (h2 : σ' 86 6 = σ 86 6) (h9 : σ' 86 5 ≤ σ' 86 4) (h3 : α' 65 = α 65) (h4 : α' 71 = α 71) (h5 : α' 74 = α 74) (h6 : α' 77 = α 77) (h7 : α' 78 = α 78) (h8 : α' 91 = α 91) (k1 : σ' 86 11 = σ 86 11) (k2 : σ' 86 15 = σ 86 15) (k3 : α' 94 = α 94) (k4 : α' 95 = α 95) (k5 : α' 96 = α 96) : qIx σ' α' := by
  refine ⟨?_, ?_, ?_, ?_, h9, ?_⟩
  · rw [h1, h3]; exact h.1
  · rintro a (rfl | rfl)
    · rw [h4]; exact h.2.1 71 (Or.inl rfl)
    · rw [h5]; exact h.2.1 74 (Or.inr rfl)
  · rw [h6, h7]; exact h.2.2.1
  · rw [h2, h8]; exact h.2.2.2.1
  · unfold qK
    rw [h2, k1, k2, k3, k4, k5]
    exact h.2.2.2.2.2
theorem qI_s1 {σ α : Nat → Nat → Int} {κ : Nat → Option Nat} {ρ : Nat} (h : qI σ α κ ρ) (a k : Nat) {v : Int} (hv : (qI_sr a k).1 ≤ v ∧ v ≤ (qI_sr a k).2) (hx : qIx (qw_s σ a k v) α) : qI (qw_s σ a k v) α κ ρ := by
  refine ⟨fun a' k' => ?_, h.2.1, h.2.2.1, hx⟩
  unfold qw_s
  by_cases h1 : a' = a
  · rw [if_pos h1]
    by_cases h2 : k' = k
    · rw [if_pos h2]
      subst h1 h2
      exact hv
    · rw [if_neg h2]
      exact h.1 a' k'
  · rw [if_neg h1]
    exact h.1 a' k'
theorem qw_s_ne {σ : Nat → Nat → Int} {a k a' k' : Nat} {v : Int} (h : ¬ (a' = a ∧ k' = k)) : qw_s σ a k v a' k' = σ a' k' := by
  unfold qw_s
  by_cases h1 : a' = a
  · rw [if_pos h1, if_neg (fun h2 => h ⟨h1, h2⟩)]
  · rw [if_neg h1]
theorem qI_s {σ α : Nat → Nat → Int} {κ : Nat → Option Nat} {ρ : Nat} (h : qI σ α κ ρ) (a k : Nat) {v : Int} (hsp : ((a == 64 && k == 2) || (a == 86 && (k == 6 || (k == 5 || (k == 4 || (k == 11 || k == 15)))))) = false) (hv : (qI_sr a k).1 ≤ v ∧ v ≤ (qI_sr a k).2) : qI (qw_s σ a k v) α κ ρ := by
  refine qI_s1 h a k hv (qIx_g h.2.2.2 (qw_s_ne ?_) (qw_s_ne ?_) ?_ rfl rfl rfl rfl rfl rfl (qw_s_ne ?_) (qw_s_ne ?_) rfl rfl rfl)
  · rintro ⟨rfl, rfl⟩; exact absurd hsp (by decide)
  · rintro ⟨rfl, rfl⟩; exact absurd hsp (by decide)
  · rw [qw_s_ne (a' := 86) (k' := 5) (by rintro ⟨rfl, rfl⟩; exact absurd hsp (by decide)), qw_s_ne (a' := 86) (k' := 4) (by rintro ⟨rfl, rfl⟩; exact absurd hsp (by decide))]
    exact h.2.2.2.2.2.2.2.1
  · rintro ⟨rfl, rfl⟩; exact absurd hsp (by decide)
  · rintro ⟨rfl, rfl⟩; exact absurd hsp (by decide)
theorem qI_s5 {σ α : Nat → Nat → Int} {κ : Nat → Option Nat} {ρ : Nat} (h : qI σ α κ ρ) {v : Int} (hv : 0 ≤ v ∧ v ≤ 40) (hx : v ≤ σ 86 4) : qI (qw_s σ 86 5 v) α κ ρ :=
  qI_s1 h 86 5 hv (qIx_g h.2.2.2 (qw_s_ne (by decide)) (qw_s_ne (by decide)) hx rfl rfl rfl rfl rfl rfl (qw_s_ne (by decide)) (qw_s_ne (by decide)) rfl rfl rfl)
theorem qI_s54 {σ α : Nat → Nat → Int} {κ : Nat → Option Nat} {ρ : Nat} (h : qI σ α κ ρ) {v : Int} (hv : 0 ≤ v ∧ v ≤ 40) : qI (qw_s (qw_s σ 86 5 v) 86 4 v) α κ ρ := by
  refine ⟨fun a' k' => ?_, h.2.1, h.2.2.1, qIx_g h.2.2.2 ?_ ?_ (Int.le_refl v) rfl rfl rfl rfl rfl rfl rfl rfl rfl rfl rfl⟩
  · by_cases h1 : a' = 86 ∧ k' = 4
    · obtain ⟨rfl, rfl⟩ := h1
      exact hv
    · rw [qw_s_ne h1]
      by_cases h2 : a' = 86 ∧ k' = 5
      · obtain ⟨rfl, rfl⟩ := h2
        exact hv
      · rw [qw_s_ne h2]
        exact h.1 a' k'
  · rfl
  · rfl
theorem qI_r1 {σ α : Nat → Nat → Int} {κ : Nat → Option Nat} {ρ : Nat} (h : qI σ α κ ρ) (a i : Nat) {v : Int} (hv : (qI_rr a).2.1 ≤ v ∧ v ≤ (qI_rr a).2.2) (hx : qIx σ (qw_r α a (qzu (α a) i v))) : qI σ (qw_r α a (qzu (α a) i v)) κ ρ := by
  refine ⟨h.1, fun a' j hj => ?_, h.2.2.1, hx⟩
  unfold qw_r
  by_cases h1 : a' = a
  · rw [if_pos h1]
    unfold qzu
    subst h1
    by_cases h2 : j = i
    · rw [if_pos h2]
      exact hv
    · rw [if_neg h2]
      exact h.2.1 a' j hj
  · rw [if_neg h1]
    exact h.2.1 a' j hj
theorem qw_r_ne {α : Nat → Nat → Int} {a a' : Nat} {f : Nat → Int} (h : ¬ a' = a) : qw_r α a f a' = α a' := by
  unfold qw_r
  rw [if_neg h]
theorem qw_r_eq {α : Nat → Nat → Int} {a : Nat} {f : Nat → Int} : qw_r α a f a = f := by
  unfold qw_r
  rw [if_pos rfl]
theorem qIx_r {σ α : Nat → Nat → Int} (h : qIx σ α) (a : Nat) (f : Nat → Int) (hsp : [65, 71, 74, 77, 78, 91, 94, 95, 96].contains a = false) : qIx σ (qw_r α a f) := by
  refine qIx_g h rfl rfl h.2.2.2.2.1 (qw_r_ne ?_) (qw_r_ne ?_) (qw_r_ne ?_) (qw_r_ne ?_) (qw_r_ne ?_) (qw_r_ne ?_) rfl rfl (qw_r_ne ?_) (qw_r_ne ?_) (qw_r_ne ?_) <;> (rintro rfl; exact absurd hsp (by decide))
theorem qI_r {σ α : Nat → Nat → Int} {κ : Nat → Option Nat} {ρ : Nat} (h : qI σ α κ ρ) (a i : Nat) {v : Int} (hsp : [65, 71, 74, 77, 78, 91, 94, 95, 96].contains a = false) (hv : (qI_rr a).2.1 ≤ v ∧ v ≤ (qI_rr a).2.2) : qI σ (qw_r α a (qzu (α a) i v)) κ ρ := qI_r1 h a i hv (qIx_r h.2.2.2 a _ hsp)
theorem qI_r71 {σ α : Nat → Nat → Int} {κ : Nat → Option Nat} {ρ : Nat} (h : qI σ α κ ρ) (a i : Nat) {v : Int} (hsp : (a == 71 || a == 74) = true) (hv : (qI_rr a).2.1 ≤ v ∧ v ≤ (qI_rr a).2.2) (h3 : v % 100 ≤ 31) : qI σ (qw_r α a (qzu (α a) i v)) κ ρ := by
  have ha : a = 71 ∨ a = 74 := by simpa using hsp
  refine qI_r1 h a i hv ⟨?_, fun b hb j hj => ?_, ?_, ?_, h.2.2.2.2.2.2.2.1, ?_⟩
  · rw [qw_r_ne (by omega)]; exact h.2.2.2.1
  · by_cases e : b = a
    · subst e
      rw [qw_r_eq]
      unfold qzu
      split
      · exact h3
      · exact h.2.2.2.2.1 b hb j hj
    · rw [qw_r_ne e]
      exact h.2.2.2.2.1 b hb j hj
  · rw [qw_r_ne (by omega), qw_r_ne (by omega)]; exact h.2.2.2.2.2.1
  · rw [qw_r_ne (by omega)]; exact h.2.2.2.2.2.2.1
  · unfold qK
    rw [qw_r_ne (a' := 94) (by omega), qw_r_ne (a' := 95) (by omega), qw_r_ne (a' := 96) (by omega)]
    exact h.2.2.2.2.2.2.2.2
theorem qI_r91 {σ α : Nat → Nat → Int} {κ : Nat → Option Nat} {ρ : Nat} (h : qI σ α κ ρ) (i : Nat) {v : Int} (hv : (qI_rr 91).2.1 ≤ v ∧ v ≤ (qI_rr 91).2.2) (hi : v < (i : Int)) : qI σ (qw_r α 91 (qzu (α 91) i v)) κ ρ := by
  refine qI_r1 h 91 i hv ⟨h.2.2.2.1, ?_, h.2.2.2.2.2.1, fun j hj => ?_, h.2.2.2.2.2.2.2⟩
  · rintro b (rfl | rfl)
    · rw [qw_r_ne (by decide)]; exact h.2.2.2.2.1 71 (Or.inl rfl)
    · rw [qw_r_ne (by decide)]; exact h.2.2.2.2.1 74 (Or.inr rfl)
  · rw [qw_r_eq]
    unfold qzu
    by_cases e : j = i
    · rw [if_pos e]
      left
      omega
    · rw [if_neg e]
      exact h.2.2.2.2.2.2.1 j hj
theorem qI_s6 {σ α : Nat → Nat → Int} {κ : Nat → Option Nat} {ρ : Nat} (h : qI σ α κ ρ) {v : Int} (hv : 0 ≤ v ∧ v ≤ 32) (hx : α 91 0 < 0) (h0 : σ 86 15 = 0) (hl : σ 86 6 ≤ v) : qI (qw_s σ 86 6 v) α κ ρ := by
  refine qI_s1 h 86 6 hv ⟨?_, h.2.2.2.2.1, h.2.2.2.2.2.1, fun j hj => ?_, ?_, fun j hj => ?_, fun hk => ?_⟩
  · rw [qw_s_ne (by decide)]; exact h.2.2.2.1
  · rcases h.2.2.2.2.2.2.1 j hj with h1 | ⟨h1, _⟩
    · exact Or.inl h1
    · subst h1
      exact Or.inl hx
  · rw [qw_s_ne (by decide), qw_s_ne (by decide)]; exact h.2.2.2.2.2.2.2.1
  · rw [qw_s_ne (by decide)] at hj
    have h1 := h.2.2.2.2.2.2.2.2.1 j hj
    show (0 ≤ α 94 j ∧ α 94 j < v) ∧ (0 ≤ α 95 j ∧ α 95 j < v)
    omega
  · rw [qw_s_ne (by decide)] at hk
    exact absurd hk (by omega)
theorem qI_s15z {σ α : Nat → Nat → Int} {κ : Nat → Option Nat} {ρ : Nat} (h : qI σ α κ ρ) : qI (qw_s σ 86 15 0) α κ ρ := by
  refine qI_s1 h 86 15 (by decide) ⟨h.2.2.2.1, h.2.2.2.2.1, h.2.2.2.2.2.1, h.2.2.2.2.2.2.1, h.2.2.2.2.2.2.2.1, h.2.2.2.2.2.2.2.2.1, fun hk => ?_⟩
  exact absurd (show (0 : Int) = 1 from hk) (by decide)
theorem qI_s15o {σ α : Nat → Nat → Int} {κ : Nat → Option Nat} {ρ : Nat} (h : qI σ α κ ρ) (hK : ∀ x y : Int, (0 ≤ x ∧ x < σ 86 6) → (0 ≤ y ∧ y < σ 86 6) → qDi (α 94) (α 95) (σ 86 11) (qTb (α 96) x y) x y) : qI (qw_s σ 86 15 1) α κ ρ :=
  qI_s1 h 86 15 (by decide) ⟨h.2.2.2.1, h.2.2.2.2.1, h.2.2.2.2.2.1, h.2.2.2.2.2.2.1, h.2.2.2.2.2.2.2.1, h.2.2.2.2.2.2.2.2.1, fun _ => hK⟩
theorem qI_s11 {σ α : Nat → Nat → Int} {κ : Nat → Option Nat} {ρ : Nat} (h : qI σ α κ ρ) {v : Int} (hv : 0 ≤ v ∧ v ≤ 61) (h0 : σ 86 15 = 0) (hE : ∀ j : Nat, (j : Int) < v → (0 ≤ α 94 j ∧ α 94 j < σ 86 6) ∧ (0 ≤ α 95 j ∧ α 95 j < σ 86 6)) : qI (qw_s σ 86 11 v) α κ ρ :=
  qI_s1 h 86 11 hv ⟨h.2.2.2.1, h.2.2.2.2.1, h.2.2.2.2.2.1, h.2.2.2.2.2.2.1, h.2.2.2.2.2.2.2.1, hE, fun hk => absurd (show σ 86 15 = 1 from hk) (by omega)⟩
theorem qI_s1115 {σ α : Nat → Nat → Int} {κ : Nat → Option Nat} {ρ : Nat} (h : qI σ α κ ρ) {v : Int} (hv : 0 ≤ v ∧ v ≤ 61) (hE : ∀ j : Nat, (j : Int) < v → (0 ≤ α 94 j ∧ α 94 j < σ 86 6) ∧ (0 ≤ α 95 j ∧ α 95 j < σ 86 6)) : qI (qw_s (qw_s σ 86 11 v) 86 15 0) α κ ρ := by
  refine ⟨fun a' k' => ?_, h.2.1, h.2.2.1, h.2.2.2.1, h.2.2.2.2.1, h.2.2.2.2.2.1, h.2.2.2.2.2.2.1, h.2.2.2.2.2.2.2.1, hE, fun hk => absurd (show (0 : Int) = 1 from hk) (by decide)⟩
  by_cases h1 : a' = 86 ∧ k' = 15
  · obtain ⟨rfl, rfl⟩ := h1
    exact (by decide : (0 : Int) ≤ 0 ∧ (0 : Int) ≤ 1)
  · rw [qw_s_ne h1]
    by_cases h2 : a' = 86 ∧ k' = 11
    · obtain ⟨rfl, rfl⟩ := h2
      exact hv
    · rw [qw_s_ne h2]
      exact h.1 a' k'
/-- a tie more at the end -/
theorem qE_new {σ α : Nat → Nat → Int} {κ : Nat → Option Nat} {ρ : Nat} (h : qI σ α κ ρ) {v p q : Int} {k : Nat} (hk : (k : Int) = σ 86 11 ∧ v = σ 86 11 + 1) (r1 : α 94 k = p) (r2 : α 95 k = q) (hp : 0 ≤ p ∧ p < σ 86 6) (hq : 0 ≤ q ∧ q < σ 86 6) : ∀ j : Nat, (j : Int) < v → (0 ≤ α 94 j ∧ α 94 j < σ 86 6) ∧ (0 ≤ α 95 j ∧ α 95 j < σ 86 6) := by
  intro j hj
  by_cases e : j = k
  · rw [e, r1, r2]
    exact ⟨hp, hq⟩
  · exact h.2.2.2.2.2.2.2.2.1 j (by omega)
theorem qE_less {σ α : Nat → Nat → Int} {κ : Nat → Option Nat} {ρ : Nat} (h : qI σ α κ ρ) {v : Int} (hv : v ≤ σ 86 11) : ∀ j : Nat, (j : Int) < v → (0 ≤ α 94 j ∧ α 94 j < σ 86 6) ∧ (0 ≤ α 95 j ∧ α 95 j < σ 86 6) := fun j hj => h.2.2.2.2.2.2.2.2.1 j (by omega)
theorem qI_r94 {σ α : Nat → Nat → Int} {κ : Nat → Option Nat} {ρ : Nat} (h : qI σ α κ ρ) (i : Nat) {v : Int} (hv : 0 ≤ v ∧ v ≤ 31) (hi : σ 86 11 ≤ (i : Int)) : qI σ (qw_r α 94 (qzu (α 94) i v)) κ ρ := by
  have e : ∀ j : Nat, (j : Int) < σ 86 11 → qzu (α 94) i v j = α 94 j := fun j hj => by unfold qzu; rw [if_neg (by omega)]
  refine qI_r1 h 94 i hv ⟨h.2.2.2.1, (fun b hb j hj => by rcases hb with rfl | rfl; exact h.2.2.2.2.1 71 (Or.inl rfl) j hj; exact h.2.2.2.2.1 74 (Or.inr rfl) j hj), h.2.2.2.2.2.1, h.2.2.2.2.2.2.1, h.2.2.2.2.2.2.2.1, fun j hj => ?_, fun hk x y hx hy => ?_⟩
  · show (0 ≤ qzu (α 94) i v j ∧ qzu (α 94) i v j < σ 86 6) ∧ (0 ≤ α 95 j ∧ α 95 j < σ 86 6)
    rw [e j hj]
    exact h.2.2.2.2.2.2.2.2.1 j hj
  · show qDi (qzu (α 94) i v) (α 95) (σ 86 11) (qTb (α 96) x y) x y
    exact qDi_cg e (fun _ _ => rfl) (h.2.2.2.2.2.2.2.2.2 hk x y hx hy)
theorem qI_r95 {σ α : Nat → Nat → Int} {κ : Nat → Option Nat} {ρ : Nat} (h : qI σ α κ ρ) (i : Nat) {v : Int} (hv : 0 ≤ v ∧ v ≤ 31) (hi : σ 86 11 ≤ (i : Int)) : qI σ (qw_r α 95 (qzu (α 95) i v)) κ ρ := by
  have e : ∀ j : Nat, (j : Int) < σ 86 11 → qzu (α 95) i v j = α 95 j := fun j hj => by unfold qzu; rw [if_neg (by omega)]
  refine qI_r1 h 95 i hv ⟨h.2.2.2.1, (fun b hb j hj => by rcases hb with rfl | rfl; exact h.2.2.2.2.1 71 (Or.inl rfl) j hj; exact h.2.2.2.2.1 74 (Or.inr rfl) j hj), h.2.2.2.2.2.1, h.2.2.2.2.2.2.1, h.2.2.2.2.2.2.2.1, fun j hj => ?_, fun hk x y hx hy => ?_⟩
  · show (0 ≤ α 94 j ∧ α 94 j < σ 86 6) ∧ (0 ≤ qzu (α 95) i v j ∧ qzu (α 95) i v j < σ 86 6)
    rw [e j hj]
    exact h.2.2.2.2.2.2.2.2.1 j hj
  · show qDi (α 94) (qzu (α 95) i v) (σ 86 11) (qTb (α 96) x y) x y
    exact qDi_cg (fun _ _ => rfl) e (h.2.2.2.2.2.2.2.2.2 hk x y hx hy)
theorem qI_r96 {σ α : Nat → Nat → Int} {κ : Nat → Option Nat} {ρ : Nat} (h : qI σ α κ ρ) (i : Nat) {v : Int} (hv : 0 ≤ v ∧ v ≤ 99) (h0 : σ 86 15 = 0) : qI σ (qw_r α 96 (qzu (α 96) i v)) κ ρ :=
  qI_r1 h 96 i hv ⟨h.2.2.2.1, (fun b hb j hj => by rcases hb with rfl | rfl; exact h.2.2.2.2.1 71 (Or.inl rfl) j hj; exact h.2.2.2.2.1 74 (Or.inr rfl) j hj), h.2.2.2.2.2.1, h.2.2.2.2.2.2.1, h.2.2.2.2.2.2.2.1, h.2.2.2.2.2.2.2.2.1, fun hk => absurd hk (by omega)⟩
/-- the list of guests: begun anew, one more -/
theorem qI_g0 {σ α : Nat → Nat → Int} {κ : Nat → Option Nat} {ρ : Nat} (h : qI σ α κ ρ) : qI (qw_s σ 64 2 0) α κ ρ := by
  refine qI_s1 h 64 2 (by decide) ⟨fun i j h1 h2 => ?_, h.2.2.2.2⟩
  have h3 : qw_s σ 64 2 0 64 2 = 0 := rfl
  rw [h3] at h2
  omega
theorem qI_g1 {σ α : Nat → Nat → Int} {κ : Nat → Option Nat} {ρ : Nat} (h : qI σ α κ ρ) {s v : Int} (i : Nat) (hs : s = σ 64 2 + 1 ∧ s ≤ 12) (hi : (i : Int) = σ 64 2) (hv : 0 ≤ v ∧ v ≤ 31) (hx : ∀ j : Nat, (j : Int) < σ 64 2 → α 65 j < v) : qI (qw_s σ 64 2 s) (qw_r α 65 (qzu (α 65) i v)) κ ρ := by
  have h0 := h.1 64 2
  have h00 : 0 ≤ σ 64 2 := h0.1
  refine ⟨fun a' k' => ?_, fun a' j hj => ?_, h.2.2.1, fun p q h1 h2 => ?_, ?_, ?_, ?_, ?_⟩
  · by_cases h1 : a' = 64 ∧ k' = 2
    · obtain ⟨rfl, rfl⟩ := h1
      show 0 ≤ qw_s σ 64 2 s 64 2 ∧ qw_s σ 64 2 s 64 2 ≤ 12
      have h3 : qw_s σ 64 2 s 64 2 = s := rfl
      rw [h3]
      omega
    · rw [qw_s_ne h1]
      exact h.1 a' k'
  · by_cases e1 : a' = 65
    · subst e1
      rw [qw_r_eq]
      unfold qzu
      split
      · exact hv
      · exact h.2.1 65 j hj
    · rw [qw_r_ne e1]
      exact h.2.1 a' j hj
  · have h3 : qw_s σ 64 2 s 64 2 = s := rfl
    rw [h3] at h2
    rw [qw_r_eq]
    unfold qzu
    by_cases e1 : q = i
    · rw [if_pos e1, if_neg (by omega)]
      exact hx p (by omega)
    · rw [if_neg e1]
      by_cases e2 : p = i
      · omega
      · rw [if_neg e2]
        exact h.2.2.2.1 p q h1 (by omega)
  · rintro b (rfl | rfl)
    · rw [qw_r_ne (by decide)]; exact h.2.2.2.2.1 71 (Or.inl rfl)
    · rw [qw_r_ne (by decide)]; exact h.2.2.2.2.1 74 (Or.inr rfl)
  · exact h.2.2.2.2.2.1
  · exact h.2.2.2.2.2.2.1
  · exact h.2.2.2.2.2.2.2
theorem qI_r77 {σ α : Nat → Nat → Int} {κ : Nat → Option Nat} {ρ : Nat} (h : qI σ α κ ρ) (i : Nat) {s v : Int} (hv : 0 ≤ v ∧ v ≤ 1919) (hx : (-2147483648 ≤ s ∧ s ≤ 2147483647) ∧ (s = 0 → v ≤ 39) ∧ (s = 2 → v ≤ 31) ∧ (¬ s = 0 → ¬ s = 1 → ¬ s = 2 → v ≤ 59)) : qI σ (qw_r (qw_r α 77 (qzu (α 77) i s)) 78 (qzu (qw_r α 77 (qzu (α 77) i s) 78) i v)) κ ρ := by
  refine ⟨h.1, fun a' j hj => ?_, h.2.2.1, h.2.2.2.1, ?_, fun j hj => ?_, ?_⟩
  · by_cases e1 : a' = 78
    · subst e1
      rw [qw_r_eq]
      unfold qzu
      split
      · exact hv
      · exact h.2.1 78 j hj
    · rw [qw_r_ne e1]
      by_cases e2 : a' = 77
      · subst e2
        rw [qw_r_eq]
        unfold qzu
        split
        · exact hx.1
        · exact h.2.1 77 j hj
      · rw [qw_r_ne e2]
        exact h.2.1 a' j hj
  · rintro b (rfl | rfl)
    · exact h.2.2.2.2.1 71 (Or.inl rfl)
    · exact h.2.2.2.2.1 74 (Or.inr rfl)
  · rw [qw_r_eq, qw_r_ne (by decide), qw_r_eq, qw_r_ne (by decide)]
    unfold qzu
    split
    · exact hx.2
    · exact h.2.2.2.2.2.1 j hj
  · exact h.2.2.2.2.2.2
theorem qI_k {σ α : Nat → Nat → Int} {κ : Nat → Option Nat} {ρ : Nat} (h : qI σ α κ ρ) {y : Int} (hy : 0 ≤ y ∧ y < 2) : ∃ x, κ y.toNat = some x ∧ (x = 50 ∨ x = 54 ∨ x = 82) := by
  have h2 : y = 0 ∨ y = 1 := by omega
  rcases h2 with rfl | rfl
  · exact h.2.2.1.1
  · exact h.2.2.1.2.1
theorem qm_ge (ls : qm_L) (i : Nat) (v : Value) : qm_get (qm_put1 ls i v) i = some v := by
  unfold qm_get qm_put1
  rw [List.find?_cons_of_pos (by simp)]
  rfl
theorem qm_ge2 (ls : qm_L) (i : Nat) (v : Value) : qm_get (qm_put2 ls i v) i = some v := by
  unfold qm_get qm_put2
  rw [List.find?_cons_of_pos (by simp)]
  rfl
theorem qm_gff {l : qm_L} {j : Nat} {v : Value} (f : Nat × Value → Bool) (hf : ∀ u : Value, u.category = v.category → f (j, u) = true) (h : (l.find? (fun q => q.1 == j)).map (fun q => q.2) = some v) : ((l.filter f).find? (fun q => q.1 == j)).map (fun q => q.2) = some v := by
  cases hq : l.find? (fun q => q.1 == j) with
  | none => rw [hq] at h; cases h
  | some q =>
    rw [hq] at h
    have hv : q.2 = v := Option.some.inj h
    have hj : q.1 = j := by simpa using List.find?_some hq
    have e : q = (j, v) := by rw [← hv, ← hj]
    have hp : f q = true := by rw [e]; exact hf v rfl
    have hx : (l.filter f).find? (fun q => q.1 == j) = some q := by
      obtain ⟨hq1, as, bs, hl, hn⟩ := List.find?_eq_some_iff_append.mp hq
      rw [hl, List.filter_append, List.filter_cons_of_pos hp]
      rw [List.find?_append]
      have hz : (as.filter f).find? (fun q => q.1 == j) = none := by
        refine List.find?_eq_none.mpr (fun x hx => ?_)
        have := hn x (List.mem_filter.mp hx).1
        simpa using this
      rw [hz, Option.none_or]
      simp only [List.find?_cons, hq1]
    rw [hx]
    exact congrArg some hv
/-- what stands in another place is found as before -/
theorem qm_gk {ls : qm_L} {i j : Nat} {u v : Value} (h : qm_get ls j = some v) (hij : ¬ j = i) (hc : ¬ j + 1 = i ∨ v.category = 1) : qm_get (qm_put1 ls i u) j = some v := by
  unfold qm_get qm_put1 at *
  rw [List.find?_cons_of_neg (by simp only [beq_iff_eq]; exact fun z => hij z.symm)]
  refine qm_gff _ (fun w hw => ?_) h
  have h1 : (j == i) = false := by simpa using hij
  rcases hc with hc | hc
  · have h2 : (j + 1 == i) = false := by simpa using hc
    simp only [h1, h2, Bool.false_and, Bool.not_false, Bool.and_self]
  · have h2 : (w.category == 2) = false := by rw [hw, hc]; rfl
    simp only [h1, h2, Bool.and_false, Bool.not_false, Bool.and_self]
theorem qm_gk2 {ls : qm_L} {i j : Nat} {u v : Value} (h : qm_get ls j = some v) (hij : ¬ j = i) (hi1 : ¬ j = i + 1) (hc : ¬ j + 1 = i ∨ v.category = 1) : qm_get (qm_put2 ls i u) j = some v := by
  unfold qm_get qm_put2 at *
  rw [List.find?_cons_of_neg (by simp only [beq_iff_eq]; exact fun z => hij z.symm)]
  refine qm_gff _ (fun w hw => ?_) h
  have h1 : (j == i) = false := by simpa using hij
  have h3 : (j == i + 1) = false := by simpa using hi1
  rcases hc with hc | hc
  · have h2 : (j + 1 == i) = false := by simpa using hc
    simp only [h1, h2, h3, Bool.false_and, Bool.not_false, Bool.and_self]
  · have h2 : (w.category == 2) = false := by rw [hw, hc]; rfl
    simp only [h1, h2, h3, Bool.and_false, Bool.not_false, Bool.and_self]
section QYI
variable {X : qm_X} {d : Nat} {x : qs_Ent} {Q : Option Value → qm_W → Prop} {pc : Nat} {ls : qm_L} {st : List Value} {w : qm_W} {c n r1 r2 r3 : Nat} {rv : Value}
/-- a number as the machine has it: in range, nothing else said -/
theorem qy_can {y : Int} (k : ∀ v : Int, (-2147483648 ≤ v ∧ v ≤ 2147483647) → qr_W X d x Q (pc, ls, .int (qz v) :: st, w, c, n)) : qr_W X d x Q (pc, ls, .int (qz y) :: st, w, c, n) := by
  rw [qz_of (qz y)]
  exact k _ (qz_rng _)
theorem qy_canl {y : Int} (k : ∀ v : Int, (-9223372036854775808 ≤ v ∧ v ≤ 9223372036854775807) → qr_W X d x Q (pc, ls, .long (ql v) :: st, w, c, n)) : qr_W X d x Q (pc, ls, .long (ql y) :: st, w, c, n) := by
  rw [ql_of (ql y)]
  exact k _ (ql_rng _)
theorem qy_iincC {z : Nat} {v y : Int} (p : Nat) (hq : qm_fetch x.2.2.2.2.2.2.2 pc = some (pc, .iinc z v, 3, r1, r2, r3, rv)) (hg : qm_get ls z = some (.int (qz y))) (hz : z < x.2.2.2.1) (hp : pc + 3 = p) (k : ∀ u : Int, (-2147483648 ≤ u ∧ u ≤ 2147483647) → qr_W X d x Q (p, qm_put1 ls z (.int (qz u)), st, w, c, n)) : qr_W X d x Q (pc, ls, st, w, c, n) := by
  refine qr_iinc _ p hq hg hz rfl hp ?_
  rw [qz_of (qz (y + v))]
  exact k _ (qz_rng _)
end QYI
theorem qz_msb {x : Int32} (h : 0 ≤ x.toInt) : x.toBitVec.msb = false := by
  rw [BitVec.msb_eq_toInt, decide_eq_false_iff_not]
  exact Int.not_lt.mpr h
theorem qz_andL {a : Int} (b : Int) (h : 0 ≤ a ∧ a ≤ 2147483647) : 0 ≤ qz_and a b ∧ qz_and a b ≤ a := by
  have ha : (qz a).toInt = a := qz_ti (by omega)
  have hm := qz_msb (x := qz a) (by rw [ha]; exact h.1)
  have hm2 : (qz a &&& qz b).toBitVec.msb = false := by rw [Int32.toBitVec_and, BitVec.msb_and, hm, Bool.false_and]
  have e1 : (qz a &&& qz b).toInt = ((qz a &&& qz b).toBitVec.toNat : Int) := BitVec.toInt_eq_toNat_of_msb hm2
  have e2 : (qz a).toInt = ((qz a).toBitVec.toNat : Int) := BitVec.toInt_eq_toNat_of_msb hm
  have e3 : (qz a &&& qz b).toBitVec.toNat ≤ (qz a).toBitVec.toNat := by rw [Int32.toBitVec_and, BitVec.toNat_and]; exact Nat.and_le_left
  unfold qz_and
  omega
theorem qz_and_c (a b : Int) : qz_and a b = qz_and b a := by
  unfold qz_and
  rw [Int32.and_comm]
section QYJ
variable {X : qm_X} {d : Nat} {x : qs_Ent} {Q : Option Value → qm_W → Prop} {pc : Nat} {ls : qm_L} {st : List Value} {w : qm_W} {c n r1 r2 r3 : Nat} {rv : Value}
theorem qy_andl {a b : Int} (h : 0 ≤ a ∧ a ≤ 2147483647) (k : ∀ v : Int, (0 ≤ v ∧ v ≤ a) → qr_W X d x Q (pc, ls, .int (qz v) :: st, w, c, n)) : qr_W X d x Q (pc, ls, .int (qz (qz_and a b)) :: st, w, c, n) := k _ (qz_andL b h)
theorem qy_andr {a b : Int} (h : 0 ≤ b ∧ b ≤ 2147483647) (k : ∀ v : Int, (0 ≤ v ∧ v ≤ b) → qr_W X d x Q (pc, ls, .int (qz v) :: st, w, c, n)) : qr_W X d x Q (pc, ls, .int (qz (qz_and a b)) :: st, w, c, n) := by
  rw [qz_and_c]
  exact k _ (qz_andL a h)
theorem qy_copyi {z a0 a1 n0 n1 : Nat} {sp dp m : Int} {f g : Nat → Int} (p : Nat) (hq : qm_fetch x.2.2.2.2.2.2.2 pc = some (pc, .invokestatic z, 3, r1, r2, 7, rv)) (ha0 : 16 ≤ a0) (ha1 : 16 ≤ a1) (h0 : w[a0 - 16]? = some (.inl (.int, n0, .inl (qzf f)))) (h1 : w[a1 - 16]? = some (.inl (.int, n1, .inl (qzf g)))) (hs : 0 ≤ sp ∧ sp ≤ 1000000) (hd : 0 ≤ dp ∧ dp ≤ 1000000) (hm : 0 ≤ m ∧ m ≤ 1000000) (hn0 : sp.toNat + m.toNat ≤ n0) (hn1 : dp.toNat + m.toNat ≤ n1) (hsum : qm_sum st ≤ 8) (hz : qz 0 = 0) (hp : pc + 3 = p) (k : qr_W X d x Q (p, ls, st, w.set (a1 - 16) (.inl (.int, n1, .inl (qzf (va_cpy f g sp.toNat dp.toNat m.toNat)))), c, n)) : qr_W X d x Q (pc, ls, .int (qz m) :: .int (qz dp) :: .ref a1 :: .int (qz sp) :: .ref a0 :: st, w, c, n) := by
  subst hp
  refine qr_eff hq rfl rfl (s' := (pc + 3, ls, st, w.set (a1 - 16) (.inl (.int, n1, .inl (qzf (va_cpy f g sp.toNat dp.toNat m.toNat)))), c, n)) ?_ k
  have e1 : (qz sp).toNatClampNeg = sp.toNat := qz_clamp (by omega)
  have e2 : (qz dp).toNatClampNeg = dp.toNat := qz_clamp (by omega)
  have e3 : (qz m).toNatClampNeg = m.toNat := qz_clamp (by omega)
  have l1 : ¬ qz sp < 0 := fun h => absurd ((qz_lt (by omega) (by omega)).1 (show qz sp < qz 0 from h)) (by omega)
  have l2 : ¬ qz dp < 0 := fun h => absurd ((qz_lt (by omega) (by omega)).1 (show qz dp < qz 0 from h)) (by omega)
  have l3 : ¬ qz m < 0 := fun h => absurd ((qz_lt (by omega) (by omega)).1 (show qz m < qz 0 from h)) (by omega)
  unfold qm_eff
  refine (if_pos ⟨rfl, rfl, ha0, ha1, l1, l2, l3, hsum⟩).trans ?_
  simp only [h0, h1, e1, e2, e3, qz_cpy]
  rw [if_pos ⟨hn0, hn1⟩]
  rfl
end QYJ
theorem qI_cpy {σ α : Nat → Nat → Int} {κ : Nat → Option Nat} {ρ : Nat} (h : qI σ α κ ρ) (a0 a1 : Nat) {sp dp m : Nat} (hsp : [65, 71, 74, 77, 78, 91, 94, 95, 96].contains a1 = false) (hr : (qI_rr a0).2 = (qI_rr a1).2) (hn : sp + m ≤ (qI_rr a0).1) : qI σ (qw_r α a1 (va_cpy (α a0) (α a1) sp dp m)) κ ρ := by
  refine ⟨h.1, fun a' j hj => ?_, h.2.2.1, qIx_r h.2.2.2 a1 _ hsp⟩
  by_cases h1 : a' = a1
  · subst h1
    rw [qw_r_eq]
    unfold va_cpy
    by_cases h2 : dp ≤ j ∧ j < dp + m
    · rw [if_pos h2, ← hr]
      exact h.2.1 a0 _ (by omega)
    · rw [if_neg h2]
      exact h.2.1 a' j hj
  · rw [qw_r_ne h1]
    exact h.2.1 a' j hj
theorem qI_cpy77 {σ α : Nat → Nat → Int} {κ : Nat → Option Nat} {ρ : Nat} (h : qI σ α κ ρ) {sp dp m : Nat} (hn : sp + m ≤ 40) : qI σ (qw_r (qw_r α 77 (va_cpy (α 77) (α 77) sp dp m)) 78 (va_cpy (qw_r α 77 (va_cpy (α 77) (α 77) sp dp m) 78) (qw_r α 77 (va_cpy (α 77) (α 77) sp dp m) 78) sp dp m)) κ ρ := by
  refine ⟨h.1, fun a' j hj => ?_, h.2.2.1, h.2.2.2.1, ?_, fun j hj => ?_, h.2.2.2.2.2.2⟩
  · by_cases e1 : a' = 78
    · subst e1
      rw [qw_r_eq, qw_r_ne (by decide)]
      unfold va_cpy
      split
      · exact h.2.1 78 _ (show _ < 40 by omega)
      · exact h.2.1 78 j hj
    · rw [qw_r_ne e1]
      by_cases e2 : a' = 77
      · subst e2
        rw [qw_r_eq]
        unfold va_cpy
        split
        · exact h.2.1 77 _ (show _ < 40 by omega)
        · exact h.2.1 77 j hj
      · rw [qw_r_ne e2]
        exact h.2.1 a' j hj
  · rintro b (rfl | rfl)
    · exact h.2.2.2.2.1 71 (Or.inl rfl)
    · exact h.2.2.2.2.1 74 (Or.inr rfl)
  · rw [qw_r_eq, qw_r_ne (by decide), qw_r_eq, qw_r_ne (by decide)]
    unfold va_cpy
    split
    · exact h.2.2.2.2.2.1 _ (by omega)
    · exact h.2.2.2.2.2.1 j hj
section QYK
variable {X : qm_X} {d : Nat} {x : qs_Ent} {Q : Option Value → qm_W → Prop} {pc : Nat} {ls : qm_L} {st : List Value} {w : qm_W} {c n : Nat}
theorem qy_mulb {a b A B C : Int} (ha : 0 ≤ a ∧ a ≤ A) (hb : 0 ≤ b ∧ b ≤ B) (hC : A * B ≤ C) (k : ∀ v : Int, (0 ≤ v ∧ v ≤ C) → qr_W X d x Q (pc, ls, .int (qz v) :: st, w, c, n)) : qr_W X d x Q (pc, ls, .int (qz (a * b)) :: st, w, c, n) := by
  refine k _ ⟨Int.mul_nonneg ha.1 hb.1, Int.le_trans ?_ hC⟩
  exact Int.mul_le_mul ha.2 hb.2 hb.1 (Int.le_trans ha.1 ha.2)
theorem qy_shl1 {b : Int} {N : Nat} (h : 0 ≤ b ∧ b ≤ (N : Int) ∧ N ≤ 12) (k : ∀ v : Int, (1 ≤ v ∧ v ≤ ((2 ^ N : Nat) : Int)) → qr_W X d x Q (pc, ls, .int (qz v) :: st, w, c, n)) : qr_W X d x Q (pc, ls, .int (qz (qz_shl 1 b)) :: st, w, c, n) := by
  obtain ⟨m, rfl⟩ : ∃ m : Nat, b = m := ⟨b.toNat, by omega⟩
  have e : ∀ q : Fin 13, qz_shl 1 ((q : Nat) : Int) = ((2 ^ (q : Nat) : Nat) : Int) := by decide
  have h1 := e ⟨m, by omega⟩
  have h2 : 2 ^ m ≤ 2 ^ N := Nat.pow_le_pow_right (by decide) (by omega)
  have h3 : 1 ≤ 2 ^ m := Nat.one_le_two_pow
  refine k _ ?_
  show 1 ≤ qz_shl 1 (m : Int) ∧ qz_shl 1 (m : Int) ≤ _
  rw [show qz_shl 1 (m : Int) = ((2 ^ m : Nat) : Int) from h1]
  omega
theorem qy_ntz {a : Int} (h : 1 ≤ a ∧ a ≤ 4095) (k : ∀ v : Int, (0 ≤ v ∧ v ≤ 2047) → qr_W X d x Q (pc, ls, .int (qz v) :: st, w, c, n)) : qr_W X d x Q (pc, ls, .int (qz (qz_and (qz_xor a (-1)) (a - 1))) :: st, w, c, n) := by
  obtain ⟨m, rfl⟩ : ∃ m : Nat, a = m := ⟨a.toNat, by omega⟩
  have e : ∀ q r : Fin 64, ((64 * (q : Nat) + (r : Nat) : Nat) = 0 ∨ (0 ≤ qz_and (qz_xor ((64 * (q : Nat) + (r : Nat) : Nat) : Int) (-1)) (((64 * (q : Nat) + (r : Nat) : Nat) : Int) - 1) ∧ qz_and (qz_xor ((64 * (q : Nat) + (r : Nat) : Nat) : Int) (-1)) (((64 * (q : Nat) + (r : Nat) : Nat) : Int) - 1) ≤ 2047)) := by decide +kernel
  have h1 := e ⟨m / 64, by omega⟩ ⟨m % 64, by omega⟩
  have h2 : 64 * (m / 64) + m % 64 = m := Nat.div_add_mod m 64
  simp only [h2] at h1
  rcases h1 with h1 | h1
  · exact absurd h1 (show ¬ m = 0 by omega)
  · exact k _ h1
end QYK
theorem qz_ushrN {a : Int} (b : Int) (k : Nat) (hb : ((qz b).toUInt32 &&& Int32.toUInt32 31) = UInt32.ofNat k) (hk : k < 32) (h : 0 ≤ a ∧ a ≤ 2147483647) : qz_ushr a b = a / ((2 ^ k : Nat) : Int) := by
  have ha : (qz a).toInt = a := qz_ti (by omega)
  have hm := qz_msb (x := qz a) (by rw [ha]; exact h.1)
  have e2 : (qz a).toInt = ((qz a).toBitVec.toNat : Int) := BitVec.toInt_eq_toNat_of_msb hm
  have e4 : (qz a).toUInt32.toNat = a.toNat := by
    have : (qz a).toUInt32.toNat = (qz a).toBitVec.toNat := rfl
    omega
  have e5 : ((qz a).toUInt32 >>> UInt32.ofNat k).toNat = a.toNat / 2 ^ k := by
    rw [UInt32.toNat_shiftRight, e4, UInt32.toNat_ofNat_of_lt' (Nat.lt_trans hk (by decide)), Nat.mod_eq_of_lt hk, Nat.shiftRight_eq_div_pow]
  unfold qz_ushr
  rw [hb]
  generalize (qz a).toUInt32 >>> UInt32.ofNat k = y at e5
  have h1 : y.toNat ≤ a.toNat := by rw [e5]; exact Nat.div_le_self _ _
  have h2 : y.toInt32.toBitVec.msb = false := by
    have : y.toInt32.toBitVec.toNat = y.toNat := rfl
    rw [BitVec.msb_eq_decide, decide_eq_false_iff_not]
    show ¬ 2 ^ 31 ≤ y.toInt32.toBitVec.toNat
    omega
  have h3 : y.toInt32.toInt = (y.toNat : Int) := BitVec.toInt_eq_toNat_of_msb h2
  rw [h3, e5, Int.natCast_ediv]
  congr 1
  omega
theorem qz_ushr1 {a : Int} (h : 0 ≤ a ∧ a ≤ 2147483647) : qz_ushr a 1 = a / 2 := qz_ushrN 1 1 (by decide) (by decide) h
theorem qz_ushr2 {a : Int} (h : 0 ≤ a ∧ a ≤ 2147483647) : qz_ushr a 2 = a / 4 := qz_ushrN 2 2 (by decide) (by decide) h
theorem qz_ushr4 {a : Int} (h : 0 ≤ a ∧ a ≤ 2147483647) : qz_ushr a 4 = a / 16 := qz_ushrN 4 4 (by decide) (by decide) h
theorem qz_ushr8 {a : Int} (h : 0 ≤ a ∧ a ≤ 2147483647) : qz_ushr a 8 = a / 256 := qz_ushrN 8 8 (by decide) (by decide) h
theorem qz_ushr16 {a : Int} (h : 0 ≤ a ∧ a ≤ 2147483647) : qz_ushr a 16 = a / 65536 := qz_ushrN 16 16 (by decide) (by decide) h
theorem qI_li {σ α : Nat → Nat → Int} {κ : Nat → Option Nat} {ρ : Nat} (h : qI σ α κ ρ) (i j : Int) : (0 ≤ i → i < j → j < σ 64 2 → α 65 i.toNat < α 65 j.toNat) ∧ (0 ≤ j → j < i → i < σ 64 2 → α 65 j.toNat < α 65 i.toNat) :=
  ⟨fun h1 h2 h3 => h.2.2.2.1 _ _ (by omega) (by omega), fun h1 h2 h3 => h.2.2.2.1 _ _ (by omega) (by omega)⟩
theorem qe_rr1 (i : Nat) (h : i < 7) : -1 ≤ qe_above.getD i 0 ∧ qe_above.getD i 0 ≤ 4 := by
  have h1 : i = 0 ∨ i = 1 ∨ i = 2 ∨ i = 3 ∨ i = 4 ∨ i = 5 ∨ i = 6 := by omega
  rcases h1 with rfl | rfl | rfl | rfl | rfl | rfl | rfl <;> decide
end
section
/-! ranges out of narrower ones -/
theorem qrg {a l h l' h' : Int} (x : l ≤ a ∧ a ≤ h) (h1 : l' ≤ l) (h2 : h ≤ h') : l' ≤ a ∧ a ≤ h' := ⟨Int.le_trans h1 x.1, Int.le_trans x.2 h2⟩
theorem qrgi {a l h : Int} {N : Nat} (x : l ≤ a ∧ a ≤ h) (h1 : 0 ≤ l) (h2 : h < (N : Int)) : 0 ≤ a ∧ a < (N : Int) := ⟨Int.le_trans h1 x.1, Int.lt_of_le_of_lt x.2 h2⟩
theorem qrgt {a l h : Int} {N : Nat} (x : l ≤ a ∧ a ≤ h) (h2 : h < (N : Int)) (h0 : 0 < N) : a.toNat < N := by omega
end
section
set_option maxHeartbeats 4000000 in
set_option maxRecDepth 20000 in
/-- OneRoof.isHour -/
theorem sf_62 {L : Nat} {xs : Nat → Int} {vb : Bool} {d : Nat} {σ α : Nat → Nat → Int} {κ : Nat → Option Nat} {ρ : Nat} {x0 : Int} (hI : qI σ α κ ρ) (r0 : (-2147483648) ≤ x0 ∧ x0 ≤ 2147483647) : qm_T (qe L xs vb) (d + 1) 62 [.int (qz x0)] (qw σ α κ ρ) (fun r w' => w' = qw σ α κ ρ ∧ ∃ v : Int, r = some (.int (qz v)) ∧ (0 ≤ v ∧ v ≤ 1) ∧ ((v = 1 ∧ 0 ≤ x0 ∧ x0 ≤ 2399) ∨ (v = 0 ∧ ¬ (0 ≤ x0 ∧ x0 ≤ 2399)))) := by
  refine qr_start (d := d + 0) qv_e62 (Nat.le_of_ble_eq_true rfl) ?_
  show qr_W (qe L xs vb) (d + 0) qx_e62 _ (0, [(0, .int (qz x0))], [], _, 0, 0)
  refine qr_iload_n 1 rfl rfl rfl ?_
  refine qr_if_lt 15 4 rfl rfl rfl r0 (fun h1 => ?_) (fun h1 => ?_)
  · skip
    refine qr_iconst 16 rfl rfl ?_
    refine qr_retZ rfl rfl (Or.inl rfl) (by decide) (by decide) ?_
    exact ⟨rfl, 0, rfl, (by decide), by omega⟩
  · skip
    refine qr_iload_n 5 rfl rfl rfl ?_
    refine qr_sipush 8 rfl (by decide) rfl ?_
    refine qr_icmp_gt 15 11 rfl rfl rfl r0 (by decide) (fun h2 => ?_) (fun h2 => ?_)
    · skip
      refine qr_iconst 16 rfl rfl ?_
      refine qr_retZ rfl rfl (Or.inl rfl) (by decide) (by decide) ?_
      exact ⟨rfl, 0, rfl, (by decide), by omega⟩
    · skip
      refine qr_iconst 12 rfl rfl ?_
      refine qr_goto 16 rfl rfl ?_
      refine qr_retZ rfl rfl (Or.inr rfl) (by decide) (by decide) ?_
      exact ⟨rfl, 1, rfl, (by decide), by omega⟩

set_option maxHeartbeats 4000000 in
set_option maxRecDepth 20000 in
/-- OneRoof.isBit -/
theorem sf_41 {L : Nat} {xs : Nat → Int} {vb : Bool} {d : Nat} {σ α : Nat → Nat → Int} {κ : Nat → Option Nat} {ρ : Nat} {x0 : Int} (hI : qI σ α κ ρ) (r0 : (-2147483648) ≤ x0 ∧ x0 ≤ 2147483647) : qm_T (qe L xs vb) (d + 1) 41 [.int (qz x0)] (qw σ α κ ρ) (fun r w' => w' = qw σ α κ ρ ∧ ∃ v : Int, r = some (.int (qz v)) ∧ (0 ≤ v ∧ v ≤ 1) ∧ ((v = 1 ∧ (x0 = 0 ∨ x0 = 1)) ∨ (v = 0 ∧ ¬ ((x0 = 0 ∨ x0 = 1))))) := by
  refine qr_start (d := d + 0) qv_e41 (Nat.le_of_ble_eq_true rfl) ?_
  show qr_W (qe L xs vb) (d + 0) qx_e41 _ (0, [(0, .int (qz x0))], [], _, 0, 0)
  refine qr_iload_n 1 rfl rfl rfl ?_
  refine qr_if_eq 9 4 rfl rfl rfl r0 (fun h1 => ?_) (fun h1 => ?_)
  · skip
    refine qr_iconst 10 rfl rfl ?_
    refine qr_goto 14 rfl rfl ?_
    refine qr_retZ rfl rfl (Or.inr rfl) (by decide) (by decide) ?_
    exact ⟨rfl, 1, rfl, (by decide), by omega⟩
  · skip
    refine qr_iload_n 5 rfl rfl rfl ?_
    refine qr_iconst 6 rfl rfl ?_
    refine qr_icmp_ne 13 9 rfl rfl rfl r0 (by decide) (fun h2 => ?_) (fun h2 => ?_)
    · skip
      refine qr_iconst 14 rfl rfl ?_
      refine qr_retZ rfl rfl (Or.inl rfl) (by decide) (by decide) ?_
      exact ⟨rfl, 0, rfl, (by decide), by omega⟩
    · skip
      refine qr_iconst 10 rfl rfl ?_
      refine qr_goto 14 rfl rfl ?_
      refine qr_retZ rfl rfl (Or.inr rfl) (by decide) (by decide) ?_
      exact ⟨rfl, 1, rfl, (by decide), by omega⟩

set_option maxHeartbeats 4000000 in
set_option maxRecDepth 20000 in
/-- OneRoof$Folk.has -/
theorem sf_40_17 {L : Nat} {xs : Nat → Int} {vb : Bool} {d : Nat} {σ α : Nat → Nat → Int} {κ : Nat → Option Nat} {ρ : Nat} {x1 : Int} (hI : qI σ α κ ρ) (r1 : (-2147483648) ≤ x1 ∧ x1 ≤ 2147483647) : qm_T (qe L xs vb) (d + 1) 40 [.ref 17, .int (qz x1)] (qw σ α κ ρ) (fun r w' => w' = qw σ α κ ρ ∧ ∃ v : Int, r = some (.int (qz v)) ∧ (0 ≤ v ∧ v ≤ 1) ∧ (σ 17 6 ≤ 32 ∧ ((v = 1 ∧ 0 ≤ x1 ∧ x1 < σ 17 6) ∨ (v = 0 ∧ ¬ (0 ≤ x1 ∧ x1 < σ 17 6))))) := by
  refine qr_start (d := d + 0) qv_e40 (Nat.le_of_ble_eq_true rfl) ?_
  show qr_W (qe L xs vb) (d + 0) qx_e40 _ (0, [(0, .ref 17), (1, .int (qz x1))], [], _, 0, 0)
  have hz17_6 : 0 ≤ σ 17 6 ∧ σ 17 6 ≤ 32 := hI.1 17 6
  refine qr_iload_n 1 rfl rfl rfl ?_
  refine qr_if_lt 16 4 rfl rfl rfl r1 (fun h1 => ?_) (fun h1 => ?_)
  · skip
    refine qr_iconst 17 rfl rfl ?_
    refine qr_retZ rfl rfl (Or.inl rfl) (by decide) (by decide) ?_
    exact ⟨rfl, 0, rfl, (by decide), by omega⟩
  · skip
    refine qr_iload_n 5 rfl rfl rfl ?_
    refine qr_aload_n 6 rfl rfl rfl ?_
    refine qr_get 9 rfl rfl rfl (by decide) rfl ?_
    refine qr_icmp_ge 16 12 rfl rfl rfl r1 (qrg hz17_6 (by decide) (by decide)) (fun h2 => ?_) (fun h2 => ?_)
    · skip
      refine qr_iconst 17 rfl rfl ?_
      refine qr_retZ rfl rfl (Or.inl rfl) (by decide) (by decide) ?_
      exact ⟨rfl, 0, rfl, (by decide), by omega⟩
    · skip
      refine qr_iconst 13 rfl rfl ?_
      refine qr_goto 17 rfl rfl ?_
      refine qr_retZ rfl rfl (Or.inr rfl) (by decide) (by decide) ?_
      exact ⟨rfl, 1, rfl, (by decide), by omega⟩

set_option maxHeartbeats 4000000 in
set_option maxRecDepth 20000 in
/-- OneRoof$Folk.isPair -/
theorem sf_61_17 {L : Nat} {xs : Nat → Int} {vb : Bool} {d : Nat} {σ α : Nat → Nat → Int} {κ : Nat → Option Nat} {ρ : Nat} {x1 : Int} (hI : qI σ α κ ρ) (r1 : (-2147483648) ≤ x1 ∧ x1 ≤ 2147483647) : qm_T (qe L xs vb) (d + 2) 61 [.ref 17, .int (qz x1)] (qw σ α κ ρ) (fun r w' => w' = qw σ α κ ρ ∧ ∃ v : Int, r = some (.int (qz v)) ∧ (0 ≤ v ∧ v ≤ 1) ∧ (σ 17 6 ≤ 32 ∧ ((v = 1 ∧ 0 ≤ x1 ∧ x1 / 100 < σ 17 6 ∧ x1 % 100 < σ 17 6 ∧ ¬ x1 / 100 = x1 % 100) ∨ (v = 0 ∧ ¬ (0 ≤ x1 ∧ x1 / 100 < σ 17 6 ∧ x1 % 100 < σ 17 6 ∧ ¬ x1 / 100 = x1 % 100))))) := by
  refine qr_start (d := d + 1) qv_e61 (Nat.le_of_ble_eq_true rfl) ?_
  show qr_W (qe L xs vb) (d + 1) qx_e61 _ (0, [(0, .ref 17), (1, .int (qz x1))], [], _, 0, 0)
  have hz17_6 : 0 ≤ σ 17 6 ∧ σ 17 6 ≤ 32 := hI.1 17 6
  refine qr_iload_n 1 rfl rfl rfl ?_
  refine qr_if_lt 41 4 rfl rfl rfl r1 (fun h1 => ?_) (fun h1 => ?_)
  · skip
    refine qr_iconst 42 rfl rfl ?_
    refine qr_retZ rfl rfl (Or.inl rfl) (by decide) (by decide) ?_
    exact ⟨rfl, 0, rfl, (by decide), by omega⟩
  · skip
    refine qr_aload_n 5 rfl rfl rfl ?_
    refine qr_iload_n 6 rfl rfl rfl ?_
    refine qr_bipush 8 rfl (by decide) rfl ?_
    refine qr_idiv 9 rfl (by omega) (by decide) rfl ?_
    refine qr_callN 12 rfl rfl rfl (sf_40_17 (d := d + 0) hI (by omega)) ?_
    have hs4 : 0 ≤ σ 17 6 ∧ σ 17 6 ≤ 32 := hI.1 17 6
    rintro _ _ ⟨rfl, v2, rfl, hv2, hp3⟩
    show qr_W (qe L xs vb) (d + 1) qx_e61 _ (12, _, [.int (qz v2)], qw σ α κ ρ, 0, 0)
    refine qr_if_eq 41 15 rfl rfl rfl (qrg hv2 (by decide) (by decide)) (fun h5 => ?_) (fun h5 => ?_)
    · skip
      refine qr_iconst 42 rfl rfl ?_
      refine qr_retZ rfl rfl (Or.inl rfl) (by decide) (by decide) ?_
      exact ⟨rfl, 0, rfl, (by decide), by omega⟩
    · skip
      refine qr_aload_n 16 rfl rfl rfl ?_
      refine qr_iload_n 17 rfl rfl rfl ?_
      refine qr_bipush 19 rfl (by decide) rfl ?_
      refine qr_irem 20 rfl (by omega) (by decide) rfl ?_
      refine qr_callN 23 rfl rfl rfl (sf_40_17 (d := d + 0) hI (by omega)) ?_
      have hs8 : 0 ≤ σ 17 6 ∧ σ 17 6 ≤ 32 := hI.1 17 6
      rintro _ _ ⟨rfl, v6, rfl, hv6, hp7⟩
      show qr_W (qe L xs vb) (d + 1) qx_e61 _ (23, _, [.int (qz v6)], qw σ α κ ρ, 0, 0)
      refine qr_if_eq 41 26 rfl rfl rfl (qrg hv6 (by decide) (by decide)) (fun h9 => ?_) (fun h9 => ?_)
      · skip
        refine qr_iconst 42 rfl rfl ?_
        refine qr_retZ rfl rfl (Or.inl rfl) (by decide) (by decide) ?_
        exact ⟨rfl, 0, rfl, (by decide), by omega⟩
      · skip
        refine qr_iload_n 27 rfl rfl rfl ?_
        refine qr_bipush 29 rfl (by decide) rfl ?_
        refine qr_idiv 30 rfl (by omega) (by decide) rfl ?_
        refine qr_iload_n 31 rfl rfl rfl ?_
        refine qr_bipush 33 rfl (by decide) rfl ?_
        refine qr_irem 34 rfl (by omega) (by decide) rfl ?_
        refine qr_icmp_eq 41 37 rfl rfl rfl (by omega) (by omega) (fun h10 => ?_) (fun h10 => ?_)
        · skip
          refine qr_iconst 42 rfl rfl ?_
          refine qr_retZ rfl rfl (Or.inl rfl) (by decide) (by decide) ?_
          exact ⟨rfl, 0, rfl, (by decide), by omega⟩
        · skip
          refine qr_iconst 38 rfl rfl ?_
          refine qr_goto 42 rfl rfl ?_
          refine qr_retZ rfl rfl (Or.inr rfl) (by decide) (by decide) ?_
          exact ⟨rfl, 1, rfl, (by decide), by omega⟩

set_option maxHeartbeats 4000000 in
set_option maxRecDepth 20000 in
/-- OneRoof$Folk.isSet -/
theorem sf_88_17 {L : Nat} {xs : Nat → Int} {vb : Bool} {d : Nat} {σ α : Nat → Nat → Int} {κ : Nat → Option Nat} {ρ : Nat} {x1 : Int} (hI : qI σ α κ ρ) (r1 : (-9223372036854775808) ≤ x1 ∧ x1 ≤ 9223372036854775807) : qm_T (qe L xs vb) (d + 1) 88 [.ref 17, .long (ql x1)] (qw σ α κ ρ) (fun r w' => w' = qw σ α κ ρ ∧ ∃ v : Int, r = some (.int (qz v)) ∧ (0 ≤ v ∧ v ≤ 1)) := by
  refine qr_start (d := d + 0) qv_e88 (Nat.le_of_ble_eq_true rfl) ?_
  show qr_W (qe L xs vb) (d + 0) qx_e88 _ (0, [(0, .ref 17), (1, .long (ql x1))], [], _, 0, 0)
  refine qr_lload_n 1 rfl rfl rfl ?_
  refine qr_lconst 2 rfl rfl ?_
  refine qy_vl 0 rfl ?_
  refine qr_lc_lt 21 6 rfl rfl rfl rfl r1 (by decide) (fun h1 => ?_) (fun h1 => ?_)
  · skip
    refine qr_iconst 22 rfl rfl ?_
    refine qr_retZ rfl rfl (Or.inl rfl) (by decide) (by decide) ?_
    exact ⟨rfl, 0, rfl, (by decide)⟩
  · skip
    refine qr_lload_n 7 rfl rfl rfl ?_
    refine qr_aload_n 8 rfl rfl rfl ?_
    refine qr_get 11 rfl rfl rfl (by decide) rfl ?_
    have hs2 : 0 ≤ σ 17 6 ∧ σ 17 6 ≤ 32 := hI.1 17 6
    refine qr_lushr 12 rfl rfl ?_
    refine qy_canl (fun v3 hv3 => ?_)
    refine qr_lconst 13 rfl rfl ?_
    refine qy_vl 0 rfl ?_
    refine qr_lc_ne 21 17 rfl rfl rfl rfl hv3 (by decide) (fun h4 => ?_) (fun h4 => ?_)
    · skip
      refine qr_iconst 22 rfl rfl ?_
      refine qr_retZ rfl rfl (Or.inl rfl) (by decide) (by decide) ?_
      exact ⟨rfl, 0, rfl, (by decide)⟩
    · skip
      refine qr_iconst 18 rfl rfl ?_
      refine qr_goto 22 rfl rfl ?_
      refine qr_retZ rfl rfl (Or.inr rfl) (by decide) (by decide) ?_
      exact ⟨rfl, 1, rfl, (by decide)⟩

set_option maxHeartbeats 4000000 in
set_option maxRecDepth 20000 in
/-- OneRoof.isSpan -/
theorem sf_70 {L : Nat} {xs : Nat → Int} {vb : Bool} {d : Nat} {σ α : Nat → Nat → Int} {κ : Nat → Option Nat} {ρ : Nat} {x0 : Int} (hI : qI σ α κ ρ) (r0 : (-2147483648) ≤ x0 ∧ x0 ≤ 2147483647) : qm_T (qe L xs vb) (d + 2) 70 [.int (qz x0)] (qw σ α κ ρ) (fun r w' => w' = qw σ α κ ρ ∧ ∃ v : Int, r = some (.int (qz v)) ∧ (0 ≤ v ∧ v ≤ 1) ∧ ((v = 1 ∧ 0 ≤ x0 ∧ x0 / 10000 ≤ x0 % 10000 ∧ x0 % 10000 ≤ 2399) ∨ (v = 0 ∧ ¬ (0 ≤ x0 ∧ x0 / 10000 ≤ x0 % 10000 ∧ x0 % 10000 ≤ 2399)))) := by
  refine qr_start (d := d + 1) qv_e70 (Nat.le_of_ble_eq_true rfl) ?_
  show qr_W (qe L xs vb) (d + 1) qx_e70 _ (0, [(0, .int (qz x0))], [], _, 0, 0)
  refine qr_iload_n 1 rfl rfl rfl ?_
  refine qr_if_lt 32 4 rfl rfl rfl r0 (fun h1 => ?_) (fun h1 => ?_)
  · skip
    refine qr_iconst 33 rfl rfl ?_
    refine qr_retZ rfl rfl (Or.inl rfl) (by decide) (by decide) ?_
    exact ⟨rfl, 0, rfl, (by decide), by omega⟩
  · skip
    refine qr_iload_n 5 rfl rfl rfl ?_
    refine qr_sipush 8 rfl (by decide) rfl ?_
    refine qr_idiv 9 rfl (by omega) (by decide) rfl ?_
    refine qr_iload_n 10 rfl rfl rfl ?_
    refine qr_sipush 13 rfl (by decide) rfl ?_
    refine qr_irem 14 rfl (by omega) (by decide) rfl ?_
    refine qr_icmp_gt 32 17 rfl rfl rfl (by omega) (by omega) (fun h2 => ?_) (fun h2 => ?_)
    · skip
      refine qr_iconst 33 rfl rfl ?_
      refine qr_retZ rfl rfl (Or.inl rfl) (by decide) (by decide) ?_
      exact ⟨rfl, 0, rfl, (by decide), by omega⟩
    · skip
      refine qr_iload_n 18 rfl rfl rfl ?_
      refine qr_sipush 21 rfl (by decide) rfl ?_
      refine qr_irem 22 rfl (by omega) (by decide) rfl ?_
      refine qr_callN 25 rfl rfl rfl (sf_62 (d := d + 0) hI (by omega)) ?_
      rintro _ _ ⟨rfl, v3, rfl, hv3, hp4⟩
      show qr_W (qe L xs vb) (d + 1) qx_e70 _ (25, _, [.int (qz v3)], qw σ α κ ρ, 0, 0)
      refine qr_if_eq 32 28 rfl rfl rfl (qrg hv3 (by decide) (by decide)) (fun h5 => ?_) (fun h5 => ?_)
      · skip
        refine qr_iconst 33 rfl rfl ?_
        refine qr_retZ rfl rfl (Or.inl rfl) (by decide) (by decide) ?_
        exact ⟨rfl, 0, rfl, (by decide), by omega⟩
      · skip
        refine qr_iconst 29 rfl rfl ?_
        refine qr_goto 33 rfl rfl ?_
        refine qr_retZ rfl rfl (Or.inr rfl) (by decide) (by decide) ?_
        exact ⟨rfl, 1, rfl, (by decide), by omega⟩

set_option maxHeartbeats 4000000 in
set_option maxRecDepth 20000 in
/-- OneRoof.isWindow -/
theorem sf_100 {L : Nat} {xs : Nat → Int} {vb : Bool} {d : Nat} {σ α : Nat → Nat → Int} {κ : Nat → Option Nat} {ρ : Nat} {x0 : Int} (hI : qI σ α κ ρ) (r0 : (-2147483648) ≤ x0 ∧ x0 ≤ 2147483647) : qm_T (qe L xs vb) (d + 3) 100 [.int (qz x0)] (qw σ α κ ρ) (fun r w' => w' = qw σ α κ ρ ∧ ∃ v : Int, r = some (.int (qz v)) ∧ (0 ≤ v ∧ v ≤ 1) ∧ ((v = 1 ∧ 0 ≤ x0 ∧ x0 / 10000 ≤ x0 % 10000 ∧ x0 % 10000 ≤ 2399 ∧ x0 % 10000 - x0 / 10000 < 48) ∨ (v = 0 ∧ ¬ (0 ≤ x0 ∧ x0 / 10000 ≤ x0 % 10000 ∧ x0 % 10000 ≤ 2399 ∧ x0 % 10000 - x0 / 10000 < 48)))) := by
  refine qr_start (d := d + 2) qv_e100 (Nat.le_of_ble_eq_true rfl) ?_
  show qr_W (qe L xs vb) (d + 2) qx_e100 _ (0, [(0, .int (qz x0))], [], _, 0, 0)
  refine qr_iload_n 1 rfl rfl rfl ?_
  refine qr_callN 4 rfl rfl rfl (sf_70 (d := d + 0) hI r0) ?_
  rintro _ _ ⟨rfl, v1, rfl, hv1, hp2⟩
  show qr_W (qe L xs vb) (d + 2) qx_e100 _ (4, _, [.int (qz v1)], qw σ α κ ρ, 0, 0)
  refine qr_if_eq 27 7 rfl rfl rfl (qrg hv1 (by decide) (by decide)) (fun h3 => ?_) (fun h3 => ?_)
  · skip
    refine qr_iconst 28 rfl rfl ?_
    refine qr_retZ rfl rfl (Or.inl rfl) (by decide) (by decide) ?_
    exact ⟨rfl, 0, rfl, (by decide), by omega⟩
  · skip
    refine qr_iload_n 8 rfl rfl rfl ?_
    refine qr_sipush 11 rfl (by decide) rfl ?_
    refine qr_irem 12 rfl (by omega) (by decide) rfl ?_
    refine qr_iload_n 13 rfl rfl rfl ?_
    refine qr_sipush 16 rfl (by decide) rfl ?_
    refine qr_idiv 17 rfl (by omega) (by decide) rfl ?_
    refine qr_isub 18 rfl rfl ?_
    refine qr_bipush 20 rfl (by decide) rfl ?_
    refine qr_icmp_ge 27 23 rfl rfl rfl (by omega) (by decide) (fun h4 => ?_) (fun h4 => ?_)
    · skip
      refine qr_iconst 28 rfl rfl ?_
      refine qr_retZ rfl rfl (Or.inl rfl) (by decide) (by decide) ?_
      exact ⟨rfl, 0, rfl, (by decide), by omega⟩
    · skip
      refine qr_iconst 24 rfl rfl ?_
      refine qr_goto 28 rfl rfl ?_
      refine qr_retZ rfl rfl (Or.inr rfl) (by decide) (by decide) ?_
      exact ⟨rfl, 1, rfl, (by decide), by omega⟩

set_option maxHeartbeats 4000000 in
set_option maxRecDepth 20000 in
/-- OneRoof.isIn -/
theorem sf_50 {L : Nat} {xs : Nat → Int} {vb : Bool} {d : Nat} {σ α : Nat → Nat → Int} {κ : Nat → Option Nat} {ρ : Nat} {x0 : Int} {x1 : Int} (hI : qI σ α κ ρ) (r0 : (-9223372036854775808) ≤ x0 ∧ x0 ≤ 9223372036854775807) (r1 : (-2147483648) ≤ x1 ∧ x1 ≤ 2147483647) : qm_T (qe L xs vb) (d + 1) 50 [.long (ql x0), .int (qz x1)] (qw σ α κ ρ) (fun r w' => w' = qw σ α κ ρ ∧ ∃ v : Int, r = some (.int (qz v)) ∧ (0 ≤ v ∧ v ≤ 1)) := by
  refine qr_start (d := d + 0) qv_e50 (Nat.le_of_ble_eq_true rfl) ?_
  show qr_W (qe L xs vb) (d + 0) qx_e50 _ (0, [(0, .long (ql x0)), (2, .int (qz x1))], [], _, 0, 0)
  refine qr_lload_n 1 rfl rfl rfl ?_
  refine qr_iload_n 2 rfl rfl rfl ?_
  refine qr_lushr 3 rfl rfl ?_
  refine qy_canl (fun v1 hv1 => ?_)
  refine qr_lconst 4 rfl rfl ?_
  refine qy_vl 1 rfl ?_
  refine qr_land 5 rfl rfl ?_
  refine qy_canl (fun v2 hv2 => ?_)
  refine qr_lconst 6 rfl rfl ?_
  refine qy_vl 0 rfl ?_
  refine qr_lc_eq 14 10 rfl rfl rfl rfl hv2 (by decide) (fun h3 => ?_) (fun h3 => ?_)
  · skip
    refine qr_iconst 15 rfl rfl ?_
    refine qr_retZ rfl rfl (Or.inl rfl) (by decide) (by decide) ?_
    exact ⟨rfl, 0, rfl, (by decide)⟩
  · skip
    refine qr_iconst 11 rfl rfl ?_
    refine qr_goto 15 rfl rfl ?_
    refine qr_retZ rfl rfl (Or.inr rfl) (by decide) (by decide) ?_
    exact ⟨rfl, 1, rfl, (by decide)⟩

set_option maxHeartbeats 4000000 in
set_option maxRecDepth 20000 in
/-- OneRoof$Folk.haveOneLord -/
theorem sf_96_17 {L : Nat} {xs : Nat → Int} {vb : Bool} {d : Nat} {σ α : Nat → Nat → Int} {κ : Nat → Option Nat} {ρ : Nat} {x1 : Int} {x2 : Int} (hI : qI σ α κ ρ) (r1 : 0 ≤ x1 ∧ x1 ≤ 31) (r2 : 0 ≤ x2 ∧ x2 ≤ 31) : qm_T (qe L xs vb) (d + 1) 96 [.ref 17, .int (qz x1), .int (qz x2)] (qw σ α κ ρ) (fun r w' => w' = qw σ α κ ρ ∧ ∃ v : Int, r = some (.int (qz v)) ∧ (0 ≤ v ∧ v ≤ 1)) := by
  refine qr_start (d := d + 0) qv_e96 (Nat.le_of_ble_eq_true rfl) ?_
  show qr_W (qe L xs vb) (d + 0) qx_e96 _ (0, [(0, .ref 17), (1, .int (qz x1)), (2, .int (qz x2))], [], _, 0, 0)
  refine qr_aload_n 1 rfl rfl rfl ?_
  refine qr_get 4 rfl rfl rfl (by decide) rfl ?_
  refine qr_iload_n 5 rfl rfl rfl ?_
  refine qr_iaload 6 rfl rfl (qrgi r1 (by decide) (by decide)) (by decide) rfl ?_
  refine qr_topI (fun v1 hv1 => ?_)
  have hs2 : (-1) ≤ v1 ∧ v1 ≤ 31 := by rw [hv1]; exact hI.2.1 18 _ (show _ < 32 from qrgt r1 (by decide) (by decide))
  refine qr_if_lt 28 9 rfl rfl rfl (qrg hs2 (by decide) (by decide)) (fun h3 => ?_) (fun h3 => ?_)
  · skip
    refine qr_iconst 29 rfl rfl ?_
    refine qr_retZ rfl rfl (Or.inl rfl) (by decide) (by decide) ?_
    exact ⟨rfl, 0, rfl, (by decide)⟩
  · skip
    refine qr_aload_n 10 rfl rfl rfl ?_
    refine qr_get 13 rfl rfl rfl (by decide) rfl ?_
    refine qr_iload_n 14 rfl rfl rfl ?_
    refine qr_iaload 15 rfl rfl (qrgi r1 (by decide) (by decide)) (by decide) rfl ?_
    refine qr_topI (fun v4 hv4 => ?_)
    have hs5 : (-1) ≤ v4 ∧ v4 ≤ 31 := by rw [hv4]; exact hI.2.1 18 _ (show _ < 32 from qrgt r1 (by decide) (by decide))
    refine qr_aload_n 16 rfl rfl rfl ?_
    refine qr_get 19 rfl rfl rfl (by decide) rfl ?_
    refine qr_iload_n 20 rfl rfl rfl ?_
    refine qr_iaload 21 rfl rfl (qrgi r2 (by decide) (by decide)) (by decide) rfl ?_
    refine qr_topI (fun v6 hv6 => ?_)
    have hs7 : (-1) ≤ v6 ∧ v6 ≤ 31 := by rw [hv6]; exact hI.2.1 18 _ (show _ < 32 from qrgt r2 (by decide) (by decide))
    refine qr_icmp_ne 28 24 rfl rfl rfl (qrg hs5 (by decide) (by decide)) (qrg hs7 (by decide) (by decide)) (fun h8 => ?_) (fun h8 => ?_)
    · skip
      refine qr_iconst 29 rfl rfl ?_
      refine qr_retZ rfl rfl (Or.inl rfl) (by decide) (by decide) ?_
      exact ⟨rfl, 0, rfl, (by decide)⟩
    · skip
      refine qr_iconst 25 rfl rfl ?_
      refine qr_goto 29 rfl rfl ?_
      refine qr_retZ rfl rfl (Or.inr rfl) (by decide) (by decide) ?_
      exact ⟨rfl, 1, rfl, (by decide)⟩

set_option maxHeartbeats 4000000 in
set_option maxRecDepth 20000 in
/-- OneRoof$Folk.sharingLord -/
theorem sf_95_17 {L : Nat} {xs : Nat → Int} {vb : Bool} {d : Nat} {σ α : Nat → Nat → Int} {κ : Nat → Option Nat} {ρ : Nat} {x1 : Int} {x2 : Int} (hI : qI σ α κ ρ) (r1 : 0 ≤ x1 ∧ x1 ≤ 31) (r2 : (-9223372036854775808) ≤ x2 ∧ x2 ≤ 9223372036854775807) : qm_T (qe L xs vb) (d + 2) 95 [.ref 17, .int (qz x1), .long (ql x2)] (qw σ α κ ρ) (fun r w' => w' = qw σ α κ ρ ∧ ∃ v : Int, r = some (.int (qz v)) ∧ ((-2147483648) ≤ v ∧ v ≤ 2147483647)) := by
  refine qr_start (d := d + 1) qv_e95 (Nat.le_of_ble_eq_true rfl) ?_
  show qr_W (qe L xs vb) (d + 1) qx_e95 _ (0, [(0, .ref 17), (1, .int (qz x1)), (2, .long (ql x2))], [], _, 0, 0)
  refine qr_iconst 1 rfl rfl ?_
  refine qr_istore _ 3 rfl (by decide) rfl rfl ?_
  refine qr_iconst 4 rfl rfl ?_
  refine qr_istore _ 6 rfl (by decide) rfl rfl ?_
  have hL730 : ∀ (n : Nat) (ls : qm_L) (u725 u727 : Int), 32 - u727 < (n : Int) → qm_get ls 0 = some (.ref 17) → qm_get ls 1 = some (.int (qz x1)) → qm_get ls 2 = some (.long (ql x2)) → qm_get ls 4 = some (.int (qz u725)) → qm_get ls 5 = some (.int (qz u727)) → ((-2147483648) ≤ u725 ∧ u725 ≤ 2147483647) → (0 ≤ u727 ∧ u727 ≤ 32) → qr_W (qe L xs vb) (d + 1) qx_e95 (fun r w' => w' = qw σ α κ ρ ∧ ∃ v : Int, r = some (.int (qz v)) ∧ ((-2147483648) ≤ v ∧ v ≤ 2147483647)) (6, ls, [], qw σ α κ ρ, 0, 0) := by
    intro n
    induction n with
    | zero => intro ls u725 u727 hm g721 g722 g723 g724 g726 hf728 hf729; exact False.elim (by omega)
    | succ n ih731 =>
      intro ls u725 u727 hm g721 g722 g723 g724 g726 hf728 hf729
      refine qr_iload 8 rfl g726 rfl ?_
      refine qr_aload_n 9 rfl g721 rfl ?_
      refine qr_get 12 rfl rfl rfl (by decide) rfl ?_
      have hs732 : 0 ≤ σ 17 6 ∧ σ 17 6 ≤ 32 := hI.1 17 6
      refine qr_icmp_ge 49 15 rfl rfl rfl (qrg hf729 (by decide) (by decide)) (qrg hs732 (by decide) (by decide)) (fun h733 => ?_) (fun h733 => ?_)
      · skip
        refine qr_iload 51 rfl g724 rfl ?_
        refine qr_retI rfl rfl (by decide) (by decide) ?_
        exact ⟨rfl, u725, rfl, hf728⟩
      · skip
        refine qr_lload_n 16 rfl g723 rfl ?_
        refine qr_iload 18 rfl g726 rfl ?_
        refine qr_callN 21 rfl rfl rfl (sf_50 (d := d + 0) hI r2 (qrg hf729 (by decide) (by decide))) ?_
        rintro _ _ ⟨rfl, v734, rfl, hv734⟩
        show qr_W (qe L xs vb) (d + 1) qx_e95 _ (21, _, [.int (qz v734)], qw σ α κ ρ, 0, 0)
        have hJ745 : ∀ (ls : qm_L) (u742 : Int), qm_get ls 0 = some (.ref 17) → qm_get ls 1 = some (.int (qz x1)) → qm_get ls 2 = some (.long (ql x2)) → qm_get ls 4 = some (.int (qz u742)) → qm_get ls 5 = some (.int (qz u727)) → ((-2147483648) ≤ u742 ∧ u742 ≤ 2147483647) → qr_W (qe L xs vb) (d + 1) qx_e95 (fun r w' => w' = qw σ α κ ρ ∧ ∃ v : Int, r = some (.int (qz v)) ∧ ((-2147483648) ≤ v ∧ v ≤ 2147483647)) (43, ls, [], qw σ α κ ρ, 0, 0) := by
          intro ls u742 g738 g739 g740 g741 g743 hf744
          refine qr_iinc _ 46 rfl g743 (by decide) rfl rfl ?_
          refine qr_goto 6 rfl rfl ?_
          exact ih731 _ u742 (u727 + 1) (by omega) (qm_gk g738 (by decide) (Or.inl (by decide))) (qm_gk g739 (by decide) (Or.inl (by decide))) (qm_gk g740 (by decide) (Or.inl (by decide))) (qm_gk g741 (by decide) (Or.inr rfl)) (qm_ge _ _ _) hf744 (by omega)
        refine qr_if_eq 43 24 rfl rfl rfl (qrg hv734 (by decide) (by decide)) (fun h746 => ?_) (fun h746 => ?_)
        · skip
          exact hJ745 _ u725 g721 g722 g723 g724 g726 hf728
        · skip
          refine qr_iload 26 rfl g726 rfl ?_
          refine qr_iload_n 27 rfl g722 rfl ?_
          refine qr_icmp_eq 40 30 rfl rfl rfl (qrg hf729 (by decide) (by decide)) (qrg r1 (by decide) (by decide)) (fun h747 => ?_) (fun h747 => ?_)
          · skip
            refine qy_iincC 43 rfl g724 (by decide) rfl (fun v748 hv748 => ?_)
            exact hJ745 _ v748 (qm_gk g721 (by decide) (Or.inl (by decide))) (qm_gk g722 (by decide) (Or.inl (by decide))) (qm_gk g723 (by decide) (Or.inl (by decide))) (qm_ge _ _ _) (qm_gk g726 (by decide) (Or.inl (by decide))) (by omega)
          · skip
            refine qr_aload_n 31 rfl g721 rfl ?_
            refine qr_iload 33 rfl g726 rfl ?_
            refine qr_iload_n 34 rfl g722 rfl ?_
            refine qr_callN 37 rfl rfl rfl (sf_96_17 (d := d + 0) hI (by omega) r1) ?_
            rintro _ _ ⟨rfl, v749, rfl, hv749⟩
            show qr_W (qe L xs vb) (d + 1) qx_e95 _ (37, _, [.int (qz v749)], qw σ α κ ρ, 0, 0)
            refine qr_if_eq 43 40 rfl rfl rfl (qrg hv749 (by decide) (by decide)) (fun h750 => ?_) (fun h750 => ?_)
            · skip
              exact hJ745 _ u725 g721 g722 g723 g724 g726 hf728
            · skip
              refine qy_iincC 43 rfl g724 (by decide) rfl (fun v751 hv751 => ?_)
              exact hJ745 _ v751 (qm_gk g721 (by decide) (Or.inl (by decide))) (qm_gk g722 (by decide) (Or.inl (by decide))) (qm_gk g723 (by decide) (Or.inl (by decide))) (qm_ge _ _ _) (qm_gk g726 (by decide) (Or.inl (by decide))) (by omega)
  exact hL730 ((32 - 0 + 1 : Int)).toNat _ 0 0 (by omega) rfl rfl rfl rfl rfl (by decide) (by decide)

set_option maxHeartbeats 4000000 in
set_option maxRecDepth 20000 in
/-- OneRoof$Kinship.apart -/
theorem sf_57_23 {L : Nat} {xs : Nat → Int} {vb : Bool} {d : Nat} {σ α : Nat → Nat → Int} {κ : Nat → Option Nat} {ρ : Nat} {x1 : Int} {x2 : Int} (hI : qI σ α κ ρ) (r1 : 0 ≤ x1 ∧ x1 ≤ 31) (r2 : 0 ≤ x2 ∧ x2 ≤ 31) : qm_T (qe L xs vb) (d + 1) 57 [.ref 23, .int (qz x1), .int (qz x2)] (qw σ α κ ρ) (fun r w' => w' = qw σ α κ ρ ∧ ∃ v : Int, r = some (.int (qz v)) ∧ (0 ≤ v ∧ v ≤ 99)) := by
  refine qr_start (d := d + 0) qv_e57 (Nat.le_of_ble_eq_true rfl) ?_
  show qr_W (qe L xs vb) (d + 0) qx_e57 _ (0, [(0, .ref 23), (1, .int (qz x1)), (2, .int (qz x2))], [], _, 0, 0)
  refine qr_aload_n 1 rfl rfl rfl ?_
  refine qr_get 4 rfl rfl rfl (by decide) rfl ?_
  refine qr_iload_n 5 rfl rfl rfl ?_
  refine qr_bipush 7 rfl (by decide) rfl ?_
  refine qr_imul 8 rfl rfl ?_
  refine qr_iload_n 9 rfl rfl rfl ?_
  refine qr_iadd 10 rfl rfl ?_
  refine qr_iaload 11 rfl rfl (by omega) (by decide) rfl ?_
  refine qr_topI (fun v1 hv1 => ?_)
  have hs2 : 0 ≤ v1 ∧ v1 ≤ 99 := by rw [hv1]; exact hI.2.1 24 _ (show _ < 1024 by omega)
  refine qr_retI rfl rfl (by decide) (by decide) ?_
  exact ⟨rfl, v1, rfl, hs2⟩

set_option maxHeartbeats 4000000 in
set_option maxRecDepth 20000 in
/-- OneRoof$Kinship.apart -/
theorem sf_57_25 {L : Nat} {xs : Nat → Int} {vb : Bool} {d : Nat} {σ α : Nat → Nat → Int} {κ : Nat → Option Nat} {ρ : Nat} {x1 : Int} {x2 : Int} (hI : qI σ α κ ρ) (r1 : 0 ≤ x1 ∧ x1 ≤ 31) (r2 : 0 ≤ x2 ∧ x2 ≤ 31) : qm_T (qe L xs vb) (d + 1) 57 [.ref 25, .int (qz x1), .int (qz x2)] (qw σ α κ ρ) (fun r w' => w' = qw σ α κ ρ ∧ ∃ v : Int, r = some (.int (qz v)) ∧ (0 ≤ v ∧ v ≤ 99)) := by
  refine qr_start (d := d + 0) qv_e57 (Nat.le_of_ble_eq_true rfl) ?_
  show qr_W (qe L xs vb) (d + 0) qx_e57 _ (0, [(0, .ref 25), (1, .int (qz x1)), (2, .int (qz x2))], [], _, 0, 0)
  refine qr_aload_n 1 rfl rfl rfl ?_
  refine qr_get 4 rfl rfl rfl (by decide) rfl ?_
  refine qr_iload_n 5 rfl rfl rfl ?_
  refine qr_bipush 7 rfl (by decide) rfl ?_
  refine qr_imul 8 rfl rfl ?_
  refine qr_iload_n 9 rfl rfl rfl ?_
  refine qr_iadd 10 rfl rfl ?_
  refine qr_iaload 11 rfl rfl (by omega) (by decide) rfl ?_
  refine qr_topI (fun v1 hv1 => ?_)
  have hs2 : 0 ≤ v1 ∧ v1 ≤ 99 := by rw [hv1]; exact hI.2.1 26 _ (show _ < 1024 by omega)
  refine qr_retI rfl rfl (by decide) (by decide) ?_
  exact ⟨rfl, v1, rfl, hs2⟩

set_option maxHeartbeats 4000000 in
set_option maxRecDepth 20000 in
/-- OneRoof$Feuds.isAlight -/
theorem sf_67_27 {L : Nat} {xs : Nat → Int} {vb : Bool} {d : Nat} {σ α : Nat → Nat → Int} {κ : Nat → Option Nat} {ρ : Nat} {x1 : Int} {x2 : Int} (hI : qI σ α κ ρ) (r1 : 0 ≤ x1 ∧ x1 ≤ 39) (r2 : (-2147483648) ≤ x2 ∧ x2 ≤ 2147483647) : qm_T (qe L xs vb) (d + 1) 67 [.ref 27, .int (qz x1), .int (qz x2)] (qw σ α κ ρ) (fun r w' => w' = qw σ α κ ρ ∧ ∃ v : Int, r = some (.int (qz v)) ∧ (0 ≤ v ∧ v ≤ 1)) := by
  refine qr_start (d := d + 0) qv_e67 (Nat.le_of_ble_eq_true rfl) ?_
  show qr_W (qe L xs vb) (d + 0) qx_e67 _ (0, [(0, .ref 27), (1, .int (qz x1)), (2, .int (qz x2))], [], _, 0, 0)
  refine qr_aload_n 1 rfl rfl rfl ?_
  refine qr_get 4 rfl rfl rfl (by decide) rfl ?_
  refine qr_iload_n 5 rfl rfl rfl ?_
  refine qr_iaload 6 rfl rfl (qrgi r1 (by decide) (by decide)) (by decide) rfl ?_
  refine qr_topI (fun v1 hv1 => ?_)
  have hs2 : (-2147483648) ≤ v1 ∧ v1 ≤ 2147483647 := by rw [hv1]; exact hI.2.1 30 _ (show _ < 40 from qrgt r1 (by decide) (by decide))
  refine qr_iload_n 7 rfl rfl rfl ?_
  refine qr_icmp_gt 49 10 rfl rfl rfl hs2 r2 (fun h3 => ?_) (fun h3 => ?_)
  · skip
    refine qr_iconst 50 rfl rfl ?_
    refine qr_retZ rfl rfl (Or.inl rfl) (by decide) (by decide) ?_
    exact ⟨rfl, 0, rfl, (by decide)⟩
  · skip
    refine qr_aload_n 11 rfl rfl rfl ?_
    refine qr_get 14 rfl rfl rfl (by decide) rfl ?_
    refine qr_iload_n 15 rfl rfl rfl ?_
    refine qr_iaload 16 rfl rfl (qrgi r1 (by decide) (by decide)) (by decide) rfl ?_
    refine qr_topI (fun v4 hv4 => ?_)
    have hs5 : (-2147483648) ≤ v4 ∧ v4 ≤ 2147483647 := by rw [hv4]; exact hI.2.1 33 _ (show _ < 40 from qrgt r1 (by decide) (by decide))
    refine qr_sipush 19 rfl (by decide) rfl ?_
    refine qr_icmp_eq 32 22 rfl rfl rfl hs5 (by decide) (fun h6 => ?_) (fun h6 => ?_)
    · skip
      refine qr_aload_n 33 rfl rfl rfl ?_
      refine qr_get 36 rfl rfl rfl (by decide) rfl ?_
      have hs7 : (-9223372036854775808) ≤ σ 27 6 ∧ σ 27 6 ≤ 9223372036854775807 := hI.1 27 6
      refine qr_iload_n 37 rfl rfl rfl ?_
      refine qr_lushr 38 rfl rfl ?_
      refine qy_canl (fun v8 hv8 => ?_)
      refine qr_lconst 39 rfl rfl ?_
      refine qy_vl 1 rfl ?_
      refine qr_land 40 rfl rfl ?_
      refine qy_canl (fun v9 hv9 => ?_)
      refine qr_lconst 41 rfl rfl ?_
      refine qy_vl 0 rfl ?_
      refine qr_lc_ne 49 45 rfl rfl rfl rfl hv9 (by decide) (fun h10 => ?_) (fun h10 => ?_)
      · skip
        refine qr_iconst 50 rfl rfl ?_
        refine qr_retZ rfl rfl (Or.inl rfl) (by decide) (by decide) ?_
        exact ⟨rfl, 0, rfl, (by decide)⟩
      · skip
        refine qr_iconst 46 rfl rfl ?_
        refine qr_goto 50 rfl rfl ?_
        refine qr_retZ rfl rfl (Or.inr rfl) (by decide) (by decide) ?_
        exact ⟨rfl, 1, rfl, (by decide)⟩
    · skip
      refine qr_iload_n 23 rfl rfl rfl ?_
      refine qr_aload_n 24 rfl rfl rfl ?_
      refine qr_get 27 rfl rfl rfl (by decide) rfl ?_
      refine qr_iload_n 28 rfl rfl rfl ?_
      refine qr_iaload 29 rfl rfl (qrgi r1 (by decide) (by decide)) (by decide) rfl ?_
      refine qr_topI (fun v11 hv11 => ?_)
      have hs12 : (-2147483648) ≤ v11 ∧ v11 ≤ 2147483647 := by rw [hv11]; exact hI.2.1 33 _ (show _ < 40 from qrgt r1 (by decide) (by decide))
      refine qr_icmp_ge 49 32 rfl rfl rfl r2 hs12 (fun h13 => ?_) (fun h13 => ?_)
      · skip
        refine qr_iconst 50 rfl rfl ?_
        refine qr_retZ rfl rfl (Or.inl rfl) (by decide) (by decide) ?_
        exact ⟨rfl, 0, rfl, (by decide)⟩
      · skip
        refine qr_aload_n 33 rfl rfl rfl ?_
        refine qr_get 36 rfl rfl rfl (by decide) rfl ?_
        have hs14 : (-9223372036854775808) ≤ σ 27 6 ∧ σ 27 6 ≤ 9223372036854775807 := hI.1 27 6
        refine qr_iload_n 37 rfl rfl rfl ?_
        refine qr_lushr 38 rfl rfl ?_
        refine qy_canl (fun v15 hv15 => ?_)
        refine qr_lconst 39 rfl rfl ?_
        refine qy_vl 1 rfl ?_
        refine qr_land 40 rfl rfl ?_
        refine qy_canl (fun v16 hv16 => ?_)
        refine qr_lconst 41 rfl rfl ?_
        refine qy_vl 0 rfl ?_
        refine qr_lc_ne 49 45 rfl rfl rfl rfl hv16 (by decide) (fun h17 => ?_) (fun h17 => ?_)
        · skip
          refine qr_iconst 50 rfl rfl ?_
          refine qr_retZ rfl rfl (Or.inl rfl) (by decide) (by decide) ?_
          exact ⟨rfl, 0, rfl, (by decide)⟩
        · skip
          refine qr_iconst 46 rfl rfl ?_
          refine qr_goto 50 rfl rfl ?_
          refine qr_retZ rfl rfl (Or.inr rfl) (by decide) (by decide) ?_
          exact ⟨rfl, 1, rfl, (by decide)⟩

set_option maxHeartbeats 4000000 in
set_option maxRecDepth 20000 in
/-- java/lang/Math.min -/
theorem sf_12 {L : Nat} {xs : Nat → Int} {vb : Bool} {d : Nat} {σ α : Nat → Nat → Int} {κ : Nat → Option Nat} {ρ : Nat} {x0 : Int} {x1 : Int} (hI : qI σ α κ ρ) (r0 : (-2147483648) ≤ x0 ∧ x0 ≤ 2147483647) (r1 : (-2147483648) ≤ x1 ∧ x1 ≤ 2147483647) : qm_T (qe L xs vb) (d + 1) 12 [.int (qz x0), .int (qz x1)] (qw σ α κ ρ) (fun r w' => w' = qw σ α κ ρ ∧ ∃ v : Int, r = some (.int (qz v)) ∧ ((-2147483648) ≤ v ∧ v ≤ 2147483647) ∧ (v = x0 ∨ v = x1) ∧ v ≤ x0 ∧ v ≤ x1) := by
  refine qr_start (d := d + 0) qv_e12 (Nat.le_of_ble_eq_true rfl) ?_
  show qr_W (qe L xs vb) (d + 0) qx_e12 _ (0, [(0, .int (qz x0)), (1, .int (qz x1))], [], _, 0, 0)
  refine qr_iload_n 1 rfl rfl rfl ?_
  refine qr_iload_n 2 rfl rfl rfl ?_
  refine qr_icmp_gt 9 5 rfl rfl rfl r0 r1 (fun h1 => ?_) (fun h1 => ?_)
  · skip
    refine qr_iload_n 10 rfl rfl rfl ?_
    refine qr_retI rfl rfl (by decide) (by decide) ?_
    exact ⟨rfl, x1, rfl, r1, by omega⟩
  · skip
    refine qr_iload_n 6 rfl rfl rfl ?_
    refine qr_goto 10 rfl rfl ?_
    refine qr_retI rfl rfl (by decide) (by decide) ?_
    exact ⟨rfl, x0, rfl, r0, by omega⟩

set_option maxHeartbeats 4000000 in
set_option maxRecDepth 20000 in
/-- java/lang/Math.max -/
theorem sf_30 {L : Nat} {xs : Nat → Int} {vb : Bool} {d : Nat} {σ α : Nat → Nat → Int} {κ : Nat → Option Nat} {ρ : Nat} {x0 : Int} {x1 : Int} (hI : qI σ α κ ρ) (r0 : (-2147483648) ≤ x0 ∧ x0 ≤ 2147483647) (r1 : (-2147483648) ≤ x1 ∧ x1 ≤ 2147483647) : qm_T (qe L xs vb) (d + 1) 30 [.int (qz x0), .int (qz x1)] (qw σ α κ ρ) (fun r w' => w' = qw σ α κ ρ ∧ ∃ v : Int, r = some (.int (qz v)) ∧ ((-2147483648) ≤ v ∧ v ≤ 2147483647) ∧ (v = x0 ∨ v = x1) ∧ x0 ≤ v ∧ x1 ≤ v) := by
  refine qr_start (d := d + 0) qv_e30 (Nat.le_of_ble_eq_true rfl) ?_
  show qr_W (qe L xs vb) (d + 0) qx_e30 _ (0, [(0, .int (qz x0)), (1, .int (qz x1))], [], _, 0, 0)
  refine qr_iload_n 1 rfl rfl rfl ?_
  refine qr_iload_n 2 rfl rfl rfl ?_
  refine qr_icmp_lt 9 5 rfl rfl rfl r0 r1 (fun h1 => ?_) (fun h1 => ?_)
  · skip
    refine qr_iload_n 10 rfl rfl rfl ?_
    refine qr_retI rfl rfl (by decide) (by decide) ?_
    exact ⟨rfl, x1, rfl, r1, by omega⟩
  · skip
    refine qr_iload_n 6 rfl rfl rfl ?_
    refine qr_goto 10 rfl rfl ?_
    refine qr_retI rfl rfl (by decide) (by decide) ?_
    exact ⟨rfl, x0, rfl, r0, by omega⟩

set_option maxHeartbeats 4000000 in
set_option maxRecDepth 20000 in
/-- java/lang/Long.bitCount -/
theorem sf_74 {L : Nat} {xs : Nat → Int} {vb : Bool} {d : Nat} {σ α : Nat → Nat → Int} {κ : Nat → Option Nat} {ρ : Nat} {x0 : Int} (hI : qI σ α κ ρ) (r0 : (-9223372036854775808) ≤ x0 ∧ x0 ≤ 9223372036854775807) : qm_T (qe L xs vb) (d + 1) 74 [.long (ql x0)] (qw σ α κ ρ) (fun r w' => w' = qw σ α κ ρ ∧ ∃ v : Int, r = some (.int (qz v)) ∧ ((-2147483648) ≤ v ∧ v ≤ 2147483647)) := by
  refine qr_start (d := d + 0) qv_e74 (Nat.le_of_ble_eq_true rfl) ?_
  show qr_W (qe L xs vb) (d + 0) qx_e74 _ (0, [(0, .long (ql x0))], [], _, 0, 0)
  refine qr_lload_n 1 rfl rfl rfl ?_
  refine qr_lload_n 2 rfl rfl rfl ?_
  refine qr_iconst 3 rfl rfl ?_
  refine qr_lushr 4 rfl rfl ?_
  refine qy_canl (fun v1 hv1 => ?_)
  refine qr_ldc2 6148914691236517205 7 rfl (by decide) rfl ?_
  refine qr_land 8 rfl rfl ?_
  refine qy_canl (fun v2 hv2 => ?_)
  refine qr_lsub 9 rfl rfl ?_
  refine qy_canl (fun v3 hv3 => ?_)
  refine qr_lstore_n _ 10 rfl (by decide) rfl rfl ?_
  refine qr_lload_n 11 rfl rfl rfl ?_
  refine qr_ldc2 3689348814741910323 14 rfl (by decide) rfl ?_
  refine qr_land 15 rfl rfl ?_
  refine qy_canl (fun v4 hv4 => ?_)
  refine qr_lload_n 16 rfl rfl rfl ?_
  refine qr_iconst 17 rfl rfl ?_
  refine qr_lushr 18 rfl rfl ?_
  refine qy_canl (fun v5 hv5 => ?_)
  refine qr_ldc2 3689348814741910323 21 rfl (by decide) rfl ?_
  refine qr_land 22 rfl rfl ?_
  refine qy_canl (fun v6 hv6 => ?_)
  refine qr_ladd 23 rfl rfl ?_
  refine qy_canl (fun v7 hv7 => ?_)
  refine qr_lstore_n _ 24 rfl (by decide) rfl rfl ?_
  refine qr_lload_n 25 rfl rfl rfl ?_
  refine qr_lload_n 26 rfl rfl rfl ?_
  refine qr_iconst 27 rfl rfl ?_
  refine qr_lushr 28 rfl rfl ?_
  refine qy_canl (fun v8 hv8 => ?_)
  refine qr_ladd 29 rfl rfl ?_
  refine qy_canl (fun v9 hv9 => ?_)
  refine qr_ldc2 1085102592571150095 32 rfl (by decide) rfl ?_
  refine qr_land 33 rfl rfl ?_
  refine qy_canl (fun v10 hv10 => ?_)
  refine qr_lstore_n _ 34 rfl (by decide) rfl rfl ?_
  refine qr_lload_n 35 rfl rfl rfl ?_
  refine qr_lload_n 36 rfl rfl rfl ?_
  refine qr_bipush 38 rfl (by decide) rfl ?_
  refine qr_lushr 39 rfl rfl ?_
  refine qy_canl (fun v11 hv11 => ?_)
  refine qr_ladd 40 rfl rfl ?_
  refine qy_canl (fun v12 hv12 => ?_)
  refine qr_lstore_n _ 41 rfl (by decide) rfl rfl ?_
  refine qr_lload_n 42 rfl rfl rfl ?_
  refine qr_lload_n 43 rfl rfl rfl ?_
  refine qr_bipush 45 rfl (by decide) rfl ?_
  refine qr_lushr 46 rfl rfl ?_
  refine qy_canl (fun v13 hv13 => ?_)
  refine qr_ladd 47 rfl rfl ?_
  refine qy_canl (fun v14 hv14 => ?_)
  refine qr_lstore_n _ 48 rfl (by decide) rfl rfl ?_
  refine qr_lload_n 49 rfl rfl rfl ?_
  refine qr_lload_n 50 rfl rfl rfl ?_
  refine qr_bipush 52 rfl (by decide) rfl ?_
  refine qr_lushr 53 rfl rfl ?_
  refine qy_canl (fun v15 hv15 => ?_)
  refine qr_ladd 54 rfl rfl ?_
  refine qy_canl (fun v16 hv16 => ?_)
  refine qr_lstore_n _ 55 rfl (by decide) rfl rfl ?_
  refine qr_lload_n 56 rfl rfl rfl ?_
  refine qr_l2i 57 rfl rfl ?_
  refine qy_can (fun v17 hv17 => ?_)
  refine qr_bipush 59 rfl (by decide) rfl ?_
  refine qr_iand 60 rfl rfl ?_
  refine qy_andr (by omega) (fun v18 hv18 => ?_)
  refine qr_retI rfl rfl (by decide) (by decide) ?_
  exact ⟨rfl, v18, rfl, (by omega)⟩

set_option maxHeartbeats 4000000 in
set_option maxRecDepth 20000 in
/-- java/lang/Integer.bitCount -/
theorem sf_115 {L : Nat} {xs : Nat → Int} {vb : Bool} {d : Nat} {σ α : Nat → Nat → Int} {κ : Nat → Option Nat} {ρ : Nat} {x0 : Int} (hI : qI σ α κ ρ) (r0 : (-2147483648) ≤ x0 ∧ x0 ≤ 2147483647) : qm_T (qe L xs vb) (d + 1) 115 [.int (qz x0)] (qw σ α κ ρ) (fun r w' => w' = qw σ α κ ρ ∧ ∃ v : Int, r = some (.int (qz v)) ∧ ((-2147483648) ≤ v ∧ v ≤ 2147483647)) := by
  refine qr_start (d := d + 0) qv_e115 (Nat.le_of_ble_eq_true rfl) ?_
  show qr_W (qe L xs vb) (d + 0) qx_e115 _ (0, [(0, .int (qz x0))], [], _, 0, 0)
  refine qr_iload_n 1 rfl rfl rfl ?_
  refine qr_iload_n 2 rfl rfl rfl ?_
  refine qr_iconst 3 rfl rfl ?_
  refine qr_iushr 4 rfl rfl ?_
  refine qy_can (fun v1 hv1 => ?_)
  refine qr_ldcw 1431655765 7 rfl (by decide) rfl ?_
  refine qr_iand 8 rfl rfl ?_
  refine qy_andr (by omega) (fun v2 hv2 => ?_)
  refine qr_isub 9 rfl rfl ?_
  refine qy_can (fun v3 hv3 => ?_)
  refine qr_istore_n _ 10 rfl (by decide) rfl rfl ?_
  refine qr_iload_n 11 rfl rfl rfl ?_
  refine qr_ldcw 858993459 14 rfl (by decide) rfl ?_
  refine qr_iand 15 rfl rfl ?_
  refine qy_andr (by omega) (fun v4 hv4 => ?_)
  refine qr_iload_n 16 rfl rfl rfl ?_
  refine qr_iconst 17 rfl rfl ?_
  refine qr_iushr 18 rfl rfl ?_
  refine qy_can (fun v5 hv5 => ?_)
  refine qr_ldcw 858993459 21 rfl (by decide) rfl ?_
  refine qr_iand 22 rfl rfl ?_
  refine qy_andr (by omega) (fun v6 hv6 => ?_)
  refine qr_iadd 23 rfl rfl ?_
  refine qr_istore_n _ 24 rfl (by decide) rfl rfl ?_
  refine qr_iload_n 25 rfl rfl rfl ?_
  refine qr_iload_n 26 rfl rfl rfl ?_
  refine qr_iconst 27 rfl rfl ?_
  refine qr_iushr 28 rfl rfl ?_
  refine qy_v ((v4 + v6) / 16) (qz_ushr4 (by omega)) ?_
  refine qr_iadd 29 rfl rfl ?_
  refine qr_ldcw 252645135 32 rfl (by decide) rfl ?_
  refine qr_iand 33 rfl rfl ?_
  refine qy_andr (by omega) (fun v7 hv7 => ?_)
  refine qr_istore_n _ 34 rfl (by decide) rfl rfl ?_
  refine qr_iload_n 35 rfl rfl rfl ?_
  refine qr_iload_n 36 rfl rfl rfl ?_
  refine qr_bipush 38 rfl (by decide) rfl ?_
  refine qr_iushr 39 rfl rfl ?_
  refine qy_v (v7 / 256) (qz_ushr8 (by omega)) ?_
  refine qr_iadd 40 rfl rfl ?_
  refine qr_istore_n _ 41 rfl (by decide) rfl rfl ?_
  refine qr_iload_n 42 rfl rfl rfl ?_
  refine qr_iload_n 43 rfl rfl rfl ?_
  refine qr_bipush 45 rfl (by decide) rfl ?_
  refine qr_iushr 46 rfl rfl ?_
  refine qy_v ((v7 + (v7 / 256)) / 65536) (qz_ushr16 (by omega)) ?_
  refine qr_iadd 47 rfl rfl ?_
  refine qr_istore_n _ 48 rfl (by decide) rfl rfl ?_
  refine qr_iload_n 49 rfl rfl rfl ?_
  refine qr_bipush 51 rfl (by decide) rfl ?_
  refine qr_iand 52 rfl rfl ?_
  refine qy_andr (by omega) (fun v8 hv8 => ?_)
  refine qr_retI rfl rfl (by decide) (by decide) ?_
  exact ⟨rfl, v8, rfl, (by omega)⟩

set_option maxHeartbeats 4000000 in
set_option maxRecDepth 20000 in
/-- java/lang/Integer.numberOfTrailingZeros -/
theorem sf_83 {L : Nat} {xs : Nat → Int} {vb : Bool} {d : Nat} {σ α : Nat → Nat → Int} {κ : Nat → Option Nat} {ρ : Nat} {x0 : Int} (hI : qI σ α κ ρ) (r0 : (-2147483648) ≤ x0 ∧ x0 ≤ 2147483647) : qm_T (qe L xs vb) (d + 1) 83 [.int (qz x0)] (qw σ α κ ρ) (fun r w' => w' = qw σ α κ ρ ∧ ∃ v : Int, r = some (.int (qz v)) ∧ ((-2147483648) ≤ v ∧ v ≤ 2147483647)) := by
  refine qr_start (d := d + 0) qv_e83 (Nat.le_of_ble_eq_true rfl) ?_
  show qr_W (qe L xs vb) (d + 0) qx_e83 _ (0, [(0, .int (qz x0))], [], _, 0, 0)
  refine qr_iload_n 1 rfl rfl rfl ?_
  refine qr_iconst 2 rfl rfl ?_
  refine qr_ixor 3 rfl rfl ?_
  refine qy_can (fun v1 hv1 => ?_)
  refine qr_iload_n 4 rfl rfl rfl ?_
  refine qr_iconst 5 rfl rfl ?_
  refine qr_isub 6 rfl rfl ?_
  refine qy_can (fun v2 hv2 => ?_)
  refine qr_iand 7 rfl rfl ?_
  refine qy_can (fun v3 hv3 => ?_)
  refine qr_istore_n _ 8 rfl (by decide) rfl rfl ?_
  refine qr_iload_n 9 rfl rfl rfl ?_
  refine qr_if_gt 17 12 rfl rfl rfl hv3 (fun h4 => ?_) (fun h4 => ?_)
  · skip
    refine qr_iconst 18 rfl rfl ?_
    refine qr_istore_n _ 19 rfl (by decide) rfl rfl ?_
    refine qr_iload_n 20 rfl rfl rfl ?_
    refine qr_ldcw 65536 23 rfl (by decide) rfl ?_
    have hJ11 : ∀ (ls : qm_L) (u6 u8 : Int), qm_get ls 0 = some (.int (qz u6)) → qm_get ls 1 = some (.int (qz u8)) → (1 ≤ u6 ∧ u6 ≤ 65536) → (1 ≤ u8 ∧ u8 ≤ 17) → qr_W (qe L xs vb) (d + 0) qx_e83 (fun r w' => w' = qw σ α κ ρ ∧ ∃ v : Int, r = some (.int (qz v)) ∧ ((-2147483648) ≤ v ∧ v ≤ 2147483647)) (34, ls, [], qw σ α κ ρ, 0, 0) := by
      intro ls u6 u8 g5 g7 hf9 hf10
      refine qr_iload_n 35 rfl g5 rfl ?_
      refine qr_sipush 38 rfl (by decide) rfl ?_
      have hJ18 : ∀ (ls : qm_L) (u13 u15 : Int), qm_get ls 0 = some (.int (qz u13)) → qm_get ls 1 = some (.int (qz u15)) → (1 ≤ u13 ∧ u13 ≤ 256) → (1 ≤ u15 ∧ u15 ≤ 25) → qr_W (qe L xs vb) (d + 0) qx_e83 (fun r w' => w' = qw σ α κ ρ ∧ ∃ v : Int, r = some (.int (qz v)) ∧ ((-2147483648) ≤ v ∧ v ≤ 2147483647)) (49, ls, [], qw σ α κ ρ, 0, 0) := by
        intro ls u13 u15 g12 g14 hf16 hf17
        refine qr_iload_n 50 rfl g12 rfl ?_
        refine qr_bipush 52 rfl (by decide) rfl ?_
        have hJ25 : ∀ (ls : qm_L) (u20 u22 : Int), qm_get ls 0 = some (.int (qz u20)) → qm_get ls 1 = some (.int (qz u22)) → (1 ≤ u20 ∧ u20 ≤ 16) → (1 ≤ u22 ∧ u22 ≤ 29) → qr_W (qe L xs vb) (d + 0) qx_e83 (fun r w' => w' = qw σ α κ ρ ∧ ∃ v : Int, r = some (.int (qz v)) ∧ ((-2147483648) ≤ v ∧ v ≤ 2147483647)) (62, ls, [], qw σ α κ ρ, 0, 0) := by
          intro ls u20 u22 g19 g21 hf23 hf24
          refine qr_iload_n 63 rfl g19 rfl ?_
          refine qr_iconst 64 rfl rfl ?_
          have hJ32 : ∀ (ls : qm_L) (u27 u29 : Int), qm_get ls 0 = some (.int (qz u27)) → qm_get ls 1 = some (.int (qz u29)) → (1 ≤ u27 ∧ u27 ≤ 4) → (1 ≤ u29 ∧ u29 ≤ 31) → qr_W (qe L xs vb) (d + 0) qx_e83 (fun r w' => w' = qw σ α κ ρ ∧ ∃ v : Int, r = some (.int (qz v)) ∧ ((-2147483648) ≤ v ∧ v ≤ 2147483647)) (74, ls, [], qw σ α κ ρ, 0, 0) := by
            intro ls u27 u29 g26 g28 hf30 hf31
            refine qr_iload_n 75 rfl g28 rfl ?_
            refine qr_iload_n 76 rfl g26 rfl ?_
            refine qr_iconst 77 rfl rfl ?_
            refine qr_iushr 78 rfl rfl ?_
            refine qy_v (u27 / 2) (qz_ushr1 (by omega)) ?_
            refine qr_iadd 79 rfl rfl ?_
            refine qr_retI rfl rfl (by decide) (by decide) ?_
            exact ⟨rfl, (u29 + (u27 / 2)), rfl, (by omega)⟩
          refine qr_icmp_le 74 67 rfl rfl rfl (qrg hf23 (by decide) (by decide)) (by decide) (fun h33 => ?_) (fun h33 => ?_)
          · skip
            exact hJ32 _ u20 u22 g19 g21 (by omega) (qrg hf24 (by decide) (by decide))
          · skip
            refine qr_iinc _ 70 rfl g21 (by decide) rfl rfl ?_
            refine qr_iload_n 71 rfl (qm_gk g19 (by decide) (Or.inr rfl)) rfl ?_
            refine qr_iconst 72 rfl rfl ?_
            refine qr_iushr 73 rfl rfl ?_
            refine qy_v (u20 / 4) (qz_ushr2 (by omega)) ?_
            refine qr_istore_n _ 74 rfl (by decide) rfl rfl ?_
            exact hJ32 _ (u20 / 4) (u22 + 2) (qm_ge _ _ _) (qm_gk (qm_ge _ _ _) (by decide) (Or.inl (by decide))) (by omega) (by omega)
        refine qr_icmp_le 62 55 rfl rfl rfl (qrg hf16 (by decide) (by decide)) (by decide) (fun h34 => ?_) (fun h34 => ?_)
        · skip
          exact hJ25 _ u13 u15 g12 g14 (by omega) (qrg hf17 (by decide) (by decide))
        · skip
          refine qr_iinc _ 58 rfl g14 (by decide) rfl rfl ?_
          refine qr_iload_n 59 rfl (qm_gk g12 (by decide) (Or.inr rfl)) rfl ?_
          refine qr_iconst 60 rfl rfl ?_
          refine qr_iushr 61 rfl rfl ?_
          refine qy_v (u13 / 16) (qz_ushr4 (by omega)) ?_
          refine qr_istore_n _ 62 rfl (by decide) rfl rfl ?_
          exact hJ25 _ (u13 / 16) (u15 + 4) (qm_ge _ _ _) (qm_gk (qm_ge _ _ _) (by decide) (Or.inl (by decide))) (by omega) (by omega)
      refine qr_icmp_le 49 41 rfl rfl rfl (qrg hf9 (by decide) (by decide)) (by decide) (fun h35 => ?_) (fun h35 => ?_)
      · skip
        exact hJ18 _ u6 u8 g5 g7 (by omega) (qrg hf10 (by decide) (by decide))
      · skip
        refine qr_iinc _ 44 rfl g7 (by decide) rfl rfl ?_
        refine qr_iload_n 45 rfl (qm_gk g5 (by decide) (Or.inr rfl)) rfl ?_
        refine qr_bipush 47 rfl (by decide) rfl ?_
        refine qr_iushr 48 rfl rfl ?_
        refine qy_v (u6 / 256) (qz_ushr8 (by omega)) ?_
        refine qr_istore_n _ 49 rfl (by decide) rfl rfl ?_
        exact hJ18 _ (u6 / 256) (u8 + 8) (qm_ge _ _ _) (qm_gk (qm_ge _ _ _) (by decide) (Or.inl (by decide))) (by omega) (by omega)
    refine qr_icmp_le 34 26 rfl rfl rfl hv3 (by decide) (fun h36 => ?_) (fun h36 => ?_)
    · skip
      exact hJ11 _ v3 1 rfl rfl (by omega) (by decide)
    · skip
      refine qr_iinc _ 29 rfl rfl (by decide) rfl rfl ?_
      refine qr_iload_n 30 rfl rfl rfl ?_
      refine qr_bipush 32 rfl (by decide) rfl ?_
      refine qr_iushr 33 rfl rfl ?_
      refine qy_v (v3 / 65536) (qz_ushr16 (by omega)) ?_
      refine qr_istore_n _ 34 rfl (by decide) rfl rfl ?_
      exact hJ11 _ (v3 / 65536) (1 + 16) rfl rfl (by omega) (by omega)
  · skip
    refine qr_iload_n 13 rfl rfl rfl ?_
    refine qr_bipush 15 rfl (by decide) rfl ?_
    refine qr_iand 16 rfl rfl ?_
    refine qy_andr (by omega) (fun v37 hv37 => ?_)
    refine qr_retI rfl rfl (by decide) (by decide) ?_
    exact ⟨rfl, v37, rfl, (by omega)⟩

set_option maxHeartbeats 4000000 in
set_option maxRecDepth 20000 in
/-- java/lang/Integer.numberOfTrailingZeros -/
theorem sf_83s {L : Nat} {xs : Nat → Int} {vb : Bool} {d : Nat} {σ α : Nat → Nat → Int} {κ : Nat → Option Nat} {ρ : Nat} {x0 : Int} (hI : qI σ α κ ρ) (r0 : 1 ≤ x0 ∧ x0 ≤ 4095) : qm_T (qe L xs vb) (d + 1) 83 [.int (qz x0)] (qw σ α κ ρ) (fun r w' => w' = qw σ α κ ρ ∧ ∃ v : Int, r = some (.int (qz v)) ∧ (0 ≤ v ∧ v ≤ 11)) := by
  refine qr_start (d := d + 0) qv_e83 (Nat.le_of_ble_eq_true rfl) ?_
  show qr_W (qe L xs vb) (d + 0) qx_e83 _ (0, [(0, .int (qz x0))], [], _, 0, 0)
  refine qr_iload_n 1 rfl rfl rfl ?_
  refine qr_iconst 2 rfl rfl ?_
  refine qr_ixor 3 rfl rfl ?_
  refine qr_iload_n 4 rfl rfl rfl ?_
  refine qr_iconst 5 rfl rfl ?_
  refine qr_isub 6 rfl rfl ?_
  refine qr_iand 7 rfl rfl ?_
  refine qy_ntz (by omega) (fun v1 hv1 => ?_)
  refine qr_istore_n _ 8 rfl (by decide) rfl rfl ?_
  refine qr_iload_n 9 rfl rfl rfl ?_
  refine qr_if_gt 17 12 rfl rfl rfl (by omega) (fun h2 => ?_) (fun h2 => ?_)
  · skip
    refine qr_iconst 18 rfl rfl ?_
    refine qr_istore_n _ 19 rfl (by decide) rfl rfl ?_
    refine qr_iload_n 20 rfl rfl rfl ?_
    refine qr_ldcw 65536 23 rfl (by decide) rfl ?_
    refine qr_icmp_le 34 26 rfl rfl rfl (by omega) (by decide) (fun h3 => ?_) (fun h => False.elim (by omega))
    refine qr_iload_n 35 rfl rfl rfl ?_
    refine qr_sipush 38 rfl (by decide) rfl ?_
    refine qr_icmp_le 49 41 rfl rfl rfl (by omega) (by decide) (fun h4 => ?_) (fun h4 => ?_)
    · skip
      refine qr_iload_n 50 rfl rfl rfl ?_
      refine qr_bipush 52 rfl (by decide) rfl ?_
      refine qr_icmp_le 62 55 rfl rfl rfl (by omega) (by decide) (fun h5 => ?_) (fun h5 => ?_)
      · skip
        refine qr_iload_n 63 rfl rfl rfl ?_
        refine qr_iconst 64 rfl rfl ?_
        refine qr_icmp_le 74 67 rfl rfl rfl (by omega) (by decide) (fun h6 => ?_) (fun h6 => ?_)
        · skip
          refine qr_iload_n 75 rfl rfl rfl ?_
          refine qr_iload_n 76 rfl rfl rfl ?_
          refine qr_iconst 77 rfl rfl ?_
          refine qr_iushr 78 rfl rfl ?_
          refine qy_v (v1 / 2) (qz_ushr1 (by omega)) ?_
          refine qr_iadd 79 rfl rfl ?_
          refine qr_retI rfl rfl (by decide) (by decide) ?_
          exact ⟨rfl, (1 + (v1 / 2)), rfl, (by omega)⟩
        · skip
          refine qr_iinc _ 70 rfl rfl (by decide) rfl rfl ?_
          refine qr_iload_n 71 rfl rfl rfl ?_
          refine qr_iconst 72 rfl rfl ?_
          refine qr_iushr 73 rfl rfl ?_
          refine qy_v (v1 / 4) (qz_ushr2 (by omega)) ?_
          refine qr_istore_n _ 74 rfl (by decide) rfl rfl ?_
          refine qr_iload_n 75 rfl rfl rfl ?_
          refine qr_iload_n 76 rfl rfl rfl ?_
          refine qr_iconst 77 rfl rfl ?_
          refine qr_iushr 78 rfl rfl ?_
          refine qy_v ((v1 / 4) / 2) (qz_ushr1 (by omega)) ?_
          refine qr_iadd 79 rfl rfl ?_
          refine qr_retI rfl rfl (by decide) (by decide) ?_
          exact ⟨rfl, ((1 + 2) + ((v1 / 4) / 2)), rfl, (by omega)⟩
      · skip
        refine qr_iinc _ 58 rfl rfl (by decide) rfl rfl ?_
        refine qr_iload_n 59 rfl rfl rfl ?_
        refine qr_iconst 60 rfl rfl ?_
        refine qr_iushr 61 rfl rfl ?_
        refine qy_v (v1 / 16) (qz_ushr4 (by omega)) ?_
        refine qr_istore_n _ 62 rfl (by decide) rfl rfl ?_
        refine qr_iload_n 63 rfl rfl rfl ?_
        refine qr_iconst 64 rfl rfl ?_
        refine qr_icmp_le 74 67 rfl rfl rfl (by omega) (by decide) (fun h7 => ?_) (fun h7 => ?_)
        · skip
          refine qr_iload_n 75 rfl rfl rfl ?_
          refine qr_iload_n 76 rfl rfl rfl ?_
          refine qr_iconst 77 rfl rfl ?_
          refine qr_iushr 78 rfl rfl ?_
          refine qy_v ((v1 / 16) / 2) (qz_ushr1 (by omega)) ?_
          refine qr_iadd 79 rfl rfl ?_
          refine qr_retI rfl rfl (by decide) (by decide) ?_
          exact ⟨rfl, ((1 + 4) + ((v1 / 16) / 2)), rfl, (by omega)⟩
        · skip
          refine qr_iinc _ 70 rfl rfl (by decide) rfl rfl ?_
          refine qr_iload_n 71 rfl rfl rfl ?_
          refine qr_iconst 72 rfl rfl ?_
          refine qr_iushr 73 rfl rfl ?_
          refine qy_v ((v1 / 16) / 4) (qz_ushr2 (by omega)) ?_
          refine qr_istore_n _ 74 rfl (by decide) rfl rfl ?_
          refine qr_iload_n 75 rfl rfl rfl ?_
          refine qr_iload_n 76 rfl rfl rfl ?_
          refine qr_iconst 77 rfl rfl ?_
          refine qr_iushr 78 rfl rfl ?_
          refine qy_v (((v1 / 16) / 4) / 2) (qz_ushr1 (by omega)) ?_
          refine qr_iadd 79 rfl rfl ?_
          refine qr_retI rfl rfl (by decide) (by decide) ?_
          exact ⟨rfl, (((1 + 4) + 2) + (((v1 / 16) / 4) / 2)), rfl, (by omega)⟩
    · skip
      refine qr_iinc _ 44 rfl rfl (by decide) rfl rfl ?_
      refine qr_iload_n 45 rfl rfl rfl ?_
      refine qr_bipush 47 rfl (by decide) rfl ?_
      refine qr_iushr 48 rfl rfl ?_
      refine qy_v (v1 / 256) (qz_ushr8 (by omega)) ?_
      refine qr_istore_n _ 49 rfl (by decide) rfl rfl ?_
      refine qr_iload_n 50 rfl rfl rfl ?_
      refine qr_bipush 52 rfl (by decide) rfl ?_
      refine qr_icmp_le 62 55 rfl rfl rfl (by omega) (by decide) (fun h8 => ?_) (fun h => False.elim (by omega))
      refine qr_iload_n 63 rfl rfl rfl ?_
      refine qr_iconst 64 rfl rfl ?_
      refine qr_icmp_le 74 67 rfl rfl rfl (by omega) (by decide) (fun h9 => ?_) (fun h9 => ?_)
      · skip
        refine qr_iload_n 75 rfl rfl rfl ?_
        refine qr_iload_n 76 rfl rfl rfl ?_
        refine qr_iconst 77 rfl rfl ?_
        refine qr_iushr 78 rfl rfl ?_
        refine qy_v ((v1 / 256) / 2) (qz_ushr1 (by omega)) ?_
        refine qr_iadd 79 rfl rfl ?_
        refine qr_retI rfl rfl (by decide) (by decide) ?_
        exact ⟨rfl, ((1 + 8) + ((v1 / 256) / 2)), rfl, (by omega)⟩
      · skip
        refine qr_iinc _ 70 rfl rfl (by decide) rfl rfl ?_
        refine qr_iload_n 71 rfl rfl rfl ?_
        refine qr_iconst 72 rfl rfl ?_
        refine qr_iushr 73 rfl rfl ?_
        refine qy_v ((v1 / 256) / 4) (qz_ushr2 (by omega)) ?_
        refine qr_istore_n _ 74 rfl (by decide) rfl rfl ?_
        refine qr_iload_n 75 rfl rfl rfl ?_
        refine qr_iload_n 76 rfl rfl rfl ?_
        refine qr_iconst 77 rfl rfl ?_
        refine qr_iushr 78 rfl rfl ?_
        refine qy_v (((v1 / 256) / 4) / 2) (qz_ushr1 (by omega)) ?_
        refine qr_iadd 79 rfl rfl ?_
        refine qr_retI rfl rfl (by decide) (by decide) ?_
        exact ⟨rfl, (((1 + 8) + 2) + (((v1 / 256) / 4) / 2)), rfl, (by omega)⟩
  · skip
    refine qr_iload_n 13 rfl rfl rfl ?_
    refine qr_bipush 15 rfl (by decide) rfl ?_
    refine qr_iand 16 rfl rfl ?_
    refine qy_andl (by omega) (fun v10 hv10 => ?_)
    refine qr_retI rfl rfl (by decide) (by decide) ?_
    exact ⟨rfl, v10, rfl, (by omega)⟩

set_option maxHeartbeats 4000000 in
set_option maxRecDepth 20000 in
/-- java/lang/Long.numberOfTrailingZeros -/
theorem sf_82 {L : Nat} {xs : Nat → Int} {vb : Bool} {d : Nat} {σ α : Nat → Nat → Int} {κ : Nat → Option Nat} {ρ : Nat} {x0 : Int} (hI : qI σ α κ ρ) (r0 : (-9223372036854775808) ≤ x0 ∧ x0 ≤ 9223372036854775807) : qm_T (qe L xs vb) (d + 2) 82 [.long (ql x0)] (qw σ α κ ρ) (fun r w' => w' = qw σ α κ ρ ∧ ∃ v : Int, r = some (.int (qz v)) ∧ ((-2147483648) ≤ v ∧ v ≤ 2147483647)) := by
  refine qr_start (d := d + 1) qv_e82 (Nat.le_of_ble_eq_true rfl) ?_
  show qr_W (qe L xs vb) (d + 1) qx_e82 _ (0, [(0, .long (ql x0))], [], _, 0, 0)
  refine qr_lload_n 1 rfl rfl rfl ?_
  refine qr_l2i 2 rfl rfl ?_
  refine qy_can (fun v1 hv1 => ?_)
  refine qr_istore_n _ 3 rfl (by decide) rfl rfl ?_
  refine qr_iload_n 4 rfl rfl rfl ?_
  refine qr_if_ne 21 7 rfl rfl rfl hv1 (fun h2 => ?_) (fun h2 => ?_)
  · skip
    refine qr_iload_n 22 rfl rfl rfl ?_
    refine qr_callN 25 rfl rfl rfl (sf_83 (d := d + 0) hI hv1) ?_
    rintro _ _ ⟨rfl, v3, rfl, hv3⟩
    show qr_W (qe L xs vb) (d + 1) qx_e82 _ (25, _, [.int (qz v3)], qw σ α κ ρ, 0, 0)
    refine qr_retI rfl rfl (by decide) (by decide) ?_
    exact ⟨rfl, v3, rfl, hv3⟩
  · skip
    refine qr_bipush 9 rfl (by decide) rfl ?_
    refine qr_lload_n 10 rfl rfl rfl ?_
    refine qr_bipush 12 rfl (by decide) rfl ?_
    refine qr_lushr 13 rfl rfl ?_
    refine qy_canl (fun v4 hv4 => ?_)
    refine qr_l2i 14 rfl rfl ?_
    refine qy_can (fun v5 hv5 => ?_)
    refine qr_callN 17 rfl rfl rfl (sf_83 (d := d + 0) hI hv5) ?_
    rintro _ _ ⟨rfl, v6, rfl, hv6⟩
    show qr_W (qe L xs vb) (d + 1) qx_e82 _ (17, _, [.int (qz v6), .int (qz 32)], qw σ α κ ρ, 0, 0)
    refine qr_iadd 18 rfl rfl ?_
    refine qy_can (fun v7 hv7 => ?_)
    refine qr_goto 25 rfl rfl ?_
    refine qr_retI rfl rfl (by decide) (by decide) ?_
    exact ⟨rfl, v7, rfl, hv7⟩

set_option maxHeartbeats 4000000 in
set_option maxRecDepth 20000 in
/-- OneRoof$Acts.isUnder -/
theorem sf_169 {L : Nat} {xs : Nat → Int} {vb : Bool} {d : Nat} {σ α : Nat → Nat → Int} {κ : Nat → Option Nat} {ρ : Nat} {x0 : Int} {x1 : Int} (hI : qI σ α κ ρ) (r0 : (-2147483648) ≤ x0 ∧ x0 ≤ 2147483647) (r1 : (-2147483648) ≤ x1 ∧ x1 ≤ 2147483647) : qm_T (qe L xs vb) (d + 1) 169 [.int (qz x0), .int (qz x1)] (qw σ α κ ρ) (fun r w' => w' = qw σ α κ ρ ∧ ∃ v : Int, r = some (.int (qz v)) ∧ (0 ≤ v ∧ v ≤ 1)) := by
  refine qr_start (d := d + 0) qv_e169 (Nat.le_of_ble_eq_true rfl) ?_
  show qr_W (qe L xs vb) (d + 0) qx_e169 _ (0, [(0, .int (qz x0)), (1, .int (qz x1))], [], _, 0, 0)
  refine qr_iload_n 1 rfl rfl rfl ?_
  refine qr_istore_n _ 2 rfl (by decide) rfl rfl ?_
  refine qr_iconst 3 rfl rfl ?_
  refine qr_istore_n _ 4 rfl (by decide) rfl rfl ?_
  have hL62 : ∀ (n : Nat) (ls : qm_L) (u57 u59 : Int), 7 - u59 < (n : Int) → qm_get ls 1 = some (.int (qz x1)) → qm_get ls 2 = some (.int (qz u57)) → qm_get ls 3 = some (.int (qz u59)) → ((-2147483648) ≤ u57 ∧ u57 ≤ 2147483647) → (0 ≤ u59 ∧ u59 ≤ 7) → qr_W (qe L xs vb) (d + 0) qx_e169 (fun r w' => w' = qw σ α κ ρ ∧ ∃ v : Int, r = some (.int (qz v)) ∧ (0 ≤ v ∧ v ≤ 1)) (4, ls, [], qw σ α κ ρ, 0, 0) := by
    intro n
    induction n with
    | zero => intro ls u57 u59 hm g55 g56 g58 hf60 hf61; exact False.elim (by omega)
    | succ n ih63 =>
      intro ls u57 u59 hm g55 g56 g58 hf60 hf61
      refine qr_iload_n 5 rfl g58 rfl ?_
      refine qr_getst 8 rfl rfl ?_
      refine qr_alen 9 rfl rfl (by first | exact Or.inl (by decide) | exact Or.inr (Or.inl rfl) | exact Or.inr (Or.inr (Or.inl rfl)) | exact Or.inr (Or.inr (Or.inr (Or.inl rfl)))) rfl ?_
      refine qy_v 7 rfl ?_
      refine qr_icmp_ge 43 12 rfl rfl rfl (qrg hf61 (by decide) (by decide)) (by decide) (fun h64 => ?_) (fun h64 => ?_)
      · skip
        refine qr_iconst 44 rfl rfl ?_
        refine qr_retZ rfl rfl (Or.inl rfl) (by decide) (by decide) ?_
        exact ⟨rfl, 0, rfl, (by decide)⟩
      · skip
        refine qr_iload_n 13 rfl g56 rfl ?_
        refine qr_if_lt 43 16 rfl rfl rfl hf60 (fun h65 => ?_) (fun h65 => ?_)
        · skip
          refine qr_iconst 44 rfl rfl ?_
          refine qr_retZ rfl rfl (Or.inl rfl) (by decide) (by decide) ?_
          exact ⟨rfl, 0, rfl, (by decide)⟩
        · skip
          refine qr_iload_n 17 rfl g56 rfl ?_
          refine qr_getst 20 rfl rfl ?_
          refine qr_alen 21 rfl rfl (by first | exact Or.inl (by decide) | exact Or.inr (Or.inl rfl) | exact Or.inr (Or.inr (Or.inl rfl)) | exact Or.inr (Or.inr (Or.inr (Or.inl rfl)))) rfl ?_
          refine qy_v 7 rfl ?_
          refine qr_icmp_ge 43 24 rfl rfl rfl hf60 (by decide) (fun h66 => ?_) (fun h66 => ?_)
          · skip
            refine qr_iconst 44 rfl rfl ?_
            refine qr_retZ rfl rfl (Or.inl rfl) (by decide) (by decide) ?_
            exact ⟨rfl, 0, rfl, (by decide)⟩
          · skip
            refine qr_iload_n 25 rfl g56 rfl ?_
            refine qr_iload_n 26 rfl g55 rfl ?_
            refine qr_icmp_ne 31 29 rfl rfl rfl hf60 r1 (fun h67 => ?_) (fun h67 => ?_)
            · skip
              refine qr_getst 34 rfl rfl ?_
              refine qr_iload_n 35 rfl g56 rfl ?_
              refine qr_iaload 36 rfl rfl (by omega) (by decide) rfl ?_
              refine qr_topI (fun v68 hv68 => ?_)
              have hs69 : (-1) ≤ v68 ∧ v68 ≤ 4 := by rw [hv68]; exact qe_rr1 _ (by omega)
              refine qr_istore_n _ 37 rfl (by decide) rfl rfl ?_
              refine qr_iinc _ 40 rfl (qm_gk g58 (by decide) (Or.inl (by decide))) (by decide) rfl rfl ?_
              refine qr_goto 4 rfl rfl ?_
              exact ih63 _ v68 (u59 + 1) (by omega) (qm_gk (qm_gk g55 (by decide) (Or.inr rfl)) (by decide) (Or.inl (by decide))) (qm_gk (qm_ge _ _ _) (by decide) (Or.inr rfl)) (qm_ge _ _ _) (qrg hs69 (by decide) (by decide)) (by omega)
            · skip
              refine qr_iconst 30 rfl rfl ?_
              refine qr_retZ rfl rfl (Or.inr rfl) (by decide) (by decide) ?_
              exact ⟨rfl, 1, rfl, (by decide)⟩
  exact hL62 ((7 - 0 + 1 : Int)).toNat _ x0 0 (by omega) rfl rfl rfl r0 (by decide)

set_option maxHeartbeats 4000000 in
set_option maxRecDepth 20000 in
/-- OneRoof$Kinship.join -/
theorem sf_58_25 {L : Nat} {xs : Nat → Int} {vb : Bool} {d : Nat} {σ α : Nat → Nat → Int} {κ : Nat → Option Nat} {ρ : Nat} {x1 : Int} {x2 : Int} {x3 : Int} (hI : qI σ α κ ρ) (r1 : 0 ≤ x1 ∧ x1 ≤ 31) (r2 : 0 ≤ x2 ∧ x2 ≤ 31) (r3 : 0 ≤ x3 ∧ x3 ≤ 32) : qm_T (qe L xs vb) (d + 2) 58 [.ref 25, .int (qz x1), .int (qz x2), .int (qz x3)] (qw σ α κ ρ) (fun r w' => ∃ σ' α', w' = qw σ' α' κ ρ ∧ qI σ' α' κ ρ ∧ qFr [(25, 1)] [26] σ α σ' α' ∧ r = none) := by
  refine qr_start (d := d + 1) qv_e58 (Nat.le_of_ble_eq_true rfl) ?_
  show qr_W (qe L xs vb) (d + 1) qx_e58 _ (0, [(0, .ref 25), (1, .int (qz x1)), (2, .int (qz x2)), (3, .int (qz x3))], [], _, 0, 0)
  have hF0 := qFr_rf [(25, 1)] [26] σ α
  refine qr_aload_n 1 rfl rfl rfl ?_
  refine qr_dup 2 rfl rfl rfl ?_
  refine qr_get 5 rfl rfl rfl (by decide) rfl ?_
  have hs1 : (-2147483648) ≤ σ 25 1 ∧ σ 25 1 ≤ 2147483647 := hI.1 25 1
  refine qr_iconst 6 rfl rfl ?_
  refine qr_iadd 7 rfl rfl ?_
  refine qy_can (fun v2 hv2 => ?_)
  refine qr_put 10 rfl (by decide) rfl (Nat.le_of_ble_eq_true rfl) (Nat.le_of_ble_eq_true rfl) (Or.inl rfl) (qr_fitI rfl _) rfl ?_
  refine qy_wS (qw_s σ 25 1 v2) rfl (fun σ3 e4 => ?_)
  have hI5 : qI σ3 α κ ρ := by rw [e4]; exact qI_s hI 25 1 rfl (show (-2147483648) ≤ v2 ∧ v2 ≤ 2147483647 by omega)
  have hF6 : qFr [(25, 1)] [26] σ α σ3 α := by rw [e4]; exact qFr_s hF0 25 1 _ (by decide)
  refine qr_iconst 11 rfl rfl ?_
  refine qr_istore _ 13 rfl (by decide) rfl rfl ?_
  have hL12663 : ∀ (n : Nat) (ls : qm_L) (u12657 : Int) (α12659 : Nat → Nat → Int), 32 - u12657 < (n : Int) → qm_get ls 0 = some (.ref 25) → qm_get ls 1 = some (.int (qz x1)) → qm_get ls 2 = some (.int (qz x2)) → qm_get ls 3 = some (.int (qz x3)) → qm_get ls 4 = some (.int (qz u12657)) → (0 ≤ u12657 ∧ u12657 ≤ 32) → qI σ3 α12659 κ ρ → qFr [(25, 1)] [26] σ α σ3 α12659 → qr_W (qe L xs vb) (d + 1) qx_e58 (fun r w' => ∃ σ' α', w' = qw σ' α' κ ρ ∧ qI σ' α' κ ρ ∧ qFr [(25, 1)] [26] σ α σ' α' ∧ r = none) (13, ls, [], qw σ3 α12659 κ ρ, 0, 0) := by
    intro n
    induction n with
    | zero => intro ls u12657 α12659 hm g12652 g12653 g12654 g12655 g12656 hf12662 hI12660 hF12661; exact False.elim (by omega)
    | succ n ih12664 =>
      intro ls u12657 α12659 hm g12652 g12653 g12654 g12655 g12656 hf12662 hI12660 hF12661
      refine qr_iload 15 rfl g12656 rfl ?_
      refine qr_iload_n 16 rfl g12655 rfl ?_
      refine qr_icmp_ge 105 19 rfl rfl rfl (qrg hf12662 (by decide) (by decide)) (qrg r3 (by decide) (by decide)) (fun h12665 => ?_) (fun h12665 => ?_)
      · skip
        refine qr_retV rfl rfl (by decide) (by decide) ?_
        exact ⟨_, _, rfl, hI12660, hF12661, rfl⟩
      · skip
        refine qr_iconst 20 rfl rfl ?_
        refine qr_istore _ 22 rfl (by decide) rfl rfl ?_
        have hL13463 : ∀ (n : Nat) (ls : qm_L) (u13457 : Int) (α13459 : Nat → Nat → Int), 32 - u13457 < (n : Int) → qm_get ls 0 = some (.ref 25) → qm_get ls 1 = some (.int (qz x1)) → qm_get ls 2 = some (.int (qz x2)) → qm_get ls 3 = some (.int (qz x3)) → qm_get ls 4 = some (.int (qz u12657)) → qm_get ls 5 = some (.int (qz u13457)) → (0 ≤ u13457 ∧ u13457 ≤ 32) → qI σ3 α13459 κ ρ → qFr [(25, 1)] [26] σ α σ3 α13459 → qr_W (qe L xs vb) (d + 1) qx_e58 (fun r w' => ∃ σ' α', w' = qw σ' α' κ ρ ∧ qI σ' α' κ ρ ∧ qFr [(25, 1)] [26] σ α σ' α' ∧ r = none) (22, ls, [], qw σ3 α13459 κ ρ, 0, 0) := by
          intro n
          induction n with
          | zero => intro ls u13457 α13459 hm g13451 g13452 g13453 g13454 g13455 g13456 hf13462 hI13460 hF13461; exact False.elim (by omega)
          | succ n ih13464 =>
            intro ls u13457 α13459 hm g13451 g13452 g13453 g13454 g13455 g13456 hf13462 hI13460 hF13461
            refine qr_iload 24 rfl g13456 rfl ?_
            refine qr_iload_n 25 rfl g13454 rfl ?_
            refine qr_icmp_ge 99 28 rfl rfl rfl (qrg hf13462 (by decide) (by decide)) (qrg r3 (by decide) (by decide)) (fun h13490 => ?_) (fun h13490 => ?_)
            · skip
              refine qr_iinc _ 102 rfl g13455 (by decide) rfl rfl ?_
              refine qr_goto 13 rfl rfl ?_
              exact ih12664 _ (u12657 + 1) α13459 (by omega) (qm_gk g13451 (by decide) (Or.inl (by decide))) (qm_gk g13452 (by decide) (Or.inl (by decide))) (qm_gk g13453 (by decide) (Or.inl (by decide))) (qm_gk g13454 (by decide) (Or.inr rfl)) (qm_ge _ _ _) (by omega) hI13460 hF13461
            · skip
              refine qr_aload_n 29 rfl g13451 rfl ?_
              refine qr_iload 31 rfl g13455 rfl ?_
              refine qr_iload_n 32 rfl g13452 rfl ?_
              refine qr_callN 35 rfl rfl rfl (sf_57_25 (d := d + 0) hI13460 (by omega) r1) ?_
              rintro _ _ ⟨rfl, v13491, rfl, hv13491⟩
              show qr_W (qe L xs vb) (d + 1) qx_e58 _ (35, _, [.int (qz v13491)], qw σ3 α13459 κ ρ, 0, 0)
              refine qr_aload_n 36 rfl g13451 rfl ?_
              refine qr_iload_n 37 rfl g13453 rfl ?_
              refine qr_iload 39 rfl g13456 rfl ?_
              refine qr_callN 42 rfl rfl rfl (sf_57_25 (d := d + 0) hI13460 r2 (by omega)) ?_
              rintro _ _ ⟨rfl, v13492, rfl, hv13492⟩
              show qr_W (qe L xs vb) (d + 1) qx_e58 _ (42, _, [.int (qz v13492), .int (qz v13491)], qw σ3 α13459 κ ρ, 0, 0)
              refine qr_iadd 43 rfl rfl ?_
              refine qr_aload_n 44 rfl g13451 rfl ?_
              refine qr_iload 46 rfl g13455 rfl ?_
              refine qr_iload_n 47 rfl g13453 rfl ?_
              refine qr_callN 50 rfl rfl rfl (sf_57_25 (d := d + 0) hI13460 (by omega) r2) ?_
              rintro _ _ ⟨rfl, v13493, rfl, hv13493⟩
              show qr_W (qe L xs vb) (d + 1) qx_e58 _ (50, _, [.int (qz v13493), .int (qz (v13491 + v13492))], qw σ3 α13459 κ ρ, 0, 0)
              refine qr_aload_n 51 rfl g13451 rfl ?_
              refine qr_iload_n 52 rfl g13452 rfl ?_
              refine qr_iload 54 rfl g13456 rfl ?_
              refine qr_callN 57 rfl rfl rfl (sf_57_25 (d := d + 0) hI13460 r1 (by omega)) ?_
              rintro _ _ ⟨rfl, v13494, rfl, hv13494⟩
              show qr_W (qe L xs vb) (d + 1) qx_e58 _ (57, _, [.int (qz v13494), .int (qz v13493), .int (qz (v13491 + v13492))], qw σ3 α13459 κ ρ, 0, 0)
              refine qr_iadd 58 rfl rfl ?_
              refine qr_callN 61 rfl rfl rfl (sf_12 (d := d + 0) hI13460 (by omega) (by omega)) ?_
              rintro _ _ ⟨rfl, v13495, rfl, hv13495, hp13496⟩
              show qr_W (qe L xs vb) (d + 1) qx_e58 _ (61, _, [.int (qz v13495)], qw σ3 α13459 κ ρ, 0, 0)
              refine qr_iconst 62 rfl rfl ?_
              refine qr_iadd 63 rfl rfl ?_
              refine qr_istore _ 65 rfl (by decide) rfl rfl ?_
              refine qr_iload 67 rfl (qm_ge _ _ _) rfl ?_
              refine qr_aload_n 68 rfl (qm_gk g13451 (by decide) (Or.inl (by decide))) rfl ?_
              refine qr_iload 70 rfl (qm_gk g13455 (by decide) (Or.inl (by decide))) rfl ?_
              refine qr_iload 72 rfl (qm_gk g13456 (by decide) (Or.inr rfl)) rfl ?_
              refine qr_callN 75 rfl rfl rfl (sf_57_25 (d := d + 0) hI13460 (by omega) (by omega)) ?_
              rintro _ _ ⟨rfl, v13497, rfl, hv13497⟩
              show qr_W (qe L xs vb) (d + 1) qx_e58 _ (75, _, [.int (qz v13497), .int (qz (v13495 + 1))], qw σ3 α13459 κ ρ, 0, 0)
              have hJ13512 : ∀ (ls : qm_L) (α13509 : Nat → Nat → Int), qm_get ls 0 = some (.ref 25) → qm_get ls 1 = some (.int (qz x1)) → qm_get ls 2 = some (.int (qz x2)) → qm_get ls 3 = some (.int (qz x3)) → qm_get ls 4 = some (.int (qz u12657)) → qm_get ls 5 = some (.int (qz u13457)) → qI σ3 α13509 κ ρ → qFr [(25, 1)] [26] σ α σ3 α13509 → qr_W (qe L xs vb) (d + 1) qx_e58 (fun r w' => ∃ σ' α', w' = qw σ' α' κ ρ ∧ qI σ' α' κ ρ ∧ qFr [(25, 1)] [26] σ α σ' α' ∧ r = none) (93, ls, [], qw σ3 α13509 κ ρ, 0, 0) := by
                intro ls α13509 g13502 g13503 g13504 g13505 g13506 g13507 hI13510 hF13511
                refine qr_iinc _ 96 rfl g13507 (by decide) rfl rfl ?_
                refine qr_goto 22 rfl rfl ?_
                exact ih13464 _ (u13457 + 1) α13509 (by omega) (qm_gk g13502 (by decide) (Or.inl (by decide))) (qm_gk g13503 (by decide) (Or.inl (by decide))) (qm_gk g13504 (by decide) (Or.inl (by decide))) (qm_gk g13505 (by decide) (Or.inl (by decide))) (qm_gk g13506 (by decide) (Or.inr rfl)) (qm_ge _ _ _) (by omega) hI13510 hF13511
              refine qr_icmp_ge 93 78 rfl rfl rfl (by omega) (qrg hv13497 (by decide) (by decide)) (fun h13513 => ?_) (fun h13513 => ?_)
              · skip
                exact hJ13512 _ α13459 (qm_gk g13451 (by decide) (Or.inl (by decide))) (qm_gk g13452 (by decide) (Or.inl (by decide))) (qm_gk g13453 (by decide) (Or.inl (by decide))) (qm_gk g13454 (by decide) (Or.inl (by decide))) (qm_gk g13455 (by decide) (Or.inl (by decide))) (qm_gk g13456 (by decide) (Or.inr rfl)) hI13460 hF13461
              · skip
                refine qr_aload_n 79 rfl (qm_gk g13451 (by decide) (Or.inl (by decide))) rfl ?_
                refine qr_get 82 rfl rfl rfl (by decide) rfl ?_
                refine qr_iload 84 rfl (qm_gk g13455 (by decide) (Or.inl (by decide))) rfl ?_
                refine qr_bipush 86 rfl (by decide) rfl ?_
                refine qr_imul 87 rfl rfl ?_
                refine qr_iload 89 rfl (qm_gk g13456 (by decide) (Or.inr rfl)) rfl ?_
                refine qr_iadd 90 rfl rfl ?_
                refine qr_iload 92 rfl (qm_ge _ _ _) rfl ?_
                refine qr_iastore 93 rfl (by decide) rfl (by omega) (by decide) rfl ?_
                refine qy_wA (qw_r α13459 26 (qzu (α13459 26) (((u12657 * 32) + u13457) : Int).toNat (v13495 + 1))) rfl (fun α13514 e13515 => ?_)
                have hI13516 : qI σ3 α13514 κ ρ := by rw [e13515]; exact qI_r hI13460 26 _ rfl (show 0 ≤ (v13495 + 1) ∧ (v13495 + 1) ≤ 99 by omega)
                have hF13517 : qFr [(25, 1)] [26] σ α σ3 α13514 := by rw [e13515]; exact qFr_r hF13461 26 _ (by decide)
                exact hJ13512 _ α13514 (qm_gk g13451 (by decide) (Or.inl (by decide))) (qm_gk g13452 (by decide) (Or.inl (by decide))) (qm_gk g13453 (by decide) (Or.inl (by decide))) (qm_gk g13454 (by decide) (Or.inl (by decide))) (qm_gk g13455 (by decide) (Or.inl (by decide))) (qm_gk g13456 (by decide) (Or.inr rfl)) hI13516 hF13517
        exact hL13463 ((32 - 0 + 1 : Int)).toNat _ 0 α12659 (by omega) (qm_gk g12652 (by decide) (Or.inl (by decide))) (qm_gk g12653 (by decide) (Or.inl (by decide))) (qm_gk g12654 (by decide) (Or.inl (by decide))) (qm_gk g12655 (by decide) (Or.inl (by decide))) (qm_gk g12656 (by decide) (Or.inr rfl)) (qm_ge _ _ _) (by decide) hI12660 hF12661
  exact hL12663 ((32 - 0 + 1 : Int)).toNat _ 0 α (by omega) rfl rfl rfl rfl rfl (by decide) hI5 hF6

set_option maxHeartbeats 4000000 in
set_option maxRecDepth 20000 in
/-- OneRoof$Kinship.become -/
theorem sf_143_25_23 {L : Nat} {xs : Nat → Int} {vb : Bool} {d : Nat} {σ α : Nat → Nat → Int} {κ : Nat → Option Nat} {ρ : Nat}  (hI : qI σ α κ ρ)  : qm_T (qe L xs vb) (d + 1) 143 [.ref 25, .ref 23] (qw σ α κ ρ) (fun r w' => ∃ σ' α', w' = qw σ' α' κ ρ ∧ qI σ' α' κ ρ ∧ qFr [(25, 1)] [26] σ α σ' α' ∧ r = none) := by
  refine qr_start (d := d + 0) qv_e143 (Nat.le_of_ble_eq_true rfl) ?_
  show qr_W (qe L xs vb) (d + 0) qx_e143 _ (0, [(0, .ref 25), (1, .ref 23)], [], _, 0, 0)
  have hF0 := qFr_rf [(25, 1)] [26] σ α
  refine qr_aload_n 1 rfl rfl rfl ?_
  refine qr_get 4 rfl rfl rfl (by decide) rfl ?_
  refine qr_iconst 5 rfl rfl ?_
  refine qr_aload_n 6 rfl rfl rfl ?_
  refine qr_get 9 rfl rfl rfl (by decide) rfl ?_
  refine qr_iconst 10 rfl rfl ?_
  refine qr_aload_n 11 rfl rfl rfl ?_
  refine qr_get 14 rfl rfl rfl (by decide) rfl ?_
  refine qr_alen 15 rfl rfl (by first | exact Or.inl (by decide) | exact Or.inr (Or.inl rfl) | exact Or.inr (Or.inr (Or.inl rfl)) | exact Or.inr (Or.inr (Or.inr (Or.inl rfl)))) rfl ?_
  refine qy_v 1024 rfl ?_
  refine qy_copyi 18 rfl (by decide) (by decide) rfl rfl (by omega) (by omega) (by omega) (by omega) (by omega) (by decide) (by decide) rfl ?_
  refine qy_wA (qw_r α 26 (va_cpy (α 24) (α 26) (0 : Int).toNat (0 : Int).toNat (1024 : Int).toNat)) rfl (fun α1 e2 => ?_)
  have hI3 : qI σ α1 κ ρ := by rw [e2]; exact qI_cpy hI 24 26 rfl rfl (show _ ≤ 1024 by omega)
  have hF4 : qFr [(25, 1)] [26] σ α σ α1 := by rw [e2]; exact qFr_r hF0 26 _ (by decide)
  refine qr_aload_n 19 rfl rfl rfl ?_
  refine qr_aload_n 20 rfl rfl rfl ?_
  refine qr_get 23 rfl rfl rfl (by decide) rfl ?_
  have hs5 : (-2147483648) ≤ σ 23 1 ∧ σ 23 1 ≤ 2147483647 := hI3.1 23 1
  refine qr_put 26 rfl (by decide) rfl (Nat.le_of_ble_eq_true rfl) (Nat.le_of_ble_eq_true rfl) (Or.inl rfl) (qr_fitI rfl _) rfl ?_
  refine qy_wS (qw_s σ 25 1 (σ 23 1)) rfl (fun σ6 e7 => ?_)
  have hI8 : qI σ6 α1 κ ρ := by rw [e7]; exact qI_s hI3 25 1 rfl (show (-2147483648) ≤ (σ 23 1) ∧ (σ 23 1) ≤ 2147483647 by omega)
  have hF9 : qFr [(25, 1)] [26] σ α σ6 α1 := by rw [e7]; exact qFr_s hF4 25 1 _ (by decide)
  refine qr_retV rfl rfl (by decide) (by decide) ?_
  exact ⟨_, _, rfl, hI8, hF9, rfl⟩

set_option maxHeartbeats 4000000 in
set_option maxRecDepth 20000 in
/-- OneRoof$Feuds.turnsAt -/
theorem sf_102_27 {L : Nat} {xs : Nat → Int} {vb : Bool} {d : Nat} {σ α : Nat → Nat → Int} {κ : Nat → Option Nat} {ρ : Nat} {x1 : Int} (hI : qI σ α κ ρ) (r1 : (-2147483648) ≤ x1 ∧ x1 ≤ 2147483647) : qm_T (qe L xs vb) (d + 1) 102 [.ref 27, .int (qz x1)] (qw σ α κ ρ) (fun r w' => w' = qw σ α κ ρ ∧ ∃ v : Int, r = some (.int (qz v)) ∧ (0 ≤ v ∧ v ≤ 1)) := by
  refine qr_start (d := d + 0) qv_e102 (Nat.le_of_ble_eq_true rfl) ?_
  show qr_W (qe L xs vb) (d + 0) qx_e102 _ (0, [(0, .ref 27), (1, .int (qz x1))], [], _, 0, 0)
  refine qr_iconst 1 rfl rfl ?_
  refine qr_istore_n _ 2 rfl (by decide) rfl rfl ?_
  have hL177 : ∀ (n : Nat) (ls : qm_L) (u175 : Int), 40 - u175 < (n : Int) → qm_get ls 0 = some (.ref 27) → qm_get ls 1 = some (.int (qz x1)) → qm_get ls 2 = some (.int (qz u175)) → (0 ≤ u175 ∧ u175 ≤ 40) → qr_W (qe L xs vb) (d + 0) qx_e102 (fun r w' => w' = qw σ α κ ρ ∧ ∃ v : Int, r = some (.int (qz v)) ∧ (0 ≤ v ∧ v ≤ 1)) (2, ls, [], qw σ α κ ρ, 0, 0) := by
    intro n
    induction n with
    | zero => intro ls u175 hm g172 g173 g174 hf176; exact False.elim (by omega)
    | succ n ih178 =>
      intro ls u175 hm g172 g173 g174 hf176
      refine qr_iload_n 3 rfl g174 rfl ?_
      refine qr_aload_n 4 rfl g172 rfl ?_
      refine qr_get 7 rfl rfl rfl (by decide) rfl ?_
      have hs179 : 0 ≤ σ 27 7 ∧ σ 27 7 ≤ 40 := hI.1 27 7
      refine qr_icmp_ge 38 10 rfl rfl rfl (qrg hf176 (by decide) (by decide)) (qrg hs179 (by decide) (by decide)) (fun h180 => ?_) (fun h180 => ?_)
      · skip
        refine qr_iconst 39 rfl rfl ?_
        refine qr_retZ rfl rfl (Or.inl rfl) (by decide) (by decide) ?_
        exact ⟨rfl, 0, rfl, (by decide)⟩
      · skip
        refine qr_aload_n 11 rfl g172 rfl ?_
        refine qr_get 14 rfl rfl rfl (by decide) rfl ?_
        refine qr_iload_n 15 rfl g174 rfl ?_
        refine qr_iaload 16 rfl rfl (by omega) (by decide) rfl ?_
        refine qr_topI (fun v181 hv181 => ?_)
        have hs182 : (-2147483648) ≤ v181 ∧ v181 ≤ 2147483647 := by rw [hv181]; exact hI.2.1 30 _ (show _ < 40 by omega)
        refine qr_iload_n 17 rfl g173 rfl ?_
        refine qr_icmp_eq 30 20 rfl rfl rfl hs182 r1 (fun h183 => ?_) (fun h183 => ?_)
        · skip
          refine qr_iconst 31 rfl rfl ?_
          refine qr_retZ rfl rfl (Or.inr rfl) (by decide) (by decide) ?_
          exact ⟨rfl, 1, rfl, (by decide)⟩
        · skip
          refine qr_aload_n 21 rfl g172 rfl ?_
          refine qr_get 24 rfl rfl rfl (by decide) rfl ?_
          refine qr_iload_n 25 rfl g174 rfl ?_
          refine qr_iaload 26 rfl rfl (by omega) (by decide) rfl ?_
          refine qr_topI (fun v184 hv184 => ?_)
          have hs185 : (-2147483648) ≤ v184 ∧ v184 ≤ 2147483647 := by rw [hv184]; exact hI.2.1 33 _ (show _ < 40 by omega)
          refine qr_iload_n 27 rfl g173 rfl ?_
          refine qr_icmp_ne 32 30 rfl rfl rfl hs185 r1 (fun h186 => ?_) (fun h186 => ?_)
          · skip
            refine qr_iinc _ 35 rfl g174 (by decide) rfl rfl ?_
            refine qr_goto 2 rfl rfl ?_
            exact ih178 _ (u175 + 1) (by omega) (qm_gk g172 (by decide) (Or.inl (by decide))) (qm_gk g173 (by decide) (Or.inr rfl)) (qm_ge _ _ _) (by omega)
          · skip
            refine qr_iconst 31 rfl rfl ?_
            refine qr_retZ rfl rfl (Or.inr rfl) (by decide) (by decide) ?_
            exact ⟨rfl, 1, rfl, (by decide)⟩
  exact hL177 ((40 - 0 + 1 : Int)).toNat _ 0 (by omega) rfl rfl rfl (by decide)

set_option maxHeartbeats 4000000 in
set_option maxRecDepth 20000 in
/-- OneRoof$Feuds.closeness -/
theorem sf_68_27_23 {L : Nat} {xs : Nat → Int} {vb : Bool} {d : Nat} {σ α : Nat → Nat → Int} {κ : Nat → Option Nat} {ρ : Nat} {x1 : Int} {x2 : Int} {x3 : Int} (hI : qI σ α κ ρ) (r1 : 0 ≤ x1 ∧ x1 ≤ 39) (r2 : 0 ≤ x2 ∧ x2 ≤ 31) (r3 : 0 ≤ x3 ∧ x3 ≤ 31) : qm_T (qe L xs vb) (d + 1) 68 [.ref 27, .int (qz x1), .int (qz x2), .int (qz x3), .ref 23] (qw σ α κ ρ) (fun r w' => w' = qw σ α κ ρ ∧ ∃ v : Int, r = some (.int (qz v)) ∧ (0 ≤ v ∧ v ≤ 9)) := by
  refine qr_start (d := d + 0) qv_e68 (Nat.le_of_ble_eq_true rfl) ?_
  show qr_W (qe L xs vb) (d + 0) qx_e68 _ (0, [(0, .ref 27), (1, .int (qz x1)), (2, .int (qz x2)), (3, .int (qz x3)), (4, .ref 23)], [], _, 0, 0)
  refine qr_aload 2 rfl rfl rfl ?_
  refine qr_get 5 rfl rfl rfl (by decide) rfl ?_
  refine qr_astore _ 7 rfl (by decide) rfl rfl ?_
  refine qr_aload_n 8 rfl rfl rfl ?_
  refine qr_get 11 rfl rfl rfl (by decide) rfl ?_
  refine qr_iload_n 12 rfl rfl rfl ?_
  refine qr_iaload 13 rfl rfl (qrgi r1 (by decide) (by decide)) (by decide) rfl ?_
  refine qr_topI (fun v1 hv1 => ?_)
  have hs2 : 0 ≤ v1 ∧ v1 ≤ 3 := by rw [hv1]; exact hI.2.1 31 _ (show _ < 40 from qrgt r1 (by decide) (by decide))
  refine qr_istore _ 15 rfl (by decide) rfl rfl ?_
  refine qr_bipush 17 rfl (by decide) rfl ?_
  refine qr_istore _ 19 rfl (by decide) rfl rfl ?_
  refine qr_aload 21 rfl rfl rfl ?_
  refine qr_iload_n 22 rfl rfl rfl ?_
  refine qr_bipush 24 rfl (by decide) rfl ?_
  refine qr_imul 25 rfl rfl ?_
  refine qr_aload_n 26 rfl rfl rfl ?_
  refine qr_get 29 rfl rfl rfl (by decide) rfl ?_
  refine qr_iload_n 30 rfl rfl rfl ?_
  refine qr_iaload 31 rfl rfl (qrgi r1 (by decide) (by decide)) (by decide) rfl ?_
  refine qr_topI (fun v3 hv3 => ?_)
  have hs4 : 0 ≤ v3 ∧ v3 ≤ 31 := by rw [hv3]; exact hI.2.1 28 _ (show _ < 40 from qrgt r1 (by decide) (by decide))
  refine qr_iadd 32 rfl rfl ?_
  refine qr_iaload 33 rfl rfl (by omega) (by decide) rfl ?_
  refine qr_topI (fun v5 hv5 => ?_)
  have hs6 : 0 ≤ v5 ∧ v5 ≤ 99 := by rw [hv5]; exact hI.2.1 24 _ (show _ < 1024 by omega)
  refine qr_istore _ 35 rfl (by decide) rfl rfl ?_
  refine qr_aload 37 rfl rfl rfl ?_
  refine qr_iload_n 38 rfl rfl rfl ?_
  refine qr_bipush 40 rfl (by decide) rfl ?_
  refine qr_imul 41 rfl rfl ?_
  refine qr_aload_n 42 rfl rfl rfl ?_
  refine qr_get 45 rfl rfl rfl (by decide) rfl ?_
  refine qr_iload_n 46 rfl rfl rfl ?_
  refine qr_iaload 47 rfl rfl (qrgi r1 (by decide) (by decide)) (by decide) rfl ?_
  refine qr_topI (fun v7 hv7 => ?_)
  have hs8 : 0 ≤ v7 ∧ v7 ≤ 31 := by rw [hv7]; exact hI.2.1 29 _ (show _ < 40 from qrgt r1 (by decide) (by decide))
  refine qr_iadd 48 rfl rfl ?_
  refine qr_iaload 49 rfl rfl (by omega) (by decide) rfl ?_
  refine qr_topI (fun v9 hv9 => ?_)
  have hs10 : 0 ≤ v9 ∧ v9 ≤ 99 := by rw [hv9]; exact hI.2.1 24 _ (show _ < 1024 by omega)
  refine qr_istore _ 51 rfl (by decide) rfl rfl ?_
  refine qr_iload 53 rfl rfl rfl ?_
  refine qr_iload 55 rfl rfl rfl ?_
  have hJ20 : ∀ (ls : qm_L) (u18 : Int), qm_get ls 0 = some (.ref 27) → qm_get ls 1 = some (.int (qz x1)) → qm_get ls 2 = some (.int (qz x2)) → qm_get ls 3 = some (.int (qz x3)) → qm_get ls 5 = some (.ref 24) → qm_get ls 6 = some (.int (qz v1)) → qm_get ls 7 = some (.int (qz u18)) → (0 ≤ u18 ∧ u18 ≤ 9) → qr_W (qe L xs vb) (d + 0) qx_e68 (fun r w' => w' = qw σ α κ ρ ∧ ∃ v : Int, r = some (.int (qz v)) ∧ (0 ≤ v ∧ v ≤ 9)) (72, ls, [], qw σ α κ ρ, 0, 0) := by
    intro ls u18 g11 g12 g13 g14 g15 g16 g17 hf19
    refine qr_aload 74 rfl g15 rfl ?_
    refine qr_iload_n 75 rfl g14 rfl ?_
    refine qr_bipush 77 rfl (by decide) rfl ?_
    refine qr_imul 78 rfl rfl ?_
    refine qr_aload_n 79 rfl g11 rfl ?_
    refine qr_get 82 rfl rfl rfl (by decide) rfl ?_
    refine qr_iload_n 83 rfl g12 rfl ?_
    refine qr_iaload 84 rfl rfl (qrgi r1 (by decide) (by decide)) (by decide) rfl ?_
    refine qr_topI (fun v21 hv21 => ?_)
    have hs22 : 0 ≤ v21 ∧ v21 ≤ 31 := by rw [hv21]; exact hI.2.1 28 _ (show _ < 40 from qrgt r1 (by decide) (by decide))
    refine qr_iadd 85 rfl rfl ?_
    refine qr_iaload 86 rfl rfl (by omega) (by decide) rfl ?_
    refine qr_topI (fun v23 hv23 => ?_)
    have hs24 : 0 ≤ v23 ∧ v23 ≤ 99 := by rw [hv23]; exact hI.2.1 24 _ (show _ < 1024 by omega)
    refine qr_istore _ 88 rfl (by decide) rfl rfl ?_
    refine qr_aload 90 rfl (qm_gk g15 (by decide) (Or.inl (by decide))) rfl ?_
    refine qr_iload_n 91 rfl (qm_gk g13 (by decide) (Or.inl (by decide))) rfl ?_
    refine qr_bipush 93 rfl (by decide) rfl ?_
    refine qr_imul 94 rfl rfl ?_
    refine qr_aload_n 95 rfl (qm_gk g11 (by decide) (Or.inl (by decide))) rfl ?_
    refine qr_get 98 rfl rfl rfl (by decide) rfl ?_
    refine qr_iload_n 99 rfl (qm_gk g12 (by decide) (Or.inl (by decide))) rfl ?_
    refine qr_iaload 100 rfl rfl (qrgi r1 (by decide) (by decide)) (by decide) rfl ?_
    refine qr_topI (fun v25 hv25 => ?_)
    have hs26 : 0 ≤ v25 ∧ v25 ≤ 31 := by rw [hv25]; exact hI.2.1 29 _ (show _ < 40 from qrgt r1 (by decide) (by decide))
    refine qr_iadd 101 rfl rfl ?_
    refine qr_iaload 102 rfl rfl (by omega) (by decide) rfl ?_
    refine qr_topI (fun v27 hv27 => ?_)
    have hs28 : 0 ≤ v27 ∧ v27 ≤ 99 := by rw [hv27]; exact hI.2.1 24 _ (show _ < 1024 by omega)
    refine qr_istore _ 104 rfl (by decide) rfl rfl ?_
    refine qr_iload 106 rfl (qm_gk (qm_ge _ _ _) (by decide) (Or.inr rfl)) rfl ?_
    refine qr_iload 108 rfl (qm_gk (qm_gk g16 (by decide) (Or.inl (by decide))) (by decide) (Or.inl (by decide))) rfl ?_
    refine qr_icmp_gt 136 111 rfl rfl rfl (qrg hs24 (by decide) (by decide)) (qrg hs2 (by decide) (by decide)) (fun h29 => ?_) (fun h29 => ?_)
    · skip
      refine qr_iload 138 rfl (qm_gk (qm_gk g17 (by decide) (Or.inr rfl)) (by decide) (Or.inl (by decide))) rfl ?_
      refine qr_retI rfl rfl (by decide) (by decide) ?_
      exact ⟨rfl, u18, rfl, hf19⟩
    · skip
      refine qr_iload 113 rfl (qm_ge _ _ _) rfl ?_
      refine qr_iload 115 rfl (qm_gk (qm_gk g16 (by decide) (Or.inl (by decide))) (by decide) (Or.inl (by decide))) rfl ?_
      refine qr_icmp_gt 136 118 rfl rfl rfl (qrg hs28 (by decide) (by decide)) (qrg hs2 (by decide) (by decide)) (fun h30 => ?_) (fun h30 => ?_)
      · skip
        refine qr_iload 138 rfl (qm_gk (qm_gk g17 (by decide) (Or.inr rfl)) (by decide) (Or.inl (by decide))) rfl ?_
        refine qr_retI rfl rfl (by decide) (by decide) ?_
        exact ⟨rfl, u18, rfl, hf19⟩
      · skip
        refine qr_iload 120 rfl (qm_gk (qm_ge _ _ _) (by decide) (Or.inr rfl)) rfl ?_
        refine qr_iload 122 rfl (qm_ge _ _ _) rfl ?_
        refine qr_iadd 123 rfl rfl ?_
        refine qr_iload 125 rfl (qm_gk (qm_gk g17 (by decide) (Or.inr rfl)) (by decide) (Or.inl (by decide))) rfl ?_
        refine qr_icmp_ge 136 128 rfl rfl rfl (by omega) (qrg hf19 (by decide) (by decide)) (fun h31 => ?_) (fun h31 => ?_)
        · skip
          refine qr_iload 138 rfl (qm_gk (qm_gk g17 (by decide) (Or.inr rfl)) (by decide) (Or.inl (by decide))) rfl ?_
          refine qr_retI rfl rfl (by decide) (by decide) ?_
          exact ⟨rfl, u18, rfl, hf19⟩
        · skip
          refine qr_iload 130 rfl (qm_gk (qm_ge _ _ _) (by decide) (Or.inr rfl)) rfl ?_
          refine qr_iload 132 rfl (qm_ge _ _ _) rfl ?_
          refine qr_iadd 133 rfl rfl ?_
          refine qr_goto 138 rfl rfl ?_
          refine qr_retI rfl rfl (by decide) (by decide) ?_
          exact ⟨rfl, (v23 + v27), rfl, (by omega)⟩
  refine qr_icmp_gt 72 58 rfl rfl rfl (qrg hs6 (by decide) (by decide)) (qrg hs2 (by decide) (by decide)) (fun h32 => ?_) (fun h32 => ?_)
  · skip
    exact hJ20 _ 9 rfl rfl rfl rfl rfl rfl rfl (by decide)
  · skip
    refine qr_iload 60 rfl rfl rfl ?_
    refine qr_iload 62 rfl rfl rfl ?_
    refine qr_icmp_gt 72 65 rfl rfl rfl (qrg hs10 (by decide) (by decide)) (qrg hs2 (by decide) (by decide)) (fun h33 => ?_) (fun h33 => ?_)
    · skip
      exact hJ20 _ 9 rfl rfl rfl rfl rfl rfl rfl (by decide)
    · skip
      refine qr_iload 67 rfl rfl rfl ?_
      refine qr_iload 69 rfl rfl rfl ?_
      refine qr_iadd 70 rfl rfl ?_
      refine qr_istore _ 72 rfl (by decide) rfl rfl ?_
      exact hJ20 _ (v5 + v9) rfl rfl rfl rfl rfl rfl rfl (by omega)

set_option maxHeartbeats 4000000 in
set_option maxRecDepth 20000 in
/-- OneRoof$Feuds.closeness -/
theorem sf_68_27_25 {L : Nat} {xs : Nat → Int} {vb : Bool} {d : Nat} {σ α : Nat → Nat → Int} {κ : Nat → Option Nat} {ρ : Nat} {x1 : Int} {x2 : Int} {x3 : Int} (hI : qI σ α κ ρ) (r1 : 0 ≤ x1 ∧ x1 ≤ 39) (r2 : 0 ≤ x2 ∧ x2 ≤ 31) (r3 : 0 ≤ x3 ∧ x3 ≤ 31) : qm_T (qe L xs vb) (d + 1) 68 [.ref 27, .int (qz x1), .int (qz x2), .int (qz x3), .ref 25] (qw σ α κ ρ) (fun r w' => w' = qw σ α κ ρ ∧ ∃ v : Int, r = some (.int (qz v)) ∧ (0 ≤ v ∧ v ≤ 9)) := by
  refine qr_start (d := d + 0) qv_e68 (Nat.le_of_ble_eq_true rfl) ?_
  show qr_W (qe L xs vb) (d + 0) qx_e68 _ (0, [(0, .ref 27), (1, .int (qz x1)), (2, .int (qz x2)), (3, .int (qz x3)), (4, .ref 25)], [], _, 0, 0)
  refine qr_aload 2 rfl rfl rfl ?_
  refine qr_get 5 rfl rfl rfl (by decide) rfl ?_
  refine qr_astore _ 7 rfl (by decide) rfl rfl ?_
  refine qr_aload_n 8 rfl rfl rfl ?_
  refine qr_get 11 rfl rfl rfl (by decide) rfl ?_
  refine qr_iload_n 12 rfl rfl rfl ?_
  refine qr_iaload 13 rfl rfl (qrgi r1 (by decide) (by decide)) (by decide) rfl ?_
  refine qr_topI (fun v1 hv1 => ?_)
  have hs2 : 0 ≤ v1 ∧ v1 ≤ 3 := by rw [hv1]; exact hI.2.1 31 _ (show _ < 40 from qrgt r1 (by decide) (by decide))
  refine qr_istore _ 15 rfl (by decide) rfl rfl ?_
  refine qr_bipush 17 rfl (by decide) rfl ?_
  refine qr_istore _ 19 rfl (by decide) rfl rfl ?_
  refine qr_aload 21 rfl rfl rfl ?_
  refine qr_iload_n 22 rfl rfl rfl ?_
  refine qr_bipush 24 rfl (by decide) rfl ?_
  refine qr_imul 25 rfl rfl ?_
  refine qr_aload_n 26 rfl rfl rfl ?_
  refine qr_get 29 rfl rfl rfl (by decide) rfl ?_
  refine qr_iload_n 30 rfl rfl rfl ?_
  refine qr_iaload 31 rfl rfl (qrgi r1 (by decide) (by decide)) (by decide) rfl ?_
  refine qr_topI (fun v3 hv3 => ?_)
  have hs4 : 0 ≤ v3 ∧ v3 ≤ 31 := by rw [hv3]; exact hI.2.1 28 _ (show _ < 40 from qrgt r1 (by decide) (by decide))
  refine qr_iadd 32 rfl rfl ?_
  refine qr_iaload 33 rfl rfl (by omega) (by decide) rfl ?_
  refine qr_topI (fun v5 hv5 => ?_)
  have hs6 : 0 ≤ v5 ∧ v5 ≤ 99 := by rw [hv5]; exact hI.2.1 26 _ (show _ < 1024 by omega)
  refine qr_istore _ 35 rfl (by decide) rfl rfl ?_
  refine qr_aload 37 rfl rfl rfl ?_
  refine qr_iload_n 38 rfl rfl rfl ?_
  refine qr_bipush 40 rfl (by decide) rfl ?_
  refine qr_imul 41 rfl rfl ?_
  refine qr_aload_n 42 rfl rfl rfl ?_
  refine qr_get 45 rfl rfl rfl (by decide) rfl ?_
  refine qr_iload_n 46 rfl rfl rfl ?_
  refine qr_iaload 47 rfl rfl (qrgi r1 (by decide) (by decide)) (by decide) rfl ?_
  refine qr_topI (fun v7 hv7 => ?_)
  have hs8 : 0 ≤ v7 ∧ v7 ≤ 31 := by rw [hv7]; exact hI.2.1 29 _ (show _ < 40 from qrgt r1 (by decide) (by decide))
  refine qr_iadd 48 rfl rfl ?_
  refine qr_iaload 49 rfl rfl (by omega) (by decide) rfl ?_
  refine qr_topI (fun v9 hv9 => ?_)
  have hs10 : 0 ≤ v9 ∧ v9 ≤ 99 := by rw [hv9]; exact hI.2.1 26 _ (show _ < 1024 by omega)
  refine qr_istore _ 51 rfl (by decide) rfl rfl ?_
  refine qr_iload 53 rfl rfl rfl ?_
  refine qr_iload 55 rfl rfl rfl ?_
  have hJ20 : ∀ (ls : qm_L) (u18 : Int), qm_get ls 0 = some (.ref 27) → qm_get ls 1 = some (.int (qz x1)) → qm_get ls 2 = some (.int (qz x2)) → qm_get ls 3 = some (.int (qz x3)) → qm_get ls 5 = some (.ref 26) → qm_get ls 6 = some (.int (qz v1)) → qm_get ls 7 = some (.int (qz u18)) → (0 ≤ u18 ∧ u18 ≤ 9) → qr_W (qe L xs vb) (d + 0) qx_e68 (fun r w' => w' = qw σ α κ ρ ∧ ∃ v : Int, r = some (.int (qz v)) ∧ (0 ≤ v ∧ v ≤ 9)) (72, ls, [], qw σ α κ ρ, 0, 0) := by
    intro ls u18 g11 g12 g13 g14 g15 g16 g17 hf19
    refine qr_aload 74 rfl g15 rfl ?_
    refine qr_iload_n 75 rfl g14 rfl ?_
    refine qr_bipush 77 rfl (by decide) rfl ?_
    refine qr_imul 78 rfl rfl ?_
    refine qr_aload_n 79 rfl g11 rfl ?_
    refine qr_get 82 rfl rfl rfl (by decide) rfl ?_
    refine qr_iload_n 83 rfl g12 rfl ?_
    refine qr_iaload 84 rfl rfl (qrgi r1 (by decide) (by decide)) (by decide) rfl ?_
    refine qr_topI (fun v21 hv21 => ?_)
    have hs22 : 0 ≤ v21 ∧ v21 ≤ 31 := by rw [hv21]; exact hI.2.1 28 _ (show _ < 40 from qrgt r1 (by decide) (by decide))
    refine qr_iadd 85 rfl rfl ?_
    refine qr_iaload 86 rfl rfl (by omega) (by decide) rfl ?_
    refine qr_topI (fun v23 hv23 => ?_)
    have hs24 : 0 ≤ v23 ∧ v23 ≤ 99 := by rw [hv23]; exact hI.2.1 26 _ (show _ < 1024 by omega)
    refine qr_istore _ 88 rfl (by decide) rfl rfl ?_
    refine qr_aload 90 rfl (qm_gk g15 (by decide) (Or.inl (by decide))) rfl ?_
    refine qr_iload_n 91 rfl (qm_gk g13 (by decide) (Or.inl (by decide))) rfl ?_
    refine qr_bipush 93 rfl (by decide) rfl ?_
    refine qr_imul 94 rfl rfl ?_
    refine qr_aload_n 95 rfl (qm_gk g11 (by decide) (Or.inl (by decide))) rfl ?_
    refine qr_get 98 rfl rfl rfl (by decide) rfl ?_
    refine qr_iload_n 99 rfl (qm_gk g12 (by decide) (Or.inl (by decide))) rfl ?_
    refine qr_iaload 100 rfl rfl (qrgi r1 (by decide) (by decide)) (by decide) rfl ?_
    refine qr_topI (fun v25 hv25 => ?_)
    have hs26 : 0 ≤ v25 ∧ v25 ≤ 31 := by rw [hv25]; exact hI.2.1 29 _ (show _ < 40 from qrgt r1 (by decide) (by decide))
    refine qr_iadd 101 rfl rfl ?_
    refine qr_iaload 102 rfl rfl (by omega) (by decide) rfl ?_
    refine qr_topI (fun v27 hv27 => ?_)
    have hs28 : 0 ≤ v27 ∧ v27 ≤ 99 := by rw [hv27]; exact hI.2.1 26 _ (show _ < 1024 by omega)
    refine qr_istore _ 104 rfl (by decide) rfl rfl ?_
    refine qr_iload 106 rfl (qm_gk (qm_ge _ _ _) (by decide) (Or.inr rfl)) rfl ?_
    refine qr_iload 108 rfl (qm_gk (qm_gk g16 (by decide) (Or.inl (by decide))) (by decide) (Or.inl (by decide))) rfl ?_
    refine qr_icmp_gt 136 111 rfl rfl rfl (qrg hs24 (by decide) (by decide)) (qrg hs2 (by decide) (by decide)) (fun h29 => ?_) (fun h29 => ?_)
    · skip
      refine qr_iload 138 rfl (qm_gk (qm_gk g17 (by decide) (Or.inr rfl)) (by decide) (Or.inl (by decide))) rfl ?_
      refine qr_retI rfl rfl (by decide) (by decide) ?_
      exact ⟨rfl, u18, rfl, hf19⟩
    · skip
      refine qr_iload 113 rfl (qm_ge _ _ _) rfl ?_
      refine qr_iload 115 rfl (qm_gk (qm_gk g16 (by decide) (Or.inl (by decide))) (by decide) (Or.inl (by decide))) rfl ?_
      refine qr_icmp_gt 136 118 rfl rfl rfl (qrg hs28 (by decide) (by decide)) (qrg hs2 (by decide) (by decide)) (fun h30 => ?_) (fun h30 => ?_)
      · skip
        refine qr_iload 138 rfl (qm_gk (qm_gk g17 (by decide) (Or.inr rfl)) (by decide) (Or.inl (by decide))) rfl ?_
        refine qr_retI rfl rfl (by decide) (by decide) ?_
        exact ⟨rfl, u18, rfl, hf19⟩
      · skip
        refine qr_iload 120 rfl (qm_gk (qm_ge _ _ _) (by decide) (Or.inr rfl)) rfl ?_
        refine qr_iload 122 rfl (qm_ge _ _ _) rfl ?_
        refine qr_iadd 123 rfl rfl ?_
        refine qr_iload 125 rfl (qm_gk (qm_gk g17 (by decide) (Or.inr rfl)) (by decide) (Or.inl (by decide))) rfl ?_
        refine qr_icmp_ge 136 128 rfl rfl rfl (by omega) (qrg hf19 (by decide) (by decide)) (fun h31 => ?_) (fun h31 => ?_)
        · skip
          refine qr_iload 138 rfl (qm_gk (qm_gk g17 (by decide) (Or.inr rfl)) (by decide) (Or.inl (by decide))) rfl ?_
          refine qr_retI rfl rfl (by decide) (by decide) ?_
          exact ⟨rfl, u18, rfl, hf19⟩
        · skip
          refine qr_iload 130 rfl (qm_gk (qm_ge _ _ _) (by decide) (Or.inr rfl)) rfl ?_
          refine qr_iload 132 rfl (qm_ge _ _ _) rfl ?_
          refine qr_iadd 133 rfl rfl ?_
          refine qr_goto 138 rfl rfl ?_
          refine qr_retI rfl rfl (by decide) (by decide) ?_
          exact ⟨rfl, (v23 + v27), rfl, (by omega)⟩
  refine qr_icmp_gt 72 58 rfl rfl rfl (qrg hs6 (by decide) (by decide)) (qrg hs2 (by decide) (by decide)) (fun h32 => ?_) (fun h32 => ?_)
  · skip
    exact hJ20 _ 9 rfl rfl rfl rfl rfl rfl rfl (by decide)
  · skip
    refine qr_iload 60 rfl rfl rfl ?_
    refine qr_iload 62 rfl rfl rfl ?_
    refine qr_icmp_gt 72 65 rfl rfl rfl (qrg hs10 (by decide) (by decide)) (qrg hs2 (by decide) (by decide)) (fun h33 => ?_) (fun h33 => ?_)
    · skip
      exact hJ20 _ 9 rfl rfl rfl rfl rfl rfl rfl (by decide)
    · skip
      refine qr_iload 67 rfl rfl rfl ?_
      refine qr_iload 69 rfl rfl rfl ?_
      refine qr_iadd 70 rfl rfl ?_
      refine qr_istore _ 72 rfl (by decide) rfl rfl ?_
      exact hJ20 _ (v5 + v9) rfl rfl rfl rfl rfl rfl rfl (by omega)

set_option maxHeartbeats 4000000 in
set_option maxRecDepth 20000 in
/-- OneRoof$Feuds.nearest -/
theorem sf_66_27_23 {L : Nat} {xs : Nat → Int} {vb : Bool} {d : Nat} {σ α : Nat → Nat → Int} {κ : Nat → Option Nat} {ρ : Nat} {x1 : Int} {x2 : Int} {x3 : Int} (hI : qI σ α κ ρ) (r1 : 0 ≤ x1 ∧ x1 ≤ 31) (r2 : 0 ≤ x2 ∧ x2 ≤ 31) (r3 : (-2147483648) ≤ x3 ∧ x3 ≤ 2147483647) : qm_T (qe L xs vb) (d + 2) 66 [.ref 27, .int (qz x1), .int (qz x2), .int (qz x3), .ref 23] (qw σ α κ ρ) (fun r w' => w' = qw σ α κ ρ ∧ ∃ v : Int, r = some (.int (qz v)) ∧ (0 ≤ v ∧ v ≤ 576)) := by
  refine qr_start (d := d + 1) qv_e66 (Nat.le_of_ble_eq_true rfl) ?_
  show qr_W (qe L xs vb) (d + 1) qx_e66 _ (0, [(0, .ref 27), (1, .int (qz x1)), (2, .int (qz x2)), (3, .int (qz x3)), (4, .ref 23)], [], _, 0, 0)
  refine qr_sipush 3 rfl (by decide) rfl ?_
  refine qr_istore _ 5 rfl (by decide) rfl rfl ?_
  refine qr_iconst 6 rfl rfl ?_
  refine qr_istore _ 8 rfl (by decide) rfl rfl ?_
  have hL392 : ∀ (n : Nat) (ls : qm_L) (u387 u389 : Int), 40 - u389 < (n : Int) → qm_get ls 0 = some (.ref 27) → qm_get ls 1 = some (.int (qz x1)) → qm_get ls 2 = some (.int (qz x2)) → qm_get ls 3 = some (.int (qz x3)) → qm_get ls 4 = some (.ref 23) → qm_get ls 5 = some (.int (qz u387)) → qm_get ls 6 = some (.int (qz u389)) → (0 ≤ u387 ∧ u387 ≤ 576) → (0 ≤ u389 ∧ u389 ≤ 40) → qr_W (qe L xs vb) (d + 1) qx_e66 (fun r w' => w' = qw σ α κ ρ ∧ ∃ v : Int, r = some (.int (qz v)) ∧ (0 ≤ v ∧ v ≤ 576)) (8, ls, [], qw σ α κ ρ, 0, 0) := by
    intro n
    induction n with
    | zero => intro ls u387 u389 hm g381 g382 g383 g384 g385 g386 g388 hf390 hf391; exact False.elim (by omega)
    | succ n ih393 =>
      intro ls u387 u389 hm g381 g382 g383 g384 g385 g386 g388 hf390 hf391
      refine qr_iload 10 rfl g388 rfl ?_
      refine qr_aload_n 11 rfl g381 rfl ?_
      refine qr_get 14 rfl rfl rfl (by decide) rfl ?_
      have hs394 : 0 ≤ σ 27 7 ∧ σ 27 7 ≤ 40 := hI.1 27 7
      refine qr_icmp_ge 56 17 rfl rfl rfl (qrg hf391 (by decide) (by decide)) (qrg hs394 (by decide) (by decide)) (fun h395 => ?_) (fun h395 => ?_)
      · skip
        refine qr_iload 58 rfl g386 rfl ?_
        refine qr_retI rfl rfl (by decide) (by decide) ?_
        exact ⟨rfl, u387, rfl, hf390⟩
      · skip
        refine qr_aload_n 18 rfl g381 rfl ?_
        refine qr_iload 20 rfl g388 rfl ?_
        refine qr_iload_n 21 rfl g384 rfl ?_
        refine qr_callN 24 rfl rfl rfl (sf_67_27 (d := d + 0) hI (by omega) r3) ?_
        rintro _ _ ⟨rfl, v396, rfl, hv396⟩
        show qr_W (qe L xs vb) (d + 1) qx_e66 _ (24, _, [.int (qz v396)], qw σ α κ ρ, 0, 0)
        have hJ409 : ∀ (ls : qm_L) (u406 : Int), qm_get ls 0 = some (.ref 27) → qm_get ls 1 = some (.int (qz x1)) → qm_get ls 2 = some (.int (qz x2)) → qm_get ls 3 = some (.int (qz x3)) → qm_get ls 4 = some (.ref 23) → qm_get ls 5 = some (.int (qz u406)) → qm_get ls 6 = some (.int (qz u389)) → (0 ≤ u406 ∧ u406 ≤ 576) → qr_W (qe L xs vb) (d + 1) qx_e66 (fun r w' => w' = qw σ α κ ρ ∧ ∃ v : Int, r = some (.int (qz v)) ∧ (0 ≤ v ∧ v ≤ 576)) (50, ls, [], qw σ α κ ρ, 0, 0) := by
          intro ls u406 g400 g401 g402 g403 g404 g405 g407 hf408
          refine qr_iinc _ 53 rfl g407 (by decide) rfl rfl ?_
          refine qr_goto 8 rfl rfl ?_
          exact ih393 _ u406 (u389 + 1) (by omega) (qm_gk g400 (by decide) (Or.inl (by decide))) (qm_gk g401 (by decide) (Or.inl (by decide))) (qm_gk g402 (by decide) (Or.inl (by decide))) (qm_gk g403 (by decide) (Or.inl (by decide))) (qm_gk g404 (by decide) (Or.inl (by decide))) (qm_gk g405 (by decide) (Or.inr rfl)) (qm_ge _ _ _) hf408 (by omega)
        refine qr_if_eq 50 27 rfl rfl rfl (qrg hv396 (by decide) (by decide)) (fun h410 => ?_) (fun h410 => ?_)
        · skip
          exact hJ409 _ u387 g381 g382 g383 g384 g385 g386 g388 hf390
        · skip
          refine qr_iload 29 rfl g386 rfl ?_
          refine qr_aload_n 30 rfl g381 rfl ?_
          refine qr_iload 32 rfl g388 rfl ?_
          refine qr_iload_n 33 rfl g382 rfl ?_
          refine qr_iload_n 34 rfl g383 rfl ?_
          refine qr_aload 36 rfl g385 rfl ?_
          refine qr_callN 39 rfl rfl rfl (sf_68_27_23 (d := d + 0) hI (by omega) r1 r2) ?_
          rintro _ _ ⟨rfl, v411, rfl, hv411⟩
          show qr_W (qe L xs vb) (d + 1) qx_e66 _ (39, _, [.int (qz v411), .int (qz u387)], qw σ α κ ρ, 0, 0)
          refine qr_bipush 41 rfl (by decide) rfl ?_
          refine qr_imul 42 rfl rfl ?_
          refine qr_iload 44 rfl g388 rfl ?_
          refine qr_iadd 45 rfl rfl ?_
          refine qr_callN 48 rfl rfl rfl (sf_12 (d := d + 0) hI (qrg hf390 (by decide) (by decide)) (by omega)) ?_
          rintro _ _ ⟨rfl, v412, rfl, hv412, hp413⟩
          show qr_W (qe L xs vb) (d + 1) qx_e66 _ (48, _, [.int (qz v412)], qw σ α κ ρ, 0, 0)
          refine qr_istore _ 50 rfl (by decide) rfl rfl ?_
          exact hJ409 _ v412 (qm_gk g381 (by decide) (Or.inl (by decide))) (qm_gk g382 (by decide) (Or.inl (by decide))) (qm_gk g383 (by decide) (Or.inl (by decide))) (qm_gk g384 (by decide) (Or.inl (by decide))) (qm_gk g385 (by decide) (Or.inr rfl)) (qm_ge _ _ _) (qm_gk g388 (by decide) (Or.inl (by decide))) (by omega)
  exact hL392 ((40 - 0 + 1 : Int)).toNat _ 576 0 (by omega) rfl rfl rfl rfl rfl rfl rfl (by decide) (by decide)

set_option maxHeartbeats 4000000 in
set_option maxRecDepth 20000 in
/-- OneRoof$Feuds.nearest -/
theorem sf_66_27_25 {L : Nat} {xs : Nat → Int} {vb : Bool} {d : Nat} {σ α : Nat → Nat → Int} {κ : Nat → Option Nat} {ρ : Nat} {x1 : Int} {x2 : Int} {x3 : Int} (hI : qI σ α κ ρ) (r1 : 0 ≤ x1 ∧ x1 ≤ 31) (r2 : 0 ≤ x2 ∧ x2 ≤ 31) (r3 : (-2147483648) ≤ x3 ∧ x3 ≤ 2147483647) : qm_T (qe L xs vb) (d + 2) 66 [.ref 27, .int (qz x1), .int (qz x2), .int (qz x3), .ref 25] (qw σ α κ ρ) (fun r w' => w' = qw σ α κ ρ ∧ ∃ v : Int, r = some (.int (qz v)) ∧ (0 ≤ v ∧ v ≤ 576)) := by
  refine qr_start (d := d + 1) qv_e66 (Nat.le_of_ble_eq_true rfl) ?_
  show qr_W (qe L xs vb) (d + 1) qx_e66 _ (0, [(0, .ref 27), (1, .int (qz x1)), (2, .int (qz x2)), (3, .int (qz x3)), (4, .ref 25)], [], _, 0, 0)
  refine qr_sipush 3 rfl (by decide) rfl ?_
  refine qr_istore _ 5 rfl (by decide) rfl rfl ?_
  refine qr_iconst 6 rfl rfl ?_
  refine qr_istore _ 8 rfl (by decide) rfl rfl ?_
  have hL392 : ∀ (n : Nat) (ls : qm_L) (u387 u389 : Int), 40 - u389 < (n : Int) → qm_get ls 0 = some (.ref 27) → qm_get ls 1 = some (.int (qz x1)) → qm_get ls 2 = some (.int (qz x2)) → qm_get ls 3 = some (.int (qz x3)) → qm_get ls 4 = some (.ref 25) → qm_get ls 5 = some (.int (qz u387)) → qm_get ls 6 = some (.int (qz u389)) → (0 ≤ u387 ∧ u387 ≤ 576) → (0 ≤ u389 ∧ u389 ≤ 40) → qr_W (qe L xs vb) (d + 1) qx_e66 (fun r w' => w' = qw σ α κ ρ ∧ ∃ v : Int, r = some (.int (qz v)) ∧ (0 ≤ v ∧ v ≤ 576)) (8, ls, [], qw σ α κ ρ, 0, 0) := by
    intro n
    induction n with
    | zero => intro ls u387 u389 hm g381 g382 g383 g384 g385 g386 g388 hf390 hf391; exact False.elim (by omega)
    | succ n ih393 =>
      intro ls u387 u389 hm g381 g382 g383 g384 g385 g386 g388 hf390 hf391
      refine qr_iload 10 rfl g388 rfl ?_
      refine qr_aload_n 11 rfl g381 rfl ?_
      refine qr_get 14 rfl rfl rfl (by decide) rfl ?_
      have hs394 : 0 ≤ σ 27 7 ∧ σ 27 7 ≤ 40 := hI.1 27 7
      refine qr_icmp_ge 56 17 rfl rfl rfl (qrg hf391 (by decide) (by decide)) (qrg hs394 (by decide) (by decide)) (fun h395 => ?_) (fun h395 => ?_)
      · skip
        refine qr_iload 58 rfl g386 rfl ?_
        refine qr_retI rfl rfl (by decide) (by decide) ?_
        exact ⟨rfl, u387, rfl, hf390⟩
      · skip
        refine qr_aload_n 18 rfl g381 rfl ?_
        refine qr_iload 20 rfl g388 rfl ?_
        refine qr_iload_n 21 rfl g384 rfl ?_
        refine qr_callN 24 rfl rfl rfl (sf_67_27 (d := d + 0) hI (by omega) r3) ?_
        rintro _ _ ⟨rfl, v396, rfl, hv396⟩
        show qr_W (qe L xs vb) (d + 1) qx_e66 _ (24, _, [.int (qz v396)], qw σ α κ ρ, 0, 0)
        have hJ409 : ∀ (ls : qm_L) (u406 : Int), qm_get ls 0 = some (.ref 27) → qm_get ls 1 = some (.int (qz x1)) → qm_get ls 2 = some (.int (qz x2)) → qm_get ls 3 = some (.int (qz x3)) → qm_get ls 4 = some (.ref 25) → qm_get ls 5 = some (.int (qz u406)) → qm_get ls 6 = some (.int (qz u389)) → (0 ≤ u406 ∧ u406 ≤ 576) → qr_W (qe L xs vb) (d + 1) qx_e66 (fun r w' => w' = qw σ α κ ρ ∧ ∃ v : Int, r = some (.int (qz v)) ∧ (0 ≤ v ∧ v ≤ 576)) (50, ls, [], qw σ α κ ρ, 0, 0) := by
          intro ls u406 g400 g401 g402 g403 g404 g405 g407 hf408
          refine qr_iinc _ 53 rfl g407 (by decide) rfl rfl ?_
          refine qr_goto 8 rfl rfl ?_
          exact ih393 _ u406 (u389 + 1) (by omega) (qm_gk g400 (by decide) (Or.inl (by decide))) (qm_gk g401 (by decide) (Or.inl (by decide))) (qm_gk g402 (by decide) (Or.inl (by decide))) (qm_gk g403 (by decide) (Or.inl (by decide))) (qm_gk g404 (by decide) (Or.inl (by decide))) (qm_gk g405 (by decide) (Or.inr rfl)) (qm_ge _ _ _) hf408 (by omega)
        refine qr_if_eq 50 27 rfl rfl rfl (qrg hv396 (by decide) (by decide)) (fun h410 => ?_) (fun h410 => ?_)
        · skip
          exact hJ409 _ u387 g381 g382 g383 g384 g385 g386 g388 hf390
        · skip
          refine qr_iload 29 rfl g386 rfl ?_
          refine qr_aload_n 30 rfl g381 rfl ?_
          refine qr_iload 32 rfl g388 rfl ?_
          refine qr_iload_n 33 rfl g382 rfl ?_
          refine qr_iload_n 34 rfl g383 rfl ?_
          refine qr_aload 36 rfl g385 rfl ?_
          refine qr_callN 39 rfl rfl rfl (sf_68_27_25 (d := d + 0) hI (by omega) r1 r2) ?_
          rintro _ _ ⟨rfl, v411, rfl, hv411⟩
          show qr_W (qe L xs vb) (d + 1) qx_e66 _ (39, _, [.int (qz v411), .int (qz u387)], qw σ α κ ρ, 0, 0)
          refine qr_bipush 41 rfl (by decide) rfl ?_
          refine qr_imul 42 rfl rfl ?_
          refine qr_iload 44 rfl g388 rfl ?_
          refine qr_iadd 45 rfl rfl ?_
          refine qr_callN 48 rfl rfl rfl (sf_12 (d := d + 0) hI (qrg hf390 (by decide) (by decide)) (by omega)) ?_
          rintro _ _ ⟨rfl, v412, rfl, hv412, hp413⟩
          show qr_W (qe L xs vb) (d + 1) qx_e66 _ (48, _, [.int (qz v412)], qw σ α κ ρ, 0, 0)
          refine qr_istore _ 50 rfl (by decide) rfl rfl ?_
          exact hJ409 _ v412 (qm_gk g381 (by decide) (Or.inl (by decide))) (qm_gk g382 (by decide) (Or.inl (by decide))) (qm_gk g383 (by decide) (Or.inl (by decide))) (qm_gk g384 (by decide) (Or.inl (by decide))) (qm_gk g385 (by decide) (Or.inr rfl)) (qm_ge _ _ _) (qm_gk g388 (by decide) (Or.inl (by decide))) (by omega)
  exact hL392 ((40 - 0 + 1 : Int)).toNat _ 576 0 (by omega) rfl rfl rfl rfl rfl rfl rfl (by decide) (by decide)

set_option maxHeartbeats 4000000 in
set_option maxRecDepth 20000 in
/-- OneRoof$Feuds.pairsAt -/
theorem sf_142_27_23 {L : Nat} {xs : Nat → Int} {vb : Bool} {d : Nat} {σ α : Nat → Nat → Int} {κ : Nat → Option Nat} {ρ : Nat} {x1 : Int} {x3 : Int} (hI : qI σ α κ ρ) (r1 : (-2147483648) ≤ x1 ∧ x1 ≤ 2147483647) (r3 : 0 ≤ x3 ∧ x3 ≤ 32) : qm_T (qe L xs vb) (d + 3) 142 [.ref 27, .int (qz x1), .ref 23, .int (qz x3)] (qw σ α κ ρ) (fun r w' => w' = qw σ α κ ρ ∧ ∃ v : Int, r = some (.int (qz v)) ∧ ((-2147483648) ≤ v ∧ v ≤ 2147483647)) := by
  refine qr_start (d := d + 2) qv_e142 (Nat.le_of_ble_eq_true rfl) ?_
  show qr_W (qe L xs vb) (d + 2) qx_e142 _ (0, [(0, .ref 27), (1, .int (qz x1)), (2, .ref 23), (3, .int (qz x3))], [], _, 0, 0)
  refine qr_iconst 1 rfl rfl ?_
  refine qr_istore _ 3 rfl (by decide) rfl rfl ?_
  refine qr_iconst 4 rfl rfl ?_
  refine qr_istore _ 6 rfl (by decide) rfl rfl ?_
  have hL4675 : ∀ (n : Nat) (ls : qm_L) (u4670 u4672 : Int), 32 - u4672 < (n : Int) → qm_get ls 0 = some (.ref 27) → qm_get ls 1 = some (.int (qz x1)) → qm_get ls 2 = some (.ref 23) → qm_get ls 3 = some (.int (qz x3)) → qm_get ls 4 = some (.int (qz u4670)) → qm_get ls 5 = some (.int (qz u4672)) → ((-2147483648) ≤ u4670 ∧ u4670 ≤ 2147483647) → (0 ≤ u4672 ∧ u4672 ≤ 32) → qr_W (qe L xs vb) (d + 2) qx_e142 (fun r w' => w' = qw σ α κ ρ ∧ ∃ v : Int, r = some (.int (qz v)) ∧ ((-2147483648) ≤ v ∧ v ≤ 2147483647)) (6, ls, [], qw σ α κ ρ, 0, 0) := by
    intro n
    induction n with
    | zero => intro ls u4670 u4672 hm g4665 g4666 g4667 g4668 g4669 g4671 hf4673 hf4674; exact False.elim (by omega)
    | succ n ih4676 =>
      intro ls u4670 u4672 hm g4665 g4666 g4667 g4668 g4669 g4671 hf4673 hf4674
      refine qr_iload 8 rfl g4671 rfl ?_
      refine qr_iload_n 9 rfl g4668 rfl ?_
      refine qr_icmp_ge 55 12 rfl rfl rfl (qrg hf4674 (by decide) (by decide)) (qrg r3 (by decide) (by decide)) (fun h4677 => ?_) (fun h4677 => ?_)
      · skip
        refine qr_iload 57 rfl g4669 rfl ?_
        refine qr_retI rfl rfl (by decide) (by decide) ?_
        exact ⟨rfl, u4670, rfl, hf4673⟩
      · skip
        refine qr_iload 14 rfl g4671 rfl ?_
        refine qr_iconst 15 rfl rfl ?_
        refine qr_iadd 16 rfl rfl ?_
        refine qr_istore _ 18 rfl (by decide) rfl rfl ?_
        have hL4794 : ∀ (n : Nat) (ls : qm_L) (u4787 u4790 : Int), 32 - u4790 < (n : Int) → qm_get ls 0 = some (.ref 27) → qm_get ls 1 = some (.int (qz x1)) → qm_get ls 2 = some (.ref 23) → qm_get ls 3 = some (.int (qz x3)) → qm_get ls 4 = some (.int (qz u4787)) → qm_get ls 5 = some (.int (qz u4672)) → qm_get ls 6 = some (.int (qz u4790)) → ((-2147483648) ≤ u4787 ∧ u4787 ≤ 2147483647) → (1 ≤ u4790 ∧ u4790 ≤ 32) → (u4672 + 1) ≤ u4790 → qr_W (qe L xs vb) (d + 2) qx_e142 (fun r w' => w' = qw σ α κ ρ ∧ ∃ v : Int, r = some (.int (qz v)) ∧ ((-2147483648) ≤ v ∧ v ≤ 2147483647)) (18, ls, [], qw σ α κ ρ, 0, 0) := by
          intro n
          induction n with
          | zero => intro ls u4787 u4790 hm g4782 g4783 g4784 g4785 g4786 g4788 g4789 hf4791 hf4792 hx4793; exact False.elim (by omega)
          | succ n ih4795 =>
            intro ls u4787 u4790 hm g4782 g4783 g4784 g4785 g4786 g4788 g4789 hf4791 hf4792 hx4793
            refine qr_iload 20 rfl g4789 rfl ?_
            refine qr_iload_n 21 rfl g4785 rfl ?_
            refine qr_icmp_ge 49 24 rfl rfl rfl (qrg hf4792 (by decide) (by decide)) (qrg r3 (by decide) (by decide)) (fun h4807 => ?_) (fun h4807 => ?_)
            · skip
              refine qr_iinc _ 52 rfl g4788 (by decide) rfl rfl ?_
              refine qr_goto 6 rfl rfl ?_
              exact ih4676 _ u4787 (u4672 + 1) (by omega) (qm_gk g4782 (by decide) (Or.inl (by decide))) (qm_gk g4783 (by decide) (Or.inl (by decide))) (qm_gk g4784 (by decide) (Or.inl (by decide))) (qm_gk g4785 (by decide) (Or.inl (by decide))) (qm_gk g4786 (by decide) (Or.inr rfl)) (qm_ge _ _ _) hf4791 (by omega)
            · skip
              refine qr_aload_n 25 rfl g4782 rfl ?_
              refine qr_iload 27 rfl g4788 rfl ?_
              refine qr_iload 29 rfl g4789 rfl ?_
              refine qr_iload_n 30 rfl g4783 rfl ?_
              refine qr_aload_n 31 rfl g4784 rfl ?_
              refine qr_callN 34 rfl rfl rfl (sf_66_27_23 (d := d + 0) hI (by omega) (by omega) r1) ?_
              rintro _ _ ⟨rfl, v4808, rfl, hv4808⟩
              show qr_W (qe L xs vb) (d + 2) qx_e142 _ (34, _, [.int (qz v4808)], qw σ α κ ρ, 0, 0)
              refine qr_sipush 37 rfl (by decide) rfl ?_
              have hJ4819 : ∀ (ls : qm_L) (u4815 : Int), qm_get ls 0 = some (.ref 27) → qm_get ls 1 = some (.int (qz x1)) → qm_get ls 2 = some (.ref 23) → qm_get ls 3 = some (.int (qz x3)) → qm_get ls 4 = some (.int (qz u4815)) → qm_get ls 5 = some (.int (qz u4672)) → qm_get ls 6 = some (.int (qz u4790)) → ((-2147483648) ≤ u4815 ∧ u4815 ≤ 2147483647) → qr_W (qe L xs vb) (d + 2) qx_e142 (fun r w' => w' = qw σ α κ ρ ∧ ∃ v : Int, r = some (.int (qz v)) ∧ ((-2147483648) ≤ v ∧ v ≤ 2147483647)) (43, ls, [], qw σ α κ ρ, 0, 0) := by
                intro ls u4815 g4810 g4811 g4812 g4813 g4814 g4816 g4817 hf4818
                refine qr_iinc _ 46 rfl g4817 (by decide) rfl rfl ?_
                refine qr_goto 18 rfl rfl ?_
                exact ih4795 _ u4815 (u4790 + 1) (by omega) (qm_gk g4810 (by decide) (Or.inl (by decide))) (qm_gk g4811 (by decide) (Or.inl (by decide))) (qm_gk g4812 (by decide) (Or.inl (by decide))) (qm_gk g4813 (by decide) (Or.inl (by decide))) (qm_gk g4814 (by decide) (Or.inl (by decide))) (qm_gk g4816 (by decide) (Or.inr rfl)) (qm_ge _ _ _) hf4818 (by omega) (by omega)
              refine qr_icmp_ge 43 40 rfl rfl rfl (qrg hv4808 (by decide) (by decide)) (by decide) (fun h4820 => ?_) (fun h4820 => ?_)
              · skip
                exact hJ4819 _ u4787 g4782 g4783 g4784 g4785 g4786 g4788 g4789 hf4791
              · skip
                refine qy_iincC 43 rfl g4786 (by decide) rfl (fun v4821 hv4821 => ?_)
                exact hJ4819 _ v4821 (qm_gk g4782 (by decide) (Or.inl (by decide))) (qm_gk g4783 (by decide) (Or.inl (by decide))) (qm_gk g4784 (by decide) (Or.inl (by decide))) (qm_gk g4785 (by decide) (Or.inr rfl)) (qm_ge _ _ _) (qm_gk g4788 (by decide) (Or.inl (by decide))) (qm_gk g4789 (by decide) (Or.inl (by decide))) (by omega)
        exact hL4794 ((32 - (u4672 + 1) + 1 : Int)).toNat _ u4670 (u4672 + 1) (by omega) (qm_gk g4665 (by decide) (Or.inl (by decide))) (qm_gk g4666 (by decide) (Or.inl (by decide))) (qm_gk g4667 (by decide) (Or.inl (by decide))) (qm_gk g4668 (by decide) (Or.inl (by decide))) (qm_gk g4669 (by decide) (Or.inl (by decide))) (qm_gk g4671 (by decide) (Or.inr rfl)) (qm_ge _ _ _) hf4673 (by omega) (by omega)
  exact hL4675 ((32 - 0 + 1 : Int)).toNat _ 0 0 (by omega) rfl rfl rfl rfl rfl rfl (by decide) (by decide)

set_option maxHeartbeats 4000000 in
set_option maxRecDepth 20000 in
/-- OneRoof$Feuds.pairsAt -/
theorem sf_142_27_25 {L : Nat} {xs : Nat → Int} {vb : Bool} {d : Nat} {σ α : Nat → Nat → Int} {κ : Nat → Option Nat} {ρ : Nat} {x1 : Int} {x3 : Int} (hI : qI σ α κ ρ) (r1 : (-2147483648) ≤ x1 ∧ x1 ≤ 2147483647) (r3 : 0 ≤ x3 ∧ x3 ≤ 32) : qm_T (qe L xs vb) (d + 3) 142 [.ref 27, .int (qz x1), .ref 25, .int (qz x3)] (qw σ α κ ρ) (fun r w' => w' = qw σ α κ ρ ∧ ∃ v : Int, r = some (.int (qz v)) ∧ ((-2147483648) ≤ v ∧ v ≤ 2147483647)) := by
  refine qr_start (d := d + 2) qv_e142 (Nat.le_of_ble_eq_true rfl) ?_
  show qr_W (qe L xs vb) (d + 2) qx_e142 _ (0, [(0, .ref 27), (1, .int (qz x1)), (2, .ref 25), (3, .int (qz x3))], [], _, 0, 0)
  refine qr_iconst 1 rfl rfl ?_
  refine qr_istore _ 3 rfl (by decide) rfl rfl ?_
  refine qr_iconst 4 rfl rfl ?_
  refine qr_istore _ 6 rfl (by decide) rfl rfl ?_
  have hL4675 : ∀ (n : Nat) (ls : qm_L) (u4670 u4672 : Int), 32 - u4672 < (n : Int) → qm_get ls 0 = some (.ref 27) → qm_get ls 1 = some (.int (qz x1)) → qm_get ls 2 = some (.ref 25) → qm_get ls 3 = some (.int (qz x3)) → qm_get ls 4 = some (.int (qz u4670)) → qm_get ls 5 = some (.int (qz u4672)) → ((-2147483648) ≤ u4670 ∧ u4670 ≤ 2147483647) → (0 ≤ u4672 ∧ u4672 ≤ 32) → qr_W (qe L xs vb) (d + 2) qx_e142 (fun r w' => w' = qw σ α κ ρ ∧ ∃ v : Int, r = some (.int (qz v)) ∧ ((-2147483648) ≤ v ∧ v ≤ 2147483647)) (6, ls, [], qw σ α κ ρ, 0, 0) := by
    intro n
    induction n with
    | zero => intro ls u4670 u4672 hm g4665 g4666 g4667 g4668 g4669 g4671 hf4673 hf4674; exact False.elim (by omega)
    | succ n ih4676 =>
      intro ls u4670 u4672 hm g4665 g4666 g4667 g4668 g4669 g4671 hf4673 hf4674
      refine qr_iload 8 rfl g4671 rfl ?_
      refine qr_iload_n 9 rfl g4668 rfl ?_
      refine qr_icmp_ge 55 12 rfl rfl rfl (qrg hf4674 (by decide) (by decide)) (qrg r3 (by decide) (by decide)) (fun h4677 => ?_) (fun h4677 => ?_)
      · skip
        refine qr_iload 57 rfl g4669 rfl ?_
        refine qr_retI rfl rfl (by decide) (by decide) ?_
        exact ⟨rfl, u4670, rfl, hf4673⟩
      · skip
        refine qr_iload 14 rfl g4671 rfl ?_
        refine qr_iconst 15 rfl rfl ?_
        refine qr_iadd 16 rfl rfl ?_
        refine qr_istore _ 18 rfl (by decide) rfl rfl ?_
        have hL4794 : ∀ (n : Nat) (ls : qm_L) (u4787 u4790 : Int), 32 - u4790 < (n : Int) → qm_get ls 0 = some (.ref 27) → qm_get ls 1 = some (.int (qz x1)) → qm_get ls 2 = some (.ref 25) → qm_get ls 3 = some (.int (qz x3)) → qm_get ls 4 = some (.int (qz u4787)) → qm_get ls 5 = some (.int (qz u4672)) → qm_get ls 6 = some (.int (qz u4790)) → ((-2147483648) ≤ u4787 ∧ u4787 ≤ 2147483647) → (1 ≤ u4790 ∧ u4790 ≤ 32) → (u4672 + 1) ≤ u4790 → qr_W (qe L xs vb) (d + 2) qx_e142 (fun r w' => w' = qw σ α κ ρ ∧ ∃ v : Int, r = some (.int (qz v)) ∧ ((-2147483648) ≤ v ∧ v ≤ 2147483647)) (18, ls, [], qw σ α κ ρ, 0, 0) := by
          intro n
          induction n with
          | zero => intro ls u4787 u4790 hm g4782 g4783 g4784 g4785 g4786 g4788 g4789 hf4791 hf4792 hx4793; exact False.elim (by omega)
          | succ n ih4795 =>
            intro ls u4787 u4790 hm g4782 g4783 g4784 g4785 g4786 g4788 g4789 hf4791 hf4792 hx4793
            refine qr_iload 20 rfl g4789 rfl ?_
            refine qr_iload_n 21 rfl g4785 rfl ?_
            refine qr_icmp_ge 49 24 rfl rfl rfl (qrg hf4792 (by decide) (by decide)) (qrg r3 (by decide) (by decide)) (fun h4807 => ?_) (fun h4807 => ?_)
            · skip
              refine qr_iinc _ 52 rfl g4788 (by decide) rfl rfl ?_
              refine qr_goto 6 rfl rfl ?_
              exact ih4676 _ u4787 (u4672 + 1) (by omega) (qm_gk g4782 (by decide) (Or.inl (by decide))) (qm_gk g4783 (by decide) (Or.inl (by decide))) (qm_gk g4784 (by decide) (Or.inl (by decide))) (qm_gk g4785 (by decide) (Or.inl (by decide))) (qm_gk g4786 (by decide) (Or.inr rfl)) (qm_ge _ _ _) hf4791 (by omega)
            · skip
              refine qr_aload_n 25 rfl g4782 rfl ?_
              refine qr_iload 27 rfl g4788 rfl ?_
              refine qr_iload 29 rfl g4789 rfl ?_
              refine qr_iload_n 30 rfl g4783 rfl ?_
              refine qr_aload_n 31 rfl g4784 rfl ?_
              refine qr_callN 34 rfl rfl rfl (sf_66_27_25 (d := d + 0) hI (by omega) (by omega) r1) ?_
              rintro _ _ ⟨rfl, v4808, rfl, hv4808⟩
              show qr_W (qe L xs vb) (d + 2) qx_e142 _ (34, _, [.int (qz v4808)], qw σ α κ ρ, 0, 0)
              refine qr_sipush 37 rfl (by decide) rfl ?_
              have hJ4819 : ∀ (ls : qm_L) (u4815 : Int), qm_get ls 0 = some (.ref 27) → qm_get ls 1 = some (.int (qz x1)) → qm_get ls 2 = some (.ref 25) → qm_get ls 3 = some (.int (qz x3)) → qm_get ls 4 = some (.int (qz u4815)) → qm_get ls 5 = some (.int (qz u4672)) → qm_get ls 6 = some (.int (qz u4790)) → ((-2147483648) ≤ u4815 ∧ u4815 ≤ 2147483647) → qr_W (qe L xs vb) (d + 2) qx_e142 (fun r w' => w' = qw σ α κ ρ ∧ ∃ v : Int, r = some (.int (qz v)) ∧ ((-2147483648) ≤ v ∧ v ≤ 2147483647)) (43, ls, [], qw σ α κ ρ, 0, 0) := by
                intro ls u4815 g4810 g4811 g4812 g4813 g4814 g4816 g4817 hf4818
                refine qr_iinc _ 46 rfl g4817 (by decide) rfl rfl ?_
                refine qr_goto 18 rfl rfl ?_
                exact ih4795 _ u4815 (u4790 + 1) (by omega) (qm_gk g4810 (by decide) (Or.inl (by decide))) (qm_gk g4811 (by decide) (Or.inl (by decide))) (qm_gk g4812 (by decide) (Or.inl (by decide))) (qm_gk g4813 (by decide) (Or.inl (by decide))) (qm_gk g4814 (by decide) (Or.inl (by decide))) (qm_gk g4816 (by decide) (Or.inr rfl)) (qm_ge _ _ _) hf4818 (by omega) (by omega)
              refine qr_icmp_ge 43 40 rfl rfl rfl (qrg hv4808 (by decide) (by decide)) (by decide) (fun h4820 => ?_) (fun h4820 => ?_)
              · skip
                exact hJ4819 _ u4787 g4782 g4783 g4784 g4785 g4786 g4788 g4789 hf4791
              · skip
                refine qy_iincC 43 rfl g4786 (by decide) rfl (fun v4821 hv4821 => ?_)
                exact hJ4819 _ v4821 (qm_gk g4782 (by decide) (Or.inl (by decide))) (qm_gk g4783 (by decide) (Or.inl (by decide))) (qm_gk g4784 (by decide) (Or.inl (by decide))) (qm_gk g4785 (by decide) (Or.inr rfl)) (qm_ge _ _ _) (qm_gk g4788 (by decide) (Or.inl (by decide))) (qm_gk g4789 (by decide) (Or.inl (by decide))) (by omega)
        exact hL4794 ((32 - (u4672 + 1) + 1 : Int)).toNat _ u4670 (u4672 + 1) (by omega) (qm_gk g4665 (by decide) (Or.inl (by decide))) (qm_gk g4666 (by decide) (Or.inl (by decide))) (qm_gk g4667 (by decide) (Or.inl (by decide))) (qm_gk g4668 (by decide) (Or.inl (by decide))) (qm_gk g4669 (by decide) (Or.inl (by decide))) (qm_gk g4671 (by decide) (Or.inr rfl)) (qm_ge _ _ _) hf4673 (by omega) (by omega)
  exact hL4675 ((32 - 0 + 1 : Int)).toNat _ 0 0 (by omega) rfl rfl rfl rfl rfl rfl (by decide) (by decide)

set_option maxHeartbeats 4000000 in
set_option maxRecDepth 20000 in
/-- OneRoof$Peaces.has -/
theorem sf_73_34 {L : Nat} {xs : Nat → Int} {vb : Bool} {d : Nat} {σ α : Nat → Nat → Int} {κ : Nat → Option Nat} {ρ : Nat} {x1 : Int} (hI : qI σ α κ ρ) (r1 : (-2147483648) ≤ x1 ∧ x1 ≤ 2147483647) : qm_T (qe L xs vb) (d + 1) 73 [.ref 34, .int (qz x1)] (qw σ α κ ρ) (fun r w' => w' = qw σ α κ ρ ∧ ∃ v : Int, r = some (.int (qz v)) ∧ (0 ≤ v ∧ v ≤ 1) ∧ (σ 34 7 ≤ 60 ∧ ((v = 1 ∧ 0 ≤ x1 ∧ x1 < σ 34 7) ∨ (v = 0 ∧ ¬ (0 ≤ x1 ∧ x1 < σ 34 7))))) := by
  refine qr_start (d := d + 0) qv_e73 (Nat.le_of_ble_eq_true rfl) ?_
  show qr_W (qe L xs vb) (d + 0) qx_e73 _ (0, [(0, .ref 34), (1, .int (qz x1))], [], _, 0, 0)
  have hz34_7 : 0 ≤ σ 34 7 ∧ σ 34 7 ≤ 60 := hI.1 34 7
  refine qr_iload_n 1 rfl rfl rfl ?_
  refine qr_if_lt 16 4 rfl rfl rfl r1 (fun h1 => ?_) (fun h1 => ?_)
  · skip
    refine qr_iconst 17 rfl rfl ?_
    refine qr_retZ rfl rfl (Or.inl rfl) (by decide) (by decide) ?_
    exact ⟨rfl, 0, rfl, (by decide), by omega⟩
  · skip
    refine qr_iload_n 5 rfl rfl rfl ?_
    refine qr_aload_n 6 rfl rfl rfl ?_
    refine qr_get 9 rfl rfl rfl (by decide) rfl ?_
    refine qr_icmp_ge 16 12 rfl rfl rfl r1 (qrg hz34_7 (by decide) (by decide)) (fun h2 => ?_) (fun h2 => ?_)
    · skip
      refine qr_iconst 17 rfl rfl ?_
      refine qr_retZ rfl rfl (Or.inl rfl) (by decide) (by decide) ?_
      exact ⟨rfl, 0, rfl, (by decide), by omega⟩
    · skip
      refine qr_iconst 13 rfl rfl ?_
      refine qr_goto 17 rfl rfl ?_
      refine qr_retZ rfl rfl (Or.inr rfl) (by decide) (by decide) ?_
      exact ⟨rfl, 1, rfl, (by decide), by omega⟩
end
