/-! steps between people: the kin as ties, the fewest ties from one to another one (99: more, or none) -/
def qAj (A B : Nat → Int) (m p q : Int) : Prop := ∃ k : Nat, (k : Int) < m ∧ ((A k = p ∧ B k = q) ∨ (A k = q ∧ B k = p))
def qWk (A B : Nat → Int) (m : Int) : Nat → Int → Int → Prop
  | 0, p, q => p = q
  | n + 1, p, q => ∃ r, qWk A B m n p r ∧ qAj A B m r q
/-- t is how far it is from p to q -/
def qDi (A B : Nat → Int) (m t p q : Int) : Prop := (0 ≤ t ∧ t ≤ 99) ∧ (t < 99 → qWk A B m t.toNat p q) ∧ ∀ n : Nat, qWk A B m n p q → t ≤ (n : Int)
theorem qAj_sym {A B : Nat → Int} {m p q : Int} (h : qAj A B m p q) : qAj A B m q p := by
  obtain ⟨k, h1, h2⟩ := h
  exact ⟨k, h1, h2.symm⟩
theorem qWk_cat {A B : Nat → Int} {m p r : Int} {n : Nat} (h : qWk A B m n p r) : ∀ {k : Nat} {q : Int}, qWk A B m k r q → qWk A B m (n + k) p q
  | 0, q, h2 => by
    have e : r = q := h2
    subst e
    exact h
  | k + 1, q, h2 => by
    obtain ⟨s, h3, h4⟩ := h2
    exact ⟨s, qWk_cat h h3, h4⟩
theorem qWk_one {A B : Nat → Int} {m p q : Int} (h : qAj A B m p q) : qWk A B m 1 p q := ⟨p, rfl, h⟩
theorem qWk_rev {A B : Nat → Int} {m p : Int} : ∀ {n : Nat} {q : Int}, qWk A B m n p q → qWk A B m n q p
  | 0, q, h => Eq.symm (show p = q from h)
  | n + 1, q, h => by
    obtain ⟨r, h1, h2⟩ := h
    have h3 := qWk_cat (qWk_one (qAj_sym h2)) (qWk_rev h1)
    rw [Nat.add_comm] at h3
    exact h3
theorem qDi_step {A B : Nat → Int} {m t1 t2 p r q : Int} (h1 : qDi A B m t1 p r) (h2 : qDi A B m t2 p q) (ha : qAj A B m r q) : t2 ≤ t1 + 1 := by
  by_cases e : t1 < 99
  · have h3 := h2.2.2 (t1.toNat + 1) ⟨r, h1.2.1 e, ha⟩
    have h4 := h1.1
    omega
  · have h3 := h2.1
    omega
theorem qDi_un {A B : Nat → Int} {m t1 t2 p q : Int} (h1 : qDi A B m t1 p q) (h2 : qDi A B m t2 p q) : t1 = t2 := by
  have h3 := h1.1
  have h4 := h2.1
  by_cases e1 : t1 < 99
  · have h5 := h2.2.2 _ (h1.2.1 e1)
    have h6 := h1.2.2 _ (h2.2.1 (by omega))
    omega
  · by_cases e2 : t2 < 99
    · have h5 := h1.2.2 _ (h2.2.1 e2)
      omega
    · omega
theorem qDi_self {A B : Nat → Int} {m t p : Int} (h : qDi A B m t p p) : t = 0 := by
  have h1 := h.2.2 0 rfl
  have h2 := h.1
  omega
/-- one without ties goes nowhere -/
theorem qWk_iso {A B : Nat → Int} {m p : Int} (hp : ∀ q, ¬ qAj A B m p q) : ∀ {n : Nat} {q : Int}, qWk A B m n p q → p = q
  | 0, q, h => h
  | n + 1, q, h => by
    obtain ⟨r, h1, h2⟩ := h
    have e := qWk_iso hp h1
    subst e
    exact absurd h2 (hp q)
/-- one tie more -/
def qAk (A : Nat → Int) (m a : Int) : Nat → Int := qzu A m.toNat a
theorem qAj_old {A B : Nat → Int} {m a b p q : Int} (hm : 0 ≤ m) (h : qAj A B m p q) : qAj (qAk A m a) (qAk B m b) (m + 1) p q := by
  obtain ⟨k, h1, h2⟩ := h
  refine ⟨k, by omega, ?_⟩
  unfold qAk qzu
  rw [if_neg (by omega), if_neg (by omega)]
  exact h2
theorem qAj_new {A B : Nat → Int} {m a b : Int} (hm : 0 ≤ m) : qAj (qAk A m a) (qAk B m b) (m + 1) a b := by
  refine ⟨m.toNat, by omega, ?_⟩
  unfold qAk qzu
  rw [if_pos rfl, if_pos rfl]
  exact Or.inl ⟨rfl, rfl⟩
theorem qAj_inv {A B : Nat → Int} {m a b p q : Int} (h : qAj (qAk A m a) (qAk B m b) (m + 1) p q) : qAj A B m p q ∨ (p = a ∧ q = b) ∨ (p = b ∧ q = a) := by
  obtain ⟨k, h1, h2⟩ := h
  by_cases e : k = m.toNat
  · unfold qAk qzu at h2
    rw [if_pos e, if_pos e] at h2
    omega
  · unfold qAk qzu at h2
    rw [if_neg e, if_neg e] at h2
    exact Or.inl ⟨k, by omega, h2⟩
theorem qWk_old {A B : Nat → Int} {m a b p : Int} (hm : 0 ≤ m) : ∀ {n : Nat} {q : Int}, qWk A B m n p q → qWk (qAk A m a) (qAk B m b) (m + 1) n p q
  | 0, q, h => h
  | n + 1, q, h => by
    obtain ⟨r, h1, h2⟩ := h
    exact ⟨r, qWk_old hm h1, qAj_old hm h2⟩
/-- a table that is right stays right, if each way is no longer than the one before and than the ones over the new tie, and each is a way -/
theorem qDi_join {A B : Nat → Int} {m a b : Int} {T U : Int → Int → Int} (hm : 0 ≤ m) (ha : 0 ≤ a ∧ a < 32) (hb : 0 ≤ b ∧ b < 32)
    (hR : ∀ p q, qAj A B m p q → (0 ≤ q ∧ q < 32))
    (hT : ∀ x y, (0 ≤ x ∧ x < 32) → (0 ≤ y ∧ y < 32) → qDi A B m (T x y) x y)
    (h1 : ∀ x y, (0 ≤ x ∧ x < 32) → (0 ≤ y ∧ y < 32) → U x y ≤ T x y)
    (h2 : ∀ x y, (0 ≤ x ∧ x < 32) → (0 ≤ y ∧ y < 32) → 0 ≤ U x y ∧ (U x y < 99 → qWk (qAk A m a) (qAk B m b) (m + 1) (U x y).toNat x y))
    (h3 : ∀ x y, (0 ≤ x ∧ x < 32) → (0 ≤ y ∧ y < 32) → U x y ≤ T x a + T b y + 1 ∧ U x y ≤ T x b + T a y + 1) :
    ∀ x y, (0 ≤ x ∧ x < 32) → (0 ≤ y ∧ y < 32) → qDi (qAk A m a) (qAk B m b) (m + 1) (U x y) x y := by
  have key : ∀ (n : Nat) (x y : Int), (0 ≤ x ∧ x < 32) → qWk (qAk A m a) (qAk B m b) (m + 1) n x y → (0 ≤ y ∧ y < 32) ∧ (T x y ≤ (n : Int) ∨ T x a + T b y + 1 ≤ (n : Int) ∨ T x b + T a y + 1 ≤ (n : Int)) := by
    intro n
    induction n with
    | zero =>
      intro x y hx h
      have e : x = y := h
      subst e
      exact ⟨hx, Or.inl (by have := qDi_self (hT x x hx hx); omega)⟩
    | succ n ih =>
      intro x y hx h
      obtain ⟨r, h4, h5⟩ := h
      obtain ⟨hr, h6⟩ := ih x r hx h4
      have aa := qDi_self (hT a a ha ha)
      have bb := qDi_self (hT b b hb hb)
      have ab := (hT a b ha hb).1
      have ba := (hT b a hb ha).1
      rcases qAj_inv h5 with h7 | ⟨rfl, rfl⟩ | ⟨rfl, rfl⟩
      · have hy := hR _ _ h7
        refine ⟨hy, ?_⟩
        have s1 := qDi_step (hT x r hx hr) (hT x y hx hy) h7
        have s2 := qDi_step (hT b r hb hr) (hT b y hb hy) h7
        have s3 := qDi_step (hT a r ha hr) (hT a y ha hy) h7
        omega
      · exact ⟨hb, by omega⟩
      · exact ⟨ha, by omega⟩
  intro x y hx hy
  have hU := h2 x y hx hy
  have hL := h1 x y hx hy
  have hV := h3 x y hx hy
  have hT2 := (hT x y hx hy).1
  refine ⟨by omega, hU.2, fun n hn => ?_⟩
  have h4 := (key n x y hx hn).2
  omega
