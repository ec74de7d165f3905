/-! steps between people: the kin as ties, the fewest ties from one to another one (99: more, or none) -/
def qAj (A B : Nat → Int) (m p q : Int) : Prop := ∃ k : Nat, (k : Int) < m ∧ ((A k = p ∧ B k = q) ∨ (A k = q ∧ B k = p))
def qWk (A B : Nat → Int) (m : Int) : Nat → Int → Int → Prop
  | 0, p, q => p = q
  | n + 1, p, q => ∃ r, qWk A B m n p r ∧ qAj A B m r q
/-- t is how far it is from p to q -/
def qDi (A B : Nat → Int) (m t p q : Int) : Prop := (0 ≤ t ∧ t ≤ 99) ∧ (t < 99 → qWk A B m t.toNat p q) ∧ ∀ n : Nat, qWk A B m n p q → t ≤ (n : Int)
def qTb (f : Nat → Int) (x y : Int) : Int := f (x * 32 + y).toNat
theorem qTb_u {g : Nat → Int} {i j v : Int} {k : Nat} (hk : k = (i * 32 + j : Int).toNat) (hi : 0 ≤ i ∧ i < 32) (hj : 0 ≤ j ∧ j < 32) {x y : Int} (hx : 0 ≤ x) (hy : 0 ≤ y ∧ y < 32) : qTb (qzu g k v) x y = if x = i ∧ y = j then v else qTb g x y := by
  unfold qTb qzu
  by_cases e : x = i ∧ y = j
  · rw [if_pos e, if_pos (by omega)]
  · rw [if_neg e, if_neg (by omega)]
/-! the reference's own way to find steps: ties gone over till nothing gets nearer -/
def qC1 (P : Int → Int → Int → Prop) (n p q : Int) : Prop := ∀ t r : Int, (0 ≤ r ∧ r < n) → P t r p → P (t + 1) r q
def qNr (P : Int → Int → Int → Prop) (f g : Nat → Int) (n p q u more : Int) : Prop := (∀ x y : Int, (0 ≤ x ∧ x < n) → (0 ≤ y ∧ y < n) → qTb g x y ≤ qTb f x y) ∧ (∀ x y : Int, (0 ≤ x ∧ x < n) → (0 ≤ y ∧ y < n) → P (qTb g x y) x y) ∧ (∀ x : Int, (0 ≤ x ∧ x < u) → qTb g x q ≤ qTb g x p + 1) ∧ (more = 0 → g = f)
theorem qNr_0 {P : Int → Int → Int → Prop} {f : Nat → Int} {n p q : Int} (h : ∀ x y : Int, (0 ≤ x ∧ x < n) → (0 ≤ y ∧ y < n) → P (qTb f x y) x y) : qNr P f f n p q 0 0 :=
  ⟨fun _ _ _ _ => Int.le_refl _, h, fun x hx => False.elim (by omega), fun _ => rfl⟩
theorem qNr_end {P : Int → Int → Int → Prop} {f g : Nat → Int} {n p q u more : Int} (h : qNr P f g n p q u more) (hu : n ≤ u) : qNr P f g n p q n more :=
  ⟨h.1, h.2.1, fun x hx => h.2.2.1 x (by omega), h.2.2.2⟩
theorem qNr_skip {P : Int → Int → Int → Prop} {f g : Nat → Int} {n p q u more t1 t2 : Int} (h : qNr P f g n p q u more) (e1 : t1 = qTb g u p) (e2 : t2 = qTb g u q) (hl : t2 ≤ t1 + 1) : qNr P f g n p q (u + 1) more := by
  refine ⟨h.1, h.2.1, fun x hx => ?_, h.2.2.2⟩
  by_cases e : x = u
  · subst e
    omega
  · exact h.2.2.1 x (by omega)
theorem qNr_set {P : Int → Int → Int → Prop} {f g : Nat → Int} {n p q u more t1 t2 : Int} {k : Nat} (h : qNr P f g n p q u more) (cl : qC1 P n p q) (hn : n ≤ 32) (hu : 0 ≤ u ∧ u < n) (hp : 0 ≤ p ∧ p < n) (hq : 0 ≤ q ∧ q < n) (hk : k = (u * 32 + q : Int).toNat) (e1 : t1 = qTb g u p) (e2 : t2 = qTb g u q) (hl : t1 + 1 < t2) : qNr P f (qzu g k (t1 + 1)) n p q (u + 1) 1 := by
  have hq2 : 0 ≤ q ∧ q < 32 := by omega
  have hu2 : 0 ≤ u ∧ u < 32 := by omega
  have hpq : ¬ p = q := fun e => by
    subst e
    omega
  refine ⟨fun x y hx hy => ?_, fun x y hx hy => ?_, fun x hx => ?_, fun h0 => absurd h0 (by decide)⟩
  · rw [qTb_u hk hu2 hq2 hx.1 (by omega)]
    split
    · next e =>
      obtain ⟨rfl, rfl⟩ := e
      have h1 := h.1 x y hx hy
      omega
    · exact h.1 x y hx hy
  · rw [qTb_u hk hu2 hq2 hx.1 (by omega)]
    split
    · next e =>
      obtain ⟨rfl, rfl⟩ := e
      rw [e1]
      exact cl _ x hx (h.2.1 x p hx hp)
    · exact h.2.1 x y hx hy
  · have a1 := qTb_u (g := g) (v := t1 + 1) hk hu2 hq2 (x := x) (y := q) hx.1 hq2
    have a2 := qTb_u (g := g) (v := t1 + 1) hk hu2 hq2 (x := x) (y := p) hx.1 (by omega)
    rw [if_neg (fun e => hpq e.2)] at a2
    rw [a1, a2]
    by_cases e : x = u
    · rw [if_pos ⟨e, rfl⟩, e]
      omega
    · rw [if_neg (fun e2 => e e2.1)]
      exact h.2.2.1 x (by omega)
theorem qTb_c {f : Nat → Int} {v x y : Int} (h : v = f (32 * x + y : Int).toNat) : v = qTb f x y := by
  rw [h]
  unfold qTb
  congr 2
  omega
/-- the table as it is begun: places (x, y) ahead of (i, j) -/
def qFi (g : Nat → Int) (n i j : Int) : Prop := ∀ x y : Int, (0 ≤ x ∧ x < n) → (0 ≤ y ∧ y < n) → (x < i ∨ (x = i ∧ y < j)) → qTb g x y = if x = y then 0 else 99
theorem qFi_0 {g : Nat → Int} {n : Int} : qFi g n 0 0 := fun x y hx hy hp => False.elim (by omega)
theorem qFi_row {g : Nat → Int} {n i j : Int} (h : qFi g n i j) (hj : n ≤ j) : qFi g n (i + 1) 0 := fun x y hx hy hp => h x y hx hy (by omega)
theorem qFi_set {g : Nat → Int} {n i j v : Int} {k : Nat} (h : qFi g n i j) (hn : n ≤ 32) (hi : 0 ≤ i ∧ i < n) (hj : 0 ≤ j ∧ j < n) (hk : k = (i * 32 + j : Int).toNat) (hv : v = if i = j then 0 else 99) : qFi (qzu g k v) n i (j + 1) := by
  intro x y hx hy hp
  rw [qTb_u hk (by omega) (by omega) hx.1 (by omega)]
  split
  · next e =>
    obtain ⟨rfl, rfl⟩ := e
    exact hv
  · exact h x y hx hy (by omega)
/-- no tie brings anything nearer -/
def qFx (g : Nat → Int) (n p q : Int) : Prop := ∀ x : Int, (0 ≤ x ∧ x < n) → qTb g x q ≤ qTb g x p + 1 ∧ qTb g x p ≤ qTb g x q + 1
/-- while ties are gone over: k of them so far, more: whether anything got nearer -/
def qWh (P : Int → Int → Int → Prop) (g A B : Nat → Int) (n k more : Int) : Prop := (∀ x y : Int, (0 ≤ x ∧ x < n) → (0 ≤ y ∧ y < n) → P (qTb g x y) x y) ∧ (∀ x : Int, (0 ≤ x ∧ x < n) → qTb g x x ≤ 0) ∧ (more = 0 → ∀ j : Nat, (j : Int) < k → qFx g n (A j) (B j))
theorem qWh_0 {P : Int → Int → Int → Prop} {g A B : Nat → Int} {n k m m2 : Int} (h : qWh P g A B n k m) : qWh P g A B n 0 m2 := ⟨h.1, h.2.1, fun _ j hj => False.elim (by omega)⟩
theorem qWh_i {P : Int → Int → Int → Prop} {g A B : Nat → Int} {n i m : Int} (h : qFi g n i 0) (hi : n ≤ i) (p1 : ∀ x, P 0 x x) (p2 : ∀ x y, P 99 x y) : qWh P g A B n 0 m := by
  refine ⟨fun x y hx hy => ?_, fun x hx => ?_, fun _ j hj => False.elim (by omega)⟩
  · rw [h x y hx hy (by omega)]
    split
    · next e => subst e; exact p1 x
    · exact p2 x y
  · rw [h x x hx hx (by omega), if_pos rfl]
    exact Int.le_refl _
theorem qWh_s {P : Int → Int → Int → Prop} {g g1 g2 A B : Nat → Int} {n k m p q p2 q2 v w m2 : Int} (h : qWh P g A B n k m) (h1 : qNr P g g1 n p q n v) (h2 : qNr P g1 g2 n q2 p2 n w) (ep : p = A k.toNat) (eq : q = B k.toNat) (ep2 : p2 = A k.toNat) (eq2 : q2 = B k.toNat) (hk : 0 ≤ k) (hm : m2 = 0 → m = 0 ∧ v = 0 ∧ w = 0) : qWh P g2 A B n (k + 1) m2 := by
  rw [eq2, ep2, ← ep, ← eq] at h2
  refine ⟨h2.2.1, fun x hx => ?_, fun h0 j hj => ?_⟩
  · have a1 := h2.1 x x hx hx
    have a2 := h1.1 x x hx hx
    have a3 := h.2.1 x hx
    omega
  · obtain ⟨b1, b2, b3⟩ := hm h0
    have e1 := h1.2.2.2 b2
    have e2 := h2.2.2.2 b3
    by_cases e : j = k.toNat
    · subst e
      intro x hx
      rw [← ep, ← eq]
      have c1 := h1.2.2.1 x hx
      have c2 := h2.2.2.1 x hx
      rw [e2] at c2
      rw [e2]
      exact ⟨c1, c2⟩
    · have c := h.2.2 b1 j (by omega)
      rw [e2, e1]
      exact c
/-- a table at rest is right -/
theorem qDi_rest {A B : Nat → Int} {m n : Int} {g : Nat → Int} (hE : ∀ j : Nat, (j : Int) < m → (0 ≤ A j ∧ A j < n) ∧ (0 ≤ B j ∧ B j < n)) (hr : ∀ x y : Int, (0 ≤ x ∧ x < n) → (0 ≤ y ∧ y < n) → qTb g x y ≤ 99) (h : qWh (fun t x y => 0 ≤ t ∧ (t < 99 → qWk A B m t.toNat x y)) g A B n m 0) : ∀ x y : Int, (0 ≤ x ∧ x < n) → (0 ≤ y ∧ y < n) → qDi A B m (qTb g x y) x y := by
  have key : ∀ (k : Nat) (x y : Int), (0 ≤ x ∧ x < n) → qWk A B m k x y → (0 ≤ y ∧ y < n) ∧ qTb g x y ≤ (k : Int) := by
    intro k
    induction k with
    | zero =>
      intro x y hx hw
      have e : x = y := hw
      subst e
      exact ⟨hx, h.2.1 x hx⟩
    | succ k ih =>
      intro x y hx hw
      obtain ⟨r, h1, j, hj, h2⟩ := hw
      obtain ⟨hr2, h3⟩ := ih x r hx h1
      have f := h.2.2 rfl j hj x hx
      have e2 := hE j hj
      rcases h2 with ⟨rfl, rfl⟩ | ⟨rfl, rfl⟩
      · exact ⟨e2.2, by omega⟩
      · exact ⟨e2.1, by omega⟩
  intro x y hx hy
  have hp := h.1 x y hx hy
  exact ⟨⟨hp.1, hr x y hx hy⟩, hp.2, fun k hk => (key k x y hx hk).2⟩
theorem qAj_cg {A B A' B' : Nat → Int} {m p q : Int} (hA : ∀ k : Nat, (k : Int) < m → A' k = A k) (hB : ∀ k : Nat, (k : Int) < m → B' k = B k) (h : qAj A B m p q) : qAj A' B' m p q := by
  obtain ⟨k, h1, h2⟩ := h
  refine ⟨k, h1, ?_⟩
  rw [hA k h1, hB k h1]
  exact h2
theorem qWk_cg {A B A' B' : Nat → Int} {m p : Int} (hA : ∀ k : Nat, (k : Int) < m → A' k = A k) (hB : ∀ k : Nat, (k : Int) < m → B' k = B k) : ∀ {n : Nat} {q : Int}, qWk A B m n p q → qWk A' B' m n p q
  | 0, q, h => h
  | n + 1, q, h => by
    obtain ⟨r, h1, h2⟩ := h
    exact ⟨r, qWk_cg hA hB h1, qAj_cg hA hB h2⟩
theorem qDi_cg {A B A' B' : Nat → Int} {m t p q : Int} (hA : ∀ k : Nat, (k : Int) < m → A' k = A k) (hB : ∀ k : Nat, (k : Int) < m → B' k = B k) (h : qDi A B m t p q) : qDi A' B' m t p q :=
  ⟨h.1, fun hl => qWk_cg hA hB (h.2.1 hl), fun n hw => h.2.2 n (qWk_cg (fun k hk => (hA k hk).symm) (fun k hk => (hB k hk).symm) hw)⟩
/-- what the reference's table says of a number: it is a way, if it is less than 99 -/
def qPw (A B : Nat → Int) (m t x y : Int) : Prop := 0 ≤ t ∧ (t < 99 → qWk A B m t.toNat x y)
theorem qPw_c1 {A B : Nat → Int} {m n p q : Int} (h : qAj A B m p q) : qC1 (qPw A B m) n p q := by
  rintro t r hr ⟨h1, h2⟩
  refine ⟨by omega, fun hl => ?_⟩
  rw [show (t + 1).toNat = t.toNat + 1 by omega]
  exact ⟨p, h2 (by omega), h⟩
