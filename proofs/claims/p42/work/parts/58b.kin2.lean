/-! the ties both sides hold alike: how many, who they tie, and that the class's table is right -/
def qE (σ α : Nat → Nat → Int) : Prop := ∀ j : Nat, (j : Int) < σ 86 11 → (0 ≤ α 94 j ∧ α 94 j < σ 86 6) ∧ (0 ≤ α 95 j ∧ α 95 j < σ 86 6)
def qR2 (σ α : Nat → Nat → Int) : Prop := σ 23 1 = σ 86 11 ∧ qE σ α ∧ ∀ x y : Int, (0 ≤ x ∧ x < 32) → (0 ≤ y ∧ y < 32) → qDi (α 94) (α 95) (σ 86 11) (qTb (α 24) x y) x y
def qPn (A B : Nat → Int) (m a b t x y : Int) : Prop := 0 ≤ t ∧ (t < 99 → qWk (qAk A m a) (qAk B m b) (m + 1) t.toNat x y)
theorem qDi_adj {A B : Nat → Int} {m t p q : Int} (h : qDi A B m t p q) (hpq : ¬ p = q) : t = 1 ↔ qAj A B m p q := by
  constructor
  · intro e
    subst e
    obtain ⟨r, h1, h2⟩ := h.2.1 (by decide)
    have e2 : p = r := h1
    subst e2
    exact h2
  · intro ha
    have h1 := h.2.2 1 (qWk_one ha)
    have h0 := h.1
    by_cases e : t = 0
    · subst e
      exact absurd (show p = q from h.2.1 (by decide)) hpq
    · omega
theorem qPn_cl {A B : Nat → Int} {m a b : Int} (hm : 0 ≤ m) : qCl (qPn A B m a b) a b := by
  intro t1 t2 x y hx hy
  constructor
  · rintro ⟨h1, h2⟩ ⟨h3, h4⟩
    refine ⟨by omega, fun hl => ?_⟩
    have w := qWk_cat (qWk_cat (h2 (by omega)) (qWk_one (qAj_new (A := A) (B := B) (a := a) (b := b) hm))) (h4 (by omega))
    rw [show (t1 + t2 + 1).toNat = t1.toNat + 1 + t2.toNat by omega]
    exact w
  · rintro ⟨h1, h2⟩ ⟨h3, h4⟩
    refine ⟨by omega, fun hl => ?_⟩
    have w := qWk_cat (qWk_cat (h2 (by omega)) (qWk_one (qAj_sym (qAj_new (A := A) (B := B) (a := a) (b := b) hm)))) (h4 (by omega))
    rw [show (t1 + t2 + 1).toNat = t1.toNat + 1 + t2.toNat by omega]
    exact w
theorem qPn_0 {A B : Nat → Int} {m a b : Int} {f : Nat → Int} (hm : 0 ≤ m) (h : ∀ x y : Int, (0 ≤ x ∧ x < 32) → (0 ≤ y ∧ y < 32) → qDi A B m (qTb f x y) x y) : ∀ x y : Int, (0 ≤ x ∧ x < 32) → (0 ≤ y ∧ y < 32) → qPn A B m a b (qTb f x y) x y :=
  fun x y hx hy => ⟨(h x y hx hy).1.1, fun hl => qWk_old hm ((h x y hx hy).2.1 hl)⟩
theorem qDi_far {A B : Nat → Int} {m t p q n : Int} (hE : ∀ j : Nat, (j : Int) < m → (0 ≤ A j ∧ A j < n) ∧ (0 ≤ B j ∧ B j < n)) (h : qDi A B m t p q) (hp : n ≤ p) (hpq : ¬ p = q) : t = 99 := by
  by_cases e : t < 99
  · refine absurd (qWk_iso (fun r ha => ?_) (h.2.1 e)) hpq
    obtain ⟨k, h1, h2⟩ := ha
    have h3 := hE k h1
    omega
  · have := h.1
    omega
theorem qDi_rev {A B : Nat → Int} {m t p q : Int} (h : qDi A B m t p q) : qDi A B m t q p := ⟨h.1, fun hl => qWk_rev (h.2.1 hl), fun n hw => h.2.2 n (qWk_rev hw)⟩
theorem rl_join {A B f g : Nat → Int} {m a b n : Int} (hm : 0 ≤ m) (ha : 0 ≤ a ∧ a < n) (hb : 0 ≤ b ∧ b < n) (hn : n ≤ 32) (hE : ∀ j : Nat, (j : Int) < m → (0 ≤ A j ∧ A j < n) ∧ (0 ≤ B j ∧ B j < n)) (h : ∀ x y : Int, (0 ≤ x ∧ x < 32) → (0 ≤ y ∧ y < 32) → qDi A B m (qTb f x y) x y) (hj : qJn (qPn A B m a b) f g a b n n 0) : ∀ x y : Int, (0 ≤ x ∧ x < 32) → (0 ≤ y ∧ y < 32) → qDi (qAk A m a) (qAk B m b) (m + 1) (qTb g x y) x y := by
  refine qDi_join (T := fun x y => qTb f x y) (U := fun x y => qTb g x y) hm (by omega) (by omega) (fun p q hq => ?_) h hj.1 (fun x y hx hy => hj.2.1 x y hx hy) (fun x y hx hy => ?_)
  · obtain ⟨k, h1, h2⟩ := hq
    have h3 := hE k h1
    omega
  · show qTb g x y ≤ qTb f x a + qTb f b y + 1 ∧ qTb g x y ≤ qTb f x b + qTb f a y + 1
    by_cases e1 : x < n
    · by_cases e2 : y < n
      · exact hj.2.2 x y hx.1 ⟨hy.1, e2⟩ (Or.inl e1)
      · have f1 := qDi_far hE (qDi_rev (h b y (by omega) hy)) (by omega) (by omega)
        have f2 := qDi_far hE (qDi_rev (h a y (by omega) hy)) (by omega) (by omega)
        have l := hj.1 x y hx hy
        have u := (h x y hx hy).1
        have u1 := (h x a hx (by omega)).1
        have u2 := (h x b hx (by omega)).1
        omega
    · have f1 := qDi_far hE (h x a hx (by omega)) (by omega) (by omega)
      have f2 := qDi_far hE (h x b hx (by omega)) (by omega) (by omega)
      have l := hj.1 x y hx hy
      have u := (h x y hx hy).1
      have u1 := (h b y (by omega) hy).1
      have u2 := (h a y (by omega) hy).1
      omega
set_option maxHeartbeats 4000000 in
theorem rl_kin {σ α σ1 α1 σ2 α2 : Nat → Nat → Int} {κ : Nat → Option Nat} {ρ : Nat} {x1 x2 v1 v2 : Int} (hI : qI σ α κ ρ) (hk : σ 86 11 ≤ 60) (hR : qR σ α) (hR2 : qR2 σ α) (hG1 : qFr [(23, 1)] [24] σ α σ1 α1) (hG2 : qFr [(86, 11), (86, 15)] [94, 95] σ1 α1 σ2 α2) (hx : ((v1 = -1 ∧ ¬ ((0 ≤ x1 ∧ x1 < σ 17 6 ∧ 0 ≤ x2 ∧ x2 < σ 17 6 ∧ ¬ x1 = x2) ∧ ¬ α 24 (x1 * 32 + x2 : Int).toNat = 1) ∧ σ1 23 1 = σ 23 1) ∧ α1 24 = α 24) ∨ ((v1 = -3 ∧ ((0 ≤ x1 ∧ x1 < σ 17 6 ∧ 0 ≤ x2 ∧ x2 < σ 17 6 ∧ ¬ x1 = x2) ∧ ¬ α 24 (x1 * 32 + x2 : Int).toNat = 1) ∧ 60 ≤ σ 23 1 ∧ σ1 23 1 = σ 23 1) ∧ α1 24 = α 24) ∨ (((v1 = σ 23 1 + 1 ∧ ((0 ≤ x1 ∧ x1 < σ 17 6 ∧ 0 ≤ x2 ∧ x2 < σ 17 6 ∧ ¬ x1 = x2) ∧ ¬ α 24 (x1 * 32 + x2 : Int).toNat = 1) ∧ σ 23 1 < 60 ∧ σ1 23 1 = σ 23 1 + 1) ∧ qJn (qPn (α 94) (α 95) (σ 86 11) x1 x2) (α 24) (α1 24) x1 x2 (σ 17 6) (σ 17 6) 0))) (hy : (((v2 = -1 ∧ σ2 86 11 = σ1 86 11) ∧ ((0 ≤ x1 ∧ x1 < σ1 86 6 ∧ 0 ≤ x2 ∧ x2 < σ1 86 6 ∧ ¬ x1 = x2) → qAj (α1 94) (α1 95) (σ1 86 11) x1 x2)) ∧ α2 94 = α1 94 ∧ α2 95 = α1 95) ∨ (((v2 = -3 ∧ (0 ≤ x1 ∧ x1 < σ1 86 6 ∧ 0 ≤ x2 ∧ x2 < σ1 86 6 ∧ ¬ x1 = x2) ∧ 60 ≤ σ1 86 11 ∧ σ2 86 11 = σ1 86 11) ∧ ¬ qAj (α1 94) (α1 95) (σ1 86 11) x1 x2) ∧ α2 94 = α1 94 ∧ α2 95 = α1 95) ∨ (((v2 = σ1 86 11 + 1 ∧ (0 ≤ x1 ∧ x1 < σ1 86 6 ∧ 0 ≤ x2 ∧ x2 < σ1 86 6 ∧ ¬ x1 = x2) ∧ σ1 86 11 < 60 ∧ σ2 86 11 = σ1 86 11 + 1 ∧ σ2 86 15 = 0) ∧ ¬ qAj (α1 94) (α1 95) (σ1 86 11) x1 x2) ∧ α2 94 = qzu (α1 94) (v2 - 1 : Int).toNat (x1) ∧ α2 95 = qzu (α1 95) (v2 - 1 : Int).toNat (x2))) : v1 = v2 ∧ qR σ2 α2 ∧ qR2 σ2 α2 := by
  have hr := qR_fr hG2 (by decide) (by decide) (qR_fr hG1 (by decide) (by decide) hR)
  have hn := hI.1 86 11
  have hn0 : 0 ≤ σ 86 11 := hn.1
  have hp : 0 ≤ σ 86 6 ∧ σ 86 6 ≤ 32 := hI.1 86 6
  have hq : σ 17 6 = σ 86 6 := hR.1
  obtain ⟨r1, r2, r3⟩ := hR2
  have c6 := hG1.1 86 6 (by decide)
  have c11 := hG1.1 86 11 (by decide)
  have c94 := hG1.2 94 (by decide)
  have c95 := hG1.2 95 (by decide)
  have d6 := hG2.1 86 6 (by decide)
  have d23 := hG2.1 23 1 (by decide)
  have d24 := hG2.2 24 (by decide)
  rw [c94, c95, c11, c6] at hy
  have ad : (0 ≤ x1 ∧ x1 < σ 86 6 ∧ 0 ≤ x2 ∧ x2 < σ 86 6 ∧ ¬ x1 = x2) → (α 24 (x1 * 32 + x2 : Int).toNat = 1 ↔ qAj (α 94) (α 95) (σ 86 11) x1 x2) := fun h => qDi_adj (r3 x1 x2 (by omega) (by omega)) (by omega)
  have same : σ2 23 1 = σ 23 1 → σ2 86 11 = σ 86 11 → α2 94 = α 94 → α2 95 = α 95 → α2 24 = α 24 → qR2 σ2 α2 := fun e1 e2 e3 e4 e5 => by
    unfold qR2 qE
    rw [e1, e2, e3, e4, e5, d6, c6]
    exact ⟨r1, r2, r3⟩
  rcases hx with ⟨x0, x24⟩ | ⟨x0, x24⟩ | ⟨x0, xj⟩
  · rcases hy with ⟨⟨y0, yi⟩, y94, y95⟩ | ⟨⟨y0, yi⟩, y94, y95⟩ | ⟨⟨y0, yi⟩, y94, y95⟩
    · exact ⟨by omega, hr, same (by omega) (by omega) y94 y95 (d24.trans x24)⟩
    · exact False.elim (yi ((ad (by omega)).1 (by omega)))
    · exact False.elim (yi ((ad (by omega)).1 (by omega)))
  · rcases hy with ⟨⟨y0, yi⟩, y94, y95⟩ | ⟨⟨y0, yi⟩, y94, y95⟩ | ⟨⟨y0, yi⟩, y94, y95⟩
    · exact absurd ((ad (by omega)).2 (yi (by omega))) (by omega)
    · exact ⟨by omega, hr, same (by omega) (by omega) y94 y95 (d24.trans x24)⟩
    · exact False.elim (by omega)
  · rcases hy with ⟨⟨y0, yi⟩, y94, y95⟩ | ⟨⟨y0, yi⟩, y94, y95⟩ | ⟨⟨y0, yi⟩, y94, y95⟩
    · exact absurd ((ad (by omega)).2 (yi (by omega))) (by omega)
    · exact False.elim (by omega)
    · have e : (v2 - 1 : Int).toNat = (σ 86 11).toNat := by omega
      rw [e] at y94 y95
      refine ⟨by omega, hr, by omega, ?_, ?_⟩
      · intro j hj
        rw [y94, y95]
        unfold qzu
        by_cases e2 : j = (σ 86 11).toNat
        · rw [if_pos e2, if_pos e2]
          omega
        · rw [if_neg e2, if_neg e2]
          have := r2 j (by omega)
          omega
      · rw [y94, y95, d24, show σ2 86 11 = σ 86 11 + 1 by omega]
        rw [hq] at xj
        exact rl_join hn0 (by omega) (by omega) hp.2 r2 r3 xj
