/-! the reference's own way to find steps: ties gone over till nothing gets nearer -/
def qC1 (P : Int → Int → Int → Prop) (n p q : Int) : Prop := ∀ t r : Int, (0 ≤ r ∧ r < n) → P t r p → P (t + 1) r q
def qNr (P : Int → Int → Int → Prop) (f g : Nat → Int) (n p q u more : Int) : Prop := (∀ x y : Int, (0 ≤ x ∧ x < n) → (0 ≤ y ∧ y < n) → qTb g x y ≤ qTb f x y) ∧ (∀ x y : Int, (0 ≤ x ∧ x < n) → (0 ≤ y ∧ y < n) → P (qTb g x y) x y) ∧ (∀ x : Int, (0 ≤ x ∧ x < u) → qTb g x q ≤ qTb g x p + 1) ∧ (more = 0 → g = f)
theorem qNr_0 {P : Int → Int → Int → Prop} {f : Nat → Int} {n p q : Int} (h : ∀ x y : Int, (0 ≤ x ∧ x < n) → (0 ≤ y ∧ y < n) → P (qTb f x y) x y) : qNr P f f n p q 0 0 :=
  ⟨fun _ _ _ _ => Int.le_refl _, h, fun x hx => False.elim (by omega), fun _ => rfl⟩
theorem qNr_end {P : Int → Int → Int → Prop} {f g : Nat → Int} {n p q u more : Int} (h : qNr P f g n p q u more) (hu : n ≤ u) : qNr P f g n p q n more :=
  ⟨h.1, h.2.1, fun x hx => h.2.2.1 x (by omega), h.2.2.2⟩
theorem qNr_skip {P : Int → Int → Int → Prop} {f g : Nat → Int} {n p q u more t1 t2 : Int} (h : qNr P f g n p q u more) (e1 : t1 = qTb g u p) (e2 : t2 = qTb g u q) (hl : t2 ≤ t1 + 1) : qNr P f g n p q (u + 1) more := by
  refine ⟨h.1, h.2.1, fun x hx => ?_, h.2.2.2⟩
  by_cases e : x = u
  · subst e
    omega
  · exact h.2.2.1 x (by omega)
theorem qNr_set {P : Int → Int → Int → Prop} {f g : Nat → Int} {n p q u more t1 t2 : Int} {k : Nat} (h : qNr P f g n p q u more) (cl : qC1 P n p q) (hn : n ≤ 32) (hu : 0 ≤ u ∧ u < n) (hp : 0 ≤ p ∧ p < n) (hq : 0 ≤ q ∧ q < n) (hk : k = (u * 32 + q : Int).toNat) (e1 : t1 = qTb g u p) (e2 : t2 = qTb g u q) (hl : t1 + 1 < t2) : qNr P f (qzu g k (t1 + 1)) n p q (u + 1) 1 := by
  have hq2 : 0 ≤ q ∧ q < 32 := by omega
  have hu2 : 0 ≤ u ∧ u < 32 := by omega
  have hpq : ¬ p = q := fun e => by
    subst e
    omega
  refine ⟨fun x y hx hy => ?_, fun x y hx hy => ?_, fun x hx => ?_, fun h0 => absurd h0 (by decide)⟩
  · rw [qTb_u hk hu2 hq2 hx.1 (by omega)]
    split
    · next e =>
      obtain ⟨rfl, rfl⟩ := e
      have h1 := h.1 x y hx hy
      omega
    · exact h.1 x y hx hy
  · rw [qTb_u hk hu2 hq2 hx.1 (by omega)]
    split
    · next e =>
      obtain ⟨rfl, rfl⟩ := e
      rw [e1]
      exact cl _ x hx (h.2.1 x p hx hp)
    · exact h.2.1 x y hx hy
  · have a1 := qTb_u (g := g) (v := t1 + 1) hk hu2 hq2 (x := x) (y := q) hx.1 hq2
    have a2 := qTb_u (g := g) (v := t1 + 1) hk hu2 hq2 (x := x) (y := p) hx.1 (by omega)
    rw [if_neg (fun e => hpq e.2)] at a2
    rw [a1, a2]
    by_cases e : x = u
    · rw [if_pos ⟨e, rfl⟩, e]
      omega
    · rw [if_neg (fun e2 => e e2.1)]
      exact h.2.2.1 x (by omega)
theorem qTb_c {f : Nat → Int} {v x y : Int} (h : v = f (32 * x + y : Int).toNat) : v = qTb f x y := by
  rw [h]
  unfold qTb
  congr 2
  omega
/-- the table as it is begun: places (x, y) ahead of (i, j) -/
def qFi (g : Nat → Int) (n i j : Int) : Prop := ∀ x y : Int, (0 ≤ x ∧ x < n) → (0 ≤ y ∧ y < n) → (x < i ∨ (x = i ∧ y < j)) → qTb g x y = if x = y then 0 else 99
theorem qFi_0 {g : Nat → Int} {n : Int} : qFi g n 0 0 := fun x y hx hy hp => False.elim (by omega)
theorem qFi_row {g : Nat → Int} {n i j : Int} (h : qFi g n i j) (hj : n ≤ j) : qFi g n (i + 1) 0 := fun x y hx hy hp => h x y hx hy (by omega)
theorem qFi_set {g : Nat → Int} {n i j v : Int} {k : Nat} (h : qFi g n i j) (hn : n ≤ 32) (hi : 0 ≤ i ∧ i < n) (hj : 0 ≤ j ∧ j < n) (hk : k = (i * 32 + j : Int).toNat) (hv : v = if i = j then 0 else 99) : qFi (qzu g k v) n i (j + 1) := by
  intro x y hx hy hp
  rw [qTb_u hk (by omega) (by omega) hx.1 (by omega)]
  split
  · next e =>
    obtain ⟨rfl, rfl⟩ := e
    exact hv
  · exact h x y hx hy (by omega)
/-- no tie brings anything nearer -/
def qFx (g : Nat → Int) (n p q : Int) : Prop := ∀ x : Int, (0 ≤ x ∧ x < n) → qTb g x q ≤ qTb g x p + 1 ∧ qTb g x p ≤ qTb g x q + 1
/-- while ties are gone over: k of them so far, more: whether anything got nearer -/
def qWh (P : Int → Int → Int → Prop) (g A B : Nat → Int) (n k more : Int) : Prop := (∀ x y : Int, (0 ≤ x ∧ x < n) → (0 ≤ y ∧ y < n) → P (qTb g x y) x y) ∧ (∀ x : Int, (0 ≤ x ∧ x < n) → qTb g x x ≤ 0) ∧ (more = 0 → ∀ j : Nat, (j : Int) < k → qFx g n (A j) (B j))
theorem qWh_0 {P : Int → Int → Int → Prop} {g A B : Nat → Int} {n k m m2 : Int} (h : qWh P g A B n k m) : qWh P g A B n 0 m2 := ⟨h.1, h.2.1, fun _ j hj => False.elim (by omega)⟩
theorem qWh_i {P : Int → Int → Int → Prop} {g A B : Nat → Int} {n i m : Int} (h : qFi g n i 0) (hi : n ≤ i) (p1 : ∀ x, P 0 x x) (p2 : ∀ x y, P 99 x y) : qWh P g A B n 0 m := by
  refine ⟨fun x y hx hy => ?_, fun x hx => ?_, fun _ j hj => False.elim (by omega)⟩
  · rw [h x y hx hy (by omega)]
    split
    · next e => subst e; exact p1 x
    · exact p2 x y
  · rw [h x x hx hx (by omega), if_pos rfl]
    exact Int.le_refl _
theorem qWh_s {P : Int → Int → Int → Prop} {g g1 g2 A B : Nat → Int} {n k m p q p2 q2 v w m2 : Int} (h : qWh P g A B n k m) (h1 : qNr P g g1 n p q n v) (h2 : qNr P g1 g2 n q2 p2 n w) (ep : p = A k.toNat) (eq : q = B k.toNat) (ep2 : p2 = A k.toNat) (eq2 : q2 = B k.toNat) (hk : 0 ≤ k) (hm : m2 = 0 → m = 0 ∧ v = 0 ∧ w = 0) : qWh P g2 A B n (k + 1) m2 := by
  rw [eq2, ep2, ← ep, ← eq] at h2
  refine ⟨h2.2.1, fun x hx => ?_, fun h0 j hj => ?_⟩
  · have a1 := h2.1 x x hx hx
    have a2 := h1.1 x x hx hx
    have a3 := h.2.1 x hx
    omega
  · obtain ⟨b1, b2, b3⟩ := hm h0
    have e1 := h1.2.2.2 b2
    have e2 := h2.2.2.2 b3
    by_cases e : j = k.toNat
    · subst e
      intro x hx
      rw [← ep, ← eq]
      have c1 := h1.2.2.1 x hx
      have c2 := h2.2.2.1 x hx
      rw [e2] at c2
      rw [e2]
      exact ⟨c1, c2⟩
    · have c := h.2.2 b1 j (by omega)
      rw [e2, e1]
      exact c
/-- a table at rest is right -/
theorem qDi_rest {A B : Nat → Int} {m n : Int} {g : Nat → Int} (hE : ∀ j : Nat, (j : Int) < m → (0 ≤ A j ∧ A j < n) ∧ (0 ≤ B j ∧ B j < n)) (hr : ∀ x y : Int, (0 ≤ x ∧ x < n) → (0 ≤ y ∧ y < n) → qTb g x y ≤ 99) (h : qWh (fun t x y => 0 ≤ t ∧ (t < 99 → qWk A B m t.toNat x y)) g A B n m 0) : ∀ x y : Int, (0 ≤ x ∧ x < n) → (0 ≤ y ∧ y < n) → qDi A B m (qTb g x y) x y := by
  have key : ∀ (k : Nat) (x y : Int), (0 ≤ x ∧ x < n) → qWk A B m k x y → (0 ≤ y ∧ y < n) ∧ qTb g x y ≤ (k : Int) := by
    intro k
    induction k with
    | zero =>
      intro x y hx hw
      have e : x = y := hw
      subst e
      exact ⟨hx, h.2.1 x hx⟩
    | succ k ih =>
      intro x y hx hw
      obtain ⟨r, h1, j, hj, h2⟩ := hw
      obtain ⟨hr2, h3⟩ := ih x r hx h1
      have f := h.2.2 rfl j hj x hx
      have e2 := hE j hj
      rcases h2 with ⟨rfl, rfl⟩ | ⟨rfl, rfl⟩
      · exact ⟨e2.2, by omega⟩
      · exact ⟨e2.1, by omega⟩
  intro x y hx hy
  have hp := h.1 x y hx hy
  exact ⟨⟨hp.1, hr x y hx hy⟩, hp.2, fun k hk => (key k x y hx hk).2⟩

set_option maxHeartbeats 4000000 in
set_option maxRecDepth 20000 in
/-- OneRoofModel.nearer -/
theorem sf_188_86x {L : Nat} {xs : Nat → Int} {vb : Bool} {d : Nat} {σ α : Nat → Nat → Int} {κ : Nat → Option Nat} {ρ : Nat} {x1 : Int} {x2 : Int} {P : Int → Int → Int → Prop} (hI : qI σ α κ ρ) (r1 : 0 ≤ x1 ∧ x1 ≤ 31) (r2 : 0 ≤ x2 ∧ x2 ≤ 31) (p0 : ∀ x y : Int, (0 ≤ x ∧ x < σ 86 6) → (0 ≤ y ∧ y < σ 86 6) → P (qTb (α 96) x y) x y) (p1 : qC1 P (σ 86 6) x1 x2) (p2 : x1 < σ 86 6 ∧ x2 < σ 86 6) : qm_T (qe L xs vb) (d + 1) 188 [.ref 86, .int (qz x1), .int (qz x2)] (qw σ α κ ρ) (fun r w' => ∃ α', w' = qw σ α' κ ρ ∧ qI σ α' κ ρ ∧ qFr [] [96] σ α σ α' ∧ ∃ v : Int, r = some (.int (qz v)) ∧ (0 ≤ v ∧ v ≤ 1) ∧ (qS α' ≤ qS α ∧ (v = 1 → qS α' < qS α)) ∧ qNr P (α 96) (α' 96) (σ 86 6) x1 x2 (σ 86 6) v) := by
  refine qr_start (d := d + 0) qv_e188 (Nat.le_of_ble_eq_true rfl) ?_
  show qr_W (qe L xs vb) (d + 0) qx_e188 _ (0, [(0, .ref 86), (1, .int (qz x1)), (2, .int (qz x2))], [], _, 0, 0)
  have hF0 := qFr_rf [] [96] σ α
  have hz86_6 : 0 ≤ σ 86 6 ∧ σ 86 6 ≤ 32 := hI.1 86 6
  refine qr_iconst 1 rfl rfl ?_
  refine qr_istore_n _ 2 rfl (by decide) rfl rfl ?_
  refine qr_iconst 3 rfl rfl ?_
  refine qr_istore _ 5 rfl (by decide) rfl rfl ?_
  have hL211 : ∀ (n : Nat) (ls : qm_L) (u200 u202 : Int) (α204 : Nat → Nat → Int), 32 - u202 < (n : Int) → qm_get ls 0 = some (.ref 86) → qm_get ls 1 = some (.int (qz x1)) → qm_get ls 2 = some (.int (qz x2)) → qm_get ls 3 = some (.int (qz u200)) → qm_get ls 4 = some (.int (qz u202)) → (0 ≤ u200 ∧ u200 ≤ 1) → (0 ≤ u202 ∧ u202 ≤ 32) → qI σ α204 κ ρ → qFr [] [96] σ α σ α204 → qNr P (α 96) (α204 96) (σ 86 6) x1 x2 u202 u200 → (qS α204 ≤ qS α ∧ (u200 = 1 → qS α204 < qS α)) → qr_W (qe L xs vb) (d + 0) qx_e188 (fun r w' => ∃ α', w' = qw σ α' κ ρ ∧ qI σ α' κ ρ ∧ qFr [] [96] σ α σ α' ∧ ∃ v : Int, r = some (.int (qz v)) ∧ (0 ≤ v ∧ v ≤ 1) ∧ (qS α' ≤ qS α ∧ (v = 1 → qS α' < qS α)) ∧ qNr P (α 96) (α' 96) (σ 86 6) x1 x2 (σ 86 6) v) (5, ls, [], qw σ α204 κ ρ, 0, 0) := by
    intro n
    induction n with
    | zero => intro ls u200 u202 α204 hm g196 g197 g198 g199 g201 hf207 hf208 hI205 hF206 hx209 hx210; exact False.elim (by omega)
    | succ n ih212 =>
      intro ls u200 u202 α204 hm g196 g197 g198 g199 g201 hf207 hf208 hI205 hF206 hx209 hx210
      refine qr_iload 7 rfl g201 rfl ?_
      refine qr_aload_n 8 rfl g196 rfl ?_
      refine qr_get 11 rfl rfl rfl (by decide) rfl ?_
      refine qr_icmp_ge 69 14 rfl rfl rfl (by omega) (by omega) (fun h213 => ?_) (fun h213 => ?_)
      · skip
        refine qr_iload_n 70 rfl g199 rfl ?_
        refine qr_retZ rfl rfl (by omega) (by decide) (by decide) ?_
        exact ⟨_, rfl, hI205, hF206, u200, rfl, by omega, by omega, (qNr_end hx209 (by omega))⟩
      · skip
        refine qr_aload_n 15 rfl g196 rfl ?_
        refine qr_get 18 rfl rfl rfl (by decide) rfl ?_
        refine qr_bipush 20 rfl (by decide) rfl ?_
        refine qr_iload 22 rfl g201 rfl ?_
        refine qr_imul 23 rfl rfl ?_
        refine qr_iload_n 24 rfl g197 rfl ?_
        refine qr_iadd 25 rfl rfl ?_
        refine qr_iaload 26 rfl rfl (by omega) (by decide) rfl ?_
        refine qr_topI (fun v214 hv214 => ?_)
        have hs215 : 0 ≤ v214 ∧ v214 ≤ 99 := by rw [hv214]; exact hI205.2.1 96 _ (show _ < 1024 by omega)
        refine qr_iconst 27 rfl rfl ?_
        refine qr_iadd 28 rfl rfl ?_
        refine qr_istore _ 30 rfl (by decide) rfl rfl ?_
        refine qr_iload 32 rfl (qm_ge _ _ _) rfl ?_
        refine qr_aload_n 33 rfl (qm_gk g196 (by decide) (Or.inl (by decide))) rfl ?_
        refine qr_get 36 rfl rfl rfl (by decide) rfl ?_
        refine qr_bipush 38 rfl (by decide) rfl ?_
        refine qr_iload 40 rfl (qm_gk g201 (by decide) (Or.inr rfl)) rfl ?_
        refine qr_imul 41 rfl rfl ?_
        refine qr_iload_n 42 rfl (qm_gk g198 (by decide) (Or.inl (by decide))) rfl ?_
        refine qr_iadd 43 rfl rfl ?_
        refine qr_iaload 44 rfl rfl (by omega) (by decide) rfl ?_
        refine qr_topI (fun v216 hv216 => ?_)
        have hs217 : 0 ≤ v216 ∧ v216 ≤ 99 := by rw [hv216]; exact hI205.2.1 96 _ (show _ < 1024 by omega)
        refine qr_icmp_ge 63 47 rfl rfl rfl (by omega) (by omega) (fun h218 => ?_) (fun h218 => ?_)
        · skip
          refine qr_iinc _ 66 rfl (qm_gk g201 (by decide) (Or.inr rfl)) (by decide) rfl rfl ?_
          refine qr_goto 5 rfl rfl ?_
          exact ih212 _ u200 (u202 + 1) α204 (by omega) (qm_gk (qm_gk g196 (by decide) (Or.inl (by decide))) (by decide) (Or.inl (by decide))) (qm_gk (qm_gk g197 (by decide) (Or.inl (by decide))) (by decide) (Or.inl (by decide))) (qm_gk (qm_gk g198 (by decide) (Or.inl (by decide))) (by decide) (Or.inl (by decide))) (qm_gk (qm_gk g199 (by decide) (Or.inl (by decide))) (by decide) (Or.inr rfl)) (qm_ge _ _ _) (by omega) (by omega) hI205 hF206 (qNr_skip hx209 (qTb_c hv214) (qTb_c hv216) (by omega)) (by omega)
        · skip
          refine qr_aload_n 48 rfl (qm_gk g196 (by decide) (Or.inl (by decide))) rfl ?_
          refine qr_get 51 rfl rfl rfl (by decide) rfl ?_
          refine qr_bipush 53 rfl (by decide) rfl ?_
          refine qr_iload 55 rfl (qm_gk g201 (by decide) (Or.inr rfl)) rfl ?_
          refine qr_imul 56 rfl rfl ?_
          refine qr_iload_n 57 rfl (qm_gk g198 (by decide) (Or.inl (by decide))) rfl ?_
          refine qr_iadd 58 rfl rfl ?_
          refine qr_iload 60 rfl (qm_ge _ _ _) rfl ?_
          refine qr_iastore 61 rfl (by decide) rfl (by omega) (by decide) rfl ?_
          refine qy_wA (qw_r α204 96 (qzu (α204 96) (((32 * u202) + x2) : Int).toNat (v214 + 1))) rfl (fun α219 e220 => ?_)
          have hI221 : qI σ α219 κ ρ := by rw [e220]; exact qI_r hI205 96 _ rfl (show 0 ≤ (v214 + 1) ∧ (v214 + 1) ≤ 99 by omega)
          have hF222 : qFr [] [96] σ α σ α219 := by rw [e220]; exact qFr_r hF206 96 _ (by decide)
          have hq223 := qS_u α204 (((32 * u202) + x2) : Int).toNat ((v214 + 1)) (by omega)
          rw [← e220] at hq223
          refine qr_iconst 62 rfl rfl ?_
          refine qr_istore_n _ 63 rfl (by decide) rfl rfl ?_
          refine qr_iinc _ 66 rfl (qm_gk (qm_gk g201 (by decide) (Or.inr rfl)) (by decide) (Or.inl (by decide))) (by decide) rfl rfl ?_
          refine qr_goto 5 rfl rfl ?_
          exact ih212 _ 1 (u202 + 1) α219 (by omega) (qm_gk (qm_gk (qm_gk g196 (by decide) (Or.inl (by decide))) (by decide) (Or.inl (by decide))) (by decide) (Or.inl (by decide))) (qm_gk (qm_gk (qm_gk g197 (by decide) (Or.inl (by decide))) (by decide) (Or.inl (by decide))) (by decide) (Or.inl (by decide))) (qm_gk (qm_gk (qm_gk g198 (by decide) (Or.inl (by decide))) (by decide) (Or.inr rfl)) (by decide) (Or.inl (by decide))) (qm_gk (qm_ge _ _ _) (by decide) (Or.inr rfl)) (qm_ge _ _ _) (by omega) (by omega) hI221 hF222 (by rw [(congrFun e220 96).trans qw_r_eq]; exact qNr_set hx209 p1 (by omega) (by omega) (by omega) (by omega) (by omega) (qTb_c hv214) (qTb_c hv216) (by omega)) (by omega)
  exact hL211 ((32 - 0 + 1 : Int)).toNat _ 0 0 α (by omega) rfl rfl rfl rfl rfl (by omega) (by omega) hI hF0 (qNr_0 p0) (by omega)

set_option maxHeartbeats 4000000 in
set_option maxRecDepth 20000 in
/-- OneRoofModel.findSteps -/
theorem sf_187_86x {L : Nat} {xs : Nat → Int} {vb : Bool} {d : Nat} {σ α : Nat → Nat → Int} {κ : Nat → Option Nat} {ρ : Nat} {P : Int → Int → Int → Prop} (hI : qI σ α κ ρ) (p0 : ∀ x : Int, P 0 x x) (p1 : ∀ x y : Int, P 99 x y) (p2 : ∀ j : Nat, (j : Int) < σ 86 11 → qC1 P (σ 86 6) (α 94 j) (α 95 j) ∧ qC1 P (σ 86 6) (α 95 j) (α 94 j)) (p3 : ∀ j : Nat, (j : Int) < σ 86 11 → (0 ≤ α 94 j ∧ α 94 j < σ 86 6) ∧ (0 ≤ α 95 j ∧ α 95 j < σ 86 6)) : qm_T (qe L xs vb) (d + 2) 187 [.ref 86] (qw σ α κ ρ) (fun r w' => ∃ σ' α', w' = qw σ' α' κ ρ ∧ qI σ' α' κ ρ ∧ qFr [(86, 15)] [96] σ α σ' α' ∧ σ' 86 15 = 1 ∧ r = none ∧ qWh P (α' 96) (α 94) (α 95) (σ 86 6) (σ 86 11) 0) := by
  refine qr_start (d := d + 1) qv_e187 (Nat.le_of_ble_eq_true rfl) ?_
  show qr_W (qe L xs vb) (d + 1) qx_e187 _ (0, [(0, .ref 86)], [], _, 0, 0)
  have hF0 := qFr_rf [(86, 15)] [96] σ α
  have hz86_11 : 0 ≤ σ 86 11 ∧ σ 86 11 ≤ 61 := hI.1 86 11
  have hz86_6 : 0 ≤ σ 86 6 ∧ σ 86 6 ≤ 32 := hI.1 86 6
  refine qr_iconst 1 rfl rfl ?_
  refine qr_istore_n _ 2 rfl (by decide) rfl rfl ?_
  have hL161286 : ∀ (n : Nat) (ls : qm_L) (u161279 : Int) (α161281 : Nat → Nat → Int), 32 - u161279 < (n : Int) → qm_get ls 0 = some (.ref 86) → qm_get ls 1 = some (.int (qz u161279)) → (0 ≤ u161279 ∧ u161279 ≤ 32) → qI σ α161281 κ ρ → qFr [(86, 15)] [96] σ α σ α161281 → qFi (α161281 96) (σ 86 6) u161279 0 → qr_W (qe L xs vb) (d + 1) qx_e187 (fun r w' => ∃ σ' α', w' = qw σ' α' κ ρ ∧ qI σ' α' κ ρ ∧ qFr [(86, 15)] [96] σ α σ' α' ∧ σ' 86 15 = 1 ∧ r = none ∧ qWh P (α' 96) (α 94) (α 95) (σ 86 6) (σ 86 11) 0) (2, ls, [], qw σ α161281 κ ρ, 0, 0) := by
    intro n
    induction n with
    | zero => intro ls u161279 α161281 hm g161277 g161278 hf161284 hI161282 hF161283 hx161285; exact False.elim (by omega)
    | succ n ih161287 =>
      intro ls u161279 α161281 hm g161277 g161278 hf161284 hI161282 hF161283 hx161285
      refine qr_iload_n 3 rfl g161278 rfl ?_
      refine qr_aload_n 4 rfl g161277 rfl ?_
      refine qr_get 7 rfl rfl rfl (by decide) rfl ?_
      refine qr_icmp_ge 54 10 rfl rfl rfl (by omega) (by omega) (fun h161288 => ?_) (fun h161288 => ?_)
      · skip
        refine qr_iconst 55 rfl rfl ?_
        refine qr_istore_n _ 56 rfl (by decide) rfl rfl ?_
        have hL170094 : ∀ (n : Nat) (ls : qm_L) (u170087 : Int) (α170089 : Nat → Nat → Int), ((2 * qS α170089 + u170087).toNat : Int) < (n : Int) → qm_get ls 0 = some (.ref 86) → qm_get ls 1 = some (.int (qz u170087)) → (0 ≤ u170087 ∧ u170087 ≤ 1) → qI σ α170089 κ ρ → qFr [(86, 15)] [96] σ α σ α170089 → qWh P (α170089 96) (α 94) (α 95) (σ 86 6) (if u170087 = 0 then σ 86 11 else 0) u170087 → qr_W (qe L xs vb) (d + 1) qx_e187 (fun r w' => ∃ σ' α', w' = qw σ' α' κ ρ ∧ qI σ' α' κ ρ ∧ qFr [(86, 15)] [96] σ α σ' α' ∧ σ' 86 15 = 1 ∧ r = none ∧ qWh P (α' 96) (α 94) (α 95) (σ 86 6) (σ 86 11) 0) (56, ls, [], qw σ α170089 κ ρ, 0, 0) := by
          intro n
          induction n with
          | zero => intro ls u170087 α170089 hm g170085 g170086 hf170092 hI170090 hF170091 hx170093; exact False.elim (by omega)
          | succ n ih170095 =>
            intro ls u170087 α170089 hm g170085 g170086 hf170092 hI170090 hF170091 hx170093
            have hq170096 := qS_nn hI170090
            refine qr_iload_n 57 rfl g170086 rfl ?_
            refine qr_if_eq 139 60 rfl rfl rfl (by omega) (fun h170097 => ?_) (fun h170097 => ?_)
            · skip
              refine qr_aload_n 140 rfl g170085 rfl ?_
              refine qr_iconst 141 rfl rfl ?_
              refine qr_put 144 rfl (by decide) rfl (Nat.le_of_ble_eq_true rfl) (Nat.le_of_ble_eq_true rfl) (Or.inl rfl) (qr_fitZ rfl (by omega)) rfl ?_
              refine qy_wS (qw_s σ 86 15 1) rfl (fun σ170098 e170099 => ?_)
              have hI170100 : qI σ170098 α170089 κ ρ := by rw [e170099]; exact qI_s hI170090 86 15 rfl (show 0 ≤ 1 ∧ 1 ≤ 1 by omega)
              have hF170101 : qFr [(86, 15)] [96] σ α σ170098 α170089 := by rw [e170099]; exact qFr_s hF170091 86 15 _ (by decide)
              refine qr_retV rfl rfl (by decide) (by decide) ?_
              exact ⟨_, _, rfl, hI170100, hF170101, (by have hw : σ170098 86 15 = 1 := (congrFun (congrFun e170099 86) 15).trans rfl; omega), rfl, (by have hq := hx170093; rw [if_pos (show u170087 = 0 by omega), show u170087 = 0 by omega] at hq; exact hq)⟩
            · skip
              refine qr_iconst 61 rfl rfl ?_
              refine qr_istore_n _ 62 rfl (by decide) rfl rfl ?_
              refine qr_iconst 63 rfl rfl ?_
              refine qr_istore_n _ 64 rfl (by decide) rfl rfl ?_
              have hL171800 : ∀ (n : Nat) (ls : qm_L) (u171788 u171790 : Int) (α171792 : Nat → Nat → Int), 61 - u171790 < (n : Int) → qm_get ls 0 = some (.ref 86) → qm_get ls 1 = some (.int (qz u171788)) → qm_get ls 2 = some (.int (qz u171790)) → (0 ≤ u171788 ∧ u171788 ≤ 1) → (0 ≤ u171790 ∧ u171790 ≤ 61) → qI σ α171792 κ ρ → qFr [(86, 15)] [96] σ α σ α171792 → qWh P (α171792 96) (α 94) (α 95) (σ 86 6) u171790 u171788 → (qS α171792 ≤ qS α170089 ∧ (u171788 = 1 → qS α171792 < qS α170089)) → u171790 ≤ σ 86 11 → qr_W (qe L xs vb) (d + 1) qx_e187 (fun r w' => ∃ σ' α', w' = qw σ' α' κ ρ ∧ qI σ' α' κ ρ ∧ qFr [(86, 15)] [96] σ α σ' α' ∧ σ' 86 15 = 1 ∧ r = none ∧ qWh P (α' 96) (α 94) (α 95) (σ 86 6) (σ 86 11) 0) (64, ls, [], qw σ α171792 κ ρ, 0, 0) := by
                intro n
                induction n with
                | zero => intro ls u171788 u171790 α171792 hm g171786 g171787 g171789 hf171795 hf171796 hI171793 hF171794 hx171797 hx171798 hx171799; exact False.elim (by omega)
                | succ n ih171801 =>
                  intro ls u171788 u171790 α171792 hm g171786 g171787 g171789 hf171795 hf171796 hI171793 hF171794 hx171797 hx171798 hx171799
                  refine qr_iload_n 65 rfl g171789 rfl ?_
                  refine qr_aload_n 66 rfl g171786 rfl ?_
                  refine qr_get 69 rfl rfl rfl (by decide) rfl ?_
                  refine qr_icmp_ge 136 72 rfl rfl rfl (by omega) (by omega) (fun h171802 => ?_) (fun h171802 => ?_)
                  · skip
                    refine qr_goto 56 rfl rfl ?_
                    exact ih170095 _ u171788 α171792 (by omega) g171786 g171787 (by omega) hI171793 hF171794 (by split; (rw [show σ 86 11 = u171790 by omega]; exact hx171797); (exact qWh_0 hx171797))
                  · skip
                    refine qr_aload_n 73 rfl g171786 rfl ?_
                    refine qr_aload_n 74 rfl g171786 rfl ?_
                    refine qr_get 77 rfl rfl rfl (by decide) rfl ?_
                    refine qr_iload_n 78 rfl g171789 rfl ?_
                    refine qr_iaload 79 rfl rfl (by omega) (by decide) rfl ?_
                    refine qr_topI (fun v171803 hv171803 => ?_)
                    have hs171804 : 0 ≤ v171803 ∧ v171803 ≤ 31 := by rw [hv171803]; exact hI171793.2.1 94 _ (show _ < 61 by omega)
                    refine qr_aload_n 80 rfl g171786 rfl ?_
                    refine qr_get 83 rfl rfl rfl (by decide) rfl ?_
                    refine qr_iload_n 84 rfl g171789 rfl ?_
                    refine qr_iaload 85 rfl rfl (by omega) (by decide) rfl ?_
                    refine qr_topI (fun v171805 hv171805 => ?_)
                    have hs171806 : 0 ≤ v171805 ∧ v171805 ≤ 31 := by rw [hv171805]; exact hI171793.2.1 95 _ (show _ < 61 by omega)
                    have ev171807 : v171803 = α 94 (u171790 : Int).toNat := hv171803.trans (congrFun (hF171794.2 94 (by decide)) _)
                    have ev171808 : v171805 = α 95 (u171790 : Int).toNat := hv171805.trans (congrFun (hF171794.2 95 (by decide)) _)
                    have hc171809 := p2 (u171790 : Int).toNat (by omega)
                    have hc171810 := p3 (u171790 : Int).toNat (by omega)
                    rw [← ev171807, ← ev171808] at hc171809 hc171810
                    have hs171811 : 0 ≤ σ 86 6 ∧ σ 86 6 ≤ 32 := hI171793.1 86 6
                    refine qr_callN 88 rfl rfl rfl (sf_188_86x (d := d + 0) hI171793 (by omega) (by omega) (fun x y hx hy => hx171797.1 x y hx hy) hc171809.1 (by omega)) ?_
                    rintro _ _ ⟨α171815, rfl, hI171816, hG171817, v171812, rfl, hv171812, hp171813, hx171814⟩
                    have hF171818 : qFr [(86, 15)] [96] σ α σ α171815 := qFr_t hF171794 hG171817 (by decide) (by decide)
                    show qr_W (qe L xs vb) (d + 1) qx_e187 _ (88, _, [.int (qz v171812)], qw σ α171815 κ ρ, 0, 0)
                    refine qr_if_ne 95 91 rfl rfl rfl (by omega) (fun h171819 => ?_) (fun h171819 => ?_)
                    · skip
                      refine qr_iconst 96 rfl rfl ?_
                      refine qr_goto 100 rfl rfl ?_
                      refine qr_istore_n _ 101 rfl (by decide) rfl rfl ?_
                      refine qr_aload_n 102 rfl (qm_gk g171786 (by decide) (Or.inr rfl)) rfl ?_
                      refine qr_aload_n 103 rfl (qm_gk g171786 (by decide) (Or.inr rfl)) rfl ?_
                      refine qr_get 106 rfl rfl rfl (by decide) rfl ?_
                      refine qr_iload_n 107 rfl (qm_gk g171789 (by decide) (Or.inl (by decide))) rfl ?_
                      refine qr_iaload 108 rfl rfl (by omega) (by decide) rfl ?_
                      refine qr_topI (fun v171820 hv171820 => ?_)
                      have hs171821 : 0 ≤ v171820 ∧ v171820 ≤ 31 := by rw [hv171820]; exact hI171816.2.1 95 _ (show _ < 61 by omega)
                      refine qr_aload_n 109 rfl (qm_gk g171786 (by decide) (Or.inr rfl)) rfl ?_
                      refine qr_get 112 rfl rfl rfl (by decide) rfl ?_
                      refine qr_iload_n 113 rfl (qm_gk g171789 (by decide) (Or.inl (by decide))) rfl ?_
                      refine qr_iaload 114 rfl rfl (by omega) (by decide) rfl ?_
                      refine qr_topI (fun v171822 hv171822 => ?_)
                      have hs171823 : 0 ≤ v171822 ∧ v171822 ≤ 31 := by rw [hv171822]; exact hI171816.2.1 94 _ (show _ < 61 by omega)
                      have ev171824 : v171820 = α 95 (u171790 : Int).toNat := hv171820.trans (congrFun (hF171818.2 95 (by decide)) _)
                      have ev171825 : v171822 = α 94 (u171790 : Int).toNat := hv171822.trans (congrFun (hF171818.2 94 (by decide)) _)
                      have hc171826 := p2 (u171790 : Int).toNat (by omega)
                      have hc171827 := p3 (u171790 : Int).toNat (by omega)
                      rw [← ev171824, ← ev171825] at hc171826 hc171827
                      have hs171828 : 0 ≤ σ 86 6 ∧ σ 86 6 ≤ 32 := hI171816.1 86 6
                      refine qr_callN 117 rfl rfl rfl (sf_188_86x (d := d + 0) hI171816 (by omega) (by omega) (fun x y hx hy => hx171814.2.1 x y hx hy) hc171826.2 (by omega)) ?_
                      rintro _ _ ⟨α171832, rfl, hI171833, hG171834, v171829, rfl, hv171829, hp171830, hx171831⟩
                      have hF171835 : qFr [(86, 15)] [96] σ α σ α171832 := qFr_t hF171818 hG171834 (by decide) (by decide)
                      show qr_W (qe L xs vb) (d + 1) qx_e187 _ (117, _, [.int (qz v171829)], qw σ α171832 κ ρ, 0, 0)
                      refine qr_if_ne 124 120 rfl rfl rfl (by omega) (fun h171836 => ?_) (fun h171836 => ?_)
                      · skip
                        refine qr_iconst 125 rfl rfl ?_
                        refine qr_goto 129 rfl rfl ?_
                        refine qr_istore_n _ 130 rfl (by decide) rfl rfl ?_
                        refine qr_iinc _ 133 rfl (qm_gk (qm_gk g171789 (by decide) (Or.inl (by decide))) (by decide) (Or.inl (by decide))) (by decide) rfl rfl ?_
                        refine qr_goto 64 rfl rfl ?_
                        exact ih171801 _ 1 (u171790 + 1) α171832 (by omega) (qm_gk (qm_gk (qm_gk g171786 (by decide) (Or.inr rfl)) (by decide) (Or.inr rfl)) (by decide) (Or.inl (by decide))) (qm_gk (qm_ge _ _ _) (by decide) (Or.inr rfl)) (qm_ge _ _ _) (by omega) (by omega) hI171833 hF171835 (qWh_s hx171797 hx171814 hx171831 ev171807 ev171808 ev171825 ev171824 (by omega) (by omega)) (by omega) (by omega)
                      · skip
                        refine qr_iload_n 121 rfl (qm_ge _ _ _) rfl ?_
                        refine qr_if_eq 128 124 rfl rfl rfl (by omega) (fun h => False.elim (by omega)) (fun h171837 => ?_)
                        refine qr_iconst 125 rfl rfl ?_
                        refine qr_goto 129 rfl rfl ?_
                        refine qr_istore_n _ 130 rfl (by decide) rfl rfl ?_
                        refine qr_iinc _ 133 rfl (qm_gk (qm_gk g171789 (by decide) (Or.inl (by decide))) (by decide) (Or.inl (by decide))) (by decide) rfl rfl ?_
                        refine qr_goto 64 rfl rfl ?_
                        exact ih171801 _ 1 (u171790 + 1) α171832 (by omega) (qm_gk (qm_gk (qm_gk g171786 (by decide) (Or.inr rfl)) (by decide) (Or.inr rfl)) (by decide) (Or.inl (by decide))) (qm_gk (qm_ge _ _ _) (by decide) (Or.inr rfl)) (qm_ge _ _ _) (by omega) (by omega) hI171833 hF171835 (qWh_s hx171797 hx171814 hx171831 ev171807 ev171808 ev171825 ev171824 (by omega) (by omega)) (by omega) (by omega)
                    · skip
                      refine qr_iload_n 92 rfl g171787 rfl ?_
                      refine qr_if_eq 99 95 rfl rfl rfl (by omega) (fun h171838 => ?_) (fun h171838 => ?_)
                      · skip
                        refine qr_iconst 100 rfl rfl ?_
                        refine qr_istore_n _ 101 rfl (by decide) rfl rfl ?_
                        refine qr_aload_n 102 rfl (qm_gk g171786 (by decide) (Or.inr rfl)) rfl ?_
                        refine qr_aload_n 103 rfl (qm_gk g171786 (by decide) (Or.inr rfl)) rfl ?_
                        refine qr_get 106 rfl rfl rfl (by decide) rfl ?_
                        refine qr_iload_n 107 rfl (qm_gk g171789 (by decide) (Or.inl (by decide))) rfl ?_
                        refine qr_iaload 108 rfl rfl (by omega) (by decide) rfl ?_
                        refine qr_topI (fun v171839 hv171839 => ?_)
                        have hs171840 : 0 ≤ v171839 ∧ v171839 ≤ 31 := by rw [hv171839]; exact hI171816.2.1 95 _ (show _ < 61 by omega)
                        refine qr_aload_n 109 rfl (qm_gk g171786 (by decide) (Or.inr rfl)) rfl ?_
                        refine qr_get 112 rfl rfl rfl (by decide) rfl ?_
                        refine qr_iload_n 113 rfl (qm_gk g171789 (by decide) (Or.inl (by decide))) rfl ?_
                        refine qr_iaload 114 rfl rfl (by omega) (by decide) rfl ?_
                        refine qr_topI (fun v171841 hv171841 => ?_)
                        have hs171842 : 0 ≤ v171841 ∧ v171841 ≤ 31 := by rw [hv171841]; exact hI171816.2.1 94 _ (show _ < 61 by omega)
                        have ev171843 : v171839 = α 95 (u171790 : Int).toNat := hv171839.trans (congrFun (hF171818.2 95 (by decide)) _)
                        have ev171844 : v171841 = α 94 (u171790 : Int).toNat := hv171841.trans (congrFun (hF171818.2 94 (by decide)) _)
                        have hc171845 := p2 (u171790 : Int).toNat (by omega)
                        have hc171846 := p3 (u171790 : Int).toNat (by omega)
                        rw [← ev171843, ← ev171844] at hc171845 hc171846
                        have hs171847 : 0 ≤ σ 86 6 ∧ σ 86 6 ≤ 32 := hI171816.1 86 6
                        refine qr_callN 117 rfl rfl rfl (sf_188_86x (d := d + 0) hI171816 (by omega) (by omega) (fun x y hx hy => hx171814.2.1 x y hx hy) hc171845.2 (by omega)) ?_
                        rintro _ _ ⟨α171851, rfl, hI171852, hG171853, v171848, rfl, hv171848, hp171849, hx171850⟩
                        have hF171854 : qFr [(86, 15)] [96] σ α σ α171851 := qFr_t hF171818 hG171853 (by decide) (by decide)
                        show qr_W (qe L xs vb) (d + 1) qx_e187 _ (117, _, [.int (qz v171848)], qw σ α171851 κ ρ, 0, 0)
                        refine qr_if_ne 124 120 rfl rfl rfl (by omega) (fun h171855 => ?_) (fun h171855 => ?_)
                        · skip
                          refine qr_iconst 125 rfl rfl ?_
                          refine qr_goto 129 rfl rfl ?_
                          refine qr_istore_n _ 130 rfl (by decide) rfl rfl ?_
                          refine qr_iinc _ 133 rfl (qm_gk (qm_gk g171789 (by decide) (Or.inl (by decide))) (by decide) (Or.inl (by decide))) (by decide) rfl rfl ?_
                          refine qr_goto 64 rfl rfl ?_
                          exact ih171801 _ 1 (u171790 + 1) α171851 (by omega) (qm_gk (qm_gk (qm_gk g171786 (by decide) (Or.inr rfl)) (by decide) (Or.inr rfl)) (by decide) (Or.inl (by decide))) (qm_gk (qm_ge _ _ _) (by decide) (Or.inr rfl)) (qm_ge _ _ _) (by omega) (by omega) hI171852 hF171854 (qWh_s hx171797 hx171814 hx171850 ev171807 ev171808 ev171844 ev171843 (by omega) (by omega)) (by omega) (by omega)
                        · skip
                          refine qr_iload_n 121 rfl (qm_ge _ _ _) rfl ?_
                          refine qr_if_eq 128 124 rfl rfl rfl (by omega) (fun h171856 => ?_) (fun h => False.elim (by omega))
                          refine qr_iconst 129 rfl rfl ?_
                          refine qr_istore_n _ 130 rfl (by decide) rfl rfl ?_
                          refine qr_iinc _ 133 rfl (qm_gk (qm_gk g171789 (by decide) (Or.inl (by decide))) (by decide) (Or.inl (by decide))) (by decide) rfl rfl ?_
                          refine qr_goto 64 rfl rfl ?_
                          exact ih171801 _ 0 (u171790 + 1) α171851 (by omega) (qm_gk (qm_gk (qm_gk g171786 (by decide) (Or.inr rfl)) (by decide) (Or.inr rfl)) (by decide) (Or.inl (by decide))) (qm_gk (qm_ge _ _ _) (by decide) (Or.inr rfl)) (qm_ge _ _ _) (by omega) (by omega) hI171852 hF171854 (qWh_s hx171797 hx171814 hx171850 ev171807 ev171808 ev171844 ev171843 (by omega) (by omega)) (by omega) (by omega)
                      · skip
                        refine qr_iconst 96 rfl rfl ?_
                        refine qr_goto 100 rfl rfl ?_
                        refine qr_istore_n _ 101 rfl (by decide) rfl rfl ?_
                        refine qr_aload_n 102 rfl (qm_gk g171786 (by decide) (Or.inr rfl)) rfl ?_
                        refine qr_aload_n 103 rfl (qm_gk g171786 (by decide) (Or.inr rfl)) rfl ?_
                        refine qr_get 106 rfl rfl rfl (by decide) rfl ?_
                        refine qr_iload_n 107 rfl (qm_gk g171789 (by decide) (Or.inl (by decide))) rfl ?_
                        refine qr_iaload 108 rfl rfl (by omega) (by decide) rfl ?_
                        refine qr_topI (fun v171857 hv171857 => ?_)
                        have hs171858 : 0 ≤ v171857 ∧ v171857 ≤ 31 := by rw [hv171857]; exact hI171816.2.1 95 _ (show _ < 61 by omega)
                        refine qr_aload_n 109 rfl (qm_gk g171786 (by decide) (Or.inr rfl)) rfl ?_
                        refine qr_get 112 rfl rfl rfl (by decide) rfl ?_
                        refine qr_iload_n 113 rfl (qm_gk g171789 (by decide) (Or.inl (by decide))) rfl ?_
                        refine qr_iaload 114 rfl rfl (by omega) (by decide) rfl ?_
                        refine qr_topI (fun v171859 hv171859 => ?_)
                        have hs171860 : 0 ≤ v171859 ∧ v171859 ≤ 31 := by rw [hv171859]; exact hI171816.2.1 94 _ (show _ < 61 by omega)
                        have ev171861 : v171857 = α 95 (u171790 : Int).toNat := hv171857.trans (congrFun (hF171818.2 95 (by decide)) _)
                        have ev171862 : v171859 = α 94 (u171790 : Int).toNat := hv171859.trans (congrFun (hF171818.2 94 (by decide)) _)
                        have hc171863 := p2 (u171790 : Int).toNat (by omega)
                        have hc171864 := p3 (u171790 : Int).toNat (by omega)
                        rw [← ev171861, ← ev171862] at hc171863 hc171864
                        have hs171865 : 0 ≤ σ 86 6 ∧ σ 86 6 ≤ 32 := hI171816.1 86 6
                        refine qr_callN 117 rfl rfl rfl (sf_188_86x (d := d + 0) hI171816 (by omega) (by omega) (fun x y hx hy => hx171814.2.1 x y hx hy) hc171863.2 (by omega)) ?_
                        rintro _ _ ⟨α171869, rfl, hI171870, hG171871, v171866, rfl, hv171866, hp171867, hx171868⟩
                        have hF171872 : qFr [(86, 15)] [96] σ α σ α171869 := qFr_t hF171818 hG171871 (by decide) (by decide)
                        show qr_W (qe L xs vb) (d + 1) qx_e187 _ (117, _, [.int (qz v171866)], qw σ α171869 κ ρ, 0, 0)
                        refine qr_if_ne 124 120 rfl rfl rfl (by omega) (fun h171873 => ?_) (fun h171873 => ?_)
                        · skip
                          refine qr_iconst 125 rfl rfl ?_
                          refine qr_goto 129 rfl rfl ?_
                          refine qr_istore_n _ 130 rfl (by decide) rfl rfl ?_
                          refine qr_iinc _ 133 rfl (qm_gk (qm_gk g171789 (by decide) (Or.inl (by decide))) (by decide) (Or.inl (by decide))) (by decide) rfl rfl ?_
                          refine qr_goto 64 rfl rfl ?_
                          exact ih171801 _ 1 (u171790 + 1) α171869 (by omega) (qm_gk (qm_gk (qm_gk g171786 (by decide) (Or.inr rfl)) (by decide) (Or.inr rfl)) (by decide) (Or.inl (by decide))) (qm_gk (qm_ge _ _ _) (by decide) (Or.inr rfl)) (qm_ge _ _ _) (by omega) (by omega) hI171870 hF171872 (qWh_s hx171797 hx171814 hx171868 ev171807 ev171808 ev171862 ev171861 (by omega) (by omega)) (by omega) (by omega)
                        · skip
                          refine qr_iload_n 121 rfl (qm_ge _ _ _) rfl ?_
                          refine qr_if_eq 128 124 rfl rfl rfl (by omega) (fun h => False.elim (by omega)) (fun h171874 => ?_)
                          refine qr_iconst 125 rfl rfl ?_
                          refine qr_goto 129 rfl rfl ?_
                          refine qr_istore_n _ 130 rfl (by decide) rfl rfl ?_
                          refine qr_iinc _ 133 rfl (qm_gk (qm_gk g171789 (by decide) (Or.inl (by decide))) (by decide) (Or.inl (by decide))) (by decide) rfl rfl ?_
                          refine qr_goto 64 rfl rfl ?_
                          exact ih171801 _ 1 (u171790 + 1) α171869 (by omega) (qm_gk (qm_gk (qm_gk g171786 (by decide) (Or.inr rfl)) (by decide) (Or.inr rfl)) (by decide) (Or.inl (by decide))) (qm_gk (qm_ge _ _ _) (by decide) (Or.inr rfl)) (qm_ge _ _ _) (by omega) (by omega) hI171870 hF171872 (qWh_s hx171797 hx171814 hx171868 ev171807 ev171808 ev171862 ev171861 (by omega) (by omega)) (by omega) (by omega)
              exact hL171800 ((61 - 0 + 1 : Int)).toNat _ 0 0 α170089 (by omega) (qm_gk (qm_gk g170085 (by decide) (Or.inr rfl)) (by decide) (Or.inl (by decide))) (qm_gk (qm_ge _ _ _) (by decide) (Or.inr rfl)) (qm_ge _ _ _) (by omega) (by omega) hI170090 hF170091 (qWh_0 hx170093) (by omega) (by omega)
        exact hL170094 ((((2 * qS α161281 + 1).toNat : Int) + 1 : Int)).toNat _ 1 α161281 (by omega) (qm_gk g161277 (by decide) (Or.inr rfl)) (qm_ge _ _ _) (by omega) hI161282 hF161283 (qWh_i hx161285 (by omega) p0 p1)
      · skip
        refine qr_iconst 11 rfl rfl ?_
        refine qr_istore_n _ 12 rfl (by decide) rfl rfl ?_
        have hL172065 : ∀ (n : Nat) (ls : qm_L) (u172058 : Int) (α172060 : Nat → Nat → Int), 32 - u172058 < (n : Int) → qm_get ls 0 = some (.ref 86) → qm_get ls 1 = some (.int (qz u161279)) → qm_get ls 2 = some (.int (qz u172058)) → (0 ≤ u172058 ∧ u172058 ≤ 32) → qI σ α172060 κ ρ → qFr [(86, 15)] [96] σ α σ α172060 → qFi (α172060 96) (σ 86 6) u161279 u172058 → qr_W (qe L xs vb) (d + 1) qx_e187 (fun r w' => ∃ σ' α', w' = qw σ' α' κ ρ ∧ qI σ' α' κ ρ ∧ qFr [(86, 15)] [96] σ α σ' α' ∧ σ' 86 15 = 1 ∧ r = none ∧ qWh P (α' 96) (α 94) (α 95) (σ 86 6) (σ 86 11) 0) (12, ls, [], qw σ α172060 κ ρ, 0, 0) := by
          intro n
          induction n with
          | zero => intro ls u172058 α172060 hm g172055 g172056 g172057 hf172063 hI172061 hF172062 hx172064; exact False.elim (by omega)
          | succ n ih172066 =>
            intro ls u172058 α172060 hm g172055 g172056 g172057 hf172063 hI172061 hF172062 hx172064
            refine qr_iload_n 13 rfl g172057 rfl ?_
            refine qr_aload_n 14 rfl g172055 rfl ?_
            refine qr_get 17 rfl rfl rfl (by decide) rfl ?_
            refine qr_icmp_ge 48 20 rfl rfl rfl (by omega) (by omega) (fun h172067 => ?_) (fun h172067 => ?_)
            · skip
              refine qr_iinc _ 51 rfl g172056 (by decide) rfl rfl ?_
              refine qr_goto 2 rfl rfl ?_
              exact ih161287 _ (u161279 + 1) α172060 (by omega) (qm_gk g172055 (by decide) (Or.inr rfl)) (qm_ge _ _ _) (by omega) hI172061 hF172062 (qFi_row hx172064 (by omega))
            · skip
              refine qr_aload_n 21 rfl g172055 rfl ?_
              refine qr_get 24 rfl rfl rfl (by decide) rfl ?_
              refine qr_bipush 26 rfl (by decide) rfl ?_
              refine qr_iload_n 27 rfl g172056 rfl ?_
              refine qr_imul 28 rfl rfl ?_
              refine qr_iload_n 29 rfl g172057 rfl ?_
              refine qr_iadd 30 rfl rfl ?_
              refine qr_iload_n 31 rfl g172056 rfl ?_
              refine qr_iload_n 32 rfl g172057 rfl ?_
              refine qr_icmp_ne 39 35 rfl rfl rfl (by omega) (by omega) (fun h172068 => ?_) (fun h172068 => ?_)
              · skip
                refine qr_bipush 41 rfl (by decide) rfl ?_
                refine qr_iastore 42 rfl (by decide) rfl (by omega) (by decide) rfl ?_
                refine qy_wA (qw_r α172060 96 (qzu (α172060 96) (((32 * u161279) + u172058) : Int).toNat 99)) rfl (fun α172069 e172070 => ?_)
                have hI172071 : qI σ α172069 κ ρ := by rw [e172070]; exact qI_r hI172061 96 _ rfl (show 0 ≤ 99 ∧ 99 ≤ 99 by omega)
                have hF172072 : qFr [(86, 15)] [96] σ α σ α172069 := by rw [e172070]; exact qFr_r hF172062 96 _ (by decide)
                refine qr_iinc _ 45 rfl g172057 (by decide) rfl rfl ?_
                refine qr_goto 12 rfl rfl ?_
                exact ih172066 _ (u172058 + 1) α172069 (by omega) (qm_gk g172055 (by decide) (Or.inl (by decide))) (qm_gk g172056 (by decide) (Or.inr rfl)) (qm_ge _ _ _) (by omega) hI172071 hF172072 (by rw [(congrFun e172070 96).trans qw_r_eq]; exact qFi_set hx172064 (by omega) (by omega) (by omega) (by congr 1; omega) (by first | (rw [if_pos (by omega)]) | (rw [if_neg (by omega)])))
              · skip
                refine qr_iconst 36 rfl rfl ?_
                refine qr_goto 41 rfl rfl ?_
                refine qr_iastore 42 rfl (by decide) rfl (by omega) (by decide) rfl ?_
                refine qy_wA (qw_r α172060 96 (qzu (α172060 96) (((32 * u161279) + u172058) : Int).toNat 0)) rfl (fun α172073 e172074 => ?_)
                have hI172075 : qI σ α172073 κ ρ := by rw [e172074]; exact qI_r hI172061 96 _ rfl (show 0 ≤ 0 ∧ 0 ≤ 99 by omega)
                have hF172076 : qFr [(86, 15)] [96] σ α σ α172073 := by rw [e172074]; exact qFr_r hF172062 96 _ (by decide)
                refine qr_iinc _ 45 rfl g172057 (by decide) rfl rfl ?_
                refine qr_goto 12 rfl rfl ?_
                exact ih172066 _ (u172058 + 1) α172073 (by omega) (qm_gk g172055 (by decide) (Or.inl (by decide))) (qm_gk g172056 (by decide) (Or.inr rfl)) (qm_ge _ _ _) (by omega) hI172075 hF172076 (by rw [(congrFun e172074 96).trans qw_r_eq]; exact qFi_set hx172064 (by omega) (by omega) (by omega) (by congr 1; omega) (by first | (rw [if_pos (by omega)]) | (rw [if_neg (by omega)])))
        exact hL172065 ((32 - 0 + 1 : Int)).toNat _ 0 α161281 (by omega) (qm_gk g161277 (by decide) (Or.inl (by decide))) (qm_gk g161278 (by decide) (Or.inr rfl)) (qm_ge _ _ _) (by omega) hI161282 hF161283 hx161285
  exact hL161286 ((32 - 0 + 1 : Int)).toNat _ 0 α (by omega) rfl rfl (by omega) hI hF0 qFi_0
