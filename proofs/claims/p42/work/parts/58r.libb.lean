/-! peaces: whether one holds -/
def qho (kd gv fr un cp cq lp lq p q h : Int) : Int :=
  if kd < 0 ∨ 5 < kd ∨ h < fr ∨ un < h then 0
  else if kd = 1 ∨ kd = 2 then (if (cp = 1 ∧ cq = 1) ∨ (cp = 1 ∧ q = gv) ∨ (cq = 1 ∧ p = gv) then 1 else 0)
  else if kd = 3 then (if cp = 1 ∨ cq = 1 then 1 else 0)
  else if kd = 4 then (if cp = 1 ∧ cq = 1 then 1 else 0)
  else if kd = 5 then 1
  else if lp = 1 ∧ lq = 1 then 1 else 0
theorem qho_c (kd gv fr un cp cq lp lq p q h : Int) :
    (qho kd gv fr un cp cq lp lq p q h = 1 ∧ ¬ (kd < 0 ∨ 5 < kd ∨ h < fr ∨ un < h) ∧ ((kd = 1 ∨ kd = 2) → (cp = 1 ∧ cq = 1) ∨ (cp = 1 ∧ q = gv) ∨ (cq = 1 ∧ p = gv)) ∧ (kd = 3 → cp = 1 ∨ cq = 1) ∧ (kd = 4 → cp = 1 ∧ cq = 1) ∧ (kd = 0 → lp = 1 ∧ lq = 1)) ∨
    (qho kd gv fr un cp cq lp lq p q h = 0 ∧ ¬ (¬ (kd < 0 ∨ 5 < kd ∨ h < fr ∨ un < h) ∧ ((kd = 1 ∨ kd = 2) → (cp = 1 ∧ cq = 1) ∨ (cp = 1 ∧ q = gv) ∨ (cq = 1 ∧ p = gv)) ∧ (kd = 3 → cp = 1 ∨ cq = 1) ∧ (kd = 4 → cp = 1 ∧ cq = 1) ∧ (kd = 0 → lp = 1 ∧ lq = 1))) := by
  unfold qho
  by_cases c0 : kd < 0 ∨ 5 < kd ∨ h < fr ∨ un < h
  · rw [if_pos c0]
    exact Or.inr ⟨rfl, fun z => z.1 c0⟩
  · rw [if_neg c0]
    by_cases c1 : kd = 1 ∨ kd = 2
    · rw [if_pos c1]
      by_cases d : (cp = 1 ∧ cq = 1) ∨ (cp = 1 ∧ q = gv) ∨ (cq = 1 ∧ p = gv)
      · exact Or.inl ⟨if_pos d, c0, fun _ => d, fun z => False.elim (by omega), fun z => False.elim (by omega), fun z => False.elim (by omega)⟩
      · exact Or.inr ⟨if_neg d, fun z => d (z.2.1 c1)⟩
    · rw [if_neg c1]
      by_cases c3 : kd = 3
      · rw [if_pos c3]
        by_cases d : cp = 1 ∨ cq = 1
        · exact Or.inl ⟨if_pos d, c0, fun z => absurd z c1, fun _ => d, fun z => False.elim (by omega), fun z => False.elim (by omega)⟩
        · exact Or.inr ⟨if_neg d, fun z => d (z.2.2.1 c3)⟩
      · rw [if_neg c3]
        by_cases c4 : kd = 4
        · rw [if_pos c4]
          by_cases d : cp = 1 ∧ cq = 1
          · exact Or.inl ⟨if_pos d, c0, fun z => absurd z c1, fun z => absurd z c3, fun _ => d, fun z => False.elim (by omega)⟩
          · exact Or.inr ⟨if_neg d, fun z => d (z.2.2.2.1 c4)⟩
        · rw [if_neg c4]
          by_cases c5 : kd = 5
          · rw [if_pos c5]
            exact Or.inl ⟨rfl, c0, fun z => absurd z c1, fun z => absurd z c3, fun z => absurd z c4, fun z => False.elim (by omega)⟩
          · rw [if_neg c5]
            by_cases d : lp = 1 ∧ lq = 1
            · exact Or.inl ⟨if_pos d, c0, fun z => absurd z c1, fun z => absurd z c3, fun z => absurd z c4, fun _ => d⟩
            · exact Or.inr ⟨if_neg d, fun z => d (z.2.2.2.2 (by omega))⟩
theorem qho_01 (kd gv fr un cp cq lp lq p q h : Int) : 0 ≤ qho kd gv fr un cp cq lp lq p q h ∧ qho kd gv fr un cp cq lp lq p q h ≤ 1 := by
  have h1 := qho_c kd gv fr un cp cq lp lq p q h
  omega
theorem qho_sym (kd gv fr un cp cq lp lq p q h : Int) : qho kd gv fr un cp cq lp lq p q h = qho kd gv fr un cq cp lq lp q p h := by
  unfold qho
  by_cases c0 : kd < 0 ∨ 5 < kd ∨ h < fr ∨ un < h
  · rw [if_pos c0, if_pos c0]
  · rw [if_neg c0, if_neg c0]
    by_cases c1 : kd = 1 ∨ kd = 2
    · rw [if_pos c1, if_pos c1]
      exact ite_congr (propext ⟨fun z => by rcases z with z | z | z; (exact Or.inl ⟨z.2, z.1⟩); (exact Or.inr (Or.inr z)); (exact Or.inr (Or.inl z)), fun z => by rcases z with z | z | z; (exact Or.inl ⟨z.2, z.1⟩); (exact Or.inr (Or.inr z)); (exact Or.inr (Or.inl z))⟩) (fun _ => rfl) (fun _ => rfl)
    · rw [if_neg c1, if_neg c1]
      by_cases c3 : kd = 3
      · rw [if_pos c3, if_pos c3]
        exact ite_congr (propext ⟨Or.symm, Or.symm⟩) (fun _ => rfl) (fun _ => rfl)
      · rw [if_neg c3, if_neg c3]
        by_cases c4 : kd = 4
        · rw [if_pos c4, if_pos c4]
          exact ite_congr (propext ⟨And.symm, And.symm⟩) (fun _ => rfl) (fun _ => rfl)
        · rw [if_neg c4, if_neg c4]
          by_cases c5 : kd = 5
          · rw [if_pos c5, if_pos c5]
          · rw [if_neg c5, if_neg c5]
            exact ite_congr (propext ⟨And.symm, And.symm⟩) (fun _ => rfl) (fun _ => rfl)
/-- a peace between two, by rows: kinds, givers, hours, whom each covers, lords -/
def qhF (kd gv fr un : Nat → Int) (cov : Nat → Int → Int) (ln : Int → Int → Int) (p q h : Int) (k : Nat) : Int := qho (kd k) (gv k) (fr k) (un k) (cov k p) (cov k q) (ln p (gv k)) (ln q (gv k)) p q h
def qcv (f : Nat → Int) (k : Nat) (p : Int) : Int := qbit (f k) p
def qlw (f : Nat → Int) (p l : Int) : Int := qbit (f p.toNat) l
def qcw (f : Nat → Int) (k : Nat) (p : Int) : Int := qbi (f (72 + 2 * k + (p / 16).toNat)) (p % 16)
def qun (t b kd : Nat → Int) (k : Nat) : Int := t k + (if kd k = 2 then b k else 0)
def qhG (st : Int) (f : Nat → Int) (k : Nat) : Int := if qbit st (k : Int) = 1 then 0 else f k
/-- along lords: whether l is a or one above -/
def qlc (ld : Nat → Int) (l : Int) : Nat → Int → Int
  | 0, _ => 0
  | n + 1, a => if a < 0 then 0 else if a = l then 1 else qlc ld l n (ld a.toNat)
def qll (ld : Nat → Int) (p l : Int) : Int := qlc ld l 33 p
theorem qlc_st {ld : Nat → Int} {l : Int} (h : ∀ j : Nat, j < 32 → -1 ≤ ld j ∧ ld j < (j : Int)) : ∀ (n m : Nat) (a : Int), a < (n : Int) → a < (m : Int) → a < 32 → qlc ld l n a = qlc ld l m a := by
  intro n
  induction n with
  | zero =>
    intro m a h1 h2 h3
    cases m with
    | zero => rfl
    | succ m => exact (if_pos (show a < 0 by omega)).symm
  | succ n ih =>
    intro m a h1 h2 h3
    cases m with
    | zero => exact if_pos (show a < 0 by omega)
    | succ m =>
      show (if a < 0 then 0 else if a = l then 1 else qlc ld l n (ld a.toNat)) = (if a < 0 then 0 else if a = l then 1 else qlc ld l m (ld a.toNat))
      by_cases e : a < 0
      · rw [if_pos e, if_pos e]
      · have hj := h a.toNat (by omega)
        rw [if_neg e, if_neg e, ih m (ld a.toNat) (by omega) (by omega) (by omega)]
theorem qll_s {ld : Nat → Int} {l : Int} (h : ∀ j : Nat, j < 32 → -1 ≤ ld j ∧ ld j < (j : Int)) {a : Int} (ha : a < 32) : (a < 0 ∧ qll ld a l = 0) ∨ (a = l ∧ 0 ≤ a ∧ qll ld a l = 1) ∨ (0 ≤ a ∧ ¬ a = l ∧ qll ld a l = qll ld (ld a.toNat) l) := by
  by_cases e : a < 0
  · exact Or.inl ⟨e, if_pos e⟩
  · by_cases e2 : a = l
    · exact Or.inr (Or.inl ⟨e2, by omega, (if_neg e).trans (if_pos e2)⟩)
    · have hj := h a.toNat (by omega)
      exact Or.inr (Or.inr ⟨by omega, e2, (if_neg e).trans ((if_neg e2).trans (qlc_st h 32 33 (ld a.toNat) (by omega) (by omega) (by omega)))⟩)
theorem qll_01 (ld : Nat → Int) (p l : Int) : 0 ≤ qll ld p l ∧ qll ld p l ≤ 1 := by
  have h : ∀ n a, 0 ≤ qlc ld l n a ∧ qlc ld l n a ≤ 1 := by
    intro n
    induction n with
    | zero => intro a; show (0 : Int) ≤ 0 ∧ (0 : Int) ≤ 1; omega
    | succ n ih =>
      intro a
      show 0 ≤ (if a < 0 then 0 else if a = l then 1 else qlc ld l n (ld a.toNat)) ∧ (if a < 0 then 0 else if a = l then 1 else qlc ld l n (ld a.toNat)) ≤ 1
      have := ih (ld a.toNat)
      split
      · omega
      · split <;> omega
  exact h 33 p
/-- what the class asks of sets of two -/
theorem qre_pe {a b g v3 v4 v5 : Int} (hg : 0 ≤ g ∧ g < 64) (r3 : -9223372036854775808 ≤ v3 ∧ v3 ≤ 9223372036854775807) (r4 : -9223372036854775808 ≤ v4 ∧ v4 ≤ 9223372036854775807) (r5 : -9223372036854775808 ≤ v5 ∧ v5 ≤ 9223372036854775807) (e3 : ql v3 = ql (ql_shl 1 g)) (e4 : ql v4 = ql (ql_and a b)) (e5 : ql v5 = ql (ql_and v4 v3)) : (v5 = 0 ∧ ¬ (qbit a g = 1 ∧ qbit b g = 1)) ∨ (¬ v5 = 0 ∧ (qbit a g = 1 ∧ qbit b g = 1)) := by
  have f : ∀ i : Int, 0 ≤ i → qbit v5 i = if (qbit a i = 1 ∧ qbit b i = 1) ∧ i = g then 1 else 0 := by
    intro i hi
    rw [ql_val e5 r5 (ql_and_r _ _), ql_val e4 r4 (ql_and_r _ _), ql_val e3 r3 (ql_shl_r _ _), qbit_and, qbit_and, qbit_shl hg hi]
    by_cases e1 : qbit a i = 1 ∧ qbit b i = 1
    · by_cases e2 : i = g
      · rw [if_pos ⟨if_pos e1, if_pos e2⟩, if_pos ⟨e1, e2⟩]
      · rw [if_neg (by rw [if_neg e2]; omega), if_neg (fun z => e2 z.2)]
    · rw [if_neg (by rw [if_neg e1]; omega), if_neg (fun z => e1 z.1)]
  by_cases c : qbit a g = 1 ∧ qbit b g = 1
  · refine Or.inr ⟨fun z => ?_, c⟩
    have h := f g (by omega)
    rw [z, qbit_0, if_pos ⟨c, rfl⟩] at h
    exact absurd h (by decide)
  · refine Or.inl ⟨qbit_ext r5 (by omega) (fun i hi _ => ?_), c⟩
    rw [f i hi, qbit_0, if_neg (fun z => c (by rw [← z.2]; exact z.1))]
theorem qre_both {p q v0 v1 v2 : Int} (hp : 0 ≤ p ∧ p < 64) (hq : 0 ≤ q ∧ q < 64) (r0 : -9223372036854775808 ≤ v0 ∧ v0 ≤ 9223372036854775807) (r1 : -9223372036854775808 ≤ v1 ∧ v1 ≤ 9223372036854775807) (r2 : -9223372036854775808 ≤ v2 ∧ v2 ≤ 9223372036854775807) (e0 : ql v0 = ql (ql_shl 1 p)) (e1 : ql v1 = ql (ql_shl 1 q)) (e2 : ql v2 = ql (ql_or v0 v1)) {i : Int} (hi : 0 ≤ i) : qbit v2 i = if i = p ∨ i = q then 1 else 0 := by
  rw [ql_val e2 r2 (ql_or_r _ _), ql_val e0 r0 (ql_shl_r _ _), ql_val e1 r1 (ql_shl_r _ _), qbit_or, qbit_shl hp hi, qbit_shl hq hi]
  by_cases a : i = p
  · rw [if_pos (Or.inl (if_pos a)), if_pos (Or.inl a)]
  · by_cases b : i = q
    · rw [if_pos (Or.inr (if_pos b)), if_pos (Or.inr b)]
    · rw [if_neg (by rw [if_neg a, if_neg b]; omega), if_neg (by omega)]
/-- both of two are in a set -/
theorem qre_all {p q c v2 v5 : Int} (hp : 0 ≤ p ∧ p < 64) (hq : 0 ≤ q ∧ q < 64) (r2 : -9223372036854775808 ≤ v2 ∧ v2 ≤ 9223372036854775807) (r5 : -9223372036854775808 ≤ v5 ∧ v5 ≤ 9223372036854775807) (h2 : ∀ i : Int, 0 ≤ i → qbit v2 i = if i = p ∨ i = q then 1 else 0) (e5 : ql v5 = ql (ql_and c v2)) : (v5 = v2 ∧ (qbit c p = 1 ∧ qbit c q = 1)) ∨ (¬ v5 = v2 ∧ ¬ (qbit c p = 1 ∧ qbit c q = 1)) := by
  have f : ∀ i : Int, 0 ≤ i → qbit v5 i = if qbit c i = 1 ∧ (i = p ∨ i = q) then 1 else 0 := by
    intro i hi
    rw [ql_val e5 r5 (ql_and_r _ _), qbit_and, h2 i hi]
    by_cases a : i = p ∨ i = q
    · rw [if_pos a]
      by_cases b : qbit c i = 1
      · rw [if_pos ⟨b, rfl⟩, if_pos ⟨b, a⟩]
      · rw [if_neg (fun z => b z.1), if_neg (fun z => b z.1)]
    · rw [if_neg a, if_neg (by omega), if_neg (fun z => a z.2)]
  by_cases z : qbit c p = 1 ∧ qbit c q = 1
  · refine Or.inl ⟨qbit_ext r5 r2 (fun i hi _ => ?_), z⟩
    rw [f i hi, h2 i hi]
    by_cases a : i = p ∨ i = q
    · rw [if_pos a, if_pos ⟨by rcases a with rfl | rfl; (exact z.1); (exact z.2), a⟩]
    · rw [if_neg a, if_neg (fun y => a y.2)]
  · refine Or.inr ⟨fun e => z ⟨?_, ?_⟩, z⟩
    · have g1 := f p hp.1
      rw [e, h2 p hp.1, if_pos (Or.inl rfl)] at g1
      by_cases b : qbit c p = 1
      · exact b
      · rw [if_neg (fun y => b y.1)] at g1
        exact absurd g1 (by decide)
    · have g1 := f q hq.1
      rw [e, h2 q hq.1, if_pos (Or.inr rfl)] at g1
      by_cases b : qbit c q = 1
      · exact b
      · rw [if_neg (fun y => b y.1)] at g1
        exact absurd g1 (by decide)
/-- one of two is in a set -/
theorem qre_any {p q c v2 v5 : Int} (hp : 0 ≤ p ∧ p < 64) (hq : 0 ≤ q ∧ q < 64) (r5 : -9223372036854775808 ≤ v5 ∧ v5 ≤ 9223372036854775807) (h2 : ∀ i : Int, 0 ≤ i → qbit v2 i = if i = p ∨ i = q then 1 else 0) (e5 : ql v5 = ql (ql_and c v2)) : (v5 = 0 ∧ ¬ (qbit c p = 1 ∨ qbit c q = 1)) ∨ (¬ v5 = 0 ∧ (qbit c p = 1 ∨ qbit c q = 1)) := by
  have f : ∀ i : Int, 0 ≤ i → qbit v5 i = if qbit c i = 1 ∧ (i = p ∨ i = q) then 1 else 0 := by
    intro i hi
    rw [ql_val e5 r5 (ql_and_r _ _), qbit_and, h2 i hi]
    by_cases a : i = p ∨ i = q
    · rw [if_pos a]
      by_cases b : qbit c i = 1
      · rw [if_pos ⟨b, rfl⟩, if_pos ⟨b, a⟩]
      · rw [if_neg (fun z => b z.1), if_neg (fun z => b z.1)]
    · rw [if_neg a, if_neg (by omega), if_neg (fun z => a z.2)]
  by_cases z : qbit c p = 1 ∨ qbit c q = 1
  · refine Or.inr ⟨fun e => ?_, z⟩
    rcases z with z | z
    · have g1 := f p hp.1
      rw [e, qbit_0, if_pos ⟨z, Or.inl rfl⟩] at g1
      exact absurd g1 (by decide)
    · have g1 := f q hq.1
      rw [e, qbit_0, if_pos ⟨z, Or.inr rfl⟩] at g1
      exact absurd g1 (by decide)
  · refine Or.inl ⟨qbit_ext r5 (by omega) (fun i hi _ => ?_), z⟩
    rw [f i hi, qbit_0, if_neg (fun y => z (by rcases y.2 with e | e; (exact Or.inl (by rw [← e]; exact y.1)); (exact Or.inr (by rw [← e]; exact y.1))))]
theorem qre_or {c g v3 v4 : Int} (hg : 0 ≤ g ∧ g < 64) (r3 : -9223372036854775808 ≤ v3 ∧ v3 ≤ 9223372036854775807) (r4 : -9223372036854775808 ≤ v4 ∧ v4 ≤ 9223372036854775807) (e3 : ql v3 = ql (ql_shl 1 g)) (e4 : ql v4 = ql (ql_or c v3)) {i : Int} (hi : 0 ≤ i) : (qbit v4 i = 1 ∧ (qbit c i = 1 ∨ i = g)) ∨ (qbit v4 i = 0 ∧ ¬ (qbit c i = 1 ∨ i = g)) := by
  rw [ql_val e4 r4 (ql_or_r _ _), ql_val e3 r3 (ql_shl_r _ _), qbit_or, qbit_shl hg hi]
  by_cases a : qbit c i = 1
  · exact Or.inl ⟨if_pos (Or.inl a), Or.inl a⟩
  · by_cases b : i = g
    · exact Or.inl ⟨if_pos (Or.inr (if_pos b)), Or.inr b⟩
    · exact Or.inr ⟨if_neg (by rw [if_neg b]; omega), by omega⟩
