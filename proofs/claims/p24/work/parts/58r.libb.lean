section
/-! peaces: whether one holds -/
def qho (kd gv fr un cp cq lp lq p q h : Int) : Int :=
  if kd < 0 ∨ 5 < kd ∨ h < fr ∨ un < h then 0
  else if kd = 1 ∨ kd = 2 then (if (cp = 1 ∧ cq = 1) ∨ (cp = 1 ∧ q = gv) ∨ (cq = 1 ∧ p = gv) then 1 else 0)
  else if kd = 3 then (if cp = 1 ∨ cq = 1 then 1 else 0)
  else if kd = 4 then (if cp = 1 ∧ cq = 1 then 1 else 0)
  else if kd = 5 then 1
  else if lp = 1 ∧ lq = 1 then 1 else 0
theorem qho_c (kd gv fr un cp cq lp lq p q h : Int) :
    (qho kd gv fr un cp cq lp lq p q h = 1 ∧ ¬ (kd < 0 ∨ 5 < kd ∨ h < fr ∨ un < h) ∧ ((kd = 1 ∨ kd = 2) → (cp = 1 ∧ cq = 1) ∨ (cp = 1 ∧ q = gv) ∨ (cq = 1 ∧ p = gv)) ∧ (kd = 3 → cp = 1 ∨ cq = 1) ∧ (kd = 4 → cp = 1 ∧ cq = 1) ∧ (kd = 0 → lp = 1 ∧ lq = 1)) ∨
    (qho kd gv fr un cp cq lp lq p q h = 0 ∧ ¬ (¬ (kd < 0 ∨ 5 < kd ∨ h < fr ∨ un < h) ∧ ((kd = 1 ∨ kd = 2) → (cp = 1 ∧ cq = 1) ∨ (cp = 1 ∧ q = gv) ∨ (cq = 1 ∧ p = gv)) ∧ (kd = 3 → cp = 1 ∨ cq = 1) ∧ (kd = 4 → cp = 1 ∧ cq = 1) ∧ (kd = 0 → lp = 1 ∧ lq = 1))) := by
  unfold qho
  by_cases c0 : kd < 0 ∨ 5 < kd ∨ h < fr ∨ un < h
  · rw [if_pos c0]
    exact Or.inr ⟨rfl, fun z => z.1 c0⟩
  · rw [if_neg c0]
    by_cases c1 : kd = 1 ∨ kd = 2
    · rw [if_pos c1]
      by_cases d : (cp = 1 ∧ cq = 1) ∨ (cp = 1 ∧ q = gv) ∨ (cq = 1 ∧ p = gv)
      · exact Or.inl ⟨if_pos d, c0, fun _ => d, fun z => False.elim (by omega), fun z => False.elim (by omega), fun z => False.elim (by omega)⟩
      · exact Or.inr ⟨if_neg d, fun z => d (z.2.1 c1)⟩
    · rw [if_neg c1]
      by_cases c3 : kd = 3
      · rw [if_pos c3]
        by_cases d : cp = 1 ∨ cq = 1
        · exact Or.inl ⟨if_pos d, c0, fun z => absurd z c1, fun _ => d, fun z => False.elim (by omega), fun z => False.elim (by omega)⟩
        · exact Or.inr ⟨if_neg d, fun z => d (z.2.2.1 c3)⟩
      · rw [if_neg c3]
        by_cases c4 : kd = 4
        · rw [if_pos c4]
          by_cases d : cp = 1 ∧ cq = 1
          · exact Or.inl ⟨if_pos d, c0, fun z => absurd z c1, fun z => absurd z c3, fun _ => d, fun z => False.elim (by omega)⟩
          · exact Or.inr ⟨if_neg d, fun z => d (z.2.2.2.1 c4)⟩
        · rw [if_neg c4]
          by_cases c5 : kd = 5
          · rw [if_pos c5]
            exact Or.inl ⟨rfl, c0, fun z => absurd z c1, fun z => absurd z c3, fun z => absurd z c4, fun z => False.elim (by omega)⟩
          · rw [if_neg c5]
            by_cases d : lp = 1 ∧ lq = 1
            · exact Or.inl ⟨if_pos d, c0, fun z => absurd z c1, fun z => absurd z c3, fun z => absurd z c4, fun _ => d⟩
            · exact Or.inr ⟨if_neg d, fun z => d (z.2.2.2.2 (by omega))⟩
theorem qho_01 (kd gv fr un cp cq lp lq p q h : Int) : 0 ≤ qho kd gv fr un cp cq lp lq p q h ∧ qho kd gv fr un cp cq lp lq p q h ≤ 1 := by
  have h1 := qho_c kd gv fr un cp cq lp lq p q h
  omega
theorem qho_sym (kd gv fr un cp cq lp lq p q h : Int) : qho kd gv fr un cp cq lp lq p q h = qho kd gv fr un cq cp lq lp q p h := by
  unfold qho
  by_cases c0 : kd < 0 ∨ 5 < kd ∨ h < fr ∨ un < h
  · rw [if_pos c0, if_pos c0]
  · rw [if_neg c0, if_neg c0]
    by_cases c1 : kd = 1 ∨ kd = 2
    · rw [if_pos c1, if_pos c1]
      exact ite_congr (propext ⟨fun z => by rcases z with z | z | z; (exact Or.inl ⟨z.2, z.1⟩); (exact Or.inr (Or.inr z)); (exact Or.inr (Or.inl z)), fun z => by rcases z with z | z | z; (exact Or.inl ⟨z.2, z.1⟩); (exact Or.inr (Or.inr z)); (exact Or.inr (Or.inl z))⟩) (fun _ => rfl) (fun _ => rfl)
    · rw [if_neg c1, if_neg c1]
      by_cases c3 : kd = 3
      · rw [if_pos c3, if_pos c3]
        exact ite_congr (propext ⟨Or.symm, Or.symm⟩) (fun _ => rfl) (fun _ => rfl)
      · rw [if_neg c3, if_neg c3]
        by_cases c4 : kd = 4
        · rw [if_pos c4, if_pos c4]
          exact ite_congr (propext ⟨And.symm, And.symm⟩) (fun _ => rfl) (fun _ => rfl)
        · rw [if_neg c4, if_neg c4]
          by_cases c5 : kd = 5
          · rw [if_pos c5, if_pos c5]
          · rw [if_neg c5, if_neg c5]
            exact ite_congr (propext ⟨And.symm, And.symm⟩) (fun _ => rfl) (fun _ => rfl)
/-- a peace between two, by rows: kinds, givers, hours, whom each covers, lords -/
def qhF (kd gv fr un : Nat → Int) (cov : Nat → Int → Int) (ln : Int → Int → Int) (p q h : Int) (k : Nat) : Int := qho (kd k) (gv k) (fr k) (un k) (cov k p) (cov k q) (ln p (gv k)) (ln q (gv k)) p q h
def qcv (f : Nat → Int) (k : Nat) (p : Int) : Int := qbit (f k) p
def qlw (f : Nat → Int) (p l : Int) : Int := qbit (f p.toNat) l
def qcw (f : Nat → Int) (k : Nat) (p : Int) : Int := qbi (f (72 + 2 * k + (p / 16).toNat)) (p % 16)
def qun (t b kd : Nat → Int) (k : Nat) : Int := t k + (if kd k = 2 then b k else 0)
def qhG (st : Int) (f : Nat → Int) (k : Nat) : Int := if qbit st (k : Int) = 1 then 0 else f k
/-- along lords: whether l is a or one above -/
def qlc (ld : Nat → Int) (l : Int) : Nat → Int → Int
  | 0, _ => 0
  | n + 1, a => if a < 0 then 0 else if a = l then 1 else qlc ld l n (ld a.toNat)
def qll (ld : Nat → Int) (p l : Int) : Int := qlc ld l 33 p
theorem qlc_st {ld : Nat → Int} {l : Int} (h : ∀ j : Nat, j < 32 → -1 ≤ ld j ∧ ld j < (j : Int)) : ∀ (n m : Nat) (a : Int), a < (n : Int) → a < (m : Int) → a < 32 → qlc ld l n a = qlc ld l m a := by
  intro n
  induction n with
  | zero =>
    intro m a h1 h2 h3
    cases m with
    | zero => rfl
    | succ m => exact (if_pos (show a < 0 by omega)).symm
  | succ n ih =>
    intro m a h1 h2 h3
    cases m with
    | zero => exact if_pos (show a < 0 by omega)
    | succ m =>
      show (if a < 0 then 0 else if a = l then 1 else qlc ld l n (ld a.toNat)) = (if a < 0 then 0 else if a = l then 1 else qlc ld l m (ld a.toNat))
      by_cases e : a < 0
      · rw [if_pos e, if_pos e]
      · have hj := h a.toNat (by omega)
        rw [if_neg e, if_neg e, ih m (ld a.toNat) (by omega) (by omega) (by omega)]
theorem qll_s {ld : Nat → Int} {l : Int} (h : ∀ j : Nat, j < 32 → -1 ≤ ld j ∧ ld j < (j : Int)) {a : Int} (ha : a < 32) : (a < 0 ∧ qll ld a l = 0) ∨ (a = l ∧ 0 ≤ a ∧ qll ld a l = 1) ∨ (0 ≤ a ∧ ¬ a = l ∧ qll ld a l = qll ld (ld a.toNat) l) := by
  by_cases e : a < 0
  · exact Or.inl ⟨e, if_pos e⟩
  · by_cases e2 : a = l
    · exact Or.inr (Or.inl ⟨e2, by omega, (if_neg e).trans (if_pos e2)⟩)
    · have hj := h a.toNat (by omega)
      exact Or.inr (Or.inr ⟨by omega, e2, (if_neg e).trans ((if_neg e2).trans (qlc_st h 32 33 (ld a.toNat) (by omega) (by omega) (by omega)))⟩)
theorem qll_01 (ld : Nat → Int) (p l : Int) : 0 ≤ qll ld p l ∧ qll ld p l ≤ 1 := by
  have h : ∀ n a, 0 ≤ qlc ld l n a ∧ qlc ld l n a ≤ 1 := by
    intro n
    induction n with
    | zero => intro a; show (0 : Int) ≤ 0 ∧ (0 : Int) ≤ 1; omega
    | succ n ih =>
      intro a
      show 0 ≤ (if a < 0 then 0 else if a = l then 1 else qlc ld l n (ld a.toNat)) ∧ (if a < 0 then 0 else if a = l then 1 else qlc ld l n (ld a.toNat)) ≤ 1
      have := ih (ld a.toNat)
      split
      · omega
      · split <;> omega
  exact h 33 p
/-- what the class asks of sets of two -/
theorem qre_pe {a b g v3 v4 v5 : Int} (hg : 0 ≤ g ∧ g < 64) (r3 : -9223372036854775808 ≤ v3 ∧ v3 ≤ 9223372036854775807) (r4 : -9223372036854775808 ≤ v4 ∧ v4 ≤ 9223372036854775807) (r5 : -9223372036854775808 ≤ v5 ∧ v5 ≤ 9223372036854775807) (e3 : ql v3 = ql (ql_shl 1 g)) (e4 : ql v4 = ql (ql_and a b)) (e5 : ql v5 = ql (ql_and v4 v3)) : (v5 = 0 ∧ ¬ (qbit a g = 1 ∧ qbit b g = 1)) ∨ (¬ v5 = 0 ∧ (qbit a g = 1 ∧ qbit b g = 1)) := by
  have f : ∀ i : Int, 0 ≤ i → qbit v5 i = if (qbit a i = 1 ∧ qbit b i = 1) ∧ i = g then 1 else 0 := by
    intro i hi
    rw [ql_val e5 r5 (ql_and_r _ _), ql_val e4 r4 (ql_and_r _ _), ql_val e3 r3 (ql_shl_r _ _), qbit_and, qbit_and, qbit_shl hg hi]
    by_cases e1 : qbit a i = 1 ∧ qbit b i = 1
    · by_cases e2 : i = g
      · rw [if_pos ⟨if_pos e1, if_pos e2⟩, if_pos ⟨e1, e2⟩]
      · rw [if_neg (by rw [if_neg e2]; omega), if_neg (fun z => e2 z.2)]
    · rw [if_neg (by rw [if_neg e1]; omega), if_neg (fun z => e1 z.1)]
  by_cases c : qbit a g = 1 ∧ qbit b g = 1
  · refine Or.inr ⟨fun z => ?_, c⟩
    have h := f g (by omega)
    rw [z, qbit_0, if_pos ⟨c, rfl⟩] at h
    exact absurd h (by decide)
  · refine Or.inl ⟨qbit_ext r5 (by omega) (fun i hi _ => ?_), c⟩
    rw [f i hi, qbit_0, if_neg (fun z => c (by rw [← z.2]; exact z.1))]
theorem qre_both {p q v0 v1 v2 : Int} (hp : 0 ≤ p ∧ p < 64) (hq : 0 ≤ q ∧ q < 64) (r0 : -9223372036854775808 ≤ v0 ∧ v0 ≤ 9223372036854775807) (r1 : -9223372036854775808 ≤ v1 ∧ v1 ≤ 9223372036854775807) (r2 : -9223372036854775808 ≤ v2 ∧ v2 ≤ 9223372036854775807) (e0 : ql v0 = ql (ql_shl 1 p)) (e1 : ql v1 = ql (ql_shl 1 q)) (e2 : ql v2 = ql (ql_or v0 v1)) {i : Int} (hi : 0 ≤ i) : qbit v2 i = if i = p ∨ i = q then 1 else 0 := by
  rw [ql_val e2 r2 (ql_or_r _ _), ql_val e0 r0 (ql_shl_r _ _), ql_val e1 r1 (ql_shl_r _ _), qbit_or, qbit_shl hp hi, qbit_shl hq hi]
  by_cases a : i = p
  · rw [if_pos (Or.inl (if_pos a)), if_pos (Or.inl a)]
  · by_cases b : i = q
    · rw [if_pos (Or.inr (if_pos b)), if_pos (Or.inr b)]
    · rw [if_neg (by rw [if_neg a, if_neg b]; omega), if_neg (by omega)]
/-- both of two are in a set -/
theorem qre_all {p q c v2 v5 : Int} (hp : 0 ≤ p ∧ p < 64) (hq : 0 ≤ q ∧ q < 64) (r2 : -9223372036854775808 ≤ v2 ∧ v2 ≤ 9223372036854775807) (r5 : -9223372036854775808 ≤ v5 ∧ v5 ≤ 9223372036854775807) (h2 : ∀ i : Int, 0 ≤ i → qbit v2 i = if i = p ∨ i = q then 1 else 0) (e5 : ql v5 = ql (ql_and c v2)) : (v5 = v2 ∧ (qbit c p = 1 ∧ qbit c q = 1)) ∨ (¬ v5 = v2 ∧ ¬ (qbit c p = 1 ∧ qbit c q = 1)) := by
  have f : ∀ i : Int, 0 ≤ i → qbit v5 i = if qbit c i = 1 ∧ (i = p ∨ i = q) then 1 else 0 := by
    intro i hi
    rw [ql_val e5 r5 (ql_and_r _ _), qbit_and, h2 i hi]
    by_cases a : i = p ∨ i = q
    · rw [if_pos a]
      by_cases b : qbit c i = 1
      · rw [if_pos ⟨b, rfl⟩, if_pos ⟨b, a⟩]
      · rw [if_neg (fun z => b z.1), if_neg (fun z => b z.1)]
    · rw [if_neg a, if_neg (by omega), if_neg (fun z => a z.2)]
  by_cases z : qbit c p = 1 ∧ qbit c q = 1
  · refine Or.inl ⟨qbit_ext r5 r2 (fun i hi _ => ?_), z⟩
    rw [f i hi, h2 i hi]
    by_cases a : i = p ∨ i = q
    · rw [if_pos a, if_pos ⟨by rcases a with rfl | rfl; (exact z.1); (exact z.2), a⟩]
    · rw [if_neg a, if_neg (fun y => a y.2)]
  · refine Or.inr ⟨fun e => z ⟨?_, ?_⟩, z⟩
    · have g1 := f p hp.1
      rw [e, h2 p hp.1, if_pos (Or.inl rfl)] at g1
      by_cases b : qbit c p = 1
      · exact b
      · rw [if_neg (fun y => b y.1)] at g1
        exact absurd g1 (by decide)
    · have g1 := f q hq.1
      rw [e, h2 q hq.1, if_pos (Or.inr rfl)] at g1
      by_cases b : qbit c q = 1
      · exact b
      · rw [if_neg (fun y => b y.1)] at g1
        exact absurd g1 (by decide)
/-- one of two is in a set -/
theorem qre_any {p q c v2 v5 : Int} (hp : 0 ≤ p ∧ p < 64) (hq : 0 ≤ q ∧ q < 64) (r5 : -9223372036854775808 ≤ v5 ∧ v5 ≤ 9223372036854775807) (h2 : ∀ i : Int, 0 ≤ i → qbit v2 i = if i = p ∨ i = q then 1 else 0) (e5 : ql v5 = ql (ql_and c v2)) : (v5 = 0 ∧ ¬ (qbit c p = 1 ∨ qbit c q = 1)) ∨ (¬ v5 = 0 ∧ (qbit c p = 1 ∨ qbit c q = 1)) := by
  have f : ∀ i : Int, 0 ≤ i → qbit v5 i = if qbit c i = 1 ∧ (i = p ∨ i = q) then 1 else 0 := by
    intro i hi
    rw [ql_val e5 r5 (ql_and_r _ _), qbit_and, h2 i hi]
    by_cases a : i = p ∨ i = q
    · rw [if_pos a]
      by_cases b : qbit c i = 1
      · rw [if_pos ⟨b, rfl⟩, if_pos ⟨b, a⟩]
      · rw [if_neg (fun z => b z.1), if_neg (fun z => b z.1)]
    · rw [if_neg a, if_neg (by omega), if_neg (fun z => a z.2)]
  by_cases z : qbit c p = 1 ∨ qbit c q = 1
  · refine Or.inr ⟨fun e => ?_, z⟩
    rcases z with z | z
    · have g1 := f p hp.1
      rw [e, qbit_0, if_pos ⟨z, Or.inl rfl⟩] at g1
      exact absurd g1 (by decide)
    · have g1 := f q hq.1
      rw [e, qbit_0, if_pos ⟨z, Or.inr rfl⟩] at g1
      exact absurd g1 (by decide)
  · refine Or.inl ⟨qbit_ext r5 (by omega) (fun i hi _ => ?_), z⟩
    rw [f i hi, qbit_0, if_neg (fun y => z (by rcases y.2 with e | e; (exact Or.inl (by rw [← e]; exact y.1)); (exact Or.inr (by rw [← e]; exact y.1))))]
theorem qre_or {c g v3 v4 : Int} (hg : 0 ≤ g ∧ g < 64) (r3 : -9223372036854775808 ≤ v3 ∧ v3 ≤ 9223372036854775807) (r4 : -9223372036854775808 ≤ v4 ∧ v4 ≤ 9223372036854775807) (e3 : ql v3 = ql (ql_shl 1 g)) (e4 : ql v4 = ql (ql_or c v3)) {i : Int} (hi : 0 ≤ i) : (qbit v4 i = 1 ∧ (qbit c i = 1 ∨ i = g)) ∨ (qbit v4 i = 0 ∧ ¬ (qbit c i = 1 ∨ i = g)) := by
  rw [ql_val e4 r4 (ql_or_r _ _), ql_val e3 r3 (ql_shl_r _ _), qbit_or, qbit_shl hg hi]
  by_cases a : qbit c i = 1
  · exact Or.inl ⟨if_pos (Or.inl a), Or.inl a⟩
  · by_cases b : i = g
    · exact Or.inl ⟨if_pos (Or.inr (if_pos b)), Or.inr b⟩
    · exact Or.inr ⟨if_neg (by rw [if_neg b]; omega), by omega⟩
end
section
section QYIE
variable {X : qm_X} {d : Nat} {x : qs_Ent} {Q : Option Value → qm_W → Prop} {pc : Nat} {ls : qm_L} {st : List Value} {w : qm_W} {c n r1 r2 r3 : Nat} {rv : Value}
theorem qy_iincE {z : Nat} {v y : Int} (p : Nat) (hq : qm_fetch x.2.2.2.2.2.2.2 pc = some (pc, .iinc z v, 3, r1, r2, r3, rv)) (hg : qm_get ls z = some (.int (qz y))) (hz : z < x.2.2.2.1) (hp : pc + 3 = p) (k : ∀ u : Int, (-2147483648 ≤ u ∧ u ≤ 2147483647) → qz u = qz (y + v) → qr_W X d x Q (p, qm_put1 ls z (.int (qz u)), st, w, c, n)) : qr_W X d x Q (pc, ls, st, w, c, n) := by
  refine qr_iinc _ p hq hg hz rfl hp ?_
  rw [qz_of (qz (y + v))]
  exact k _ (qz_rng _) (qz_of (qz (y + v))).symm
end QYIE
theorem qhG_01 (b : Int) {f : Nat → Int} (h : ∀ k, 0 ≤ f k ∧ f k ≤ 1) (k : Nat) : 0 ≤ qhG b f k ∧ qhG b f k ≤ 1 := by
  unfold qhG
  split
  · omega
  · exact h k
theorem qzv_of {v s : Int} (h : qz v = qz s) (r : -2147483648 ≤ v ∧ v ≤ 2147483647) (q : -2147483648 ≤ s ∧ s ≤ 2147483647) : v = s := by
  have h2 := congrArg Int32.toInt h
  rwa [qz_ti r, qz_ti q] at h2
def qrh (kd gv cp cq lp lq p q : Int) : Int :=
  if kd = 1 ∨ kd = 2 then (if (cp = 1 ∧ cq = 1) ∨ (cp = 1 ∧ q = gv) ∨ (cq = 1 ∧ p = gv) then 1 else 0)
  else if kd = 3 then (if cp = 1 ∨ cq = 1 then 1 else 0)
  else if kd = 4 then (if cp = 1 ∧ cq = 1 then 1 else 0)
  else if kd = 5 then 1
  else if kd = 0 ∧ lp = 1 ∧ lq = 1 then 1 else 0
theorem qho_s (kd gv fr un cp cq lp lq p q h : Int) : (fr ≤ h ∧ h ≤ un ∧ qho kd gv fr un cp cq lp lq p q h = qrh kd gv cp cq lp lq p q) ∨ (¬ (fr ≤ h ∧ h ≤ un) ∧ qho kd gv fr un cp cq lp lq p q h = 0) := by
  by_cases c : fr ≤ h ∧ h ≤ un
  · refine Or.inl ⟨c.1, c.2, ?_⟩
    unfold qho qrh
    by_cases k : kd < 0 ∨ 5 < kd
    · rw [if_pos (by omega), if_neg (by omega), if_neg (by omega), if_neg (by omega), if_neg (by omega), if_neg (by omega)]
    · rw [if_neg (by omega)]
      by_cases k1 : kd = 1 ∨ kd = 2
      · rw [if_pos k1, if_pos k1]
      · rw [if_neg k1, if_neg k1]
        by_cases k3 : kd = 3
        · rw [if_pos k3, if_pos k3]
        · rw [if_neg k3, if_neg k3]
          by_cases k4 : kd = 4
          · rw [if_pos k4, if_pos k4]
          · rw [if_neg k4, if_neg k4]
            by_cases k5 : kd = 5
            · rw [if_pos k5, if_pos k5]
            · rw [if_neg k5, if_neg k5]
              have k0 : kd = 0 := by omega
              by_cases l : lp = 1 ∧ lq = 1
              · rw [if_pos l, if_pos ⟨k0, l⟩]
              · rw [if_neg l, if_neg (fun z => l z.2)]
  · exact Or.inr ⟨c, if_pos (by omega)⟩
theorem qrh_12 {kd gv cp cq lp lq p q : Int} (h : kd = 1 ∨ kd = 2) : (((cp = 1 ∧ cq = 1) ∨ (cp = 1 ∧ q = gv) ∨ (cq = 1 ∧ p = gv)) ∧ qrh kd gv cp cq lp lq p q = 1) ∨ (¬ ((cp = 1 ∧ cq = 1) ∨ (cp = 1 ∧ q = gv) ∨ (cq = 1 ∧ p = gv)) ∧ qrh kd gv cp cq lp lq p q = 0) := by
  unfold qrh
  rw [if_pos h]
  by_cases c : (cp = 1 ∧ cq = 1) ∨ (cp = 1 ∧ q = gv) ∨ (cq = 1 ∧ p = gv)
  · exact Or.inl ⟨c, if_pos c⟩
  · exact Or.inr ⟨c, if_neg c⟩
theorem qrh_3 {kd gv cp cq lp lq p q : Int} (h : kd = 3) : ((cp = 1 ∨ cq = 1) ∧ qrh kd gv cp cq lp lq p q = 1) ∨ (¬ (cp = 1 ∨ cq = 1) ∧ qrh kd gv cp cq lp lq p q = 0) := by
  unfold qrh
  rw [if_neg (by omega), if_pos h]
  by_cases c : cp = 1 ∨ cq = 1
  · exact Or.inl ⟨c, if_pos c⟩
  · exact Or.inr ⟨c, if_neg c⟩
theorem qrh_4 {kd gv cp cq lp lq p q : Int} (h : kd = 4) : ((cp = 1 ∧ cq = 1) ∧ qrh kd gv cp cq lp lq p q = 1) ∨ (¬ (cp = 1 ∧ cq = 1) ∧ qrh kd gv cp cq lp lq p q = 0) := by
  unfold qrh
  rw [if_neg (by omega), if_neg (by omega), if_pos h]
  by_cases c : cp = 1 ∧ cq = 1
  · exact Or.inl ⟨c, if_pos c⟩
  · exact Or.inr ⟨c, if_neg c⟩
theorem qrh_5 {kd gv cp cq lp lq p q : Int} (h : kd = 5) : qrh kd gv cp cq lp lq p q = 1 := by
  unfold qrh
  rw [if_neg (by omega), if_neg (by omega), if_neg (by omega), if_pos h]
theorem qrh_0 {kd gv cp cq lp lq p q : Int} (h : kd = 0) : ((lp = 1 ∧ lq = 1) ∧ qrh kd gv cp cq lp lq p q = 1) ∨ (¬ (lp = 1 ∧ lq = 1) ∧ qrh kd gv cp cq lp lq p q = 0) := by
  unfold qrh
  rw [if_neg (by omega), if_neg (by omega), if_neg (by omega), if_neg (by omega)]
  by_cases c : lp = 1 ∧ lq = 1
  · exact Or.inl ⟨c, if_pos ⟨h, c⟩⟩
  · exact Or.inr ⟨c, if_neg (fun z => c z.2)⟩
theorem qrh_9 {kd gv cp cq lp lq p q : Int} (h : kd < 0 ∨ 5 < kd) : qrh kd gv cp cq lp lq p q = 0 := by
  unfold qrh
  rw [if_neg (by omega), if_neg (by omega), if_neg (by omega), if_neg (by omega), if_neg (by omega)]
theorem qrh_o {kd gv cp cq lp lq p q : Int} : (0 ≤ kd ∧ kd ≤ 5) ∨ qrh kd gv cp cq lp lq p q = 0 := by
  by_cases c : 0 ≤ kd ∧ kd ≤ 5
  · exact Or.inl c
  · exact Or.inr (qrh_9 (by omega))
def qlt (f : Nat → Int) : Nat → Int
  | 0 => 0
  | n + 1 => if f n = 1 then (n : Int) else qlt f n
theorem qlt_s (f : Nat → Int) {i : Int} (h : 0 ≤ i) : (f i.toNat = 1 ∧ qlt f (i + 1).toNat = i) ∨ (¬ f i.toNat = 1 ∧ qlt f (i + 1).toNat = qlt f i.toNat) := by
  obtain ⟨n, rfl⟩ : ∃ n : Nat, i = n := ⟨i.toNat, by omega⟩
  rw [show ((n : Int) + 1).toNat = n + 1 by omega, Int.toNat_natCast]
  by_cases e : f n = 1
  · exact Or.inl ⟨e, if_pos e⟩
  · exact Or.inr ⟨e, if_neg e⟩
def qZp (σ α : Nat → Nat → Int) : Prop := ∀ k : Nat, (k : Int) < σ 34 7 → 0 ≤ α 36 k ∧ α 36 k ≤ 31
theorem qZp_fr {S : List (Nat × Nat)} {R : List Nat} {σ α σ' α' : Nat → Nat → Int} (hG : qFr S R σ α σ' α') (hs : [(34, 7)].all (fun x => !S.contains x) = true) (hr : [36].all (fun x => !R.contains x) = true) (h : qZp σ α) : qZp σ' α' := by
  have es : ∀ a k, (a, k) ∈ [(34, 7)] → σ' a k = σ a k := fun a k hm => hG.1 a k (fun hn => by
    have h1 := List.all_eq_true.mp hs (a, k) hm
    rw [List.contains_iff_mem.mpr hn] at h1
    exact absurd h1 (by decide))
  have er : ∀ a, a ∈ [36] → α' a = α a := fun a hm => hG.2 a (fun hn => by
    have h1 := List.all_eq_true.mp hr a hm
    rw [List.contains_iff_mem.mpr hn] at h1
    exact absurd h1 (by decide))
  unfold qZp
  rw [es 34 7 (by decide), er 36 (by decide)]
  exact h
def qZk (σ α : Nat → Nat → Int) : Prop := ∀ k : Nat, (k : Int) < σ 86 24 → (0 ≤ qsh (α 87) 192 k ∧ qsh (α 87) 192 k ≤ 6) ∧ (0 ≤ α 104 k ∧ α 104 k ≤ 2399) ∧ 0 ≤ α 105 k ∧ α 105 k ≤ 240
theorem qZk_fr {S : List (Nat × Nat)} {R : List Nat} {σ α σ' α' : Nat → Nat → Int} (hG : qFr S R σ α σ' α') (hs : [(86, 24)].all (fun x => !S.contains x) = true) (hr : [87, 104, 105].all (fun x => !R.contains x) = true) (h : qZk σ α) : qZk σ' α' := by
  have es : ∀ a k, (a, k) ∈ [(86, 24)] → σ' a k = σ a k := fun a k hm => hG.1 a k (fun hn => by
    have h1 := List.all_eq_true.mp hs (a, k) hm
    rw [List.contains_iff_mem.mpr hn] at h1
    exact absurd h1 (by decide))
  have er : ∀ a, a ∈ [87, 104, 105] → α' a = α a := fun a hm => hG.2 a (fun hn => by
    have h1 := List.all_eq_true.mp hr a hm
    rw [List.contains_iff_mem.mpr hn] at h1
    exact absurd h1 (by decide))
  unfold qZk
  rw [es 86 24 (by decide), er 87 (by decide), er 104 (by decide), er 105 (by decide)]
  exact h

set_option maxHeartbeats 4000000 in
set_option maxRecDepth 20000 in
/-- OneRoof$Peaces.standsAt -/
theorem sf_77_34x {L : Nat} {xs : Nat → Int} {vb : Bool} {d : Nat} {σ α : Nat → Nat → Int} {κ : Nat → Option Nat} {ρ : Nat} {x1 : Int} {x2 : Int} (hI : qI σ α κ ρ) (r1 : 0 ≤ x1 ∧ x1 ≤ 59) (r2 : (-2147483648) ≤ x2 ∧ x2 ≤ 2147483647) : qm_T (qe L xs vb) (d + 1) 77 [.ref 34, .int (qz x1), .int (qz x2)] (qw σ α κ ρ) (fun r w' => w' = qw σ α κ ρ ∧ ∃ v : Int, r = some (.int (qz v)) ∧ (0 ≤ v ∧ v ≤ 1) ∧ ((v = 1 ∧ (α 37 (x1 : Int).toNat ≤ x2 ∧ x2 ≤ α 40 (x1 : Int).toNat)) ∨ (v = 0 ∧ ¬ ((α 37 (x1 : Int).toNat ≤ x2 ∧ x2 ≤ α 40 (x1 : Int).toNat))))) := by
  refine qr_start (d := d + 0) qv_e77 (Nat.le_of_ble_eq_true rfl) ?_
  show qr_W (qe L xs vb) (d + 0) qx_e77 _ (0, [(0, .ref 34), (1, .int (qz x1)), (2, .int (qz x2))], [], _, 0, 0)
  refine qr_aload_n 1 rfl rfl rfl ?_
  refine qr_get 4 rfl rfl rfl (by decide) rfl ?_
  refine qr_iload_n 5 rfl rfl rfl ?_
  refine qr_iaload 6 rfl rfl (qrgi r1 (by decide) (by decide)) (by decide) rfl ?_
  refine qr_topI (fun v1 hv1 => ?_)
  have hs2 : (-2147483648) ≤ v1 ∧ v1 ≤ 2147483647 := by rw [hv1]; exact hI.2.1 37 _ (show _ < 60 from qrgt r1 (by decide) (by decide))
  refine qr_iload_n 7 rfl rfl rfl ?_
  refine qr_icmp_gt 24 10 rfl rfl rfl hs2 r2 (fun h3 => ?_) (fun h3 => ?_)
  · skip
    refine qr_iconst 25 rfl rfl ?_
    refine qr_retZ rfl rfl (Or.inl rfl) (by decide) (by decide) ?_
    exact ⟨rfl, 0, rfl, (by decide), by omega⟩
  · skip
    refine qr_iload_n 11 rfl rfl rfl ?_
    refine qr_aload_n 12 rfl rfl rfl ?_
    refine qr_get 15 rfl rfl rfl (by decide) rfl ?_
    refine qr_iload_n 16 rfl rfl rfl ?_
    refine qr_iaload 17 rfl rfl (qrgi r1 (by decide) (by decide)) (by decide) rfl ?_
    refine qr_topI (fun v4 hv4 => ?_)
    have hs5 : (-2147483648) ≤ v4 ∧ v4 ≤ 2147483647 := by rw [hv4]; exact hI.2.1 40 _ (show _ < 60 from qrgt r1 (by decide) (by decide))
    refine qr_icmp_gt 24 20 rfl rfl rfl r2 hs5 (fun h6 => ?_) (fun h6 => ?_)
    · skip
      refine qr_iconst 25 rfl rfl ?_
      refine qr_retZ rfl rfl (Or.inl rfl) (by decide) (by decide) ?_
      exact ⟨rfl, 0, rfl, (by decide), by omega⟩
    · skip
      refine qr_iconst 21 rfl rfl ?_
      refine qr_goto 25 rfl rfl ?_
      refine qr_retZ rfl rfl (Or.inr rfl) (by decide) (by decide) ?_
      exact ⟨rfl, 1, rfl, (by decide), by omega⟩

set_option maxHeartbeats 4000000 in
set_option maxRecDepth 20000 in
/-- OneRoof$Peaces.reaches -/
theorem sf_78_34_17x {L : Nat} {xs : Nat → Int} {vb : Bool} {d : Nat} {σ α : Nat → Nat → Int} {κ : Nat → Option Nat} {ρ : Nat} {x1 : Int} {x2 : Int} {x3 : Int} (hI : qI σ α κ ρ) (r1 : 0 ≤ x1 ∧ x1 ≤ 59) (r2 : 0 ≤ x2 ∧ x2 ≤ 31) (r3 : 0 ≤ x3 ∧ x3 ≤ 31) (p0 : ¬ x2 = x3) (p1 : 0 ≤ α 36 (x1 : Int).toNat ∧ α 36 (x1 : Int).toNat ≤ 31) : qm_T (qe L xs vb) (d + 1) 78 [.ref 34, .int (qz x1), .int (qz x2), .int (qz x3), .ref 17] (qw σ α κ ρ) (fun r w' => w' = qw σ α κ ρ ∧ ∃ v : Int, r = some (.int (qz v)) ∧ (0 ≤ v ∧ v ≤ 1) ∧ v = qrh (α 35 (x1 : Int).toNat) (α 36 (x1 : Int).toNat) (qbit (α 41 (x1 : Int).toNat) x2) (qbit (α 41 (x1 : Int).toNat) x3) (qbit (α 22 (x2 : Int).toNat) (α 36 (x1 : Int).toNat)) (qbit (α 22 (x3 : Int).toNat) (α 36 (x1 : Int).toNat)) x2 x3) := by
  refine qr_start (d := d + 0) qv_e78 (Nat.le_of_ble_eq_true rfl) ?_
  show qr_W (qe L xs vb) (d + 0) qx_e78 _ (0, [(0, .ref 34), (1, .int (qz x1)), (2, .int (qz x2)), (3, .int (qz x3)), (4, .ref 17)], [], _, 0, 0)
  refine qr_lconst 1 rfl rfl ?_
  refine qy_vl 1 rfl ?_
  refine qr_iload_n 2 rfl rfl rfl ?_
  refine qr_lshl 3 rfl rfl ?_
  refine qy_canlE (fun v1 hv1 hev1 => ?_)
  refine qr_lconst 4 rfl rfl ?_
  refine qy_vl 1 rfl ?_
  refine qr_iload_n 5 rfl rfl rfl ?_
  refine qr_lshl 6 rfl rfl ?_
  refine qy_canlE (fun v2 hv2 hev2 => ?_)
  refine qr_lor 7 rfl rfl ?_
  refine qy_canlE (fun v3 hv3 hev3 => ?_)
  refine qr_lstore _ 9 rfl (by decide) rfl rfl ?_
  refine qr_lconst 10 rfl rfl ?_
  refine qy_vl 1 rfl ?_
  refine qr_aload_n 11 rfl rfl rfl ?_
  refine qr_get 14 rfl rfl rfl (by decide) rfl ?_
  refine qr_iload_n 15 rfl rfl rfl ?_
  refine qr_iaload 16 rfl rfl (qrgi r1 (by decide) (by decide)) (by decide) rfl ?_
  refine qr_topI (fun v4 hv4 => ?_)
  have hs5 : (-2147483648) ≤ v4 ∧ v4 ≤ 2147483647 := by rw [hv4]; exact hI.2.1 36 _ (show _ < 60 from qrgt r1 (by decide) (by decide))
  refine qr_lshl 17 rfl rfl ?_
  refine qy_canlE (fun v6 hv6 hev6 => ?_)
  refine qr_lstore _ 19 rfl (by decide) rfl rfl ?_
  refine qr_aload_n 20 rfl rfl rfl ?_
  refine qr_get 23 rfl rfl rfl (by decide) rfl ?_
  refine qr_iload_n 24 rfl rfl rfl ?_
  refine qr_laload 25 rfl (by decide) rfl (qrgi r1 (by decide) (by decide)) (by decide) rfl ?_
  refine qr_topL (fun v7 hv7 => ?_)
  have hs8 : (-9223372036854775808) ≤ v7 ∧ v7 ≤ 9223372036854775807 := by rw [hv7]; exact hI.2.1 41 _ (show _ < 60 from qrgt r1 (by decide) (by decide))
  refine qr_lstore _ 27 rfl (by decide) rfl rfl ?_
  refine qr_aload_n 28 rfl rfl rfl ?_
  refine qr_get 31 rfl rfl rfl (by decide) rfl ?_
  refine qr_iload_n 32 rfl rfl rfl ?_
  refine qr_iaload 33 rfl rfl (qrgi r1 (by decide) (by decide)) (by decide) rfl ?_
  refine qr_topI (fun v9 hv9 => ?_)
  have hs10 : (-2147483648) ≤ v9 ∧ v9 ≤ 2147483647 := by rw [hv9]; exact hI.2.1 35 _ (show _ < 60 from qrgt r1 (by decide) (by decide))
  have h11 : v9 = 0 ∨ v9 = 1 ∨ v9 = 2 ∨ v9 = 3 ∨ v9 = 4 ∨ v9 = 5 ∨ (v9 < 0 ∨ 5 < v9) := by omega
  rcases h11 with h11 | h11 | h11 | h11 | h11 | h11 | h11
  · skip
    refine qr_tabIn 72 rfl hs10 (by rw [h11]; decide) (by rw [h11]; rfl) rfl ?_
    refine qr_aload 74 rfl rfl rfl ?_
    refine qr_get 77 rfl rfl rfl (by decide) rfl ?_
    refine qr_iload_n 78 rfl rfl rfl ?_
    refine qr_laload 79 rfl (by decide) rfl (qrgi r2 (by decide) (by decide)) (by decide) rfl ?_
    refine qr_topL (fun v13 hv13 => ?_)
    have hs14 : (-9223372036854775808) ≤ v13 ∧ v13 ≤ 9223372036854775807 := by rw [hv13]; exact hI.2.1 22 _ (show _ < 32 from qrgt r2 (by decide) (by decide))
    refine qr_aload 81 rfl rfl rfl ?_
    refine qr_get 84 rfl rfl rfl (by decide) rfl ?_
    refine qr_iload_n 85 rfl rfl rfl ?_
    refine qr_laload 86 rfl (by decide) rfl (qrgi r3 (by decide) (by decide)) (by decide) rfl ?_
    refine qr_topL (fun v15 hv15 => ?_)
    have hs16 : (-9223372036854775808) ≤ v15 ∧ v15 ≤ 9223372036854775807 := by rw [hv15]; exact hI.2.1 22 _ (show _ < 32 from qrgt r3 (by decide) (by decide))
    refine qr_land 87 rfl rfl ?_
    refine qy_canlE (fun v17 hv17 hev17 => ?_)
    refine qr_lload 89 rfl rfl rfl ?_
    refine qr_land 90 rfl rfl ?_
    refine qy_canlE (fun v18 hv18 hev18 => ?_)
    refine qr_lconst 91 rfl rfl ?_
    refine qy_vl 0 rfl ?_
    refine qr_lc_eq 99 95 rfl rfl rfl rfl hv18 (by decide) (fun h19 => ?_) (fun h19 => ?_)
    · skip
      refine qr_iconst 100 rfl rfl ?_
      refine qr_retZ rfl rfl (Or.inl rfl) (by decide) (by decide) ?_
      exact ⟨rfl, 0, rfl, (by decide), (by have hg0 := (show v4 = α 36 (x1 : Int).toNat from hv4); have hc0 := (show v7 = α 41 (x1 : Int).toNat from hv7); have hk0 := (show v9 = α 35 (x1 : Int).toNat from hv9); have hq0 := qre_pe (a := v13) (b := v15) (g := v4) (by omega) (by omega) (by omega) (by omega) hev6 hev17 hev18; rw [hv13, hv15, hg0] at hq0; have hw := qrh_0 (kd := α 35 (x1 : Int).toNat) (gv := α 36 (x1 : Int).toNat) (cp := qbit (α 41 (x1 : Int).toNat) x2) (cq := qbit (α 41 (x1 : Int).toNat) x3) (lp := qbit (α 22 (x2 : Int).toNat) (α 36 (x1 : Int).toNat)) (lq := qbit (α 22 (x3 : Int).toNat) (α 36 (x1 : Int).toNat)) (p := x2) (q := x3) (by omega); omega)⟩
    · skip
      refine qr_iconst 96 rfl rfl ?_
      refine qr_goto 100 rfl rfl ?_
      refine qr_retZ rfl rfl (Or.inr rfl) (by decide) (by decide) ?_
      exact ⟨rfl, 1, rfl, (by decide), (by have hg0 := (show v4 = α 36 (x1 : Int).toNat from hv4); have hc0 := (show v7 = α 41 (x1 : Int).toNat from hv7); have hk0 := (show v9 = α 35 (x1 : Int).toNat from hv9); have hq0 := qre_pe (a := v13) (b := v15) (g := v4) (by omega) (by omega) (by omega) (by omega) hev6 hev17 hev18; rw [hv13, hv15, hg0] at hq0; have hw := qrh_0 (kd := α 35 (x1 : Int).toNat) (gv := α 36 (x1 : Int).toNat) (cp := qbit (α 41 (x1 : Int).toNat) x2) (cq := qbit (α 41 (x1 : Int).toNat) x3) (lp := qbit (α 22 (x2 : Int).toNat) (α 36 (x1 : Int).toNat)) (lq := qbit (α 22 (x3 : Int).toNat) (α 36 (x1 : Int).toNat)) (p := x2) (q := x3) (by omega); omega)⟩
  · skip
    refine qr_tabIn 101 rfl hs10 (by rw [h11]; decide) (by rw [h11]; rfl) rfl ?_
    refine qr_lload 103 rfl rfl rfl ?_
    refine qr_lload 105 rfl rfl rfl ?_
    refine qr_lor 106 rfl rfl ?_
    refine qy_canlE (fun v20 hv20 hev20 => ?_)
    refine qr_lload 108 rfl rfl rfl ?_
    refine qr_land 109 rfl rfl ?_
    refine qy_canlE (fun v21 hv21 hev21 => ?_)
    refine qr_lload 111 rfl rfl rfl ?_
    refine qr_lc_ne 119 115 rfl rfl rfl rfl hv21 hv3 (fun h22 => ?_) (fun h22 => ?_)
    · skip
      refine qr_iconst 120 rfl rfl ?_
      refine qr_retZ rfl rfl (Or.inl rfl) (by decide) (by decide) ?_
      exact ⟨rfl, 0, rfl, (by decide), (by have hg0 := (show v4 = α 36 (x1 : Int).toNat from hv4); have hc0 := (show v7 = α 41 (x1 : Int).toNat from hv7); have hk0 := (show v9 = α 35 (x1 : Int).toNat from hv9); have hq0 := qre_all (p := x2) (q := x3) (by omega) (by omega) (by omega) (by omega) (fun i hi => qre_both (p := x2) (q := x3) (by omega) (by omega) (by omega) (by omega) (by omega) hev1 hev2 hev3 hi) hev21; have hq1 := qre_or (i := x2) (by omega) (by omega) (by omega) hev6 hev20 (by omega); have hq2 := qre_or (i := x3) (by omega) (by omega) (by omega) hev6 hev20 (by omega); rw [hc0] at hq1 hq2; have hw := qrh_12 (kd := α 35 (x1 : Int).toNat) (gv := α 36 (x1 : Int).toNat) (cp := qbit (α 41 (x1 : Int).toNat) x2) (cq := qbit (α 41 (x1 : Int).toNat) x3) (lp := qbit (α 22 (x2 : Int).toNat) (α 36 (x1 : Int).toNat)) (lq := qbit (α 22 (x3 : Int).toNat) (α 36 (x1 : Int).toNat)) (p := x2) (q := x3) (by omega); omega)⟩
    · skip
      refine qr_iconst 116 rfl rfl ?_
      refine qr_goto 120 rfl rfl ?_
      refine qr_retZ rfl rfl (Or.inr rfl) (by decide) (by decide) ?_
      exact ⟨rfl, 1, rfl, (by decide), (by have hg0 := (show v4 = α 36 (x1 : Int).toNat from hv4); have hc0 := (show v7 = α 41 (x1 : Int).toNat from hv7); have hk0 := (show v9 = α 35 (x1 : Int).toNat from hv9); have hq0 := qre_all (p := x2) (q := x3) (by omega) (by omega) (by omega) (by omega) (fun i hi => qre_both (p := x2) (q := x3) (by omega) (by omega) (by omega) (by omega) (by omega) hev1 hev2 hev3 hi) hev21; have hq1 := qre_or (i := x2) (by omega) (by omega) (by omega) hev6 hev20 (by omega); have hq2 := qre_or (i := x3) (by omega) (by omega) (by omega) hev6 hev20 (by omega); rw [hc0] at hq1 hq2; have hw := qrh_12 (kd := α 35 (x1 : Int).toNat) (gv := α 36 (x1 : Int).toNat) (cp := qbit (α 41 (x1 : Int).toNat) x2) (cq := qbit (α 41 (x1 : Int).toNat) x3) (lp := qbit (α 22 (x2 : Int).toNat) (α 36 (x1 : Int).toNat)) (lq := qbit (α 22 (x3 : Int).toNat) (α 36 (x1 : Int).toNat)) (p := x2) (q := x3) (by omega); omega)⟩
  · skip
    refine qr_tabIn 101 rfl hs10 (by rw [h11]; decide) (by rw [h11]; rfl) rfl ?_
    refine qr_lload 103 rfl rfl rfl ?_
    refine qr_lload 105 rfl rfl rfl ?_
    refine qr_lor 106 rfl rfl ?_
    refine qy_canlE (fun v23 hv23 hev23 => ?_)
    refine qr_lload 108 rfl rfl rfl ?_
    refine qr_land 109 rfl rfl ?_
    refine qy_canlE (fun v24 hv24 hev24 => ?_)
    refine qr_lload 111 rfl rfl rfl ?_
    refine qr_lc_ne 119 115 rfl rfl rfl rfl hv24 hv3 (fun h25 => ?_) (fun h25 => ?_)
    · skip
      refine qr_iconst 120 rfl rfl ?_
      refine qr_retZ rfl rfl (Or.inl rfl) (by decide) (by decide) ?_
      exact ⟨rfl, 0, rfl, (by decide), (by have hg0 := (show v4 = α 36 (x1 : Int).toNat from hv4); have hc0 := (show v7 = α 41 (x1 : Int).toNat from hv7); have hk0 := (show v9 = α 35 (x1 : Int).toNat from hv9); have hq0 := qre_all (p := x2) (q := x3) (by omega) (by omega) (by omega) (by omega) (fun i hi => qre_both (p := x2) (q := x3) (by omega) (by omega) (by omega) (by omega) (by omega) hev1 hev2 hev3 hi) hev24; have hq1 := qre_or (i := x2) (by omega) (by omega) (by omega) hev6 hev23 (by omega); have hq2 := qre_or (i := x3) (by omega) (by omega) (by omega) hev6 hev23 (by omega); rw [hc0] at hq1 hq2; have hw := qrh_12 (kd := α 35 (x1 : Int).toNat) (gv := α 36 (x1 : Int).toNat) (cp := qbit (α 41 (x1 : Int).toNat) x2) (cq := qbit (α 41 (x1 : Int).toNat) x3) (lp := qbit (α 22 (x2 : Int).toNat) (α 36 (x1 : Int).toNat)) (lq := qbit (α 22 (x3 : Int).toNat) (α 36 (x1 : Int).toNat)) (p := x2) (q := x3) (by omega); omega)⟩
    · skip
      refine qr_iconst 116 rfl rfl ?_
      refine qr_goto 120 rfl rfl ?_
      refine qr_retZ rfl rfl (Or.inr rfl) (by decide) (by decide) ?_
      exact ⟨rfl, 1, rfl, (by decide), (by have hg0 := (show v4 = α 36 (x1 : Int).toNat from hv4); have hc0 := (show v7 = α 41 (x1 : Int).toNat from hv7); have hk0 := (show v9 = α 35 (x1 : Int).toNat from hv9); have hq0 := qre_all (p := x2) (q := x3) (by omega) (by omega) (by omega) (by omega) (fun i hi => qre_both (p := x2) (q := x3) (by omega) (by omega) (by omega) (by omega) (by omega) hev1 hev2 hev3 hi) hev24; have hq1 := qre_or (i := x2) (by omega) (by omega) (by omega) hev6 hev23 (by omega); have hq2 := qre_or (i := x3) (by omega) (by omega) (by omega) hev6 hev23 (by omega); rw [hc0] at hq1 hq2; have hw := qrh_12 (kd := α 35 (x1 : Int).toNat) (gv := α 36 (x1 : Int).toNat) (cp := qbit (α 41 (x1 : Int).toNat) x2) (cq := qbit (α 41 (x1 : Int).toNat) x3) (lp := qbit (α 22 (x2 : Int).toNat) (α 36 (x1 : Int).toNat)) (lq := qbit (α 22 (x3 : Int).toNat) (α 36 (x1 : Int).toNat)) (p := x2) (q := x3) (by omega); omega)⟩
  · skip
    refine qr_tabIn 121 rfl hs10 (by rw [h11]; decide) (by rw [h11]; rfl) rfl ?_
    refine qr_lload 123 rfl rfl rfl ?_
    refine qr_lload 125 rfl rfl rfl ?_
    refine qr_land 126 rfl rfl ?_
    refine qy_canlE (fun v26 hv26 hev26 => ?_)
    refine qr_lconst 127 rfl rfl ?_
    refine qy_vl 0 rfl ?_
    refine qr_lc_eq 135 131 rfl rfl rfl rfl hv26 (by decide) (fun h27 => ?_) (fun h27 => ?_)
    · skip
      refine qr_iconst 136 rfl rfl ?_
      refine qr_retZ rfl rfl (Or.inl rfl) (by decide) (by decide) ?_
      exact ⟨rfl, 0, rfl, (by decide), (by have hg0 := (show v4 = α 36 (x1 : Int).toNat from hv4); have hc0 := (show v7 = α 41 (x1 : Int).toNat from hv7); have hk0 := (show v9 = α 35 (x1 : Int).toNat from hv9); have hq0 := qre_any (p := x2) (q := x3) (by omega) (by omega) (by omega) (fun i hi => qre_both (p := x2) (q := x3) (by omega) (by omega) (by omega) (by omega) (by omega) hev1 hev2 hev3 hi) hev26; rw [hc0] at hq0; have hw := qrh_3 (kd := α 35 (x1 : Int).toNat) (gv := α 36 (x1 : Int).toNat) (cp := qbit (α 41 (x1 : Int).toNat) x2) (cq := qbit (α 41 (x1 : Int).toNat) x3) (lp := qbit (α 22 (x2 : Int).toNat) (α 36 (x1 : Int).toNat)) (lq := qbit (α 22 (x3 : Int).toNat) (α 36 (x1 : Int).toNat)) (p := x2) (q := x3) (by omega); omega)⟩
    · skip
      refine qr_iconst 132 rfl rfl ?_
      refine qr_goto 136 rfl rfl ?_
      refine qr_retZ rfl rfl (Or.inr rfl) (by decide) (by decide) ?_
      exact ⟨rfl, 1, rfl, (by decide), (by have hg0 := (show v4 = α 36 (x1 : Int).toNat from hv4); have hc0 := (show v7 = α 41 (x1 : Int).toNat from hv7); have hk0 := (show v9 = α 35 (x1 : Int).toNat from hv9); have hq0 := qre_any (p := x2) (q := x3) (by omega) (by omega) (by omega) (fun i hi => qre_both (p := x2) (q := x3) (by omega) (by omega) (by omega) (by omega) (by omega) hev1 hev2 hev3 hi) hev26; rw [hc0] at hq0; have hw := qrh_3 (kd := α 35 (x1 : Int).toNat) (gv := α 36 (x1 : Int).toNat) (cp := qbit (α 41 (x1 : Int).toNat) x2) (cq := qbit (α 41 (x1 : Int).toNat) x3) (lp := qbit (α 22 (x2 : Int).toNat) (α 36 (x1 : Int).toNat)) (lq := qbit (α 22 (x3 : Int).toNat) (α 36 (x1 : Int).toNat)) (p := x2) (q := x3) (by omega); omega)⟩
  · skip
    refine qr_tabIn 137 rfl hs10 (by rw [h11]; decide) (by rw [h11]; rfl) rfl ?_
    refine qr_lload 139 rfl rfl rfl ?_
    refine qr_lload 141 rfl rfl rfl ?_
    refine qr_land 142 rfl rfl ?_
    refine qy_canlE (fun v28 hv28 hev28 => ?_)
    refine qr_lload 144 rfl rfl rfl ?_
    refine qr_lc_ne 152 148 rfl rfl rfl rfl hv28 hv3 (fun h29 => ?_) (fun h29 => ?_)
    · skip
      refine qr_iconst 153 rfl rfl ?_
      refine qr_retZ rfl rfl (Or.inl rfl) (by decide) (by decide) ?_
      exact ⟨rfl, 0, rfl, (by decide), (by have hg0 := (show v4 = α 36 (x1 : Int).toNat from hv4); have hc0 := (show v7 = α 41 (x1 : Int).toNat from hv7); have hk0 := (show v9 = α 35 (x1 : Int).toNat from hv9); have hq0 := qre_all (p := x2) (q := x3) (by omega) (by omega) (by omega) (by omega) (fun i hi => qre_both (p := x2) (q := x3) (by omega) (by omega) (by omega) (by omega) (by omega) hev1 hev2 hev3 hi) hev28; rw [hc0] at hq0; have hw := qrh_4 (kd := α 35 (x1 : Int).toNat) (gv := α 36 (x1 : Int).toNat) (cp := qbit (α 41 (x1 : Int).toNat) x2) (cq := qbit (α 41 (x1 : Int).toNat) x3) (lp := qbit (α 22 (x2 : Int).toNat) (α 36 (x1 : Int).toNat)) (lq := qbit (α 22 (x3 : Int).toNat) (α 36 (x1 : Int).toNat)) (p := x2) (q := x3) (by omega); omega)⟩
    · skip
      refine qr_iconst 149 rfl rfl ?_
      refine qr_goto 153 rfl rfl ?_
      refine qr_retZ rfl rfl (Or.inr rfl) (by decide) (by decide) ?_
      exact ⟨rfl, 1, rfl, (by decide), (by have hg0 := (show v4 = α 36 (x1 : Int).toNat from hv4); have hc0 := (show v7 = α 41 (x1 : Int).toNat from hv7); have hk0 := (show v9 = α 35 (x1 : Int).toNat from hv9); have hq0 := qre_all (p := x2) (q := x3) (by omega) (by omega) (by omega) (by omega) (fun i hi => qre_both (p := x2) (q := x3) (by omega) (by omega) (by omega) (by omega) (by omega) hev1 hev2 hev3 hi) hev28; rw [hc0] at hq0; have hw := qrh_4 (kd := α 35 (x1 : Int).toNat) (gv := α 36 (x1 : Int).toNat) (cp := qbit (α 41 (x1 : Int).toNat) x2) (cq := qbit (α 41 (x1 : Int).toNat) x3) (lp := qbit (α 22 (x2 : Int).toNat) (α 36 (x1 : Int).toNat)) (lq := qbit (α 22 (x3 : Int).toNat) (α 36 (x1 : Int).toNat)) (p := x2) (q := x3) (by omega); omega)⟩
  · skip
    refine qr_tabIn 154 rfl hs10 (by rw [h11]; decide) (by rw [h11]; rfl) rfl ?_
    refine qr_iconst 155 rfl rfl ?_
    refine qr_retZ rfl rfl (Or.inr rfl) (by decide) (by decide) ?_
    exact ⟨rfl, 1, rfl, (by decide), (by have hg0 := (show v4 = α 36 (x1 : Int).toNat from hv4); have hc0 := (show v7 = α 41 (x1 : Int).toNat from hv7); have hk0 := (show v9 = α 35 (x1 : Int).toNat from hv9); have hw := qrh_5 (kd := α 35 (x1 : Int).toNat) (gv := α 36 (x1 : Int).toNat) (cp := qbit (α 41 (x1 : Int).toNat) x2) (cq := qbit (α 41 (x1 : Int).toNat) x3) (lp := qbit (α 22 (x2 : Int).toNat) (α 36 (x1 : Int).toNat)) (lq := qbit (α 22 (x3 : Int).toNat) (α 36 (x1 : Int).toNat)) (p := x2) (q := x3) (by omega); omega)⟩
  · skip
    refine qr_tabOut 156 rfl hs10 (by omega) rfl ?_
    refine qr_iconst 157 rfl rfl ?_
    refine qr_retZ rfl rfl (Or.inl rfl) (by decide) (by decide) ?_
    exact ⟨rfl, 0, rfl, (by decide), (by have hg0 := (show v4 = α 36 (x1 : Int).toNat from hv4); have hc0 := (show v7 = α 41 (x1 : Int).toNat from hv7); have hk0 := (show v9 = α 35 (x1 : Int).toNat from hv9); have hw := qrh_9 (kd := α 35 (x1 : Int).toNat) (gv := α 36 (x1 : Int).toNat) (cp := qbit (α 41 (x1 : Int).toNat) x2) (cq := qbit (α 41 (x1 : Int).toNat) x3) (lp := qbit (α 22 (x2 : Int).toNat) (α 36 (x1 : Int).toNat)) (lq := qbit (α 22 (x3 : Int).toNat) (α 36 (x1 : Int).toNat)) (p := x2) (q := x3) (by omega); omega)⟩

set_option maxHeartbeats 4000000 in
set_option maxRecDepth 20000 in
/-- OneRoof$Peaces.holding -/
theorem sf_80_34_17x {L : Nat} {xs : Nat → Int} {vb : Bool} {d : Nat} {σ α : Nat → Nat → Int} {κ : Nat → Option Nat} {ρ : Nat} {x1 : Int} {x2 : Int} {x3 : Int} (hI : qI σ α κ ρ) (r1 : 0 ≤ x1 ∧ x1 ≤ 31) (r2 : 0 ≤ x2 ∧ x2 ≤ 31) (r3 : (-2147483648) ≤ x3 ∧ x3 ≤ 2147483647) (p0 : ¬ x1 = x2) (p1 : qZp σ α) : qm_T (qe L xs vb) (d + 2) 80 [.ref 34, .int (qz x1), .int (qz x2), .int (qz x3), .ref 17] (qw σ α κ ρ) (fun r w' => w' = qw σ α κ ρ ∧ ∃ v : Int, r = some (.long (ql v)) ∧ ((-9223372036854775808) ≤ v ∧ v ≤ 9223372036854775807) ∧ v = qbs (qhF (α 35) (α 36) (α 37) (α 40) (qcv (α 41)) (qlw (α 22)) x1 x2 x3) (σ 34 7 : Int).toNat) := by
  refine qr_start (d := d + 1) qv_e80 (Nat.le_of_ble_eq_true rfl) ?_
  show qr_W (qe L xs vb) (d + 1) qx_e80 _ (0, [(0, .ref 34), (1, .int (qz x1)), (2, .int (qz x2)), (3, .int (qz x3)), (4, .ref 17)], [], _, 0, 0)
  have hz34_7 : 0 ≤ σ 34 7 ∧ σ 34 7 ≤ 60 := hI.1 34 7
  refine qr_lconst 1 rfl rfl ?_
  refine qy_vl 0 rfl ?_
  refine qr_lstore _ 3 rfl (by decide) rfl rfl ?_
  refine qr_iconst 4 rfl rfl ?_
  refine qr_istore _ 6 rfl (by decide) rfl rfl ?_
  have hL254 : ∀ (n : Nat) (ls : qm_L) (u247 u249 : Int), 60 - u249 < (n : Int) → qm_get ls 0 = some (.ref 34) → qm_get ls 1 = some (.int (qz x1)) → qm_get ls 2 = some (.int (qz x2)) → qm_get ls 3 = some (.int (qz x3)) → qm_get ls 4 = some (.ref 17) → qm_get ls 5 = some (.long (ql u247)) → qm_get ls 7 = some (.int (qz u249)) → ((-9223372036854775808) ≤ u247 ∧ u247 ≤ 9223372036854775807) → (0 ≤ u249 ∧ u249 ≤ 60) → u247 = qbs (qhF (α 35) (α 36) (α 37) (α 40) (qcv (α 41)) (qlw (α 22)) x1 x2 x3) (u249 : Int).toNat → u249 ≤ σ 34 7 → qr_W (qe L xs vb) (d + 1) qx_e80 (fun r w' => w' = qw σ α κ ρ ∧ ∃ v : Int, r = some (.long (ql v)) ∧ ((-9223372036854775808) ≤ v ∧ v ≤ 9223372036854775807) ∧ v = qbs (qhF (α 35) (α 36) (α 37) (α 40) (qcv (α 41)) (qlw (α 22)) x1 x2 x3) (σ 34 7 : Int).toNat) (6, ls, [], qw σ α κ ρ, 0, 0) := by
    intro n
    induction n with
    | zero => intro ls u247 u249 hm g241 g242 g243 g244 g245 g246 g248 hf250 hf251 hx252 hx253; exact False.elim (by omega)
    | succ n ih255 =>
      intro ls u247 u249 hm g241 g242 g243 g244 g245 g246 g248 hf250 hf251 hx252 hx253
      refine qr_iload 8 rfl g248 rfl ?_
      refine qr_aload_n 9 rfl g241 rfl ?_
      refine qr_get 12 rfl rfl rfl (by decide) rfl ?_
      refine qr_icmp_ge 53 15 rfl rfl rfl (qrg hf251 (by decide) (by decide)) (qrg hz34_7 (by decide) (by decide)) (fun h256 => ?_) (fun h256 => ?_)
      · skip
        refine qr_lload 55 rfl g246 rfl ?_
        refine qr_retL rfl rfl (by decide) (by decide) ?_
        exact ⟨rfl, u247, rfl, hf250, (by rw [show (σ 34 7) = u249 by omega]; exact hx252)⟩
      · skip
        refine qr_aload_n 16 rfl g241 rfl ?_
        refine qr_iload 18 rfl g248 rfl ?_
        refine qr_iload_n 19 rfl g244 rfl ?_
        refine qr_callN 22 rfl rfl rfl (sf_77_34x (d := d + 0) hI (by omega) r3) ?_
        rintro _ _ ⟨rfl, v257, rfl, hv257, hp258⟩
        show qr_W (qe L xs vb) (d + 1) qx_e80 _ (22, _, [.int (qz v257)], qw σ α κ ρ, 0, 0)
        refine qr_if_eq 47 25 rfl rfl rfl (qrg hv257 (by decide) (by decide)) (fun h259 => ?_) (fun h259 => ?_)
        · skip
          refine qr_iinc _ 50 rfl g248 (by decide) rfl rfl ?_
          refine qr_goto 6 rfl rfl ?_
          exact ih255 _ u247 (u249 + 1) (by omega) (qm_gk g241 (by decide) (Or.inl (by decide))) (qm_gk g242 (by decide) (Or.inl (by decide))) (qm_gk g243 (by decide) (Or.inl (by decide))) (qm_gk g244 (by decide) (Or.inl (by decide))) (qm_gk g245 (by decide) (Or.inl (by decide))) (qm_gk g246 (by decide) (Or.inl (by decide))) (qm_ge _ _ _) hf250 (by omega) (by have hq0 := (show (qhF (α 35) (α 36) (α 37) (α 40) (qcv (α 41)) (qlw (α 22)) x1 x2 x3) (u249 : Int).toNat = qho (α 35 (u249 : Int).toNat) (α 36 (u249 : Int).toNat) (α 37 (u249 : Int).toNat) (α 40 (u249 : Int).toNat) (qbit (α 41 (u249 : Int).toNat) x1) (qbit (α 41 (u249 : Int).toNat) x2) (qbit (α 22 (x1 : Int).toNat) (α 36 (u249 : Int).toNat)) (qbit (α 22 (x2 : Int).toNat) (α 36 (u249 : Int).toNat)) x1 x2 x3 from rfl); have hq1 := qho_s (α 35 (u249 : Int).toNat) (α 36 (u249 : Int).toNat) (α 37 (u249 : Int).toNat) (α 40 (u249 : Int).toNat) (qbit (α 41 (u249 : Int).toNat) x1) (qbit (α 41 (u249 : Int).toNat) x2) (qbit (α 22 (x1 : Int).toNat) (α 36 (u249 : Int).toNat)) (qbit (α 22 (x2 : Int).toNat) (α 36 (u249 : Int).toNat)) x1 x2 x3; have hq2 := qbs_s (qhF (α 35) (α 36) (α 37) (α 40) (qcv (α 41)) (qlw (α 22)) x1 x2 x3) (i := u249) (by omega); omega) (by omega)
        · skip
          refine qr_aload_n 26 rfl g241 rfl ?_
          refine qr_iload 28 rfl g248 rfl ?_
          refine qr_iload_n 29 rfl g242 rfl ?_
          refine qr_iload_n 30 rfl g243 rfl ?_
          refine qr_aload 32 rfl g245 rfl ?_
          have hz := p1 (u249 : Int).toNat (by omega)
          refine qr_callN 35 rfl rfl rfl (sf_78_34_17x (d := d + 0) hI (by omega) r1 r2 (by omega) (by omega)) ?_
          rintro _ _ ⟨rfl, v260, rfl, hv260, hp261⟩
          show qr_W (qe L xs vb) (d + 1) qx_e80 _ (35, _, [.int (qz v260)], qw σ α κ ρ, 0, 0)
          refine qr_if_eq 47 38 rfl rfl rfl (qrg hv260 (by decide) (by decide)) (fun h262 => ?_) (fun h262 => ?_)
          · skip
            refine qr_iinc _ 50 rfl g248 (by decide) rfl rfl ?_
            refine qr_goto 6 rfl rfl ?_
            exact ih255 _ u247 (u249 + 1) (by omega) (qm_gk g241 (by decide) (Or.inl (by decide))) (qm_gk g242 (by decide) (Or.inl (by decide))) (qm_gk g243 (by decide) (Or.inl (by decide))) (qm_gk g244 (by decide) (Or.inl (by decide))) (qm_gk g245 (by decide) (Or.inl (by decide))) (qm_gk g246 (by decide) (Or.inl (by decide))) (qm_ge _ _ _) hf250 (by omega) (by have hq0 := (show (qhF (α 35) (α 36) (α 37) (α 40) (qcv (α 41)) (qlw (α 22)) x1 x2 x3) (u249 : Int).toNat = qho (α 35 (u249 : Int).toNat) (α 36 (u249 : Int).toNat) (α 37 (u249 : Int).toNat) (α 40 (u249 : Int).toNat) (qbit (α 41 (u249 : Int).toNat) x1) (qbit (α 41 (u249 : Int).toNat) x2) (qbit (α 22 (x1 : Int).toNat) (α 36 (u249 : Int).toNat)) (qbit (α 22 (x2 : Int).toNat) (α 36 (u249 : Int).toNat)) x1 x2 x3 from rfl); have hq1 := qho_s (α 35 (u249 : Int).toNat) (α 36 (u249 : Int).toNat) (α 37 (u249 : Int).toNat) (α 40 (u249 : Int).toNat) (qbit (α 41 (u249 : Int).toNat) x1) (qbit (α 41 (u249 : Int).toNat) x2) (qbit (α 22 (x1 : Int).toNat) (α 36 (u249 : Int).toNat)) (qbit (α 22 (x2 : Int).toNat) (α 36 (u249 : Int).toNat)) x1 x2 x3; have hq2 := qbs_s (qhF (α 35) (α 36) (α 37) (α 40) (qcv (α 41)) (qlw (α 22)) x1 x2 x3) (i := u249) (by omega); omega) (by omega)
          · skip
            refine qr_lload 40 rfl g246 rfl ?_
            refine qr_lconst 41 rfl rfl ?_
            refine qy_vl 1 rfl ?_
            refine qr_iload 43 rfl g248 rfl ?_
            refine qr_lshl 44 rfl rfl ?_
            refine qy_canlE (fun v263 hv263 hev263 => ?_)
            refine qr_lor 45 rfl rfl ?_
            refine qy_canlE (fun v264 hv264 hev264 => ?_)
            refine qr_lstore _ 47 rfl (by decide) rfl rfl ?_
            refine qr_iinc _ 50 rfl (qm_gk2 g248 (by decide) (by decide) (Or.inl (by decide))) (by decide) rfl rfl ?_
            refine qr_goto 6 rfl rfl ?_
            exact ih255 _ v264 (u249 + 1) (by omega) (qm_gk (qm_gk2 g241 (by decide) (by decide) (Or.inl (by decide))) (by decide) (Or.inl (by decide))) (qm_gk (qm_gk2 g242 (by decide) (by decide) (Or.inl (by decide))) (by decide) (Or.inl (by decide))) (qm_gk (qm_gk2 g243 (by decide) (by decide) (Or.inl (by decide))) (by decide) (Or.inl (by decide))) (qm_gk (qm_gk2 g244 (by decide) (by decide) (Or.inl (by decide))) (by decide) (Or.inl (by decide))) (qm_gk (qm_gk2 g245 (by decide) (by decide) (Or.inr rfl)) (by decide) (Or.inl (by decide))) (qm_gk (qm_ge2 _ _ _) (by decide) (Or.inl (by decide))) (qm_ge _ _ _) hv264 (by omega) (by have hq0 := (show (qhF (α 35) (α 36) (α 37) (α 40) (qcv (α 41)) (qlw (α 22)) x1 x2 x3) (u249 : Int).toNat = qho (α 35 (u249 : Int).toNat) (α 36 (u249 : Int).toNat) (α 37 (u249 : Int).toNat) (α 40 (u249 : Int).toNat) (qbit (α 41 (u249 : Int).toNat) x1) (qbit (α 41 (u249 : Int).toNat) x2) (qbit (α 22 (x1 : Int).toNat) (α 36 (u249 : Int).toNat)) (qbit (α 22 (x2 : Int).toNat) (α 36 (u249 : Int).toNat)) x1 x2 x3 from rfl); have hq1 := qho_s (α 35 (u249 : Int).toNat) (α 36 (u249 : Int).toNat) (α 37 (u249 : Int).toNat) (α 40 (u249 : Int).toNat) (qbit (α 41 (u249 : Int).toNat) x1) (qbit (α 41 (u249 : Int).toNat) x2) (qbit (α 22 (x1 : Int).toNat) (α 36 (u249 : Int).toNat)) (qbit (α 22 (x2 : Int).toNat) (α 36 (u249 : Int).toNat)) x1 x2 x3; have hq2 := qbs_s (qhF (α 35) (α 36) (α 37) (α 40) (qcv (α 41)) (qlw (α 22)) x1 x2 x3) (i := u249) (by omega); have hq3 := ql_val hev263 (by omega) (ql_shl_r _ _); have hq4 := ql_val hev264 (by omega) (ql_or_r _ _); rw [hq3, hx252] at hq4; omega) (by omega)
  exact hL254 ((60 - 0 + 1 : Int)).toNat _ 0 0 (by omega) rfl rfl rfl rfl rfl rfl rfl (by decide) (by decide) rfl (by omega)

set_option maxHeartbeats 4000000 in
set_option maxRecDepth 20000 in
/-- OneRoofModel.kindOf -/
theorem sf_201_86x {L : Nat} {xs : Nat → Int} {vb : Bool} {d : Nat} {σ α : Nat → Nat → Int} {κ : Nat → Option Nat} {ρ : Nat} {x1 : Int} (hI : qI σ α κ ρ) (r1 : 0 ≤ x1 ∧ x1 ≤ 59) : qm_T (qe L xs vb) (d + 1) 201 [.ref 86, .int (qz x1)] (qw σ α κ ρ) (fun r w' => w' = qw σ α κ ρ ∧ ∃ v : Int, r = some (.int (qz v)) ∧ ((-2147483648) ≤ v ∧ v ≤ 2147483647) ∧ v = qsh (α 87) 192 (x1 : Int).toNat) := by
  refine qr_start (d := d + 0) qv_e201 (Nat.le_of_ble_eq_true rfl) ?_
  show qr_W (qe L xs vb) (d + 0) qx_e201 _ (0, [(0, .ref 86), (1, .int (qz x1))], [], _, 0, 0)
  refine qr_aload_n 1 rfl rfl rfl ?_
  refine qr_get 4 rfl rfl rfl (by decide) rfl ?_
  refine qr_sipush 7 rfl (by decide) rfl ?_
  refine qr_iload_n 8 rfl rfl rfl ?_
  refine qr_iadd 9 rfl rfl ?_
  refine qr_iaload 10 rfl rfl (by omega) (by decide) rfl ?_
  refine qr_topI (fun v1 hv1 => ?_)
  have hs2 : (-2147483648) ≤ v1 ∧ v1 ≤ 2147483647 := by rw [hv1]; exact hI.2.1 87 _ (show _ < 252 by omega)
  refine qr_retI rfl rfl (by decide) (by decide) ?_
  exact ⟨rfl, v1, rfl, hs2, (by rw [hv1]; unfold qsh; congr 1; omega)⟩

set_option maxHeartbeats 4000000 in
set_option maxRecDepth 20000 in
/-- OneRoofModel.covers -/
theorem sf_202_86x {L : Nat} {xs : Nat → Int} {vb : Bool} {d : Nat} {σ α : Nat → Nat → Int} {κ : Nat → Option Nat} {ρ : Nat} {x1 : Int} {x2 : Int} (hI : qI σ α κ ρ) (r1 : 0 ≤ x1 ∧ x1 ≤ 59) (r2 : 0 ≤ x2 ∧ x2 ≤ 31) : qm_T (qe L xs vb) (d + 1) 202 [.ref 86, .int (qz x1), .int (qz x2)] (qw σ α κ ρ) (fun r w' => w' = qw σ α κ ρ ∧ ∃ v : Int, r = some (.int (qz v)) ∧ (0 ≤ v ∧ v ≤ 1) ∧ v = qcw (α 87) (x1 : Int).toNat x2) := by
  refine qr_start (d := d + 0) qv_e202 (Nat.le_of_ble_eq_true rfl) ?_
  show qr_W (qe L xs vb) (d + 0) qx_e202 _ (0, [(0, .ref 86), (1, .int (qz x1)), (2, .int (qz x2))], [], _, 0, 0)
  refine qr_aload_n 1 rfl rfl rfl ?_
  refine qr_get 4 rfl rfl rfl (by decide) rfl ?_
  refine qr_bipush 6 rfl (by decide) rfl ?_
  refine qr_iconst 7 rfl rfl ?_
  refine qr_iload_n 8 rfl rfl rfl ?_
  refine qr_imul 9 rfl rfl ?_
  refine qr_iadd 10 rfl rfl ?_
  refine qr_iload_n 11 rfl rfl rfl ?_
  refine qr_bipush 13 rfl (by decide) rfl ?_
  refine qr_idiv 14 rfl (qrg r2 (by decide) (by decide)) (by decide) rfl ?_
  refine qr_iadd 15 rfl rfl ?_
  refine qr_iaload 16 rfl rfl (by omega) (by decide) rfl ?_
  refine qr_topI (fun v1 hv1 => ?_)
  have hs2 : (-2147483648) ≤ v1 ∧ v1 ≤ 2147483647 := by rw [hv1]; exact hI.2.1 87 _ (show _ < 252 by omega)
  refine qr_iload_n 17 rfl rfl rfl ?_
  refine qr_bipush 19 rfl (by decide) rfl ?_
  refine qr_irem 20 rfl (qrg r2 (by decide) (by decide)) (by decide) rfl ?_
  refine qr_ishr 21 rfl rfl ?_
  refine qy_canE (fun v3 hv3 hev3 => ?_)
  refine qr_iconst 22 rfl rfl ?_
  refine qr_iand 23 rfl rfl ?_
  refine qy_andrE (by omega) (fun v4 hv4 hev4 => ?_)
  refine qr_iconst 24 rfl rfl ?_
  refine qr_icmp_ne 31 27 rfl rfl rfl (by omega) (by decide) (fun h5 => ?_) (fun h5 => ?_)
  · skip
    refine qr_iconst 32 rfl rfl ?_
    refine qr_retZ rfl rfl (Or.inl rfl) (by decide) (by decide) ?_
    exact ⟨rfl, 0, rfl, (by decide), (by have hl : v1 = α 87 (72 + 2 * (x1 : Int).toNat + (x2 / 16 : Int).toNat) := (by rw [hv1]; congr 1; omega); have hq := qbi_inS (t := v1) (i := x2 % 16) (by omega) hev3 hev4 (by omega); rw [hl] at hq; have hq2 : qcw (α 87) (x1 : Int).toNat x2 = qbi (α 87 (72 + 2 * (x1 : Int).toNat + (x2 / 16 : Int).toNat)) (x2 % 16) := rfl; have hq3 := qbi_r (α 87 (72 + 2 * (x1 : Int).toNat + (x2 / 16 : Int).toNat)) (x2 % 16); omega)⟩
  · skip
    refine qr_iconst 28 rfl rfl ?_
    refine qr_goto 32 rfl rfl ?_
    refine qr_retZ rfl rfl (Or.inr rfl) (by decide) (by decide) ?_
    exact ⟨rfl, 1, rfl, (by decide), (by have hl : v1 = α 87 (72 + 2 * (x1 : Int).toNat + (x2 / 16 : Int).toNat) := (by rw [hv1]; congr 1; omega); have hq := qbi_inS (t := v1) (i := x2 % 16) (by omega) hev3 hev4 (by omega); rw [hl] at hq; have hq2 : qcw (α 87) (x1 : Int).toNat x2 = qbi (α 87 (72 + 2 * (x1 : Int).toNat + (x2 / 16 : Int).toNat)) (x2 % 16) := rfl; have hq3 := qbi_r (α 87 (72 + 2 * (x1 : Int).toNat + (x2 / 16 : Int).toNat)) (x2 % 16); omega)⟩

set_option maxHeartbeats 4000000 in
set_option maxRecDepth 20000 in
/-- OneRoofModel.isLordOf -/
theorem sf_207_86x {L : Nat} {xs : Nat → Int} {vb : Bool} {d : Nat} {σ α : Nat → Nat → Int} {κ : Nat → Option Nat} {ρ : Nat} {x1 : Int} {x2 : Int} (hI : qI σ α κ ρ) (r1 : (-2147483648) ≤ x1 ∧ x1 ≤ 2147483647) (r2 : 0 ≤ x2 ∧ x2 ≤ 31) (p0 : 1 ≤ σ 86 6) : qm_T (qe L xs vb) (d + 1) 207 [.ref 86, .int (qz x1), .int (qz x2)] (qw σ α κ ρ) (fun r w' => w' = qw σ α κ ρ ∧ ∃ v : Int, r = some (.int (qz v)) ∧ (0 ≤ v ∧ v ≤ 1) ∧ v = qll (α 91) (α 91 (x2 : Int).toNat) x1) := by
  refine qr_start (d := d + 0) qv_e207 (Nat.le_of_ble_eq_true rfl) ?_
  show qr_W (qe L xs vb) (d + 0) qx_e207 _ (0, [(0, .ref 86), (1, .int (qz x1)), (2, .int (qz x2))], [], _, 0, 0)
  have hz86_6 : 0 ≤ σ 86 6 ∧ σ 86 6 ≤ 32 := hI.1 86 6
  refine qr_aload_n 1 rfl rfl rfl ?_
  refine qr_get 4 rfl rfl rfl (by decide) rfl ?_
  refine qr_iload_n 5 rfl rfl rfl ?_
  refine qr_iaload 6 rfl rfl (qrgi r2 (by decide) (by decide)) (by decide) rfl ?_
  refine qr_topI (fun v1 hv1 => ?_)
  have hs2 : (-1) ≤ v1 ∧ v1 ≤ 31 := by rw [hv1]; exact hI.2.1 91 _ (show _ < 32 from qrgt r2 (by decide) (by decide))
  have hs3 := hI.2.2.2.2.2.2.1 (x2 : Int).toNat (by omega)
  refine qr_istore_n _ 7 rfl (by decide) rfl rfl ?_
  have hL38 : ∀ (n : Nat) (ls : qm_L) (u35 : Int), u35 + 1 < (n : Int) → qm_get ls 0 = some (.ref 86) → qm_get ls 1 = some (.int (qz x1)) → qm_get ls 3 = some (.int (qz u35)) → ((-1) ≤ u35 ∧ u35 ≤ 31) → qll (α 91) (α 91 (x2 : Int).toNat) x1 = qll (α 91) u35 x1 → qr_W (qe L xs vb) (d + 0) qx_e207 (fun r w' => w' = qw σ α κ ρ ∧ ∃ v : Int, r = some (.int (qz v)) ∧ (0 ≤ v ∧ v ≤ 1) ∧ v = qll (α 91) (α 91 (x2 : Int).toNat) x1) (7, ls, [], qw σ α κ ρ, 0, 0) := by
    intro n
    induction n with
    | zero => intro ls u35 hm g32 g33 g34 hf36 hx37; exact False.elim (by omega)
    | succ n ih39 =>
      intro ls u35 hm g32 g33 g34 hf36 hx37
      refine qr_iload_n 8 rfl g34 rfl ?_
      have hld := hI.2.2.2.2.2.2.1 (u35 : Int).toNat (by omega)
      refine qr_if_lt 28 11 rfl rfl rfl (qrg hf36 (by decide) (by decide)) (fun h40 => ?_) (fun h40 => ?_)
      · skip
        refine qr_iconst 29 rfl rfl ?_
        refine qr_retZ rfl rfl (Or.inl rfl) (by decide) (by decide) ?_
        exact ⟨rfl, 0, rfl, (by decide), (by have hq := qll_s (ld := α 91) (l := x1) (fun j hj => by have h1 := hI.2.2.2.2.2.2.1 j (by omega); have h2 := hI.2.1 91 j (show j < 32 from hj); have h3 : -1 ≤ α 91 j ∧ α 91 j ≤ 31 := h2; omega) (a := u35) (by omega); have hp := hx37; omega)⟩
      · skip
        refine qr_iload_n 12 rfl g34 rfl ?_
        refine qr_iload_n 13 rfl g33 rfl ?_
        refine qr_icmp_ne 18 16 rfl rfl rfl (qrg hf36 (by decide) (by decide)) r1 (fun h41 => ?_) (fun h41 => ?_)
        · skip
          refine qr_aload_n 19 rfl g32 rfl ?_
          refine qr_get 22 rfl rfl rfl (by decide) rfl ?_
          refine qr_iload_n 23 rfl g34 rfl ?_
          refine qr_iaload 24 rfl rfl (by omega) (by decide) rfl ?_
          refine qr_topI (fun v42 hv42 => ?_)
          have hs43 : (-1) ≤ v42 ∧ v42 ≤ 31 := by rw [hv42]; exact hI.2.1 91 _ (show _ < 32 from qrgt hf36 (by decide) (by decide))
          have hs44 := hI.2.2.2.2.2.2.1 (u35 : Int).toNat (by omega)
          refine qr_istore_n _ 25 rfl (by decide) rfl rfl ?_
          refine qr_goto 7 rfl rfl ?_
          exact ih39 _ v42 (by omega) (qm_gk g32 (by decide) (Or.inl (by decide))) (qm_gk g33 (by decide) (Or.inl (by decide))) (qm_ge _ _ _) hs43 (by have hq := qll_s (ld := α 91) (l := x1) (fun j hj => by have h1 := hI.2.2.2.2.2.2.1 j (by omega); have h2 := hI.2.1 91 j (show j < 32 from hj); have h3 : -1 ≤ α 91 j ∧ α 91 j ≤ 31 := h2; omega) (a := u35) (by omega); rw [← hv42] at hq; have hp := hx37; omega)
        · skip
          refine qr_iconst 17 rfl rfl ?_
          refine qr_retZ rfl rfl (Or.inr rfl) (by decide) (by decide) ?_
          exact ⟨rfl, 1, rfl, (by decide), (by have hq := qll_s (ld := α 91) (l := x1) (fun j hj => by have h1 := hI.2.2.2.2.2.2.1 j (by omega); have h2 := hI.2.1 91 j (show j < 32 from hj); have h3 : -1 ≤ α 91 j ∧ α 91 j ≤ 31 := h2; omega) (a := u35) (by omega); have hp := hx37; omega)⟩
  exact hL38 ((v1 + 1 + 1 : Int)).toNat _ v1 (by omega) rfl rfl rfl hs2 (by rw [hv1])

set_option maxHeartbeats 4000000 in
set_option maxRecDepth 20000 in
/-- OneRoofModel.isUnderGiver -/
theorem sf_206_86x {L : Nat} {xs : Nat → Int} {vb : Bool} {d : Nat} {σ α : Nat → Nat → Int} {κ : Nat → Option Nat} {ρ : Nat} {x1 : Int} {x2 : Int} (hI : qI σ α κ ρ) (r1 : 0 ≤ x1 ∧ x1 ≤ 59) (r2 : 0 ≤ x2 ∧ x2 ≤ 31) (p0 : 1 ≤ σ 86 6) : qm_T (qe L xs vb) (d + 2) 206 [.ref 86, .int (qz x1), .int (qz x2)] (qw σ α κ ρ) (fun r w' => w' = qw σ α κ ρ ∧ ∃ v : Int, r = some (.int (qz v)) ∧ (0 ≤ v ∧ v ≤ 1) ∧ v = qll (α 91) x2 (α 102 (x1 : Int).toNat)) := by
  refine qr_start (d := d + 1) qv_e206 (Nat.le_of_ble_eq_true rfl) ?_
  show qr_W (qe L xs vb) (d + 1) qx_e206 _ (0, [(0, .ref 86), (1, .int (qz x1)), (2, .int (qz x2))], [], _, 0, 0)
  have hz86_6 : 0 ≤ σ 86 6 ∧ σ 86 6 ≤ 32 := hI.1 86 6
  refine qr_iload_n 1 rfl rfl rfl ?_
  refine qr_aload_n 2 rfl rfl rfl ?_
  refine qr_get 5 rfl rfl rfl (by decide) rfl ?_
  refine qr_iload_n 6 rfl rfl rfl ?_
  refine qr_iaload 7 rfl rfl (qrgi r1 (by decide) (by decide)) (by decide) rfl ?_
  refine qr_topI (fun v1 hv1 => ?_)
  have hs2 : 0 ≤ v1 ∧ v1 ≤ 31 := by rw [hv1]; exact hI.2.1 102 _ (show _ < 60 from qrgt r1 (by decide) (by decide))
  refine qr_icmp_eq 24 10 rfl rfl rfl (qrg r2 (by decide) (by decide)) (qrg hs2 (by decide) (by decide)) (fun h3 => ?_) (fun h3 => ?_)
  · skip
    refine qr_iconst 25 rfl rfl ?_
    refine qr_goto 29 rfl rfl ?_
    refine qr_retZ rfl rfl (Or.inr rfl) (by decide) (by decide) ?_
    exact ⟨rfl, 1, rfl, (by decide), (by have hq := qll_s (ld := α 91) (l := α 102 (x1 : Int).toNat) (fun j hj => by have h1 := hI.2.2.2.2.2.2.1 j (by omega); have h2 := hI.2.1 91 j (show j < 32 from hj); have h3 : -1 ≤ α 91 j ∧ α 91 j ≤ 31 := h2; omega) (a := x2) (by omega); omega)⟩
  · skip
    refine qr_aload_n 11 rfl rfl rfl ?_
    refine qr_aload_n 12 rfl rfl rfl ?_
    refine qr_get 15 rfl rfl rfl (by decide) rfl ?_
    refine qr_iload_n 16 rfl rfl rfl ?_
    refine qr_iaload 17 rfl rfl (qrgi r1 (by decide) (by decide)) (by decide) rfl ?_
    refine qr_topI (fun v4 hv4 => ?_)
    have hs5 : 0 ≤ v4 ∧ v4 ≤ 31 := by rw [hv4]; exact hI.2.1 102 _ (show _ < 60 from qrgt r1 (by decide) (by decide))
    refine qr_iload_n 18 rfl rfl rfl ?_
    have hs6 : 0 ≤ σ 86 6 ∧ σ 86 6 ≤ 32 := hI.1 86 6
    refine qr_callN 21 rfl rfl rfl (sf_207_86x (d := d + 0) hI (qrg hs5 (by decide) (by decide)) r2 (by omega)) ?_
    rintro _ _ ⟨rfl, v7, rfl, hv7, hp8⟩
    show qr_W (qe L xs vb) (d + 1) qx_e206 _ (21, _, [.int (qz v7)], qw σ α κ ρ, 0, 0)
    rw [hv4] at hp8
    refine qr_if_eq 28 24 rfl rfl rfl (qrg hv7 (by decide) (by decide)) (fun h9 => ?_) (fun h9 => ?_)
    · skip
      refine qr_iconst 29 rfl rfl ?_
      refine qr_retZ rfl rfl (Or.inl rfl) (by decide) (by decide) ?_
      exact ⟨rfl, 0, rfl, (by decide), (by have hq := qll_s (ld := α 91) (l := α 102 (x1 : Int).toNat) (fun j hj => by have h1 := hI.2.2.2.2.2.2.1 j (by omega); have h2 := hI.2.1 91 j (show j < 32 from hj); have h3 : -1 ≤ α 91 j ∧ α 91 j ≤ 31 := h2; omega) (a := x2) (by omega); have hq2 := hp8; omega)⟩
    · skip
      refine qr_iconst 25 rfl rfl ?_
      refine qr_goto 29 rfl rfl ?_
      refine qr_retZ rfl rfl (Or.inr rfl) (by decide) (by decide) ?_
      exact ⟨rfl, 1, rfl, (by decide), (by have hq := qll_s (ld := α 91) (l := α 102 (x1 : Int).toNat) (fun j hj => by have h1 := hI.2.2.2.2.2.2.1 j (by omega); have h2 := hI.2.1 91 j (show j < 32 from hj); have h3 : -1 ≤ α 91 j ∧ α 91 j ≤ 31 := h2; omega) (a := x2) (by omega); have hq2 := hp8; omega)⟩

set_option maxHeartbeats 4000000 in
set_option maxRecDepth 20000 in
/-- OneRoofModel.holdsNow -/
theorem sf_205_86x {L : Nat} {xs : Nat → Int} {vb : Bool} {d : Nat} {σ α : Nat → Nat → Int} {κ : Nat → Option Nat} {ρ : Nat} {x1 : Int} {x2 : Int} {x3 : Int} {x4 : Int} (hI : qI σ α κ ρ) (r1 : 0 ≤ x1 ∧ x1 ≤ 59) (r2 : 0 ≤ x2 ∧ x2 ≤ 31) (r3 : 0 ≤ x3 ∧ x3 ≤ 31) (r4 : (-2147483648) ≤ x4 ∧ x4 ≤ 2147483647) (p0 : ¬ x2 = x3) (p1 : x1 < σ 86 24) (p2 : qZk σ α) (p3 : 1 ≤ σ 86 6) : qm_T (qe L xs vb) (d + 3) 205 [.ref 86, .int (qz x1), .int (qz x2), .int (qz x3), .int (qz x4)] (qw σ α κ ρ) (fun r w' => w' = qw σ α κ ρ ∧ ∃ v : Int, r = some (.int (qz v)) ∧ (0 ≤ v ∧ v ≤ 1) ∧ v = qhG (σ 86 29) (qhF (qsh (α 87) 192) (α 102) (α 103) (qun (α 104) (α 105) (qsh (α 87) 192)) (qcw (α 87)) (qll (α 91)) x2 x3 x4) (x1 : Int).toNat) := by
  refine qr_start (d := d + 2) qv_e205 (Nat.le_of_ble_eq_true rfl) ?_
  show qr_W (qe L xs vb) (d + 2) qx_e205 _ (0, [(0, .ref 86), (1, .int (qz x1)), (2, .int (qz x2)), (3, .int (qz x3)), (4, .int (qz x4))], [], _, 0, 0)
  have hz := p2 (x1 : Int).toNat (by omega)
  have hz86_29 : (-9223372036854775808) ≤ σ 86 29 ∧ σ 86 29 ≤ 9223372036854775807 := hI.1 86 29
  have hz86_24 : 0 ≤ σ 86 24 ∧ σ 86 24 ≤ 60 := hI.1 86 24
  have hz86_6 : 0 ≤ σ 86 6 ∧ σ 86 6 ≤ 32 := hI.1 86 6
  refine qr_aload_n 1 rfl rfl rfl ?_
  refine qr_iload_n 2 rfl rfl rfl ?_
  refine qr_callN 5 rfl rfl rfl (sf_201_86x (d := d + 1) hI r1) ?_
  rintro _ _ ⟨rfl, v1, rfl, hv1, hp2⟩
  show qr_W (qe L xs vb) (d + 2) qx_e205 _ (5, _, [.int (qz v1)], qw σ α κ ρ, 0, 0)
  refine qr_istore _ 7 rfl (by decide) rfl rfl ?_
  refine qr_iload 9 rfl rfl rfl ?_
  refine qr_bipush 11 rfl (by decide) rfl ?_
  refine qr_icmp_eq 66 14 rfl rfl rfl hv1 (by decide) (fun h3 => ?_) (fun h3 => ?_)
  · skip
    refine qr_iconst 67 rfl rfl ?_
    refine qr_retZ rfl rfl (Or.inl rfl) (by decide) (by decide) ?_
    exact ⟨rfl, 0, rfl, (by decide), (by have hq0 := (show (qhF (qsh (α 87) 192) (α 102) (α 103) (qun (α 104) (α 105) (qsh (α 87) 192)) (qcw (α 87)) (qll (α 91)) x2 x3 x4) (x1 : Int).toNat = qho (qsh (α 87) 192 (x1 : Int).toNat) (α 102 (x1 : Int).toNat) (α 103 (x1 : Int).toNat) (qun (α 104) (α 105) (qsh (α 87) 192) (x1 : Int).toNat) (qcw (α 87) (x1 : Int).toNat x2) (qcw (α 87) (x1 : Int).toNat x3) (qll (α 91) x2 (α 102 (x1 : Int).toNat)) (qll (α 91) x3 (α 102 (x1 : Int).toNat)) x2 x3 x4 from rfl); have hq1 := qho_s (qsh (α 87) 192 (x1 : Int).toNat) (α 102 (x1 : Int).toNat) (α 103 (x1 : Int).toNat) (qun (α 104) (α 105) (qsh (α 87) 192) (x1 : Int).toNat) (qcw (α 87) (x1 : Int).toNat x2) (qcw (α 87) (x1 : Int).toNat x3) (qll (α 91) x2 (α 102 (x1 : Int).toNat)) (qll (α 91) x3 (α 102 (x1 : Int).toNat)) x2 x3 x4; have hq2 := qll_01 (α 91) x2 (α 102 (x1 : Int).toNat); have hq3 := qll_01 (α 91) x3 (α 102 (x1 : Int).toNat); have hq4 := (show qhG (σ 86 29) (qhF (qsh (α 87) 192) (α 102) (α 103) (qun (α 104) (α 105) (qsh (α 87) 192)) (qcw (α 87)) (qll (α 91)) x2 x3 x4) (x1 : Int).toNat = if qbit (σ 86 29) (((x1 : Int).toNat : Nat) : Int) = 1 then 0 else (qhF (qsh (α 87) 192) (α 102) (α 103) (qun (α 104) (α 105) (qsh (α 87) 192)) (qcw (α 87)) (qll (α 91)) x2 x3 x4) (x1 : Int).toNat from rfl); rw [Int.toNat_of_nonneg (show 0 ≤ x1 by omega)] at hq4; have hun : qun (α 104) (α 105) (qsh (α 87) 192) (x1 : Int).toNat = α 104 (x1 : Int).toNat + (if qsh (α 87) 192 (x1 : Int).toNat = 2 then α 105 (x1 : Int).toNat else 0) := rfl; have hu2 : (qsh (α 87) 192 (x1 : Int).toNat = 2 ∧ qun (α 104) (α 105) (qsh (α 87) 192) (x1 : Int).toNat = α 104 (x1 : Int).toNat + α 105 (x1 : Int).toNat) ∨ (¬ qsh (α 87) 192 (x1 : Int).toNat = 2 ∧ qun (α 104) (α 105) (qsh (α 87) 192) (x1 : Int).toNat = α 104 (x1 : Int).toNat) := (by rw [hun]; split; (next z => exact Or.inl ⟨z, rfl⟩); (next z => exact Or.inr ⟨z, by omega⟩)); have hb2 : qhG (σ 86 29) (qhF (qsh (α 87) 192) (α 102) (α 103) (qun (α 104) (α 105) (qsh (α 87) 192)) (qcw (α 87)) (qll (α 91)) x2 x3 x4) (x1 : Int).toNat = 0 ∨ qhG (σ 86 29) (qhF (qsh (α 87) 192) (α 102) (α 103) (qun (α 104) (α 105) (qsh (α 87) 192)) (qcw (α 87)) (qll (α 91)) x2 x3 x4) (x1 : Int).toNat = (qhF (qsh (α 87) 192) (α 102) (α 103) (qun (α 104) (α 105) (qsh (α 87) 192)) (qcw (α 87)) (qll (α 91)) x2 x3 x4) (x1 : Int).toNat := (by rw [hq4]; split; (exact Or.inl rfl); (exact Or.inr rfl)); have hw := qrh_o (kd := qsh (α 87) 192 (x1 : Int).toNat) (gv := α 102 (x1 : Int).toNat) (cp := qcw (α 87) (x1 : Int).toNat x2) (cq := qcw (α 87) (x1 : Int).toNat x3) (lp := qll (α 91) x2 (α 102 (x1 : Int).toNat)) (lq := qll (α 91) x3 (α 102 (x1 : Int).toNat)) (p := x2) (q := x3); omega)⟩
  · skip
    refine qr_aload_n 15 rfl rfl rfl ?_
    refine qr_get 18 rfl rfl rfl (by decide) rfl ?_
    refine qr_iload_n 19 rfl rfl rfl ?_
    refine qr_lshr 20 rfl rfl ?_
    refine qy_canlE (fun v4 hv4 hev4 => ?_)
    refine qr_lconst 21 rfl rfl ?_
    refine qy_vl 1 rfl ?_
    refine qr_land 22 rfl rfl ?_
    refine qy_canlE (fun v5 hv5 hev5 => ?_)
    refine qr_lconst 23 rfl rfl ?_
    refine qy_vl 1 rfl ?_
    refine qr_lc_eq 66 27 rfl rfl rfl rfl hv5 (by decide) (fun h6 => ?_) (fun h6 => ?_)
    · skip
      refine qr_iconst 67 rfl rfl ?_
      refine qr_retZ rfl rfl (Or.inl rfl) (by decide) (by decide) ?_
      exact ⟨rfl, 0, rfl, (by decide), (by have hq0 := (show (qhF (qsh (α 87) 192) (α 102) (α 103) (qun (α 104) (α 105) (qsh (α 87) 192)) (qcw (α 87)) (qll (α 91)) x2 x3 x4) (x1 : Int).toNat = qho (qsh (α 87) 192 (x1 : Int).toNat) (α 102 (x1 : Int).toNat) (α 103 (x1 : Int).toNat) (qun (α 104) (α 105) (qsh (α 87) 192) (x1 : Int).toNat) (qcw (α 87) (x1 : Int).toNat x2) (qcw (α 87) (x1 : Int).toNat x3) (qll (α 91) x2 (α 102 (x1 : Int).toNat)) (qll (α 91) x3 (α 102 (x1 : Int).toNat)) x2 x3 x4 from rfl); have hq1 := qho_s (qsh (α 87) 192 (x1 : Int).toNat) (α 102 (x1 : Int).toNat) (α 103 (x1 : Int).toNat) (qun (α 104) (α 105) (qsh (α 87) 192) (x1 : Int).toNat) (qcw (α 87) (x1 : Int).toNat x2) (qcw (α 87) (x1 : Int).toNat x3) (qll (α 91) x2 (α 102 (x1 : Int).toNat)) (qll (α 91) x3 (α 102 (x1 : Int).toNat)) x2 x3 x4; have hq2 := qll_01 (α 91) x2 (α 102 (x1 : Int).toNat); have hq3 := qll_01 (α 91) x3 (α 102 (x1 : Int).toNat); have hq4 := (show qhG (σ 86 29) (qhF (qsh (α 87) 192) (α 102) (α 103) (qun (α 104) (α 105) (qsh (α 87) 192)) (qcw (α 87)) (qll (α 91)) x2 x3 x4) (x1 : Int).toNat = if qbit (σ 86 29) (((x1 : Int).toNat : Nat) : Int) = 1 then 0 else (qhF (qsh (α 87) 192) (α 102) (α 103) (qun (α 104) (α 105) (qsh (α 87) 192)) (qcw (α 87)) (qll (α 91)) x2 x3 x4) (x1 : Int).toNat from rfl); rw [Int.toNat_of_nonneg (show 0 ≤ x1 by omega)] at hq4; have hun : qun (α 104) (α 105) (qsh (α 87) 192) (x1 : Int).toNat = α 104 (x1 : Int).toNat + (if qsh (α 87) 192 (x1 : Int).toNat = 2 then α 105 (x1 : Int).toNat else 0) := rfl; have hu2 : (qsh (α 87) 192 (x1 : Int).toNat = 2 ∧ qun (α 104) (α 105) (qsh (α 87) 192) (x1 : Int).toNat = α 104 (x1 : Int).toNat + α 105 (x1 : Int).toNat) ∨ (¬ qsh (α 87) 192 (x1 : Int).toNat = 2 ∧ qun (α 104) (α 105) (qsh (α 87) 192) (x1 : Int).toNat = α 104 (x1 : Int).toNat) := (by rw [hun]; split; (next z => exact Or.inl ⟨z, rfl⟩); (next z => exact Or.inr ⟨z, by omega⟩)); have hb := qbit_inS (t := σ 86 29) (i := x1) (by omega) (by omega) hev4 hev5; have hb2 : (qbit (σ 86 29) x1 = 1 ∧ qhG (σ 86 29) (qhF (qsh (α 87) 192) (α 102) (α 103) (qun (α 104) (α 105) (qsh (α 87) 192)) (qcw (α 87)) (qll (α 91)) x2 x3 x4) (x1 : Int).toNat = 0) ∨ (¬ qbit (σ 86 29) x1 = 1 ∧ qhG (σ 86 29) (qhF (qsh (α 87) 192) (α 102) (α 103) (qun (α 104) (α 105) (qsh (α 87) 192)) (qcw (α 87)) (qll (α 91)) x2 x3 x4) (x1 : Int).toNat = (qhF (qsh (α 87) 192) (α 102) (α 103) (qun (α 104) (α 105) (qsh (α 87) 192)) (qcw (α 87)) (qll (α 91)) x2 x3 x4) (x1 : Int).toNat) := (by rw [hq4]; split; (next z => exact Or.inl ⟨z, rfl⟩); (next z => exact Or.inr ⟨z, rfl⟩)); have hw := qrh_o (kd := qsh (α 87) 192 (x1 : Int).toNat) (gv := α 102 (x1 : Int).toNat) (cp := qcw (α 87) (x1 : Int).toNat x2) (cq := qcw (α 87) (x1 : Int).toNat x3) (lp := qll (α 91) x2 (α 102 (x1 : Int).toNat)) (lq := qll (α 91) x3 (α 102 (x1 : Int).toNat)) (p := x2) (q := x3); omega)⟩
    · skip
      refine qr_iload 29 rfl rfl rfl ?_
      refine qr_aload_n 30 rfl rfl rfl ?_
      refine qr_get 33 rfl rfl rfl (by decide) rfl ?_
      refine qr_iload_n 34 rfl rfl rfl ?_
      refine qr_iaload 35 rfl rfl (qrgi r1 (by decide) (by decide)) (by decide) rfl ?_
      refine qr_topI (fun v7 hv7 => ?_)
      have hs8 : (-2147483648) ≤ v7 ∧ v7 ≤ 2147483647 := by rw [hv7]; exact hI.2.1 103 _ (show _ < 60 from qrgt r1 (by decide) (by decide))
      refine qr_icmp_lt 66 38 rfl rfl rfl r4 hs8 (fun h9 => ?_) (fun h9 => ?_)
      · skip
        refine qr_iconst 67 rfl rfl ?_
        refine qr_retZ rfl rfl (Or.inl rfl) (by decide) (by decide) ?_
        exact ⟨rfl, 0, rfl, (by decide), (by have hq0 := (show (qhF (qsh (α 87) 192) (α 102) (α 103) (qun (α 104) (α 105) (qsh (α 87) 192)) (qcw (α 87)) (qll (α 91)) x2 x3 x4) (x1 : Int).toNat = qho (qsh (α 87) 192 (x1 : Int).toNat) (α 102 (x1 : Int).toNat) (α 103 (x1 : Int).toNat) (qun (α 104) (α 105) (qsh (α 87) 192) (x1 : Int).toNat) (qcw (α 87) (x1 : Int).toNat x2) (qcw (α 87) (x1 : Int).toNat x3) (qll (α 91) x2 (α 102 (x1 : Int).toNat)) (qll (α 91) x3 (α 102 (x1 : Int).toNat)) x2 x3 x4 from rfl); have hq1 := qho_s (qsh (α 87) 192 (x1 : Int).toNat) (α 102 (x1 : Int).toNat) (α 103 (x1 : Int).toNat) (qun (α 104) (α 105) (qsh (α 87) 192) (x1 : Int).toNat) (qcw (α 87) (x1 : Int).toNat x2) (qcw (α 87) (x1 : Int).toNat x3) (qll (α 91) x2 (α 102 (x1 : Int).toNat)) (qll (α 91) x3 (α 102 (x1 : Int).toNat)) x2 x3 x4; have hq2 := qll_01 (α 91) x2 (α 102 (x1 : Int).toNat); have hq3 := qll_01 (α 91) x3 (α 102 (x1 : Int).toNat); have hq4 := (show qhG (σ 86 29) (qhF (qsh (α 87) 192) (α 102) (α 103) (qun (α 104) (α 105) (qsh (α 87) 192)) (qcw (α 87)) (qll (α 91)) x2 x3 x4) (x1 : Int).toNat = if qbit (σ 86 29) (((x1 : Int).toNat : Nat) : Int) = 1 then 0 else (qhF (qsh (α 87) 192) (α 102) (α 103) (qun (α 104) (α 105) (qsh (α 87) 192)) (qcw (α 87)) (qll (α 91)) x2 x3 x4) (x1 : Int).toNat from rfl); rw [Int.toNat_of_nonneg (show 0 ≤ x1 by omega)] at hq4; have hun : qun (α 104) (α 105) (qsh (α 87) 192) (x1 : Int).toNat = α 104 (x1 : Int).toNat + (if qsh (α 87) 192 (x1 : Int).toNat = 2 then α 105 (x1 : Int).toNat else 0) := rfl; have hu2 : (qsh (α 87) 192 (x1 : Int).toNat = 2 ∧ qun (α 104) (α 105) (qsh (α 87) 192) (x1 : Int).toNat = α 104 (x1 : Int).toNat + α 105 (x1 : Int).toNat) ∨ (¬ qsh (α 87) 192 (x1 : Int).toNat = 2 ∧ qun (α 104) (α 105) (qsh (α 87) 192) (x1 : Int).toNat = α 104 (x1 : Int).toNat) := (by rw [hun]; split; (next z => exact Or.inl ⟨z, rfl⟩); (next z => exact Or.inr ⟨z, by omega⟩)); have hb := qbit_inS (t := σ 86 29) (i := x1) (by omega) (by omega) hev4 hev5; have hb2 : (qbit (σ 86 29) x1 = 1 ∧ qhG (σ 86 29) (qhF (qsh (α 87) 192) (α 102) (α 103) (qun (α 104) (α 105) (qsh (α 87) 192)) (qcw (α 87)) (qll (α 91)) x2 x3 x4) (x1 : Int).toNat = 0) ∨ (¬ qbit (σ 86 29) x1 = 1 ∧ qhG (σ 86 29) (qhF (qsh (α 87) 192) (α 102) (α 103) (qun (α 104) (α 105) (qsh (α 87) 192)) (qcw (α 87)) (qll (α 91)) x2 x3 x4) (x1 : Int).toNat = (qhF (qsh (α 87) 192) (α 102) (α 103) (qun (α 104) (α 105) (qsh (α 87) 192)) (qcw (α 87)) (qll (α 91)) x2 x3 x4) (x1 : Int).toNat) := (by rw [hq4]; split; (next z => exact Or.inl ⟨z, rfl⟩); (next z => exact Or.inr ⟨z, rfl⟩)); have hw := qrh_o (kd := qsh (α 87) 192 (x1 : Int).toNat) (gv := α 102 (x1 : Int).toNat) (cp := qcw (α 87) (x1 : Int).toNat x2) (cq := qcw (α 87) (x1 : Int).toNat x3) (lp := qll (α 91) x2 (α 102 (x1 : Int).toNat)) (lq := qll (α 91) x3 (α 102 (x1 : Int).toNat)) (p := x2) (q := x3); omega)⟩
      · skip
        refine qr_iload 40 rfl rfl rfl ?_
        refine qr_aload_n 41 rfl rfl rfl ?_
        refine qr_get 44 rfl rfl rfl (by decide) rfl ?_
        refine qr_iload_n 45 rfl rfl rfl ?_
        refine qr_iaload 46 rfl rfl (qrgi r1 (by decide) (by decide)) (by decide) rfl ?_
        refine qr_topI (fun v10 hv10 => ?_)
        have hs11 : (-2147483648) ≤ v10 ∧ v10 ≤ 2147483647 := by rw [hv10]; exact hI.2.1 104 _ (show _ < 60 from qrgt r1 (by decide) (by decide))
        refine qr_iload 48 rfl rfl rfl ?_
        refine qr_iconst 49 rfl rfl ?_
        refine qr_icmp_ne 61 52 rfl rfl rfl hv1 (by decide) (fun h12 => ?_) (fun h12 => ?_)
        · skip
          refine qr_iconst 62 rfl rfl ?_
          refine qr_iadd 63 rfl rfl ?_
          refine qr_icmp_le 68 66 rfl rfl rfl r4 (by omega) (fun h13 => ?_) (fun h13 => ?_)
          · skip
            refine qr_aload_n 69 rfl rfl rfl ?_
            refine qr_iload_n 70 rfl rfl rfl ?_
            refine qr_iload_n 71 rfl rfl rfl ?_
            refine qr_callN 74 rfl rfl rfl (sf_202_86x (d := d + 1) hI r1 r2) ?_
            rintro _ _ ⟨rfl, v14, rfl, hv14, hp15⟩
            show qr_W (qe L xs vb) (d + 2) qx_e205 _ (74, _, [.int (qz v14)], qw σ α κ ρ, 0, 0)
            refine qr_istore _ 76 rfl (by decide) rfl rfl ?_
            refine qr_aload_n 77 rfl rfl rfl ?_
            refine qr_iload_n 78 rfl rfl rfl ?_
            refine qr_iload_n 79 rfl rfl rfl ?_
            refine qr_callN 82 rfl rfl rfl (sf_202_86x (d := d + 1) hI r1 r3) ?_
            rintro _ _ ⟨rfl, v16, rfl, hv16, hp17⟩
            show qr_W (qe L xs vb) (d + 2) qx_e205 _ (82, _, [.int (qz v16)], qw σ α κ ρ, 0, 0)
            refine qr_istore _ 84 rfl (by decide) rfl rfl ?_
            refine qr_iload 86 rfl rfl rfl ?_
            have h18 : v1 = 1 ∨ v1 = 2 ∨ v1 = 3 ∨ v1 = 4 ∨ v1 = 5 ∨ (v1 < 1 ∨ 5 < v1) := by omega
            rcases h18 with h18 | h18 | h18 | h18 | h18 | h18
            · skip
              refine qr_tabIn 120 rfl hv1 (by rw [h18]; decide) (by rw [h18]; rfl) rfl ?_
              refine qr_iload 122 rfl rfl rfl ?_
              refine qr_if_eq 130 125 rfl rfl rfl (qrg hv14 (by decide) (by decide)) (fun h20 => ?_) (fun h20 => ?_)
              · skip
                refine qr_iload 132 rfl rfl rfl ?_
                refine qr_if_eq 145 135 rfl rfl rfl (qrg hv14 (by decide) (by decide)) (fun h21 => ?_) (fun h => False.elim (by omega))
                refine qr_iload 147 rfl rfl rfl ?_
                refine qr_if_eq 164 150 rfl rfl rfl (qrg hv16 (by decide) (by decide)) (fun h22 => ?_) (fun h22 => ?_)
                · skip
                  as_aux_lemma =>
                    refine qr_iconst 165 rfl rfl ?_
                    refine qr_retZ rfl rfl (Or.inl rfl) (by decide) (by decide) ?_
                    exact ⟨rfl, 0, rfl, (by decide), (by have hq0 := (show (qhF (qsh (α 87) 192) (α 102) (α 103) (qun (α 104) (α 105) (qsh (α 87) 192)) (qcw (α 87)) (qll (α 91)) x2 x3 x4) (x1 : Int).toNat = qho (qsh (α 87) 192 (x1 : Int).toNat) (α 102 (x1 : Int).toNat) (α 103 (x1 : Int).toNat) (qun (α 104) (α 105) (qsh (α 87) 192) (x1 : Int).toNat) (qcw (α 87) (x1 : Int).toNat x2) (qcw (α 87) (x1 : Int).toNat x3) (qll (α 91) x2 (α 102 (x1 : Int).toNat)) (qll (α 91) x3 (α 102 (x1 : Int).toNat)) x2 x3 x4 from rfl); have hq1 := qho_s (qsh (α 87) 192 (x1 : Int).toNat) (α 102 (x1 : Int).toNat) (α 103 (x1 : Int).toNat) (qun (α 104) (α 105) (qsh (α 87) 192) (x1 : Int).toNat) (qcw (α 87) (x1 : Int).toNat x2) (qcw (α 87) (x1 : Int).toNat x3) (qll (α 91) x2 (α 102 (x1 : Int).toNat)) (qll (α 91) x3 (α 102 (x1 : Int).toNat)) x2 x3 x4; have hq2 := qll_01 (α 91) x2 (α 102 (x1 : Int).toNat); have hq3 := qll_01 (α 91) x3 (α 102 (x1 : Int).toNat); have hq4 := (show qhG (σ 86 29) (qhF (qsh (α 87) 192) (α 102) (α 103) (qun (α 104) (α 105) (qsh (α 87) 192)) (qcw (α 87)) (qll (α 91)) x2 x3 x4) (x1 : Int).toNat = if qbit (σ 86 29) (((x1 : Int).toNat : Nat) : Int) = 1 then 0 else (qhF (qsh (α 87) 192) (α 102) (α 103) (qun (α 104) (α 105) (qsh (α 87) 192)) (qcw (α 87)) (qll (α 91)) x2 x3 x4) (x1 : Int).toNat from rfl); rw [Int.toNat_of_nonneg (show 0 ≤ x1 by omega)] at hq4; have hun : qun (α 104) (α 105) (qsh (α 87) 192) (x1 : Int).toNat = α 104 (x1 : Int).toNat + (if qsh (α 87) 192 (x1 : Int).toNat = 2 then α 105 (x1 : Int).toNat else 0) := rfl; have hu2 : (qsh (α 87) 192 (x1 : Int).toNat = 2 ∧ qun (α 104) (α 105) (qsh (α 87) 192) (x1 : Int).toNat = α 104 (x1 : Int).toNat + α 105 (x1 : Int).toNat) ∨ (¬ qsh (α 87) 192 (x1 : Int).toNat = 2 ∧ qun (α 104) (α 105) (qsh (α 87) 192) (x1 : Int).toNat = α 104 (x1 : Int).toNat) := (by rw [hun]; split; (next z => exact Or.inl ⟨z, rfl⟩); (next z => exact Or.inr ⟨z, by omega⟩)); have hb := qbit_inS (t := σ 86 29) (i := x1) (by omega) (by omega) hev4 hev5; have hb2 : (qbit (σ 86 29) x1 = 1 ∧ qhG (σ 86 29) (qhF (qsh (α 87) 192) (α 102) (α 103) (qun (α 104) (α 105) (qsh (α 87) 192)) (qcw (α 87)) (qll (α 91)) x2 x3 x4) (x1 : Int).toNat = 0) ∨ (¬ qbit (σ 86 29) x1 = 1 ∧ qhG (σ 86 29) (qhF (qsh (α 87) 192) (α 102) (α 103) (qun (α 104) (α 105) (qsh (α 87) 192)) (qcw (α 87)) (qll (α 91)) x2 x3 x4) (x1 : Int).toNat = (qhF (qsh (α 87) 192) (α 102) (α 103) (qun (α 104) (α 105) (qsh (α 87) 192)) (qcw (α 87)) (qll (α 91)) x2 x3 x4) (x1 : Int).toNat) := (by rw [hq4]; split; (next z => exact Or.inl ⟨z, rfl⟩); (next z => exact Or.inr ⟨z, rfl⟩)); have hw := qrh_12 (kd := qsh (α 87) 192 (x1 : Int).toNat) (gv := α 102 (x1 : Int).toNat) (cp := qcw (α 87) (x1 : Int).toNat x2) (cq := qcw (α 87) (x1 : Int).toNat x3) (lp := qll (α 91) x2 (α 102 (x1 : Int).toNat)) (lq := qll (α 91) x3 (α 102 (x1 : Int).toNat)) (p := x2) (q := x3) (by omega); omega)⟩
                · skip
                  as_aux_lemma =>
                    refine qr_iload_n 151 rfl rfl rfl ?_
                    refine qr_aload_n 152 rfl rfl rfl ?_
                    refine qr_get 155 rfl rfl rfl (by decide) rfl ?_
                    refine qr_iload_n 156 rfl rfl rfl ?_
                    refine qr_iaload 157 rfl rfl (qrgi r1 (by decide) (by decide)) (by decide) rfl ?_
                    refine qr_topI (fun v23 hv23 => ?_)
                    have hs24 : 0 ≤ v23 ∧ v23 ≤ 31 := by rw [hv23]; exact hI.2.1 102 _ (show _ < 60 from qrgt r1 (by decide) (by decide))
                    refine qr_icmp_ne 164 160 rfl rfl rfl (qrg r2 (by decide) (by decide)) (qrg hs24 (by decide) (by decide)) (fun h25 => ?_) (fun h25 => ?_)
                    · skip
                      refine qr_iconst 165 rfl rfl ?_
                      refine qr_retZ rfl rfl (Or.inl rfl) (by decide) (by decide) ?_
                      exact ⟨rfl, 0, rfl, (by decide), (by have hq0 := (show (qhF (qsh (α 87) 192) (α 102) (α 103) (qun (α 104) (α 105) (qsh (α 87) 192)) (qcw (α 87)) (qll (α 91)) x2 x3 x4) (x1 : Int).toNat = qho (qsh (α 87) 192 (x1 : Int).toNat) (α 102 (x1 : Int).toNat) (α 103 (x1 : Int).toNat) (qun (α 104) (α 105) (qsh (α 87) 192) (x1 : Int).toNat) (qcw (α 87) (x1 : Int).toNat x2) (qcw (α 87) (x1 : Int).toNat x3) (qll (α 91) x2 (α 102 (x1 : Int).toNat)) (qll (α 91) x3 (α 102 (x1 : Int).toNat)) x2 x3 x4 from rfl); have hq1 := qho_s (qsh (α 87) 192 (x1 : Int).toNat) (α 102 (x1 : Int).toNat) (α 103 (x1 : Int).toNat) (qun (α 104) (α 105) (qsh (α 87) 192) (x1 : Int).toNat) (qcw (α 87) (x1 : Int).toNat x2) (qcw (α 87) (x1 : Int).toNat x3) (qll (α 91) x2 (α 102 (x1 : Int).toNat)) (qll (α 91) x3 (α 102 (x1 : Int).toNat)) x2 x3 x4; have hq2 := qll_01 (α 91) x2 (α 102 (x1 : Int).toNat); have hq3 := qll_01 (α 91) x3 (α 102 (x1 : Int).toNat); have hq4 := (show qhG (σ 86 29) (qhF (qsh (α 87) 192) (α 102) (α 103) (qun (α 104) (α 105) (qsh (α 87) 192)) (qcw (α 87)) (qll (α 91)) x2 x3 x4) (x1 : Int).toNat = if qbit (σ 86 29) (((x1 : Int).toNat : Nat) : Int) = 1 then 0 else (qhF (qsh (α 87) 192) (α 102) (α 103) (qun (α 104) (α 105) (qsh (α 87) 192)) (qcw (α 87)) (qll (α 91)) x2 x3 x4) (x1 : Int).toNat from rfl); rw [Int.toNat_of_nonneg (show 0 ≤ x1 by omega)] at hq4; have hun : qun (α 104) (α 105) (qsh (α 87) 192) (x1 : Int).toNat = α 104 (x1 : Int).toNat + (if qsh (α 87) 192 (x1 : Int).toNat = 2 then α 105 (x1 : Int).toNat else 0) := rfl; have hu2 : (qsh (α 87) 192 (x1 : Int).toNat = 2 ∧ qun (α 104) (α 105) (qsh (α 87) 192) (x1 : Int).toNat = α 104 (x1 : Int).toNat + α 105 (x1 : Int).toNat) ∨ (¬ qsh (α 87) 192 (x1 : Int).toNat = 2 ∧ qun (α 104) (α 105) (qsh (α 87) 192) (x1 : Int).toNat = α 104 (x1 : Int).toNat) := (by rw [hun]; split; (next z => exact Or.inl ⟨z, rfl⟩); (next z => exact Or.inr ⟨z, by omega⟩)); have hb := qbit_inS (t := σ 86 29) (i := x1) (by omega) (by omega) hev4 hev5; have hb2 : (qbit (σ 86 29) x1 = 1 ∧ qhG (σ 86 29) (qhF (qsh (α 87) 192) (α 102) (α 103) (qun (α 104) (α 105) (qsh (α 87) 192)) (qcw (α 87)) (qll (α 91)) x2 x3 x4) (x1 : Int).toNat = 0) ∨ (¬ qbit (σ 86 29) x1 = 1 ∧ qhG (σ 86 29) (qhF (qsh (α 87) 192) (α 102) (α 103) (qun (α 104) (α 105) (qsh (α 87) 192)) (qcw (α 87)) (qll (α 91)) x2 x3 x4) (x1 : Int).toNat = (qhF (qsh (α 87) 192) (α 102) (α 103) (qun (α 104) (α 105) (qsh (α 87) 192)) (qcw (α 87)) (qll (α 91)) x2 x3 x4) (x1 : Int).toNat) := (by rw [hq4]; split; (next z => exact Or.inl ⟨z, rfl⟩); (next z => exact Or.inr ⟨z, rfl⟩)); have hw := qrh_12 (kd := qsh (α 87) 192 (x1 : Int).toNat) (gv := α 102 (x1 : Int).toNat) (cp := qcw (α 87) (x1 : Int).toNat x2) (cq := qcw (α 87) (x1 : Int).toNat x3) (lp := qll (α 91) x2 (α 102 (x1 : Int).toNat)) (lq := qll (α 91) x3 (α 102 (x1 : Int).toNat)) (p := x2) (q := x3) (by omega); omega)⟩
                    · skip
                      refine qr_iconst 161 rfl rfl ?_
                      refine qr_goto 165 rfl rfl ?_
                      refine qr_retZ rfl rfl (Or.inr rfl) (by decide) (by decide) ?_
                      exact ⟨rfl, 1, rfl, (by decide), (by have hq0 := (show (qhF (qsh (α 87) 192) (α 102) (α 103) (qun (α 104) (α 105) (qsh (α 87) 192)) (qcw (α 87)) (qll (α 91)) x2 x3 x4) (x1 : Int).toNat = qho (qsh (α 87) 192 (x1 : Int).toNat) (α 102 (x1 : Int).toNat) (α 103 (x1 : Int).toNat) (qun (α 104) (α 105) (qsh (α 87) 192) (x1 : Int).toNat) (qcw (α 87) (x1 : Int).toNat x2) (qcw (α 87) (x1 : Int).toNat x3) (qll (α 91) x2 (α 102 (x1 : Int).toNat)) (qll (α 91) x3 (α 102 (x1 : Int).toNat)) x2 x3 x4 from rfl); have hq1 := qho_s (qsh (α 87) 192 (x1 : Int).toNat) (α 102 (x1 : Int).toNat) (α 103 (x1 : Int).toNat) (qun (α 104) (α 105) (qsh (α 87) 192) (x1 : Int).toNat) (qcw (α 87) (x1 : Int).toNat x2) (qcw (α 87) (x1 : Int).toNat x3) (qll (α 91) x2 (α 102 (x1 : Int).toNat)) (qll (α 91) x3 (α 102 (x1 : Int).toNat)) x2 x3 x4; have hq2 := qll_01 (α 91) x2 (α 102 (x1 : Int).toNat); have hq3 := qll_01 (α 91) x3 (α 102 (x1 : Int).toNat); have hq4 := (show qhG (σ 86 29) (qhF (qsh (α 87) 192) (α 102) (α 103) (qun (α 104) (α 105) (qsh (α 87) 192)) (qcw (α 87)) (qll (α 91)) x2 x3 x4) (x1 : Int).toNat = if qbit (σ 86 29) (((x1 : Int).toNat : Nat) : Int) = 1 then 0 else (qhF (qsh (α 87) 192) (α 102) (α 103) (qun (α 104) (α 105) (qsh (α 87) 192)) (qcw (α 87)) (qll (α 91)) x2 x3 x4) (x1 : Int).toNat from rfl); rw [Int.toNat_of_nonneg (show 0 ≤ x1 by omega)] at hq4; have hun : qun (α 104) (α 105) (qsh (α 87) 192) (x1 : Int).toNat = α 104 (x1 : Int).toNat + (if qsh (α 87) 192 (x1 : Int).toNat = 2 then α 105 (x1 : Int).toNat else 0) := rfl; have hu2 : (qsh (α 87) 192 (x1 : Int).toNat = 2 ∧ qun (α 104) (α 105) (qsh (α 87) 192) (x1 : Int).toNat = α 104 (x1 : Int).toNat + α 105 (x1 : Int).toNat) ∨ (¬ qsh (α 87) 192 (x1 : Int).toNat = 2 ∧ qun (α 104) (α 105) (qsh (α 87) 192) (x1 : Int).toNat = α 104 (x1 : Int).toNat) := (by rw [hun]; split; (next z => exact Or.inl ⟨z, rfl⟩); (next z => exact Or.inr ⟨z, by omega⟩)); have hb := qbit_inS (t := σ 86 29) (i := x1) (by omega) (by omega) hev4 hev5; have hb2 : (qbit (σ 86 29) x1 = 1 ∧ qhG (σ 86 29) (qhF (qsh (α 87) 192) (α 102) (α 103) (qun (α 104) (α 105) (qsh (α 87) 192)) (qcw (α 87)) (qll (α 91)) x2 x3 x4) (x1 : Int).toNat = 0) ∨ (¬ qbit (σ 86 29) x1 = 1 ∧ qhG (σ 86 29) (qhF (qsh (α 87) 192) (α 102) (α 103) (qun (α 104) (α 105) (qsh (α 87) 192)) (qcw (α 87)) (qll (α 91)) x2 x3 x4) (x1 : Int).toNat = (qhF (qsh (α 87) 192) (α 102) (α 103) (qun (α 104) (α 105) (qsh (α 87) 192)) (qcw (α 87)) (qll (α 91)) x2 x3 x4) (x1 : Int).toNat) := (by rw [hq4]; split; (next z => exact Or.inl ⟨z, rfl⟩); (next z => exact Or.inr ⟨z, rfl⟩)); have hw := qrh_12 (kd := qsh (α 87) 192 (x1 : Int).toNat) (gv := α 102 (x1 : Int).toNat) (cp := qcw (α 87) (x1 : Int).toNat x2) (cq := qcw (α 87) (x1 : Int).toNat x3) (lp := qll (α 91) x2 (α 102 (x1 : Int).toNat)) (lq := qll (α 91) x3 (α 102 (x1 : Int).toNat)) (p := x2) (q := x3) (by omega); omega)⟩
              · skip
                refine qr_iload 127 rfl rfl rfl ?_
                refine qr_if_ne 160 130 rfl rfl rfl (qrg hv16 (by decide) (by decide)) (fun h26 => ?_) (fun h26 => ?_)
                · skip
                  refine qr_iconst 161 rfl rfl ?_
                  refine qr_goto 165 rfl rfl ?_
                  as_aux_lemma =>
                    refine qr_retZ rfl rfl (Or.inr rfl) (by decide) (by decide) ?_
                    exact ⟨rfl, 1, rfl, (by decide), (by have hq0 := (show (qhF (qsh (α 87) 192) (α 102) (α 103) (qun (α 104) (α 105) (qsh (α 87) 192)) (qcw (α 87)) (qll (α 91)) x2 x3 x4) (x1 : Int).toNat = qho (qsh (α 87) 192 (x1 : Int).toNat) (α 102 (x1 : Int).toNat) (α 103 (x1 : Int).toNat) (qun (α 104) (α 105) (qsh (α 87) 192) (x1 : Int).toNat) (qcw (α 87) (x1 : Int).toNat x2) (qcw (α 87) (x1 : Int).toNat x3) (qll (α 91) x2 (α 102 (x1 : Int).toNat)) (qll (α 91) x3 (α 102 (x1 : Int).toNat)) x2 x3 x4 from rfl); have hq1 := qho_s (qsh (α 87) 192 (x1 : Int).toNat) (α 102 (x1 : Int).toNat) (α 103 (x1 : Int).toNat) (qun (α 104) (α 105) (qsh (α 87) 192) (x1 : Int).toNat) (qcw (α 87) (x1 : Int).toNat x2) (qcw (α 87) (x1 : Int).toNat x3) (qll (α 91) x2 (α 102 (x1 : Int).toNat)) (qll (α 91) x3 (α 102 (x1 : Int).toNat)) x2 x3 x4; have hq2 := qll_01 (α 91) x2 (α 102 (x1 : Int).toNat); have hq3 := qll_01 (α 91) x3 (α 102 (x1 : Int).toNat); have hq4 := (show qhG (σ 86 29) (qhF (qsh (α 87) 192) (α 102) (α 103) (qun (α 104) (α 105) (qsh (α 87) 192)) (qcw (α 87)) (qll (α 91)) x2 x3 x4) (x1 : Int).toNat = if qbit (σ 86 29) (((x1 : Int).toNat : Nat) : Int) = 1 then 0 else (qhF (qsh (α 87) 192) (α 102) (α 103) (qun (α 104) (α 105) (qsh (α 87) 192)) (qcw (α 87)) (qll (α 91)) x2 x3 x4) (x1 : Int).toNat from rfl); rw [Int.toNat_of_nonneg (show 0 ≤ x1 by omega)] at hq4; have hun : qun (α 104) (α 105) (qsh (α 87) 192) (x1 : Int).toNat = α 104 (x1 : Int).toNat + (if qsh (α 87) 192 (x1 : Int).toNat = 2 then α 105 (x1 : Int).toNat else 0) := rfl; have hu2 : (qsh (α 87) 192 (x1 : Int).toNat = 2 ∧ qun (α 104) (α 105) (qsh (α 87) 192) (x1 : Int).toNat = α 104 (x1 : Int).toNat + α 105 (x1 : Int).toNat) ∨ (¬ qsh (α 87) 192 (x1 : Int).toNat = 2 ∧ qun (α 104) (α 105) (qsh (α 87) 192) (x1 : Int).toNat = α 104 (x1 : Int).toNat) := (by rw [hun]; split; (next z => exact Or.inl ⟨z, rfl⟩); (next z => exact Or.inr ⟨z, by omega⟩)); have hb := qbit_inS (t := σ 86 29) (i := x1) (by omega) (by omega) hev4 hev5; have hb2 : (qbit (σ 86 29) x1 = 1 ∧ qhG (σ 86 29) (qhF (qsh (α 87) 192) (α 102) (α 103) (qun (α 104) (α 105) (qsh (α 87) 192)) (qcw (α 87)) (qll (α 91)) x2 x3 x4) (x1 : Int).toNat = 0) ∨ (¬ qbit (σ 86 29) x1 = 1 ∧ qhG (σ 86 29) (qhF (qsh (α 87) 192) (α 102) (α 103) (qun (α 104) (α 105) (qsh (α 87) 192)) (qcw (α 87)) (qll (α 91)) x2 x3 x4) (x1 : Int).toNat = (qhF (qsh (α 87) 192) (α 102) (α 103) (qun (α 104) (α 105) (qsh (α 87) 192)) (qcw (α 87)) (qll (α 91)) x2 x3 x4) (x1 : Int).toNat) := (by rw [hq4]; split; (next z => exact Or.inl ⟨z, rfl⟩); (next z => exact Or.inr ⟨z, rfl⟩)); have hw := qrh_12 (kd := qsh (α 87) 192 (x1 : Int).toNat) (gv := α 102 (x1 : Int).toNat) (cp := qcw (α 87) (x1 : Int).toNat x2) (cq := qcw (α 87) (x1 : Int).toNat x3) (lp := qll (α 91) x2 (α 102 (x1 : Int).toNat)) (lq := qll (α 91) x3 (α 102 (x1 : Int).toNat)) (p := x2) (q := x3) (by omega); omega)⟩
                · skip
                  refine qr_iload 132 rfl rfl rfl ?_
                  refine qr_if_eq 145 135 rfl rfl rfl (qrg hv14 (by decide) (by decide)) (fun h => False.elim (by omega)) (fun h27 => ?_)
                  as_aux_lemma =>
                    refine qr_iload_n 136 rfl rfl rfl ?_
                    refine qr_aload_n 137 rfl rfl rfl ?_
                    refine qr_get 140 rfl rfl rfl (by decide) rfl ?_
                    refine qr_iload_n 141 rfl rfl rfl ?_
                    refine qr_iaload 142 rfl rfl (qrgi r1 (by decide) (by decide)) (by decide) rfl ?_
                    refine qr_topI (fun v28 hv28 => ?_)
                    have hs29 : 0 ≤ v28 ∧ v28 ≤ 31 := by rw [hv28]; exact hI.2.1 102 _ (show _ < 60 from qrgt r1 (by decide) (by decide))
                    refine qr_icmp_eq 160 145 rfl rfl rfl (qrg r3 (by decide) (by decide)) (qrg hs29 (by decide) (by decide)) (fun h30 => ?_) (fun h30 => ?_)
                    · skip
                      refine qr_iconst 161 rfl rfl ?_
                      refine qr_goto 165 rfl rfl ?_
                      refine qr_retZ rfl rfl (Or.inr rfl) (by decide) (by decide) ?_
                      exact ⟨rfl, 1, rfl, (by decide), (by have hq0 := (show (qhF (qsh (α 87) 192) (α 102) (α 103) (qun (α 104) (α 105) (qsh (α 87) 192)) (qcw (α 87)) (qll (α 91)) x2 x3 x4) (x1 : Int).toNat = qho (qsh (α 87) 192 (x1 : Int).toNat) (α 102 (x1 : Int).toNat) (α 103 (x1 : Int).toNat) (qun (α 104) (α 105) (qsh (α 87) 192) (x1 : Int).toNat) (qcw (α 87) (x1 : Int).toNat x2) (qcw (α 87) (x1 : Int).toNat x3) (qll (α 91) x2 (α 102 (x1 : Int).toNat)) (qll (α 91) x3 (α 102 (x1 : Int).toNat)) x2 x3 x4 from rfl); have hq1 := qho_s (qsh (α 87) 192 (x1 : Int).toNat) (α 102 (x1 : Int).toNat) (α 103 (x1 : Int).toNat) (qun (α 104) (α 105) (qsh (α 87) 192) (x1 : Int).toNat) (qcw (α 87) (x1 : Int).toNat x2) (qcw (α 87) (x1 : Int).toNat x3) (qll (α 91) x2 (α 102 (x1 : Int).toNat)) (qll (α 91) x3 (α 102 (x1 : Int).toNat)) x2 x3 x4; have hq2 := qll_01 (α 91) x2 (α 102 (x1 : Int).toNat); have hq3 := qll_01 (α 91) x3 (α 102 (x1 : Int).toNat); have hq4 := (show qhG (σ 86 29) (qhF (qsh (α 87) 192) (α 102) (α 103) (qun (α 104) (α 105) (qsh (α 87) 192)) (qcw (α 87)) (qll (α 91)) x2 x3 x4) (x1 : Int).toNat = if qbit (σ 86 29) (((x1 : Int).toNat : Nat) : Int) = 1 then 0 else (qhF (qsh (α 87) 192) (α 102) (α 103) (qun (α 104) (α 105) (qsh (α 87) 192)) (qcw (α 87)) (qll (α 91)) x2 x3 x4) (x1 : Int).toNat from rfl); rw [Int.toNat_of_nonneg (show 0 ≤ x1 by omega)] at hq4; have hun : qun (α 104) (α 105) (qsh (α 87) 192) (x1 : Int).toNat = α 104 (x1 : Int).toNat + (if qsh (α 87) 192 (x1 : Int).toNat = 2 then α 105 (x1 : Int).toNat else 0) := rfl; have hu2 : (qsh (α 87) 192 (x1 : Int).toNat = 2 ∧ qun (α 104) (α 105) (qsh (α 87) 192) (x1 : Int).toNat = α 104 (x1 : Int).toNat + α 105 (x1 : Int).toNat) ∨ (¬ qsh (α 87) 192 (x1 : Int).toNat = 2 ∧ qun (α 104) (α 105) (qsh (α 87) 192) (x1 : Int).toNat = α 104 (x1 : Int).toNat) := (by rw [hun]; split; (next z => exact Or.inl ⟨z, rfl⟩); (next z => exact Or.inr ⟨z, by omega⟩)); have hb := qbit_inS (t := σ 86 29) (i := x1) (by omega) (by omega) hev4 hev5; have hb2 : (qbit (σ 86 29) x1 = 1 ∧ qhG (σ 86 29) (qhF (qsh (α 87) 192) (α 102) (α 103) (qun (α 104) (α 105) (qsh (α 87) 192)) (qcw (α 87)) (qll (α 91)) x2 x3 x4) (x1 : Int).toNat = 0) ∨ (¬ qbit (σ 86 29) x1 = 1 ∧ qhG (σ 86 29) (qhF (qsh (α 87) 192) (α 102) (α 103) (qun (α 104) (α 105) (qsh (α 87) 192)) (qcw (α 87)) (qll (α 91)) x2 x3 x4) (x1 : Int).toNat = (qhF (qsh (α 87) 192) (α 102) (α 103) (qun (α 104) (α 105) (qsh (α 87) 192)) (qcw (α 87)) (qll (α 91)) x2 x3 x4) (x1 : Int).toNat) := (by rw [hq4]; split; (next z => exact Or.inl ⟨z, rfl⟩); (next z => exact Or.inr ⟨z, rfl⟩)); have hw := qrh_12 (kd := qsh (α 87) 192 (x1 : Int).toNat) (gv := α 102 (x1 : Int).toNat) (cp := qcw (α 87) (x1 : Int).toNat x2) (cq := qcw (α 87) (x1 : Int).toNat x3) (lp := qll (α 91) x2 (α 102 (x1 : Int).toNat)) (lq := qll (α 91) x3 (α 102 (x1 : Int).toNat)) (p := x2) (q := x3) (by omega); omega)⟩
                    · skip
                      refine qr_iload 147 rfl rfl rfl ?_
                      refine qr_if_eq 164 150 rfl rfl rfl (qrg hv16 (by decide) (by decide)) (fun h31 => ?_) (fun h => False.elim (by omega))
                      refine qr_iconst 165 rfl rfl ?_
                      refine qr_retZ rfl rfl (Or.inl rfl) (by decide) (by decide) ?_
                      exact ⟨rfl, 0, rfl, (by decide), (by have hq0 := (show (qhF (qsh (α 87) 192) (α 102) (α 103) (qun (α 104) (α 105) (qsh (α 87) 192)) (qcw (α 87)) (qll (α 91)) x2 x3 x4) (x1 : Int).toNat = qho (qsh (α 87) 192 (x1 : Int).toNat) (α 102 (x1 : Int).toNat) (α 103 (x1 : Int).toNat) (qun (α 104) (α 105) (qsh (α 87) 192) (x1 : Int).toNat) (qcw (α 87) (x1 : Int).toNat x2) (qcw (α 87) (x1 : Int).toNat x3) (qll (α 91) x2 (α 102 (x1 : Int).toNat)) (qll (α 91) x3 (α 102 (x1 : Int).toNat)) x2 x3 x4 from rfl); have hq1 := qho_s (qsh (α 87) 192 (x1 : Int).toNat) (α 102 (x1 : Int).toNat) (α 103 (x1 : Int).toNat) (qun (α 104) (α 105) (qsh (α 87) 192) (x1 : Int).toNat) (qcw (α 87) (x1 : Int).toNat x2) (qcw (α 87) (x1 : Int).toNat x3) (qll (α 91) x2 (α 102 (x1 : Int).toNat)) (qll (α 91) x3 (α 102 (x1 : Int).toNat)) x2 x3 x4; have hq2 := qll_01 (α 91) x2 (α 102 (x1 : Int).toNat); have hq3 := qll_01 (α 91) x3 (α 102 (x1 : Int).toNat); have hq4 := (show qhG (σ 86 29) (qhF (qsh (α 87) 192) (α 102) (α 103) (qun (α 104) (α 105) (qsh (α 87) 192)) (qcw (α 87)) (qll (α 91)) x2 x3 x4) (x1 : Int).toNat = if qbit (σ 86 29) (((x1 : Int).toNat : Nat) : Int) = 1 then 0 else (qhF (qsh (α 87) 192) (α 102) (α 103) (qun (α 104) (α 105) (qsh (α 87) 192)) (qcw (α 87)) (qll (α 91)) x2 x3 x4) (x1 : Int).toNat from rfl); rw [Int.toNat_of_nonneg (show 0 ≤ x1 by omega)] at hq4; have hun : qun (α 104) (α 105) (qsh (α 87) 192) (x1 : Int).toNat = α 104 (x1 : Int).toNat + (if qsh (α 87) 192 (x1 : Int).toNat = 2 then α 105 (x1 : Int).toNat else 0) := rfl; have hu2 : (qsh (α 87) 192 (x1 : Int).toNat = 2 ∧ qun (α 104) (α 105) (qsh (α 87) 192) (x1 : Int).toNat = α 104 (x1 : Int).toNat + α 105 (x1 : Int).toNat) ∨ (¬ qsh (α 87) 192 (x1 : Int).toNat = 2 ∧ qun (α 104) (α 105) (qsh (α 87) 192) (x1 : Int).toNat = α 104 (x1 : Int).toNat) := (by rw [hun]; split; (next z => exact Or.inl ⟨z, rfl⟩); (next z => exact Or.inr ⟨z, by omega⟩)); have hb := qbit_inS (t := σ 86 29) (i := x1) (by omega) (by omega) hev4 hev5; have hb2 : (qbit (σ 86 29) x1 = 1 ∧ qhG (σ 86 29) (qhF (qsh (α 87) 192) (α 102) (α 103) (qun (α 104) (α 105) (qsh (α 87) 192)) (qcw (α 87)) (qll (α 91)) x2 x3 x4) (x1 : Int).toNat = 0) ∨ (¬ qbit (σ 86 29) x1 = 1 ∧ qhG (σ 86 29) (qhF (qsh (α 87) 192) (α 102) (α 103) (qun (α 104) (α 105) (qsh (α 87) 192)) (qcw (α 87)) (qll (α 91)) x2 x3 x4) (x1 : Int).toNat = (qhF (qsh (α 87) 192) (α 102) (α 103) (qun (α 104) (α 105) (qsh (α 87) 192)) (qcw (α 87)) (qll (α 91)) x2 x3 x4) (x1 : Int).toNat) := (by rw [hq4]; split; (next z => exact Or.inl ⟨z, rfl⟩); (next z => exact Or.inr ⟨z, rfl⟩)); have hw := qrh_12 (kd := qsh (α 87) 192 (x1 : Int).toNat) (gv := α 102 (x1 : Int).toNat) (cp := qcw (α 87) (x1 : Int).toNat x2) (cq := qcw (α 87) (x1 : Int).toNat x3) (lp := qll (α 91) x2 (α 102 (x1 : Int).toNat)) (lq := qll (α 91) x3 (α 102 (x1 : Int).toNat)) (p := x2) (q := x3) (by omega); omega)⟩
            · skip
              refine qr_tabIn 120 rfl hv1 (by rw [h18]; decide) (by rw [h18]; rfl) rfl ?_
              refine qr_iload 122 rfl rfl rfl ?_
              refine qr_if_eq 130 125 rfl rfl rfl (qrg hv14 (by decide) (by decide)) (fun h32 => ?_) (fun h32 => ?_)
              · skip
                refine qr_iload 132 rfl rfl rfl ?_
                refine qr_if_eq 145 135 rfl rfl rfl (qrg hv14 (by decide) (by decide)) (fun h33 => ?_) (fun h => False.elim (by omega))
                refine qr_iload 147 rfl rfl rfl ?_
                refine qr_if_eq 164 150 rfl rfl rfl (qrg hv16 (by decide) (by decide)) (fun h34 => ?_) (fun h34 => ?_)
                · skip
                  as_aux_lemma =>
                    refine qr_iconst 165 rfl rfl ?_
                    refine qr_retZ rfl rfl (Or.inl rfl) (by decide) (by decide) ?_
                    exact ⟨rfl, 0, rfl, (by decide), (by have hq0 := (show (qhF (qsh (α 87) 192) (α 102) (α 103) (qun (α 104) (α 105) (qsh (α 87) 192)) (qcw (α 87)) (qll (α 91)) x2 x3 x4) (x1 : Int).toNat = qho (qsh (α 87) 192 (x1 : Int).toNat) (α 102 (x1 : Int).toNat) (α 103 (x1 : Int).toNat) (qun (α 104) (α 105) (qsh (α 87) 192) (x1 : Int).toNat) (qcw (α 87) (x1 : Int).toNat x2) (qcw (α 87) (x1 : Int).toNat x3) (qll (α 91) x2 (α 102 (x1 : Int).toNat)) (qll (α 91) x3 (α 102 (x1 : Int).toNat)) x2 x3 x4 from rfl); have hq1 := qho_s (qsh (α 87) 192 (x1 : Int).toNat) (α 102 (x1 : Int).toNat) (α 103 (x1 : Int).toNat) (qun (α 104) (α 105) (qsh (α 87) 192) (x1 : Int).toNat) (qcw (α 87) (x1 : Int).toNat x2) (qcw (α 87) (x1 : Int).toNat x3) (qll (α 91) x2 (α 102 (x1 : Int).toNat)) (qll (α 91) x3 (α 102 (x1 : Int).toNat)) x2 x3 x4; have hq2 := qll_01 (α 91) x2 (α 102 (x1 : Int).toNat); have hq3 := qll_01 (α 91) x3 (α 102 (x1 : Int).toNat); have hq4 := (show qhG (σ 86 29) (qhF (qsh (α 87) 192) (α 102) (α 103) (qun (α 104) (α 105) (qsh (α 87) 192)) (qcw (α 87)) (qll (α 91)) x2 x3 x4) (x1 : Int).toNat = if qbit (σ 86 29) (((x1 : Int).toNat : Nat) : Int) = 1 then 0 else (qhF (qsh (α 87) 192) (α 102) (α 103) (qun (α 104) (α 105) (qsh (α 87) 192)) (qcw (α 87)) (qll (α 91)) x2 x3 x4) (x1 : Int).toNat from rfl); rw [Int.toNat_of_nonneg (show 0 ≤ x1 by omega)] at hq4; have hun : qun (α 104) (α 105) (qsh (α 87) 192) (x1 : Int).toNat = α 104 (x1 : Int).toNat + (if qsh (α 87) 192 (x1 : Int).toNat = 2 then α 105 (x1 : Int).toNat else 0) := rfl; have hu2 : (qsh (α 87) 192 (x1 : Int).toNat = 2 ∧ qun (α 104) (α 105) (qsh (α 87) 192) (x1 : Int).toNat = α 104 (x1 : Int).toNat + α 105 (x1 : Int).toNat) ∨ (¬ qsh (α 87) 192 (x1 : Int).toNat = 2 ∧ qun (α 104) (α 105) (qsh (α 87) 192) (x1 : Int).toNat = α 104 (x1 : Int).toNat) := (by rw [hun]; split; (next z => exact Or.inl ⟨z, rfl⟩); (next z => exact Or.inr ⟨z, by omega⟩)); have hb := qbit_inS (t := σ 86 29) (i := x1) (by omega) (by omega) hev4 hev5; have hb2 : (qbit (σ 86 29) x1 = 1 ∧ qhG (σ 86 29) (qhF (qsh (α 87) 192) (α 102) (α 103) (qun (α 104) (α 105) (qsh (α 87) 192)) (qcw (α 87)) (qll (α 91)) x2 x3 x4) (x1 : Int).toNat = 0) ∨ (¬ qbit (σ 86 29) x1 = 1 ∧ qhG (σ 86 29) (qhF (qsh (α 87) 192) (α 102) (α 103) (qun (α 104) (α 105) (qsh (α 87) 192)) (qcw (α 87)) (qll (α 91)) x2 x3 x4) (x1 : Int).toNat = (qhF (qsh (α 87) 192) (α 102) (α 103) (qun (α 104) (α 105) (qsh (α 87) 192)) (qcw (α 87)) (qll (α 91)) x2 x3 x4) (x1 : Int).toNat) := (by rw [hq4]; split; (next z => exact Or.inl ⟨z, rfl⟩); (next z => exact Or.inr ⟨z, rfl⟩)); have hw := qrh_12 (kd := qsh (α 87) 192 (x1 : Int).toNat) (gv := α 102 (x1 : Int).toNat) (cp := qcw (α 87) (x1 : Int).toNat x2) (cq := qcw (α 87) (x1 : Int).toNat x3) (lp := qll (α 91) x2 (α 102 (x1 : Int).toNat)) (lq := qll (α 91) x3 (α 102 (x1 : Int).toNat)) (p := x2) (q := x3) (by omega); omega)⟩
                · skip
                  as_aux_lemma =>
                    refine qr_iload_n 151 rfl rfl rfl ?_
                    refine qr_aload_n 152 rfl rfl rfl ?_
                    refine qr_get 155 rfl rfl rfl (by decide) rfl ?_
                    refine qr_iload_n 156 rfl rfl rfl ?_
                    refine qr_iaload 157 rfl rfl (qrgi r1 (by decide) (by decide)) (by decide) rfl ?_
                    refine qr_topI (fun v35 hv35 => ?_)
                    have hs36 : 0 ≤ v35 ∧ v35 ≤ 31 := by rw [hv35]; exact hI.2.1 102 _ (show _ < 60 from qrgt r1 (by decide) (by decide))
                    refine qr_icmp_ne 164 160 rfl rfl rfl (qrg r2 (by decide) (by decide)) (qrg hs36 (by decide) (by decide)) (fun h37 => ?_) (fun h37 => ?_)
                    · skip
                      refine qr_iconst 165 rfl rfl ?_
                      refine qr_retZ rfl rfl (Or.inl rfl) (by decide) (by decide) ?_
                      exact ⟨rfl, 0, rfl, (by decide), (by have hq0 := (show (qhF (qsh (α 87) 192) (α 102) (α 103) (qun (α 104) (α 105) (qsh (α 87) 192)) (qcw (α 87)) (qll (α 91)) x2 x3 x4) (x1 : Int).toNat = qho (qsh (α 87) 192 (x1 : Int).toNat) (α 102 (x1 : Int).toNat) (α 103 (x1 : Int).toNat) (qun (α 104) (α 105) (qsh (α 87) 192) (x1 : Int).toNat) (qcw (α 87) (x1 : Int).toNat x2) (qcw (α 87) (x1 : Int).toNat x3) (qll (α 91) x2 (α 102 (x1 : Int).toNat)) (qll (α 91) x3 (α 102 (x1 : Int).toNat)) x2 x3 x4 from rfl); have hq1 := qho_s (qsh (α 87) 192 (x1 : Int).toNat) (α 102 (x1 : Int).toNat) (α 103 (x1 : Int).toNat) (qun (α 104) (α 105) (qsh (α 87) 192) (x1 : Int).toNat) (qcw (α 87) (x1 : Int).toNat x2) (qcw (α 87) (x1 : Int).toNat x3) (qll (α 91) x2 (α 102 (x1 : Int).toNat)) (qll (α 91) x3 (α 102 (x1 : Int).toNat)) x2 x3 x4; have hq2 := qll_01 (α 91) x2 (α 102 (x1 : Int).toNat); have hq3 := qll_01 (α 91) x3 (α 102 (x1 : Int).toNat); have hq4 := (show qhG (σ 86 29) (qhF (qsh (α 87) 192) (α 102) (α 103) (qun (α 104) (α 105) (qsh (α 87) 192)) (qcw (α 87)) (qll (α 91)) x2 x3 x4) (x1 : Int).toNat = if qbit (σ 86 29) (((x1 : Int).toNat : Nat) : Int) = 1 then 0 else (qhF (qsh (α 87) 192) (α 102) (α 103) (qun (α 104) (α 105) (qsh (α 87) 192)) (qcw (α 87)) (qll (α 91)) x2 x3 x4) (x1 : Int).toNat from rfl); rw [Int.toNat_of_nonneg (show 0 ≤ x1 by omega)] at hq4; have hun : qun (α 104) (α 105) (qsh (α 87) 192) (x1 : Int).toNat = α 104 (x1 : Int).toNat + (if qsh (α 87) 192 (x1 : Int).toNat = 2 then α 105 (x1 : Int).toNat else 0) := rfl; have hu2 : (qsh (α 87) 192 (x1 : Int).toNat = 2 ∧ qun (α 104) (α 105) (qsh (α 87) 192) (x1 : Int).toNat = α 104 (x1 : Int).toNat + α 105 (x1 : Int).toNat) ∨ (¬ qsh (α 87) 192 (x1 : Int).toNat = 2 ∧ qun (α 104) (α 105) (qsh (α 87) 192) (x1 : Int).toNat = α 104 (x1 : Int).toNat) := (by rw [hun]; split; (next z => exact Or.inl ⟨z, rfl⟩); (next z => exact Or.inr ⟨z, by omega⟩)); have hb := qbit_inS (t := σ 86 29) (i := x1) (by omega) (by omega) hev4 hev5; have hb2 : (qbit (σ 86 29) x1 = 1 ∧ qhG (σ 86 29) (qhF (qsh (α 87) 192) (α 102) (α 103) (qun (α 104) (α 105) (qsh (α 87) 192)) (qcw (α 87)) (qll (α 91)) x2 x3 x4) (x1 : Int).toNat = 0) ∨ (¬ qbit (σ 86 29) x1 = 1 ∧ qhG (σ 86 29) (qhF (qsh (α 87) 192) (α 102) (α 103) (qun (α 104) (α 105) (qsh (α 87) 192)) (qcw (α 87)) (qll (α 91)) x2 x3 x4) (x1 : Int).toNat = (qhF (qsh (α 87) 192) (α 102) (α 103) (qun (α 104) (α 105) (qsh (α 87) 192)) (qcw (α 87)) (qll (α 91)) x2 x3 x4) (x1 : Int).toNat) := (by rw [hq4]; split; (next z => exact Or.inl ⟨z, rfl⟩); (next z => exact Or.inr ⟨z, rfl⟩)); have hw := qrh_12 (kd := qsh (α 87) 192 (x1 : Int).toNat) (gv := α 102 (x1 : Int).toNat) (cp := qcw (α 87) (x1 : Int).toNat x2) (cq := qcw (α 87) (x1 : Int).toNat x3) (lp := qll (α 91) x2 (α 102 (x1 : Int).toNat)) (lq := qll (α 91) x3 (α 102 (x1 : Int).toNat)) (p := x2) (q := x3) (by omega); omega)⟩
                    · skip
                      refine qr_iconst 161 rfl rfl ?_
                      refine qr_goto 165 rfl rfl ?_
                      refine qr_retZ rfl rfl (Or.inr rfl) (by decide) (by decide) ?_
                      exact ⟨rfl, 1, rfl, (by decide), (by have hq0 := (show (qhF (qsh (α 87) 192) (α 102) (α 103) (qun (α 104) (α 105) (qsh (α 87) 192)) (qcw (α 87)) (qll (α 91)) x2 x3 x4) (x1 : Int).toNat = qho (qsh (α 87) 192 (x1 : Int).toNat) (α 102 (x1 : Int).toNat) (α 103 (x1 : Int).toNat) (qun (α 104) (α 105) (qsh (α 87) 192) (x1 : Int).toNat) (qcw (α 87) (x1 : Int).toNat x2) (qcw (α 87) (x1 : Int).toNat x3) (qll (α 91) x2 (α 102 (x1 : Int).toNat)) (qll (α 91) x3 (α 102 (x1 : Int).toNat)) x2 x3 x4 from rfl); have hq1 := qho_s (qsh (α 87) 192 (x1 : Int).toNat) (α 102 (x1 : Int).toNat) (α 103 (x1 : Int).toNat) (qun (α 104) (α 105) (qsh (α 87) 192) (x1 : Int).toNat) (qcw (α 87) (x1 : Int).toNat x2) (qcw (α 87) (x1 : Int).toNat x3) (qll (α 91) x2 (α 102 (x1 : Int).toNat)) (qll (α 91) x3 (α 102 (x1 : Int).toNat)) x2 x3 x4; have hq2 := qll_01 (α 91) x2 (α 102 (x1 : Int).toNat); have hq3 := qll_01 (α 91) x3 (α 102 (x1 : Int).toNat); have hq4 := (show qhG (σ 86 29) (qhF (qsh (α 87) 192) (α 102) (α 103) (qun (α 104) (α 105) (qsh (α 87) 192)) (qcw (α 87)) (qll (α 91)) x2 x3 x4) (x1 : Int).toNat = if qbit (σ 86 29) (((x1 : Int).toNat : Nat) : Int) = 1 then 0 else (qhF (qsh (α 87) 192) (α 102) (α 103) (qun (α 104) (α 105) (qsh (α 87) 192)) (qcw (α 87)) (qll (α 91)) x2 x3 x4) (x1 : Int).toNat from rfl); rw [Int.toNat_of_nonneg (show 0 ≤ x1 by omega)] at hq4; have hun : qun (α 104) (α 105) (qsh (α 87) 192) (x1 : Int).toNat = α 104 (x1 : Int).toNat + (if qsh (α 87) 192 (x1 : Int).toNat = 2 then α 105 (x1 : Int).toNat else 0) := rfl; have hu2 : (qsh (α 87) 192 (x1 : Int).toNat = 2 ∧ qun (α 104) (α 105) (qsh (α 87) 192) (x1 : Int).toNat = α 104 (x1 : Int).toNat + α 105 (x1 : Int).toNat) ∨ (¬ qsh (α 87) 192 (x1 : Int).toNat = 2 ∧ qun (α 104) (α 105) (qsh (α 87) 192) (x1 : Int).toNat = α 104 (x1 : Int).toNat) := (by rw [hun]; split; (next z => exact Or.inl ⟨z, rfl⟩); (next z => exact Or.inr ⟨z, by omega⟩)); have hb := qbit_inS (t := σ 86 29) (i := x1) (by omega) (by omega) hev4 hev5; have hb2 : (qbit (σ 86 29) x1 = 1 ∧ qhG (σ 86 29) (qhF (qsh (α 87) 192) (α 102) (α 103) (qun (α 104) (α 105) (qsh (α 87) 192)) (qcw (α 87)) (qll (α 91)) x2 x3 x4) (x1 : Int).toNat = 0) ∨ (¬ qbit (σ 86 29) x1 = 1 ∧ qhG (σ 86 29) (qhF (qsh (α 87) 192) (α 102) (α 103) (qun (α 104) (α 105) (qsh (α 87) 192)) (qcw (α 87)) (qll (α 91)) x2 x3 x4) (x1 : Int).toNat = (qhF (qsh (α 87) 192) (α 102) (α 103) (qun (α 104) (α 105) (qsh (α 87) 192)) (qcw (α 87)) (qll (α 91)) x2 x3 x4) (x1 : Int).toNat) := (by rw [hq4]; split; (next z => exact Or.inl ⟨z, rfl⟩); (next z => exact Or.inr ⟨z, rfl⟩)); have hw := qrh_12 (kd := qsh (α 87) 192 (x1 : Int).toNat) (gv := α 102 (x1 : Int).toNat) (cp := qcw (α 87) (x1 : Int).toNat x2) (cq := qcw (α 87) (x1 : Int).toNat x3) (lp := qll (α 91) x2 (α 102 (x1 : Int).toNat)) (lq := qll (α 91) x3 (α 102 (x1 : Int).toNat)) (p := x2) (q := x3) (by omega); omega)⟩
              · skip
                refine qr_iload 127 rfl rfl rfl ?_
                refine qr_if_ne 160 130 rfl rfl rfl (qrg hv16 (by decide) (by decide)) (fun h38 => ?_) (fun h38 => ?_)
                · skip
                  refine qr_iconst 161 rfl rfl ?_
                  refine qr_goto 165 rfl rfl ?_
                  as_aux_lemma =>
                    refine qr_retZ rfl rfl (Or.inr rfl) (by decide) (by decide) ?_
                    exact ⟨rfl, 1, rfl, (by decide), (by have hq0 := (show (qhF (qsh (α 87) 192) (α 102) (α 103) (qun (α 104) (α 105) (qsh (α 87) 192)) (qcw (α 87)) (qll (α 91)) x2 x3 x4) (x1 : Int).toNat = qho (qsh (α 87) 192 (x1 : Int).toNat) (α 102 (x1 : Int).toNat) (α 103 (x1 : Int).toNat) (qun (α 104) (α 105) (qsh (α 87) 192) (x1 : Int).toNat) (qcw (α 87) (x1 : Int).toNat x2) (qcw (α 87) (x1 : Int).toNat x3) (qll (α 91) x2 (α 102 (x1 : Int).toNat)) (qll (α 91) x3 (α 102 (x1 : Int).toNat)) x2 x3 x4 from rfl); have hq1 := qho_s (qsh (α 87) 192 (x1 : Int).toNat) (α 102 (x1 : Int).toNat) (α 103 (x1 : Int).toNat) (qun (α 104) (α 105) (qsh (α 87) 192) (x1 : Int).toNat) (qcw (α 87) (x1 : Int).toNat x2) (qcw (α 87) (x1 : Int).toNat x3) (qll (α 91) x2 (α 102 (x1 : Int).toNat)) (qll (α 91) x3 (α 102 (x1 : Int).toNat)) x2 x3 x4; have hq2 := qll_01 (α 91) x2 (α 102 (x1 : Int).toNat); have hq3 := qll_01 (α 91) x3 (α 102 (x1 : Int).toNat); have hq4 := (show qhG (σ 86 29) (qhF (qsh (α 87) 192) (α 102) (α 103) (qun (α 104) (α 105) (qsh (α 87) 192)) (qcw (α 87)) (qll (α 91)) x2 x3 x4) (x1 : Int).toNat = if qbit (σ 86 29) (((x1 : Int).toNat : Nat) : Int) = 1 then 0 else (qhF (qsh (α 87) 192) (α 102) (α 103) (qun (α 104) (α 105) (qsh (α 87) 192)) (qcw (α 87)) (qll (α 91)) x2 x3 x4) (x1 : Int).toNat from rfl); rw [Int.toNat_of_nonneg (show 0 ≤ x1 by omega)] at hq4; have hun : qun (α 104) (α 105) (qsh (α 87) 192) (x1 : Int).toNat = α 104 (x1 : Int).toNat + (if qsh (α 87) 192 (x1 : Int).toNat = 2 then α 105 (x1 : Int).toNat else 0) := rfl; have hu2 : (qsh (α 87) 192 (x1 : Int).toNat = 2 ∧ qun (α 104) (α 105) (qsh (α 87) 192) (x1 : Int).toNat = α 104 (x1 : Int).toNat + α 105 (x1 : Int).toNat) ∨ (¬ qsh (α 87) 192 (x1 : Int).toNat = 2 ∧ qun (α 104) (α 105) (qsh (α 87) 192) (x1 : Int).toNat = α 104 (x1 : Int).toNat) := (by rw [hun]; split; (next z => exact Or.inl ⟨z, rfl⟩); (next z => exact Or.inr ⟨z, by omega⟩)); have hb := qbit_inS (t := σ 86 29) (i := x1) (by omega) (by omega) hev4 hev5; have hb2 : (qbit (σ 86 29) x1 = 1 ∧ qhG (σ 86 29) (qhF (qsh (α 87) 192) (α 102) (α 103) (qun (α 104) (α 105) (qsh (α 87) 192)) (qcw (α 87)) (qll (α 91)) x2 x3 x4) (x1 : Int).toNat = 0) ∨ (¬ qbit (σ 86 29) x1 = 1 ∧ qhG (σ 86 29) (qhF (qsh (α 87) 192) (α 102) (α 103) (qun (α 104) (α 105) (qsh (α 87) 192)) (qcw (α 87)) (qll (α 91)) x2 x3 x4) (x1 : Int).toNat = (qhF (qsh (α 87) 192) (α 102) (α 103) (qun (α 104) (α 105) (qsh (α 87) 192)) (qcw (α 87)) (qll (α 91)) x2 x3 x4) (x1 : Int).toNat) := (by rw [hq4]; split; (next z => exact Or.inl ⟨z, rfl⟩); (next z => exact Or.inr ⟨z, rfl⟩)); have hw := qrh_12 (kd := qsh (α 87) 192 (x1 : Int).toNat) (gv := α 102 (x1 : Int).toNat) (cp := qcw (α 87) (x1 : Int).toNat x2) (cq := qcw (α 87) (x1 : Int).toNat x3) (lp := qll (α 91) x2 (α 102 (x1 : Int).toNat)) (lq := qll (α 91) x3 (α 102 (x1 : Int).toNat)) (p := x2) (q := x3) (by omega); omega)⟩
                · skip
                  refine qr_iload 132 rfl rfl rfl ?_
                  refine qr_if_eq 145 135 rfl rfl rfl (qrg hv14 (by decide) (by decide)) (fun h => False.elim (by omega)) (fun h39 => ?_)
                  as_aux_lemma =>
                    refine qr_iload_n 136 rfl rfl rfl ?_
                    refine qr_aload_n 137 rfl rfl rfl ?_
                    refine qr_get 140 rfl rfl rfl (by decide) rfl ?_
                    refine qr_iload_n 141 rfl rfl rfl ?_
                    refine qr_iaload 142 rfl rfl (qrgi r1 (by decide) (by decide)) (by decide) rfl ?_
                    refine qr_topI (fun v40 hv40 => ?_)
                    have hs41 : 0 ≤ v40 ∧ v40 ≤ 31 := by rw [hv40]; exact hI.2.1 102 _ (show _ < 60 from qrgt r1 (by decide) (by decide))
                    refine qr_icmp_eq 160 145 rfl rfl rfl (qrg r3 (by decide) (by decide)) (qrg hs41 (by decide) (by decide)) (fun h42 => ?_) (fun h42 => ?_)
                    · skip
                      refine qr_iconst 161 rfl rfl ?_
                      refine qr_goto 165 rfl rfl ?_
                      refine qr_retZ rfl rfl (Or.inr rfl) (by decide) (by decide) ?_
                      exact ⟨rfl, 1, rfl, (by decide), (by have hq0 := (show (qhF (qsh (α 87) 192) (α 102) (α 103) (qun (α 104) (α 105) (qsh (α 87) 192)) (qcw (α 87)) (qll (α 91)) x2 x3 x4) (x1 : Int).toNat = qho (qsh (α 87) 192 (x1 : Int).toNat) (α 102 (x1 : Int).toNat) (α 103 (x1 : Int).toNat) (qun (α 104) (α 105) (qsh (α 87) 192) (x1 : Int).toNat) (qcw (α 87) (x1 : Int).toNat x2) (qcw (α 87) (x1 : Int).toNat x3) (qll (α 91) x2 (α 102 (x1 : Int).toNat)) (qll (α 91) x3 (α 102 (x1 : Int).toNat)) x2 x3 x4 from rfl); have hq1 := qho_s (qsh (α 87) 192 (x1 : Int).toNat) (α 102 (x1 : Int).toNat) (α 103 (x1 : Int).toNat) (qun (α 104) (α 105) (qsh (α 87) 192) (x1 : Int).toNat) (qcw (α 87) (x1 : Int).toNat x2) (qcw (α 87) (x1 : Int).toNat x3) (qll (α 91) x2 (α 102 (x1 : Int).toNat)) (qll (α 91) x3 (α 102 (x1 : Int).toNat)) x2 x3 x4; have hq2 := qll_01 (α 91) x2 (α 102 (x1 : Int).toNat); have hq3 := qll_01 (α 91) x3 (α 102 (x1 : Int).toNat); have hq4 := (show qhG (σ 86 29) (qhF (qsh (α 87) 192) (α 102) (α 103) (qun (α 104) (α 105) (qsh (α 87) 192)) (qcw (α 87)) (qll (α 91)) x2 x3 x4) (x1 : Int).toNat = if qbit (σ 86 29) (((x1 : Int).toNat : Nat) : Int) = 1 then 0 else (qhF (qsh (α 87) 192) (α 102) (α 103) (qun (α 104) (α 105) (qsh (α 87) 192)) (qcw (α 87)) (qll (α 91)) x2 x3 x4) (x1 : Int).toNat from rfl); rw [Int.toNat_of_nonneg (show 0 ≤ x1 by omega)] at hq4; have hun : qun (α 104) (α 105) (qsh (α 87) 192) (x1 : Int).toNat = α 104 (x1 : Int).toNat + (if qsh (α 87) 192 (x1 : Int).toNat = 2 then α 105 (x1 : Int).toNat else 0) := rfl; have hu2 : (qsh (α 87) 192 (x1 : Int).toNat = 2 ∧ qun (α 104) (α 105) (qsh (α 87) 192) (x1 : Int).toNat = α 104 (x1 : Int).toNat + α 105 (x1 : Int).toNat) ∨ (¬ qsh (α 87) 192 (x1 : Int).toNat = 2 ∧ qun (α 104) (α 105) (qsh (α 87) 192) (x1 : Int).toNat = α 104 (x1 : Int).toNat) := (by rw [hun]; split; (next z => exact Or.inl ⟨z, rfl⟩); (next z => exact Or.inr ⟨z, by omega⟩)); have hb := qbit_inS (t := σ 86 29) (i := x1) (by omega) (by omega) hev4 hev5; have hb2 : (qbit (σ 86 29) x1 = 1 ∧ qhG (σ 86 29) (qhF (qsh (α 87) 192) (α 102) (α 103) (qun (α 104) (α 105) (qsh (α 87) 192)) (qcw (α 87)) (qll (α 91)) x2 x3 x4) (x1 : Int).toNat = 0) ∨ (¬ qbit (σ 86 29) x1 = 1 ∧ qhG (σ 86 29) (qhF (qsh (α 87) 192) (α 102) (α 103) (qun (α 104) (α 105) (qsh (α 87) 192)) (qcw (α 87)) (qll (α 91)) x2 x3 x4) (x1 : Int).toNat = (qhF (qsh (α 87) 192) (α 102) (α 103) (qun (α 104) (α 105) (qsh (α 87) 192)) (qcw (α 87)) (qll (α 91)) x2 x3 x4) (x1 : Int).toNat) := (by rw [hq4]; split; (next z => exact Or.inl ⟨z, rfl⟩); (next z => exact Or.inr ⟨z, rfl⟩)); have hw := qrh_12 (kd := qsh (α 87) 192 (x1 : Int).toNat) (gv := α 102 (x1 : Int).toNat) (cp := qcw (α 87) (x1 : Int).toNat x2) (cq := qcw (α 87) (x1 : Int).toNat x3) (lp := qll (α 91) x2 (α 102 (x1 : Int).toNat)) (lq := qll (α 91) x3 (α 102 (x1 : Int).toNat)) (p := x2) (q := x3) (by omega); omega)⟩
                    · skip
                      refine qr_iload 147 rfl rfl rfl ?_
                      refine qr_if_eq 164 150 rfl rfl rfl (qrg hv16 (by decide) (by decide)) (fun h43 => ?_) (fun h => False.elim (by omega))
                      refine qr_iconst 165 rfl rfl ?_
                      refine qr_retZ rfl rfl (Or.inl rfl) (by decide) (by decide) ?_
                      exact ⟨rfl, 0, rfl, (by decide), (by have hq0 := (show (qhF (qsh (α 87) 192) (α 102) (α 103) (qun (α 104) (α 105) (qsh (α 87) 192)) (qcw (α 87)) (qll (α 91)) x2 x3 x4) (x1 : Int).toNat = qho (qsh (α 87) 192 (x1 : Int).toNat) (α 102 (x1 : Int).toNat) (α 103 (x1 : Int).toNat) (qun (α 104) (α 105) (qsh (α 87) 192) (x1 : Int).toNat) (qcw (α 87) (x1 : Int).toNat x2) (qcw (α 87) (x1 : Int).toNat x3) (qll (α 91) x2 (α 102 (x1 : Int).toNat)) (qll (α 91) x3 (α 102 (x1 : Int).toNat)) x2 x3 x4 from rfl); have hq1 := qho_s (qsh (α 87) 192 (x1 : Int).toNat) (α 102 (x1 : Int).toNat) (α 103 (x1 : Int).toNat) (qun (α 104) (α 105) (qsh (α 87) 192) (x1 : Int).toNat) (qcw (α 87) (x1 : Int).toNat x2) (qcw (α 87) (x1 : Int).toNat x3) (qll (α 91) x2 (α 102 (x1 : Int).toNat)) (qll (α 91) x3 (α 102 (x1 : Int).toNat)) x2 x3 x4; have hq2 := qll_01 (α 91) x2 (α 102 (x1 : Int).toNat); have hq3 := qll_01 (α 91) x3 (α 102 (x1 : Int).toNat); have hq4 := (show qhG (σ 86 29) (qhF (qsh (α 87) 192) (α 102) (α 103) (qun (α 104) (α 105) (qsh (α 87) 192)) (qcw (α 87)) (qll (α 91)) x2 x3 x4) (x1 : Int).toNat = if qbit (σ 86 29) (((x1 : Int).toNat : Nat) : Int) = 1 then 0 else (qhF (qsh (α 87) 192) (α 102) (α 103) (qun (α 104) (α 105) (qsh (α 87) 192)) (qcw (α 87)) (qll (α 91)) x2 x3 x4) (x1 : Int).toNat from rfl); rw [Int.toNat_of_nonneg (show 0 ≤ x1 by omega)] at hq4; have hun : qun (α 104) (α 105) (qsh (α 87) 192) (x1 : Int).toNat = α 104 (x1 : Int).toNat + (if qsh (α 87) 192 (x1 : Int).toNat = 2 then α 105 (x1 : Int).toNat else 0) := rfl; have hu2 : (qsh (α 87) 192 (x1 : Int).toNat = 2 ∧ qun (α 104) (α 105) (qsh (α 87) 192) (x1 : Int).toNat = α 104 (x1 : Int).toNat + α 105 (x1 : Int).toNat) ∨ (¬ qsh (α 87) 192 (x1 : Int).toNat = 2 ∧ qun (α 104) (α 105) (qsh (α 87) 192) (x1 : Int).toNat = α 104 (x1 : Int).toNat) := (by rw [hun]; split; (next z => exact Or.inl ⟨z, rfl⟩); (next z => exact Or.inr ⟨z, by omega⟩)); have hb := qbit_inS (t := σ 86 29) (i := x1) (by omega) (by omega) hev4 hev5; have hb2 : (qbit (σ 86 29) x1 = 1 ∧ qhG (σ 86 29) (qhF (qsh (α 87) 192) (α 102) (α 103) (qun (α 104) (α 105) (qsh (α 87) 192)) (qcw (α 87)) (qll (α 91)) x2 x3 x4) (x1 : Int).toNat = 0) ∨ (¬ qbit (σ 86 29) x1 = 1 ∧ qhG (σ 86 29) (qhF (qsh (α 87) 192) (α 102) (α 103) (qun (α 104) (α 105) (qsh (α 87) 192)) (qcw (α 87)) (qll (α 91)) x2 x3 x4) (x1 : Int).toNat = (qhF (qsh (α 87) 192) (α 102) (α 103) (qun (α 104) (α 105) (qsh (α 87) 192)) (qcw (α 87)) (qll (α 91)) x2 x3 x4) (x1 : Int).toNat) := (by rw [hq4]; split; (next z => exact Or.inl ⟨z, rfl⟩); (next z => exact Or.inr ⟨z, rfl⟩)); have hw := qrh_12 (kd := qsh (α 87) 192 (x1 : Int).toNat) (gv := α 102 (x1 : Int).toNat) (cp := qcw (α 87) (x1 : Int).toNat x2) (cq := qcw (α 87) (x1 : Int).toNat x3) (lp := qll (α 91) x2 (α 102 (x1 : Int).toNat)) (lq := qll (α 91) x3 (α 102 (x1 : Int).toNat)) (p := x2) (q := x3) (by omega); omega)⟩
            · skip
              refine qr_tabIn 166 rfl hv1 (by rw [h18]; decide) (by rw [h18]; rfl) rfl ?_
              refine qr_iload 168 rfl rfl rfl ?_
              refine qr_if_ne 176 171 rfl rfl rfl (qrg hv14 (by decide) (by decide)) (fun h44 => ?_) (fun h44 => ?_)
              · skip
                refine qr_iconst 177 rfl rfl ?_
                refine qr_goto 181 rfl rfl ?_
                refine qr_retZ rfl rfl (Or.inr rfl) (by decide) (by decide) ?_
                exact ⟨rfl, 1, rfl, (by decide), (by have hq0 := (show (qhF (qsh (α 87) 192) (α 102) (α 103) (qun (α 104) (α 105) (qsh (α 87) 192)) (qcw (α 87)) (qll (α 91)) x2 x3 x4) (x1 : Int).toNat = qho (qsh (α 87) 192 (x1 : Int).toNat) (α 102 (x1 : Int).toNat) (α 103 (x1 : Int).toNat) (qun (α 104) (α 105) (qsh (α 87) 192) (x1 : Int).toNat) (qcw (α 87) (x1 : Int).toNat x2) (qcw (α 87) (x1 : Int).toNat x3) (qll (α 91) x2 (α 102 (x1 : Int).toNat)) (qll (α 91) x3 (α 102 (x1 : Int).toNat)) x2 x3 x4 from rfl); have hq1 := qho_s (qsh (α 87) 192 (x1 : Int).toNat) (α 102 (x1 : Int).toNat) (α 103 (x1 : Int).toNat) (qun (α 104) (α 105) (qsh (α 87) 192) (x1 : Int).toNat) (qcw (α 87) (x1 : Int).toNat x2) (qcw (α 87) (x1 : Int).toNat x3) (qll (α 91) x2 (α 102 (x1 : Int).toNat)) (qll (α 91) x3 (α 102 (x1 : Int).toNat)) x2 x3 x4; have hq2 := qll_01 (α 91) x2 (α 102 (x1 : Int).toNat); have hq3 := qll_01 (α 91) x3 (α 102 (x1 : Int).toNat); have hq4 := (show qhG (σ 86 29) (qhF (qsh (α 87) 192) (α 102) (α 103) (qun (α 104) (α 105) (qsh (α 87) 192)) (qcw (α 87)) (qll (α 91)) x2 x3 x4) (x1 : Int).toNat = if qbit (σ 86 29) (((x1 : Int).toNat : Nat) : Int) = 1 then 0 else (qhF (qsh (α 87) 192) (α 102) (α 103) (qun (α 104) (α 105) (qsh (α 87) 192)) (qcw (α 87)) (qll (α 91)) x2 x3 x4) (x1 : Int).toNat from rfl); rw [Int.toNat_of_nonneg (show 0 ≤ x1 by omega)] at hq4; have hun : qun (α 104) (α 105) (qsh (α 87) 192) (x1 : Int).toNat = α 104 (x1 : Int).toNat + (if qsh (α 87) 192 (x1 : Int).toNat = 2 then α 105 (x1 : Int).toNat else 0) := rfl; have hu2 : (qsh (α 87) 192 (x1 : Int).toNat = 2 ∧ qun (α 104) (α 105) (qsh (α 87) 192) (x1 : Int).toNat = α 104 (x1 : Int).toNat + α 105 (x1 : Int).toNat) ∨ (¬ qsh (α 87) 192 (x1 : Int).toNat = 2 ∧ qun (α 104) (α 105) (qsh (α 87) 192) (x1 : Int).toNat = α 104 (x1 : Int).toNat) := (by rw [hun]; split; (next z => exact Or.inl ⟨z, rfl⟩); (next z => exact Or.inr ⟨z, by omega⟩)); have hb := qbit_inS (t := σ 86 29) (i := x1) (by omega) (by omega) hev4 hev5; have hb2 : (qbit (σ 86 29) x1 = 1 ∧ qhG (σ 86 29) (qhF (qsh (α 87) 192) (α 102) (α 103) (qun (α 104) (α 105) (qsh (α 87) 192)) (qcw (α 87)) (qll (α 91)) x2 x3 x4) (x1 : Int).toNat = 0) ∨ (¬ qbit (σ 86 29) x1 = 1 ∧ qhG (σ 86 29) (qhF (qsh (α 87) 192) (α 102) (α 103) (qun (α 104) (α 105) (qsh (α 87) 192)) (qcw (α 87)) (qll (α 91)) x2 x3 x4) (x1 : Int).toNat = (qhF (qsh (α 87) 192) (α 102) (α 103) (qun (α 104) (α 105) (qsh (α 87) 192)) (qcw (α 87)) (qll (α 91)) x2 x3 x4) (x1 : Int).toNat) := (by rw [hq4]; split; (next z => exact Or.inl ⟨z, rfl⟩); (next z => exact Or.inr ⟨z, rfl⟩)); have hw := qrh_3 (kd := qsh (α 87) 192 (x1 : Int).toNat) (gv := α 102 (x1 : Int).toNat) (cp := qcw (α 87) (x1 : Int).toNat x2) (cq := qcw (α 87) (x1 : Int).toNat x3) (lp := qll (α 91) x2 (α 102 (x1 : Int).toNat)) (lq := qll (α 91) x3 (α 102 (x1 : Int).toNat)) (p := x2) (q := x3) (by omega); omega)⟩
              · skip
                refine qr_iload 173 rfl rfl rfl ?_
                refine qr_if_eq 180 176 rfl rfl rfl (qrg hv16 (by decide) (by decide)) (fun h45 => ?_) (fun h45 => ?_)
                · skip
                  refine qr_iconst 181 rfl rfl ?_
                  refine qr_retZ rfl rfl (Or.inl rfl) (by decide) (by decide) ?_
                  exact ⟨rfl, 0, rfl, (by decide), (by have hq0 := (show (qhF (qsh (α 87) 192) (α 102) (α 103) (qun (α 104) (α 105) (qsh (α 87) 192)) (qcw (α 87)) (qll (α 91)) x2 x3 x4) (x1 : Int).toNat = qho (qsh (α 87) 192 (x1 : Int).toNat) (α 102 (x1 : Int).toNat) (α 103 (x1 : Int).toNat) (qun (α 104) (α 105) (qsh (α 87) 192) (x1 : Int).toNat) (qcw (α 87) (x1 : Int).toNat x2) (qcw (α 87) (x1 : Int).toNat x3) (qll (α 91) x2 (α 102 (x1 : Int).toNat)) (qll (α 91) x3 (α 102 (x1 : Int).toNat)) x2 x3 x4 from rfl); have hq1 := qho_s (qsh (α 87) 192 (x1 : Int).toNat) (α 102 (x1 : Int).toNat) (α 103 (x1 : Int).toNat) (qun (α 104) (α 105) (qsh (α 87) 192) (x1 : Int).toNat) (qcw (α 87) (x1 : Int).toNat x2) (qcw (α 87) (x1 : Int).toNat x3) (qll (α 91) x2 (α 102 (x1 : Int).toNat)) (qll (α 91) x3 (α 102 (x1 : Int).toNat)) x2 x3 x4; have hq2 := qll_01 (α 91) x2 (α 102 (x1 : Int).toNat); have hq3 := qll_01 (α 91) x3 (α 102 (x1 : Int).toNat); have hq4 := (show qhG (σ 86 29) (qhF (qsh (α 87) 192) (α 102) (α 103) (qun (α 104) (α 105) (qsh (α 87) 192)) (qcw (α 87)) (qll (α 91)) x2 x3 x4) (x1 : Int).toNat = if qbit (σ 86 29) (((x1 : Int).toNat : Nat) : Int) = 1 then 0 else (qhF (qsh (α 87) 192) (α 102) (α 103) (qun (α 104) (α 105) (qsh (α 87) 192)) (qcw (α 87)) (qll (α 91)) x2 x3 x4) (x1 : Int).toNat from rfl); rw [Int.toNat_of_nonneg (show 0 ≤ x1 by omega)] at hq4; have hun : qun (α 104) (α 105) (qsh (α 87) 192) (x1 : Int).toNat = α 104 (x1 : Int).toNat + (if qsh (α 87) 192 (x1 : Int).toNat = 2 then α 105 (x1 : Int).toNat else 0) := rfl; have hu2 : (qsh (α 87) 192 (x1 : Int).toNat = 2 ∧ qun (α 104) (α 105) (qsh (α 87) 192) (x1 : Int).toNat = α 104 (x1 : Int).toNat + α 105 (x1 : Int).toNat) ∨ (¬ qsh (α 87) 192 (x1 : Int).toNat = 2 ∧ qun (α 104) (α 105) (qsh (α 87) 192) (x1 : Int).toNat = α 104 (x1 : Int).toNat) := (by rw [hun]; split; (next z => exact Or.inl ⟨z, rfl⟩); (next z => exact Or.inr ⟨z, by omega⟩)); have hb := qbit_inS (t := σ 86 29) (i := x1) (by omega) (by omega) hev4 hev5; have hb2 : (qbit (σ 86 29) x1 = 1 ∧ qhG (σ 86 29) (qhF (qsh (α 87) 192) (α 102) (α 103) (qun (α 104) (α 105) (qsh (α 87) 192)) (qcw (α 87)) (qll (α 91)) x2 x3 x4) (x1 : Int).toNat = 0) ∨ (¬ qbit (σ 86 29) x1 = 1 ∧ qhG (σ 86 29) (qhF (qsh (α 87) 192) (α 102) (α 103) (qun (α 104) (α 105) (qsh (α 87) 192)) (qcw (α 87)) (qll (α 91)) x2 x3 x4) (x1 : Int).toNat = (qhF (qsh (α 87) 192) (α 102) (α 103) (qun (α 104) (α 105) (qsh (α 87) 192)) (qcw (α 87)) (qll (α 91)) x2 x3 x4) (x1 : Int).toNat) := (by rw [hq4]; split; (next z => exact Or.inl ⟨z, rfl⟩); (next z => exact Or.inr ⟨z, rfl⟩)); have hw := qrh_3 (kd := qsh (α 87) 192 (x1 : Int).toNat) (gv := α 102 (x1 : Int).toNat) (cp := qcw (α 87) (x1 : Int).toNat x2) (cq := qcw (α 87) (x1 : Int).toNat x3) (lp := qll (α 91) x2 (α 102 (x1 : Int).toNat)) (lq := qll (α 91) x3 (α 102 (x1 : Int).toNat)) (p := x2) (q := x3) (by omega); omega)⟩
                · skip
                  refine qr_iconst 177 rfl rfl ?_
                  refine qr_goto 181 rfl rfl ?_
                  as_aux_lemma =>
                    refine qr_retZ rfl rfl (Or.inr rfl) (by decide) (by decide) ?_
                    exact ⟨rfl, 1, rfl, (by decide), (by have hq0 := (show (qhF (qsh (α 87) 192) (α 102) (α 103) (qun (α 104) (α 105) (qsh (α 87) 192)) (qcw (α 87)) (qll (α 91)) x2 x3 x4) (x1 : Int).toNat = qho (qsh (α 87) 192 (x1 : Int).toNat) (α 102 (x1 : Int).toNat) (α 103 (x1 : Int).toNat) (qun (α 104) (α 105) (qsh (α 87) 192) (x1 : Int).toNat) (qcw (α 87) (x1 : Int).toNat x2) (qcw (α 87) (x1 : Int).toNat x3) (qll (α 91) x2 (α 102 (x1 : Int).toNat)) (qll (α 91) x3 (α 102 (x1 : Int).toNat)) x2 x3 x4 from rfl); have hq1 := qho_s (qsh (α 87) 192 (x1 : Int).toNat) (α 102 (x1 : Int).toNat) (α 103 (x1 : Int).toNat) (qun (α 104) (α 105) (qsh (α 87) 192) (x1 : Int).toNat) (qcw (α 87) (x1 : Int).toNat x2) (qcw (α 87) (x1 : Int).toNat x3) (qll (α 91) x2 (α 102 (x1 : Int).toNat)) (qll (α 91) x3 (α 102 (x1 : Int).toNat)) x2 x3 x4; have hq2 := qll_01 (α 91) x2 (α 102 (x1 : Int).toNat); have hq3 := qll_01 (α 91) x3 (α 102 (x1 : Int).toNat); have hq4 := (show qhG (σ 86 29) (qhF (qsh (α 87) 192) (α 102) (α 103) (qun (α 104) (α 105) (qsh (α 87) 192)) (qcw (α 87)) (qll (α 91)) x2 x3 x4) (x1 : Int).toNat = if qbit (σ 86 29) (((x1 : Int).toNat : Nat) : Int) = 1 then 0 else (qhF (qsh (α 87) 192) (α 102) (α 103) (qun (α 104) (α 105) (qsh (α 87) 192)) (qcw (α 87)) (qll (α 91)) x2 x3 x4) (x1 : Int).toNat from rfl); rw [Int.toNat_of_nonneg (show 0 ≤ x1 by omega)] at hq4; have hun : qun (α 104) (α 105) (qsh (α 87) 192) (x1 : Int).toNat = α 104 (x1 : Int).toNat + (if qsh (α 87) 192 (x1 : Int).toNat = 2 then α 105 (x1 : Int).toNat else 0) := rfl; have hu2 : (qsh (α 87) 192 (x1 : Int).toNat = 2 ∧ qun (α 104) (α 105) (qsh (α 87) 192) (x1 : Int).toNat = α 104 (x1 : Int).toNat + α 105 (x1 : Int).toNat) ∨ (¬ qsh (α 87) 192 (x1 : Int).toNat = 2 ∧ qun (α 104) (α 105) (qsh (α 87) 192) (x1 : Int).toNat = α 104 (x1 : Int).toNat) := (by rw [hun]; split; (next z => exact Or.inl ⟨z, rfl⟩); (next z => exact Or.inr ⟨z, by omega⟩)); have hb := qbit_inS (t := σ 86 29) (i := x1) (by omega) (by omega) hev4 hev5; have hb2 : (qbit (σ 86 29) x1 = 1 ∧ qhG (σ 86 29) (qhF (qsh (α 87) 192) (α 102) (α 103) (qun (α 104) (α 105) (qsh (α 87) 192)) (qcw (α 87)) (qll (α 91)) x2 x3 x4) (x1 : Int).toNat = 0) ∨ (¬ qbit (σ 86 29) x1 = 1 ∧ qhG (σ 86 29) (qhF (qsh (α 87) 192) (α 102) (α 103) (qun (α 104) (α 105) (qsh (α 87) 192)) (qcw (α 87)) (qll (α 91)) x2 x3 x4) (x1 : Int).toNat = (qhF (qsh (α 87) 192) (α 102) (α 103) (qun (α 104) (α 105) (qsh (α 87) 192)) (qcw (α 87)) (qll (α 91)) x2 x3 x4) (x1 : Int).toNat) := (by rw [hq4]; split; (next z => exact Or.inl ⟨z, rfl⟩); (next z => exact Or.inr ⟨z, rfl⟩)); have hw := qrh_3 (kd := qsh (α 87) 192 (x1 : Int).toNat) (gv := α 102 (x1 : Int).toNat) (cp := qcw (α 87) (x1 : Int).toNat x2) (cq := qcw (α 87) (x1 : Int).toNat x3) (lp := qll (α 91) x2 (α 102 (x1 : Int).toNat)) (lq := qll (α 91) x3 (α 102 (x1 : Int).toNat)) (p := x2) (q := x3) (by omega); omega)⟩
            · skip
              refine qr_tabIn 182 rfl hv1 (by rw [h18]; decide) (by rw [h18]; rfl) rfl ?_
              refine qr_iload 184 rfl rfl rfl ?_
              refine qr_if_eq 196 187 rfl rfl rfl (qrg hv14 (by decide) (by decide)) (fun h46 => ?_) (fun h46 => ?_)
              · skip
                refine qr_iconst 197 rfl rfl ?_
                refine qr_retZ rfl rfl (Or.inl rfl) (by decide) (by decide) ?_
                exact ⟨rfl, 0, rfl, (by decide), (by have hq0 := (show (qhF (qsh (α 87) 192) (α 102) (α 103) (qun (α 104) (α 105) (qsh (α 87) 192)) (qcw (α 87)) (qll (α 91)) x2 x3 x4) (x1 : Int).toNat = qho (qsh (α 87) 192 (x1 : Int).toNat) (α 102 (x1 : Int).toNat) (α 103 (x1 : Int).toNat) (qun (α 104) (α 105) (qsh (α 87) 192) (x1 : Int).toNat) (qcw (α 87) (x1 : Int).toNat x2) (qcw (α 87) (x1 : Int).toNat x3) (qll (α 91) x2 (α 102 (x1 : Int).toNat)) (qll (α 91) x3 (α 102 (x1 : Int).toNat)) x2 x3 x4 from rfl); have hq1 := qho_s (qsh (α 87) 192 (x1 : Int).toNat) (α 102 (x1 : Int).toNat) (α 103 (x1 : Int).toNat) (qun (α 104) (α 105) (qsh (α 87) 192) (x1 : Int).toNat) (qcw (α 87) (x1 : Int).toNat x2) (qcw (α 87) (x1 : Int).toNat x3) (qll (α 91) x2 (α 102 (x1 : Int).toNat)) (qll (α 91) x3 (α 102 (x1 : Int).toNat)) x2 x3 x4; have hq2 := qll_01 (α 91) x2 (α 102 (x1 : Int).toNat); have hq3 := qll_01 (α 91) x3 (α 102 (x1 : Int).toNat); have hq4 := (show qhG (σ 86 29) (qhF (qsh (α 87) 192) (α 102) (α 103) (qun (α 104) (α 105) (qsh (α 87) 192)) (qcw (α 87)) (qll (α 91)) x2 x3 x4) (x1 : Int).toNat = if qbit (σ 86 29) (((x1 : Int).toNat : Nat) : Int) = 1 then 0 else (qhF (qsh (α 87) 192) (α 102) (α 103) (qun (α 104) (α 105) (qsh (α 87) 192)) (qcw (α 87)) (qll (α 91)) x2 x3 x4) (x1 : Int).toNat from rfl); rw [Int.toNat_of_nonneg (show 0 ≤ x1 by omega)] at hq4; have hun : qun (α 104) (α 105) (qsh (α 87) 192) (x1 : Int).toNat = α 104 (x1 : Int).toNat + (if qsh (α 87) 192 (x1 : Int).toNat = 2 then α 105 (x1 : Int).toNat else 0) := rfl; have hu2 : (qsh (α 87) 192 (x1 : Int).toNat = 2 ∧ qun (α 104) (α 105) (qsh (α 87) 192) (x1 : Int).toNat = α 104 (x1 : Int).toNat + α 105 (x1 : Int).toNat) ∨ (¬ qsh (α 87) 192 (x1 : Int).toNat = 2 ∧ qun (α 104) (α 105) (qsh (α 87) 192) (x1 : Int).toNat = α 104 (x1 : Int).toNat) := (by rw [hun]; split; (next z => exact Or.inl ⟨z, rfl⟩); (next z => exact Or.inr ⟨z, by omega⟩)); have hb := qbit_inS (t := σ 86 29) (i := x1) (by omega) (by omega) hev4 hev5; have hb2 : (qbit (σ 86 29) x1 = 1 ∧ qhG (σ 86 29) (qhF (qsh (α 87) 192) (α 102) (α 103) (qun (α 104) (α 105) (qsh (α 87) 192)) (qcw (α 87)) (qll (α 91)) x2 x3 x4) (x1 : Int).toNat = 0) ∨ (¬ qbit (σ 86 29) x1 = 1 ∧ qhG (σ 86 29) (qhF (qsh (α 87) 192) (α 102) (α 103) (qun (α 104) (α 105) (qsh (α 87) 192)) (qcw (α 87)) (qll (α 91)) x2 x3 x4) (x1 : Int).toNat = (qhF (qsh (α 87) 192) (α 102) (α 103) (qun (α 104) (α 105) (qsh (α 87) 192)) (qcw (α 87)) (qll (α 91)) x2 x3 x4) (x1 : Int).toNat) := (by rw [hq4]; split; (next z => exact Or.inl ⟨z, rfl⟩); (next z => exact Or.inr ⟨z, rfl⟩)); have hw := qrh_4 (kd := qsh (α 87) 192 (x1 : Int).toNat) (gv := α 102 (x1 : Int).toNat) (cp := qcw (α 87) (x1 : Int).toNat x2) (cq := qcw (α 87) (x1 : Int).toNat x3) (lp := qll (α 91) x2 (α 102 (x1 : Int).toNat)) (lq := qll (α 91) x3 (α 102 (x1 : Int).toNat)) (p := x2) (q := x3) (by omega); omega)⟩
              · skip
                refine qr_iload 189 rfl rfl rfl ?_
                refine qr_if_eq 196 192 rfl rfl rfl (qrg hv16 (by decide) (by decide)) (fun h47 => ?_) (fun h47 => ?_)
                · skip
                  refine qr_iconst 197 rfl rfl ?_
                  refine qr_retZ rfl rfl (Or.inl rfl) (by decide) (by decide) ?_
                  exact ⟨rfl, 0, rfl, (by decide), (by have hq0 := (show (qhF (qsh (α 87) 192) (α 102) (α 103) (qun (α 104) (α 105) (qsh (α 87) 192)) (qcw (α 87)) (qll (α 91)) x2 x3 x4) (x1 : Int).toNat = qho (qsh (α 87) 192 (x1 : Int).toNat) (α 102 (x1 : Int).toNat) (α 103 (x1 : Int).toNat) (qun (α 104) (α 105) (qsh (α 87) 192) (x1 : Int).toNat) (qcw (α 87) (x1 : Int).toNat x2) (qcw (α 87) (x1 : Int).toNat x3) (qll (α 91) x2 (α 102 (x1 : Int).toNat)) (qll (α 91) x3 (α 102 (x1 : Int).toNat)) x2 x3 x4 from rfl); have hq1 := qho_s (qsh (α 87) 192 (x1 : Int).toNat) (α 102 (x1 : Int).toNat) (α 103 (x1 : Int).toNat) (qun (α 104) (α 105) (qsh (α 87) 192) (x1 : Int).toNat) (qcw (α 87) (x1 : Int).toNat x2) (qcw (α 87) (x1 : Int).toNat x3) (qll (α 91) x2 (α 102 (x1 : Int).toNat)) (qll (α 91) x3 (α 102 (x1 : Int).toNat)) x2 x3 x4; have hq2 := qll_01 (α 91) x2 (α 102 (x1 : Int).toNat); have hq3 := qll_01 (α 91) x3 (α 102 (x1 : Int).toNat); have hq4 := (show qhG (σ 86 29) (qhF (qsh (α 87) 192) (α 102) (α 103) (qun (α 104) (α 105) (qsh (α 87) 192)) (qcw (α 87)) (qll (α 91)) x2 x3 x4) (x1 : Int).toNat = if qbit (σ 86 29) (((x1 : Int).toNat : Nat) : Int) = 1 then 0 else (qhF (qsh (α 87) 192) (α 102) (α 103) (qun (α 104) (α 105) (qsh (α 87) 192)) (qcw (α 87)) (qll (α 91)) x2 x3 x4) (x1 : Int).toNat from rfl); rw [Int.toNat_of_nonneg (show 0 ≤ x1 by omega)] at hq4; have hun : qun (α 104) (α 105) (qsh (α 87) 192) (x1 : Int).toNat = α 104 (x1 : Int).toNat + (if qsh (α 87) 192 (x1 : Int).toNat = 2 then α 105 (x1 : Int).toNat else 0) := rfl; have hu2 : (qsh (α 87) 192 (x1 : Int).toNat = 2 ∧ qun (α 104) (α 105) (qsh (α 87) 192) (x1 : Int).toNat = α 104 (x1 : Int).toNat + α 105 (x1 : Int).toNat) ∨ (¬ qsh (α 87) 192 (x1 : Int).toNat = 2 ∧ qun (α 104) (α 105) (qsh (α 87) 192) (x1 : Int).toNat = α 104 (x1 : Int).toNat) := (by rw [hun]; split; (next z => exact Or.inl ⟨z, rfl⟩); (next z => exact Or.inr ⟨z, by omega⟩)); have hb := qbit_inS (t := σ 86 29) (i := x1) (by omega) (by omega) hev4 hev5; have hb2 : (qbit (σ 86 29) x1 = 1 ∧ qhG (σ 86 29) (qhF (qsh (α 87) 192) (α 102) (α 103) (qun (α 104) (α 105) (qsh (α 87) 192)) (qcw (α 87)) (qll (α 91)) x2 x3 x4) (x1 : Int).toNat = 0) ∨ (¬ qbit (σ 86 29) x1 = 1 ∧ qhG (σ 86 29) (qhF (qsh (α 87) 192) (α 102) (α 103) (qun (α 104) (α 105) (qsh (α 87) 192)) (qcw (α 87)) (qll (α 91)) x2 x3 x4) (x1 : Int).toNat = (qhF (qsh (α 87) 192) (α 102) (α 103) (qun (α 104) (α 105) (qsh (α 87) 192)) (qcw (α 87)) (qll (α 91)) x2 x3 x4) (x1 : Int).toNat) := (by rw [hq4]; split; (next z => exact Or.inl ⟨z, rfl⟩); (next z => exact Or.inr ⟨z, rfl⟩)); have hw := qrh_4 (kd := qsh (α 87) 192 (x1 : Int).toNat) (gv := α 102 (x1 : Int).toNat) (cp := qcw (α 87) (x1 : Int).toNat x2) (cq := qcw (α 87) (x1 : Int).toNat x3) (lp := qll (α 91) x2 (α 102 (x1 : Int).toNat)) (lq := qll (α 91) x3 (α 102 (x1 : Int).toNat)) (p := x2) (q := x3) (by omega); omega)⟩
                · skip
                  refine qr_iconst 193 rfl rfl ?_
                  refine qr_goto 197 rfl rfl ?_
                  as_aux_lemma =>
                    refine qr_retZ rfl rfl (Or.inr rfl) (by decide) (by decide) ?_
                    exact ⟨rfl, 1, rfl, (by decide), (by have hq0 := (show (qhF (qsh (α 87) 192) (α 102) (α 103) (qun (α 104) (α 105) (qsh (α 87) 192)) (qcw (α 87)) (qll (α 91)) x2 x3 x4) (x1 : Int).toNat = qho (qsh (α 87) 192 (x1 : Int).toNat) (α 102 (x1 : Int).toNat) (α 103 (x1 : Int).toNat) (qun (α 104) (α 105) (qsh (α 87) 192) (x1 : Int).toNat) (qcw (α 87) (x1 : Int).toNat x2) (qcw (α 87) (x1 : Int).toNat x3) (qll (α 91) x2 (α 102 (x1 : Int).toNat)) (qll (α 91) x3 (α 102 (x1 : Int).toNat)) x2 x3 x4 from rfl); have hq1 := qho_s (qsh (α 87) 192 (x1 : Int).toNat) (α 102 (x1 : Int).toNat) (α 103 (x1 : Int).toNat) (qun (α 104) (α 105) (qsh (α 87) 192) (x1 : Int).toNat) (qcw (α 87) (x1 : Int).toNat x2) (qcw (α 87) (x1 : Int).toNat x3) (qll (α 91) x2 (α 102 (x1 : Int).toNat)) (qll (α 91) x3 (α 102 (x1 : Int).toNat)) x2 x3 x4; have hq2 := qll_01 (α 91) x2 (α 102 (x1 : Int).toNat); have hq3 := qll_01 (α 91) x3 (α 102 (x1 : Int).toNat); have hq4 := (show qhG (σ 86 29) (qhF (qsh (α 87) 192) (α 102) (α 103) (qun (α 104) (α 105) (qsh (α 87) 192)) (qcw (α 87)) (qll (α 91)) x2 x3 x4) (x1 : Int).toNat = if qbit (σ 86 29) (((x1 : Int).toNat : Nat) : Int) = 1 then 0 else (qhF (qsh (α 87) 192) (α 102) (α 103) (qun (α 104) (α 105) (qsh (α 87) 192)) (qcw (α 87)) (qll (α 91)) x2 x3 x4) (x1 : Int).toNat from rfl); rw [Int.toNat_of_nonneg (show 0 ≤ x1 by omega)] at hq4; have hun : qun (α 104) (α 105) (qsh (α 87) 192) (x1 : Int).toNat = α 104 (x1 : Int).toNat + (if qsh (α 87) 192 (x1 : Int).toNat = 2 then α 105 (x1 : Int).toNat else 0) := rfl; have hu2 : (qsh (α 87) 192 (x1 : Int).toNat = 2 ∧ qun (α 104) (α 105) (qsh (α 87) 192) (x1 : Int).toNat = α 104 (x1 : Int).toNat + α 105 (x1 : Int).toNat) ∨ (¬ qsh (α 87) 192 (x1 : Int).toNat = 2 ∧ qun (α 104) (α 105) (qsh (α 87) 192) (x1 : Int).toNat = α 104 (x1 : Int).toNat) := (by rw [hun]; split; (next z => exact Or.inl ⟨z, rfl⟩); (next z => exact Or.inr ⟨z, by omega⟩)); have hb := qbit_inS (t := σ 86 29) (i := x1) (by omega) (by omega) hev4 hev5; have hb2 : (qbit (σ 86 29) x1 = 1 ∧ qhG (σ 86 29) (qhF (qsh (α 87) 192) (α 102) (α 103) (qun (α 104) (α 105) (qsh (α 87) 192)) (qcw (α 87)) (qll (α 91)) x2 x3 x4) (x1 : Int).toNat = 0) ∨ (¬ qbit (σ 86 29) x1 = 1 ∧ qhG (σ 86 29) (qhF (qsh (α 87) 192) (α 102) (α 103) (qun (α 104) (α 105) (qsh (α 87) 192)) (qcw (α 87)) (qll (α 91)) x2 x3 x4) (x1 : Int).toNat = (qhF (qsh (α 87) 192) (α 102) (α 103) (qun (α 104) (α 105) (qsh (α 87) 192)) (qcw (α 87)) (qll (α 91)) x2 x3 x4) (x1 : Int).toNat) := (by rw [hq4]; split; (next z => exact Or.inl ⟨z, rfl⟩); (next z => exact Or.inr ⟨z, rfl⟩)); have hw := qrh_4 (kd := qsh (α 87) 192 (x1 : Int).toNat) (gv := α 102 (x1 : Int).toNat) (cp := qcw (α 87) (x1 : Int).toNat x2) (cq := qcw (α 87) (x1 : Int).toNat x3) (lp := qll (α 91) x2 (α 102 (x1 : Int).toNat)) (lq := qll (α 91) x3 (α 102 (x1 : Int).toNat)) (p := x2) (q := x3) (by omega); omega)⟩
            · skip
              refine qr_tabIn 198 rfl hv1 (by rw [h18]; decide) (by rw [h18]; rfl) rfl ?_
              refine qr_iconst 199 rfl rfl ?_
              refine qr_retZ rfl rfl (Or.inr rfl) (by decide) (by decide) ?_
              exact ⟨rfl, 1, rfl, (by decide), (by have hq0 := (show (qhF (qsh (α 87) 192) (α 102) (α 103) (qun (α 104) (α 105) (qsh (α 87) 192)) (qcw (α 87)) (qll (α 91)) x2 x3 x4) (x1 : Int).toNat = qho (qsh (α 87) 192 (x1 : Int).toNat) (α 102 (x1 : Int).toNat) (α 103 (x1 : Int).toNat) (qun (α 104) (α 105) (qsh (α 87) 192) (x1 : Int).toNat) (qcw (α 87) (x1 : Int).toNat x2) (qcw (α 87) (x1 : Int).toNat x3) (qll (α 91) x2 (α 102 (x1 : Int).toNat)) (qll (α 91) x3 (α 102 (x1 : Int).toNat)) x2 x3 x4 from rfl); have hq1 := qho_s (qsh (α 87) 192 (x1 : Int).toNat) (α 102 (x1 : Int).toNat) (α 103 (x1 : Int).toNat) (qun (α 104) (α 105) (qsh (α 87) 192) (x1 : Int).toNat) (qcw (α 87) (x1 : Int).toNat x2) (qcw (α 87) (x1 : Int).toNat x3) (qll (α 91) x2 (α 102 (x1 : Int).toNat)) (qll (α 91) x3 (α 102 (x1 : Int).toNat)) x2 x3 x4; have hq2 := qll_01 (α 91) x2 (α 102 (x1 : Int).toNat); have hq3 := qll_01 (α 91) x3 (α 102 (x1 : Int).toNat); have hq4 := (show qhG (σ 86 29) (qhF (qsh (α 87) 192) (α 102) (α 103) (qun (α 104) (α 105) (qsh (α 87) 192)) (qcw (α 87)) (qll (α 91)) x2 x3 x4) (x1 : Int).toNat = if qbit (σ 86 29) (((x1 : Int).toNat : Nat) : Int) = 1 then 0 else (qhF (qsh (α 87) 192) (α 102) (α 103) (qun (α 104) (α 105) (qsh (α 87) 192)) (qcw (α 87)) (qll (α 91)) x2 x3 x4) (x1 : Int).toNat from rfl); rw [Int.toNat_of_nonneg (show 0 ≤ x1 by omega)] at hq4; have hun : qun (α 104) (α 105) (qsh (α 87) 192) (x1 : Int).toNat = α 104 (x1 : Int).toNat + (if qsh (α 87) 192 (x1 : Int).toNat = 2 then α 105 (x1 : Int).toNat else 0) := rfl; have hu2 : (qsh (α 87) 192 (x1 : Int).toNat = 2 ∧ qun (α 104) (α 105) (qsh (α 87) 192) (x1 : Int).toNat = α 104 (x1 : Int).toNat + α 105 (x1 : Int).toNat) ∨ (¬ qsh (α 87) 192 (x1 : Int).toNat = 2 ∧ qun (α 104) (α 105) (qsh (α 87) 192) (x1 : Int).toNat = α 104 (x1 : Int).toNat) := (by rw [hun]; split; (next z => exact Or.inl ⟨z, rfl⟩); (next z => exact Or.inr ⟨z, by omega⟩)); have hb := qbit_inS (t := σ 86 29) (i := x1) (by omega) (by omega) hev4 hev5; have hb2 : (qbit (σ 86 29) x1 = 1 ∧ qhG (σ 86 29) (qhF (qsh (α 87) 192) (α 102) (α 103) (qun (α 104) (α 105) (qsh (α 87) 192)) (qcw (α 87)) (qll (α 91)) x2 x3 x4) (x1 : Int).toNat = 0) ∨ (¬ qbit (σ 86 29) x1 = 1 ∧ qhG (σ 86 29) (qhF (qsh (α 87) 192) (α 102) (α 103) (qun (α 104) (α 105) (qsh (α 87) 192)) (qcw (α 87)) (qll (α 91)) x2 x3 x4) (x1 : Int).toNat = (qhF (qsh (α 87) 192) (α 102) (α 103) (qun (α 104) (α 105) (qsh (α 87) 192)) (qcw (α 87)) (qll (α 91)) x2 x3 x4) (x1 : Int).toNat) := (by rw [hq4]; split; (next z => exact Or.inl ⟨z, rfl⟩); (next z => exact Or.inr ⟨z, rfl⟩)); have hw := qrh_5 (kd := qsh (α 87) 192 (x1 : Int).toNat) (gv := α 102 (x1 : Int).toNat) (cp := qcw (α 87) (x1 : Int).toNat x2) (cq := qcw (α 87) (x1 : Int).toNat x3) (lp := qll (α 91) x2 (α 102 (x1 : Int).toNat)) (lq := qll (α 91) x3 (α 102 (x1 : Int).toNat)) (p := x2) (q := x3) (by omega); omega)⟩
            · skip
              refine qr_tabOut 200 rfl hv1 (by omega) rfl ?_
              refine qr_aload_n 201 rfl rfl rfl ?_
              refine qr_iload_n 202 rfl rfl rfl ?_
              refine qr_iload_n 203 rfl rfl rfl ?_
              have hs48 : 0 ≤ σ 86 6 ∧ σ 86 6 ≤ 32 := hI.1 86 6
              refine qr_callN 206 rfl rfl rfl (sf_206_86x (d := d + 0) hI r1 r2 (by omega)) ?_
              rintro _ _ ⟨rfl, v49, rfl, hv49, hp50⟩
              show qr_W (qe L xs vb) (d + 2) qx_e205 _ (206, _, [.int (qz v49)], qw σ α κ ρ, 0, 0)
              refine qr_if_eq 222 209 rfl rfl rfl (qrg hv49 (by decide) (by decide)) (fun h51 => ?_) (fun h51 => ?_)
              · skip
                refine qr_iconst 223 rfl rfl ?_
                as_aux_lemma =>
                  refine qr_retZ rfl rfl (Or.inl rfl) (by decide) (by decide) ?_
                  exact ⟨rfl, 0, rfl, (by decide), (by have hq0 := (show (qhF (qsh (α 87) 192) (α 102) (α 103) (qun (α 104) (α 105) (qsh (α 87) 192)) (qcw (α 87)) (qll (α 91)) x2 x3 x4) (x1 : Int).toNat = qho (qsh (α 87) 192 (x1 : Int).toNat) (α 102 (x1 : Int).toNat) (α 103 (x1 : Int).toNat) (qun (α 104) (α 105) (qsh (α 87) 192) (x1 : Int).toNat) (qcw (α 87) (x1 : Int).toNat x2) (qcw (α 87) (x1 : Int).toNat x3) (qll (α 91) x2 (α 102 (x1 : Int).toNat)) (qll (α 91) x3 (α 102 (x1 : Int).toNat)) x2 x3 x4 from rfl); have hq1 := qho_s (qsh (α 87) 192 (x1 : Int).toNat) (α 102 (x1 : Int).toNat) (α 103 (x1 : Int).toNat) (qun (α 104) (α 105) (qsh (α 87) 192) (x1 : Int).toNat) (qcw (α 87) (x1 : Int).toNat x2) (qcw (α 87) (x1 : Int).toNat x3) (qll (α 91) x2 (α 102 (x1 : Int).toNat)) (qll (α 91) x3 (α 102 (x1 : Int).toNat)) x2 x3 x4; have hq2 := qll_01 (α 91) x2 (α 102 (x1 : Int).toNat); have hq3 := qll_01 (α 91) x3 (α 102 (x1 : Int).toNat); have hq4 := (show qhG (σ 86 29) (qhF (qsh (α 87) 192) (α 102) (α 103) (qun (α 104) (α 105) (qsh (α 87) 192)) (qcw (α 87)) (qll (α 91)) x2 x3 x4) (x1 : Int).toNat = if qbit (σ 86 29) (((x1 : Int).toNat : Nat) : Int) = 1 then 0 else (qhF (qsh (α 87) 192) (α 102) (α 103) (qun (α 104) (α 105) (qsh (α 87) 192)) (qcw (α 87)) (qll (α 91)) x2 x3 x4) (x1 : Int).toNat from rfl); rw [Int.toNat_of_nonneg (show 0 ≤ x1 by omega)] at hq4; have hun : qun (α 104) (α 105) (qsh (α 87) 192) (x1 : Int).toNat = α 104 (x1 : Int).toNat + (if qsh (α 87) 192 (x1 : Int).toNat = 2 then α 105 (x1 : Int).toNat else 0) := rfl; have hu2 : (qsh (α 87) 192 (x1 : Int).toNat = 2 ∧ qun (α 104) (α 105) (qsh (α 87) 192) (x1 : Int).toNat = α 104 (x1 : Int).toNat + α 105 (x1 : Int).toNat) ∨ (¬ qsh (α 87) 192 (x1 : Int).toNat = 2 ∧ qun (α 104) (α 105) (qsh (α 87) 192) (x1 : Int).toNat = α 104 (x1 : Int).toNat) := (by rw [hun]; split; (next z => exact Or.inl ⟨z, rfl⟩); (next z => exact Or.inr ⟨z, by omega⟩)); have hb := qbit_inS (t := σ 86 29) (i := x1) (by omega) (by omega) hev4 hev5; have hb2 : (qbit (σ 86 29) x1 = 1 ∧ qhG (σ 86 29) (qhF (qsh (α 87) 192) (α 102) (α 103) (qun (α 104) (α 105) (qsh (α 87) 192)) (qcw (α 87)) (qll (α 91)) x2 x3 x4) (x1 : Int).toNat = 0) ∨ (¬ qbit (σ 86 29) x1 = 1 ∧ qhG (σ 86 29) (qhF (qsh (α 87) 192) (α 102) (α 103) (qun (α 104) (α 105) (qsh (α 87) 192)) (qcw (α 87)) (qll (α 91)) x2 x3 x4) (x1 : Int).toNat = (qhF (qsh (α 87) 192) (α 102) (α 103) (qun (α 104) (α 105) (qsh (α 87) 192)) (qcw (α 87)) (qll (α 91)) x2 x3 x4) (x1 : Int).toNat) := (by rw [hq4]; split; (next z => exact Or.inl ⟨z, rfl⟩); (next z => exact Or.inr ⟨z, rfl⟩)); have hw := qrh_0 (kd := qsh (α 87) 192 (x1 : Int).toNat) (gv := α 102 (x1 : Int).toNat) (cp := qcw (α 87) (x1 : Int).toNat x2) (cq := qcw (α 87) (x1 : Int).toNat x3) (lp := qll (α 91) x2 (α 102 (x1 : Int).toNat)) (lq := qll (α 91) x3 (α 102 (x1 : Int).toNat)) (p := x2) (q := x3) (by omega); omega)⟩
              · skip
                refine qr_aload_n 210 rfl rfl rfl ?_
                as_aux_lemma =>
                  refine qr_iload_n 211 rfl rfl rfl ?_
                  refine qr_iload_n 212 rfl rfl rfl ?_
                  have hs52 : 0 ≤ σ 86 6 ∧ σ 86 6 ≤ 32 := hI.1 86 6
                  refine qr_callN 215 rfl rfl rfl (sf_206_86x (d := d + 0) hI r1 r3 (by omega)) ?_
                  rintro _ _ ⟨rfl, v53, rfl, hv53, hp54⟩
                  show qr_W (qe L xs vb) (d + 2) qx_e205 _ (215, _, [.int (qz v53)], qw σ α κ ρ, 0, 0)
                  refine qr_if_eq 222 218 rfl rfl rfl (qrg hv53 (by decide) (by decide)) (fun h55 => ?_) (fun h55 => ?_)
                  · skip
                    refine qr_iconst 223 rfl rfl ?_
                    refine qr_retZ rfl rfl (Or.inl rfl) (by decide) (by decide) ?_
                    exact ⟨rfl, 0, rfl, (by decide), (by have hq0 := (show (qhF (qsh (α 87) 192) (α 102) (α 103) (qun (α 104) (α 105) (qsh (α 87) 192)) (qcw (α 87)) (qll (α 91)) x2 x3 x4) (x1 : Int).toNat = qho (qsh (α 87) 192 (x1 : Int).toNat) (α 102 (x1 : Int).toNat) (α 103 (x1 : Int).toNat) (qun (α 104) (α 105) (qsh (α 87) 192) (x1 : Int).toNat) (qcw (α 87) (x1 : Int).toNat x2) (qcw (α 87) (x1 : Int).toNat x3) (qll (α 91) x2 (α 102 (x1 : Int).toNat)) (qll (α 91) x3 (α 102 (x1 : Int).toNat)) x2 x3 x4 from rfl); have hq1 := qho_s (qsh (α 87) 192 (x1 : Int).toNat) (α 102 (x1 : Int).toNat) (α 103 (x1 : Int).toNat) (qun (α 104) (α 105) (qsh (α 87) 192) (x1 : Int).toNat) (qcw (α 87) (x1 : Int).toNat x2) (qcw (α 87) (x1 : Int).toNat x3) (qll (α 91) x2 (α 102 (x1 : Int).toNat)) (qll (α 91) x3 (α 102 (x1 : Int).toNat)) x2 x3 x4; have hq2 := qll_01 (α 91) x2 (α 102 (x1 : Int).toNat); have hq3 := qll_01 (α 91) x3 (α 102 (x1 : Int).toNat); have hq4 := (show qhG (σ 86 29) (qhF (qsh (α 87) 192) (α 102) (α 103) (qun (α 104) (α 105) (qsh (α 87) 192)) (qcw (α 87)) (qll (α 91)) x2 x3 x4) (x1 : Int).toNat = if qbit (σ 86 29) (((x1 : Int).toNat : Nat) : Int) = 1 then 0 else (qhF (qsh (α 87) 192) (α 102) (α 103) (qun (α 104) (α 105) (qsh (α 87) 192)) (qcw (α 87)) (qll (α 91)) x2 x3 x4) (x1 : Int).toNat from rfl); rw [Int.toNat_of_nonneg (show 0 ≤ x1 by omega)] at hq4; have hun : qun (α 104) (α 105) (qsh (α 87) 192) (x1 : Int).toNat = α 104 (x1 : Int).toNat + (if qsh (α 87) 192 (x1 : Int).toNat = 2 then α 105 (x1 : Int).toNat else 0) := rfl; have hu2 : (qsh (α 87) 192 (x1 : Int).toNat = 2 ∧ qun (α 104) (α 105) (qsh (α 87) 192) (x1 : Int).toNat = α 104 (x1 : Int).toNat + α 105 (x1 : Int).toNat) ∨ (¬ qsh (α 87) 192 (x1 : Int).toNat = 2 ∧ qun (α 104) (α 105) (qsh (α 87) 192) (x1 : Int).toNat = α 104 (x1 : Int).toNat) := (by rw [hun]; split; (next z => exact Or.inl ⟨z, rfl⟩); (next z => exact Or.inr ⟨z, by omega⟩)); have hb := qbit_inS (t := σ 86 29) (i := x1) (by omega) (by omega) hev4 hev5; have hb2 : (qbit (σ 86 29) x1 = 1 ∧ qhG (σ 86 29) (qhF (qsh (α 87) 192) (α 102) (α 103) (qun (α 104) (α 105) (qsh (α 87) 192)) (qcw (α 87)) (qll (α 91)) x2 x3 x4) (x1 : Int).toNat = 0) ∨ (¬ qbit (σ 86 29) x1 = 1 ∧ qhG (σ 86 29) (qhF (qsh (α 87) 192) (α 102) (α 103) (qun (α 104) (α 105) (qsh (α 87) 192)) (qcw (α 87)) (qll (α 91)) x2 x3 x4) (x1 : Int).toNat = (qhF (qsh (α 87) 192) (α 102) (α 103) (qun (α 104) (α 105) (qsh (α 87) 192)) (qcw (α 87)) (qll (α 91)) x2 x3 x4) (x1 : Int).toNat) := (by rw [hq4]; split; (next z => exact Or.inl ⟨z, rfl⟩); (next z => exact Or.inr ⟨z, rfl⟩)); have hw := qrh_0 (kd := qsh (α 87) 192 (x1 : Int).toNat) (gv := α 102 (x1 : Int).toNat) (cp := qcw (α 87) (x1 : Int).toNat x2) (cq := qcw (α 87) (x1 : Int).toNat x3) (lp := qll (α 91) x2 (α 102 (x1 : Int).toNat)) (lq := qll (α 91) x3 (α 102 (x1 : Int).toNat)) (p := x2) (q := x3) (by omega); omega)⟩
                  · skip
                    refine qr_iconst 219 rfl rfl ?_
                    refine qr_goto 223 rfl rfl ?_
                    refine qr_retZ rfl rfl (Or.inr rfl) (by decide) (by decide) ?_
                    exact ⟨rfl, 1, rfl, (by decide), (by have hq0 := (show (qhF (qsh (α 87) 192) (α 102) (α 103) (qun (α 104) (α 105) (qsh (α 87) 192)) (qcw (α 87)) (qll (α 91)) x2 x3 x4) (x1 : Int).toNat = qho (qsh (α 87) 192 (x1 : Int).toNat) (α 102 (x1 : Int).toNat) (α 103 (x1 : Int).toNat) (qun (α 104) (α 105) (qsh (α 87) 192) (x1 : Int).toNat) (qcw (α 87) (x1 : Int).toNat x2) (qcw (α 87) (x1 : Int).toNat x3) (qll (α 91) x2 (α 102 (x1 : Int).toNat)) (qll (α 91) x3 (α 102 (x1 : Int).toNat)) x2 x3 x4 from rfl); have hq1 := qho_s (qsh (α 87) 192 (x1 : Int).toNat) (α 102 (x1 : Int).toNat) (α 103 (x1 : Int).toNat) (qun (α 104) (α 105) (qsh (α 87) 192) (x1 : Int).toNat) (qcw (α 87) (x1 : Int).toNat x2) (qcw (α 87) (x1 : Int).toNat x3) (qll (α 91) x2 (α 102 (x1 : Int).toNat)) (qll (α 91) x3 (α 102 (x1 : Int).toNat)) x2 x3 x4; have hq2 := qll_01 (α 91) x2 (α 102 (x1 : Int).toNat); have hq3 := qll_01 (α 91) x3 (α 102 (x1 : Int).toNat); have hq4 := (show qhG (σ 86 29) (qhF (qsh (α 87) 192) (α 102) (α 103) (qun (α 104) (α 105) (qsh (α 87) 192)) (qcw (α 87)) (qll (α 91)) x2 x3 x4) (x1 : Int).toNat = if qbit (σ 86 29) (((x1 : Int).toNat : Nat) : Int) = 1 then 0 else (qhF (qsh (α 87) 192) (α 102) (α 103) (qun (α 104) (α 105) (qsh (α 87) 192)) (qcw (α 87)) (qll (α 91)) x2 x3 x4) (x1 : Int).toNat from rfl); rw [Int.toNat_of_nonneg (show 0 ≤ x1 by omega)] at hq4; have hun : qun (α 104) (α 105) (qsh (α 87) 192) (x1 : Int).toNat = α 104 (x1 : Int).toNat + (if qsh (α 87) 192 (x1 : Int).toNat = 2 then α 105 (x1 : Int).toNat else 0) := rfl; have hu2 : (qsh (α 87) 192 (x1 : Int).toNat = 2 ∧ qun (α 104) (α 105) (qsh (α 87) 192) (x1 : Int).toNat = α 104 (x1 : Int).toNat + α 105 (x1 : Int).toNat) ∨ (¬ qsh (α 87) 192 (x1 : Int).toNat = 2 ∧ qun (α 104) (α 105) (qsh (α 87) 192) (x1 : Int).toNat = α 104 (x1 : Int).toNat) := (by rw [hun]; split; (next z => exact Or.inl ⟨z, rfl⟩); (next z => exact Or.inr ⟨z, by omega⟩)); have hb := qbit_inS (t := σ 86 29) (i := x1) (by omega) (by omega) hev4 hev5; have hb2 : (qbit (σ 86 29) x1 = 1 ∧ qhG (σ 86 29) (qhF (qsh (α 87) 192) (α 102) (α 103) (qun (α 104) (α 105) (qsh (α 87) 192)) (qcw (α 87)) (qll (α 91)) x2 x3 x4) (x1 : Int).toNat = 0) ∨ (¬ qbit (σ 86 29) x1 = 1 ∧ qhG (σ 86 29) (qhF (qsh (α 87) 192) (α 102) (α 103) (qun (α 104) (α 105) (qsh (α 87) 192)) (qcw (α 87)) (qll (α 91)) x2 x3 x4) (x1 : Int).toNat = (qhF (qsh (α 87) 192) (α 102) (α 103) (qun (α 104) (α 105) (qsh (α 87) 192)) (qcw (α 87)) (qll (α 91)) x2 x3 x4) (x1 : Int).toNat) := (by rw [hq4]; split; (next z => exact Or.inl ⟨z, rfl⟩); (next z => exact Or.inr ⟨z, rfl⟩)); have hw := qrh_0 (kd := qsh (α 87) 192 (x1 : Int).toNat) (gv := α 102 (x1 : Int).toNat) (cp := qcw (α 87) (x1 : Int).toNat x2) (cq := qcw (α 87) (x1 : Int).toNat x3) (lp := qll (α 91) x2 (α 102 (x1 : Int).toNat)) (lq := qll (α 91) x3 (α 102 (x1 : Int).toNat)) (p := x2) (q := x3) (by omega); omega)⟩
          · skip
            refine qr_iconst 67 rfl rfl ?_
            refine qr_retZ rfl rfl (Or.inl rfl) (by decide) (by decide) ?_
            exact ⟨rfl, 0, rfl, (by decide), (by have hq0 := (show (qhF (qsh (α 87) 192) (α 102) (α 103) (qun (α 104) (α 105) (qsh (α 87) 192)) (qcw (α 87)) (qll (α 91)) x2 x3 x4) (x1 : Int).toNat = qho (qsh (α 87) 192 (x1 : Int).toNat) (α 102 (x1 : Int).toNat) (α 103 (x1 : Int).toNat) (qun (α 104) (α 105) (qsh (α 87) 192) (x1 : Int).toNat) (qcw (α 87) (x1 : Int).toNat x2) (qcw (α 87) (x1 : Int).toNat x3) (qll (α 91) x2 (α 102 (x1 : Int).toNat)) (qll (α 91) x3 (α 102 (x1 : Int).toNat)) x2 x3 x4 from rfl); have hq1 := qho_s (qsh (α 87) 192 (x1 : Int).toNat) (α 102 (x1 : Int).toNat) (α 103 (x1 : Int).toNat) (qun (α 104) (α 105) (qsh (α 87) 192) (x1 : Int).toNat) (qcw (α 87) (x1 : Int).toNat x2) (qcw (α 87) (x1 : Int).toNat x3) (qll (α 91) x2 (α 102 (x1 : Int).toNat)) (qll (α 91) x3 (α 102 (x1 : Int).toNat)) x2 x3 x4; have hq2 := qll_01 (α 91) x2 (α 102 (x1 : Int).toNat); have hq3 := qll_01 (α 91) x3 (α 102 (x1 : Int).toNat); have hq4 := (show qhG (σ 86 29) (qhF (qsh (α 87) 192) (α 102) (α 103) (qun (α 104) (α 105) (qsh (α 87) 192)) (qcw (α 87)) (qll (α 91)) x2 x3 x4) (x1 : Int).toNat = if qbit (σ 86 29) (((x1 : Int).toNat : Nat) : Int) = 1 then 0 else (qhF (qsh (α 87) 192) (α 102) (α 103) (qun (α 104) (α 105) (qsh (α 87) 192)) (qcw (α 87)) (qll (α 91)) x2 x3 x4) (x1 : Int).toNat from rfl); rw [Int.toNat_of_nonneg (show 0 ≤ x1 by omega)] at hq4; have hun : qun (α 104) (α 105) (qsh (α 87) 192) (x1 : Int).toNat = α 104 (x1 : Int).toNat + (if qsh (α 87) 192 (x1 : Int).toNat = 2 then α 105 (x1 : Int).toNat else 0) := rfl; have hu2 : (qsh (α 87) 192 (x1 : Int).toNat = 2 ∧ qun (α 104) (α 105) (qsh (α 87) 192) (x1 : Int).toNat = α 104 (x1 : Int).toNat + α 105 (x1 : Int).toNat) ∨ (¬ qsh (α 87) 192 (x1 : Int).toNat = 2 ∧ qun (α 104) (α 105) (qsh (α 87) 192) (x1 : Int).toNat = α 104 (x1 : Int).toNat) := (by rw [hun]; split; (next z => exact Or.inl ⟨z, rfl⟩); (next z => exact Or.inr ⟨z, by omega⟩)); have hb := qbit_inS (t := σ 86 29) (i := x1) (by omega) (by omega) hev4 hev5; have hb2 : (qbit (σ 86 29) x1 = 1 ∧ qhG (σ 86 29) (qhF (qsh (α 87) 192) (α 102) (α 103) (qun (α 104) (α 105) (qsh (α 87) 192)) (qcw (α 87)) (qll (α 91)) x2 x3 x4) (x1 : Int).toNat = 0) ∨ (¬ qbit (σ 86 29) x1 = 1 ∧ qhG (σ 86 29) (qhF (qsh (α 87) 192) (α 102) (α 103) (qun (α 104) (α 105) (qsh (α 87) 192)) (qcw (α 87)) (qll (α 91)) x2 x3 x4) (x1 : Int).toNat = (qhF (qsh (α 87) 192) (α 102) (α 103) (qun (α 104) (α 105) (qsh (α 87) 192)) (qcw (α 87)) (qll (α 91)) x2 x3 x4) (x1 : Int).toNat) := (by rw [hq4]; split; (next z => exact Or.inl ⟨z, rfl⟩); (next z => exact Or.inr ⟨z, rfl⟩)); have hw := qrh_o (kd := qsh (α 87) 192 (x1 : Int).toNat) (gv := α 102 (x1 : Int).toNat) (cp := qcw (α 87) (x1 : Int).toNat x2) (cq := qcw (α 87) (x1 : Int).toNat x3) (lp := qll (α 91) x2 (α 102 (x1 : Int).toNat)) (lq := qll (α 91) x3 (α 102 (x1 : Int).toNat)) (p := x2) (q := x3); omega)⟩
        · skip
          refine qr_aload_n 53 rfl rfl rfl ?_
          refine qr_get 56 rfl rfl rfl (by decide) rfl ?_
          refine qr_iload_n 57 rfl rfl rfl ?_
          refine qr_iaload 58 rfl rfl (qrgi r1 (by decide) (by decide)) (by decide) rfl ?_
          refine qr_topI (fun v56 hv56 => ?_)
          have hs57 : (-2147483648) ≤ v56 ∧ v56 ≤ 2147483647 := by rw [hv56]; exact hI.2.1 105 _ (show _ < 60 from qrgt r1 (by decide) (by decide))
          refine qr_goto 62 rfl rfl ?_
          refine qr_iadd 63 rfl rfl ?_
          refine qy_canE (fun v58 hv58 hev58 => ?_)
          refine qr_icmp_le 68 66 rfl rfl rfl r4 hv58 (fun h59 => ?_) (fun h59 => ?_)
          · skip
            refine qr_aload_n 69 rfl rfl rfl ?_
            refine qr_iload_n 70 rfl rfl rfl ?_
            refine qr_iload_n 71 rfl rfl rfl ?_
            refine qr_callN 74 rfl rfl rfl (sf_202_86x (d := d + 1) hI r1 r2) ?_
            rintro _ _ ⟨rfl, v60, rfl, hv60, hp61⟩
            show qr_W (qe L xs vb) (d + 2) qx_e205 _ (74, _, [.int (qz v60)], qw σ α κ ρ, 0, 0)
            refine qr_istore _ 76 rfl (by decide) rfl rfl ?_
            refine qr_aload_n 77 rfl rfl rfl ?_
            refine qr_iload_n 78 rfl rfl rfl ?_
            refine qr_iload_n 79 rfl rfl rfl ?_
            refine qr_callN 82 rfl rfl rfl (sf_202_86x (d := d + 1) hI r1 r3) ?_
            rintro _ _ ⟨rfl, v62, rfl, hv62, hp63⟩
            show qr_W (qe L xs vb) (d + 2) qx_e205 _ (82, _, [.int (qz v62)], qw σ α κ ρ, 0, 0)
            refine qr_istore _ 84 rfl (by decide) rfl rfl ?_
            refine qr_iload 86 rfl rfl rfl ?_
            have h64 : v1 = 2 := by omega
            refine qr_tabIn 120 rfl hv1 (by rw [h64]; decide) (by rw [h64]; rfl) rfl ?_
            refine qr_iload 122 rfl rfl rfl ?_
            refine qr_if_eq 130 125 rfl rfl rfl (qrg hv60 (by decide) (by decide)) (fun h65 => ?_) (fun h65 => ?_)
            · skip
              as_aux_lemma =>
                refine qr_iload 132 rfl rfl rfl ?_
                refine qr_if_eq 145 135 rfl rfl rfl (qrg hv60 (by decide) (by decide)) (fun h66 => ?_) (fun h => False.elim (by omega))
                refine qr_iload 147 rfl rfl rfl ?_
                refine qr_if_eq 164 150 rfl rfl rfl (qrg hv62 (by decide) (by decide)) (fun h67 => ?_) (fun h67 => ?_)
                · skip
                  refine qr_iconst 165 rfl rfl ?_
                  refine qr_retZ rfl rfl (Or.inl rfl) (by decide) (by decide) ?_
                  exact ⟨rfl, 0, rfl, (by decide), (by have hq0 := (show (qhF (qsh (α 87) 192) (α 102) (α 103) (qun (α 104) (α 105) (qsh (α 87) 192)) (qcw (α 87)) (qll (α 91)) x2 x3 x4) (x1 : Int).toNat = qho (qsh (α 87) 192 (x1 : Int).toNat) (α 102 (x1 : Int).toNat) (α 103 (x1 : Int).toNat) (qun (α 104) (α 105) (qsh (α 87) 192) (x1 : Int).toNat) (qcw (α 87) (x1 : Int).toNat x2) (qcw (α 87) (x1 : Int).toNat x3) (qll (α 91) x2 (α 102 (x1 : Int).toNat)) (qll (α 91) x3 (α 102 (x1 : Int).toNat)) x2 x3 x4 from rfl); have hq1 := qho_s (qsh (α 87) 192 (x1 : Int).toNat) (α 102 (x1 : Int).toNat) (α 103 (x1 : Int).toNat) (qun (α 104) (α 105) (qsh (α 87) 192) (x1 : Int).toNat) (qcw (α 87) (x1 : Int).toNat x2) (qcw (α 87) (x1 : Int).toNat x3) (qll (α 91) x2 (α 102 (x1 : Int).toNat)) (qll (α 91) x3 (α 102 (x1 : Int).toNat)) x2 x3 x4; have hq2 := qll_01 (α 91) x2 (α 102 (x1 : Int).toNat); have hq3 := qll_01 (α 91) x3 (α 102 (x1 : Int).toNat); have hq4 := (show qhG (σ 86 29) (qhF (qsh (α 87) 192) (α 102) (α 103) (qun (α 104) (α 105) (qsh (α 87) 192)) (qcw (α 87)) (qll (α 91)) x2 x3 x4) (x1 : Int).toNat = if qbit (σ 86 29) (((x1 : Int).toNat : Nat) : Int) = 1 then 0 else (qhF (qsh (α 87) 192) (α 102) (α 103) (qun (α 104) (α 105) (qsh (α 87) 192)) (qcw (α 87)) (qll (α 91)) x2 x3 x4) (x1 : Int).toNat from rfl); rw [Int.toNat_of_nonneg (show 0 ≤ x1 by omega)] at hq4; have hun : qun (α 104) (α 105) (qsh (α 87) 192) (x1 : Int).toNat = α 104 (x1 : Int).toNat + (if qsh (α 87) 192 (x1 : Int).toNat = 2 then α 105 (x1 : Int).toNat else 0) := rfl; have hu2 : (qsh (α 87) 192 (x1 : Int).toNat = 2 ∧ qun (α 104) (α 105) (qsh (α 87) 192) (x1 : Int).toNat = α 104 (x1 : Int).toNat + α 105 (x1 : Int).toNat) ∨ (¬ qsh (α 87) 192 (x1 : Int).toNat = 2 ∧ qun (α 104) (α 105) (qsh (α 87) 192) (x1 : Int).toNat = α 104 (x1 : Int).toNat) := (by rw [hun]; split; (next z => exact Or.inl ⟨z, rfl⟩); (next z => exact Or.inr ⟨z, by omega⟩)); have hb := qbit_inS (t := σ 86 29) (i := x1) (by omega) (by omega) hev4 hev5; have hb2 : (qbit (σ 86 29) x1 = 1 ∧ qhG (σ 86 29) (qhF (qsh (α 87) 192) (α 102) (α 103) (qun (α 104) (α 105) (qsh (α 87) 192)) (qcw (α 87)) (qll (α 91)) x2 x3 x4) (x1 : Int).toNat = 0) ∨ (¬ qbit (σ 86 29) x1 = 1 ∧ qhG (σ 86 29) (qhF (qsh (α 87) 192) (α 102) (α 103) (qun (α 104) (α 105) (qsh (α 87) 192)) (qcw (α 87)) (qll (α 91)) x2 x3 x4) (x1 : Int).toNat = (qhF (qsh (α 87) 192) (α 102) (α 103) (qun (α 104) (α 105) (qsh (α 87) 192)) (qcw (α 87)) (qll (α 91)) x2 x3 x4) (x1 : Int).toNat) := (by rw [hq4]; split; (next z => exact Or.inl ⟨z, rfl⟩); (next z => exact Or.inr ⟨z, rfl⟩)); have hs := qzv_of hev58 (by omega) (by omega); have hw := qrh_12 (kd := qsh (α 87) 192 (x1 : Int).toNat) (gv := α 102 (x1 : Int).toNat) (cp := qcw (α 87) (x1 : Int).toNat x2) (cq := qcw (α 87) (x1 : Int).toNat x3) (lp := qll (α 91) x2 (α 102 (x1 : Int).toNat)) (lq := qll (α 91) x3 (α 102 (x1 : Int).toNat)) (p := x2) (q := x3) (by omega); omega)⟩
                · skip
                  refine qr_iload_n 151 rfl rfl rfl ?_
                  refine qr_aload_n 152 rfl rfl rfl ?_
                  refine qr_get 155 rfl rfl rfl (by decide) rfl ?_
                  refine qr_iload_n 156 rfl rfl rfl ?_
                  refine qr_iaload 157 rfl rfl (qrgi r1 (by decide) (by decide)) (by decide) rfl ?_
                  refine qr_topI (fun v68 hv68 => ?_)
                  have hs69 : 0 ≤ v68 ∧ v68 ≤ 31 := by rw [hv68]; exact hI.2.1 102 _ (show _ < 60 from qrgt r1 (by decide) (by decide))
                  refine qr_icmp_ne 164 160 rfl rfl rfl (qrg r2 (by decide) (by decide)) (qrg hs69 (by decide) (by decide)) (fun h70 => ?_) (fun h70 => ?_)
                  · skip
                    refine qr_iconst 165 rfl rfl ?_
                    refine qr_retZ rfl rfl (Or.inl rfl) (by decide) (by decide) ?_
                    exact ⟨rfl, 0, rfl, (by decide), (by have hq0 := (show (qhF (qsh (α 87) 192) (α 102) (α 103) (qun (α 104) (α 105) (qsh (α 87) 192)) (qcw (α 87)) (qll (α 91)) x2 x3 x4) (x1 : Int).toNat = qho (qsh (α 87) 192 (x1 : Int).toNat) (α 102 (x1 : Int).toNat) (α 103 (x1 : Int).toNat) (qun (α 104) (α 105) (qsh (α 87) 192) (x1 : Int).toNat) (qcw (α 87) (x1 : Int).toNat x2) (qcw (α 87) (x1 : Int).toNat x3) (qll (α 91) x2 (α 102 (x1 : Int).toNat)) (qll (α 91) x3 (α 102 (x1 : Int).toNat)) x2 x3 x4 from rfl); have hq1 := qho_s (qsh (α 87) 192 (x1 : Int).toNat) (α 102 (x1 : Int).toNat) (α 103 (x1 : Int).toNat) (qun (α 104) (α 105) (qsh (α 87) 192) (x1 : Int).toNat) (qcw (α 87) (x1 : Int).toNat x2) (qcw (α 87) (x1 : Int).toNat x3) (qll (α 91) x2 (α 102 (x1 : Int).toNat)) (qll (α 91) x3 (α 102 (x1 : Int).toNat)) x2 x3 x4; have hq2 := qll_01 (α 91) x2 (α 102 (x1 : Int).toNat); have hq3 := qll_01 (α 91) x3 (α 102 (x1 : Int).toNat); have hq4 := (show qhG (σ 86 29) (qhF (qsh (α 87) 192) (α 102) (α 103) (qun (α 104) (α 105) (qsh (α 87) 192)) (qcw (α 87)) (qll (α 91)) x2 x3 x4) (x1 : Int).toNat = if qbit (σ 86 29) (((x1 : Int).toNat : Nat) : Int) = 1 then 0 else (qhF (qsh (α 87) 192) (α 102) (α 103) (qun (α 104) (α 105) (qsh (α 87) 192)) (qcw (α 87)) (qll (α 91)) x2 x3 x4) (x1 : Int).toNat from rfl); rw [Int.toNat_of_nonneg (show 0 ≤ x1 by omega)] at hq4; have hun : qun (α 104) (α 105) (qsh (α 87) 192) (x1 : Int).toNat = α 104 (x1 : Int).toNat + (if qsh (α 87) 192 (x1 : Int).toNat = 2 then α 105 (x1 : Int).toNat else 0) := rfl; have hu2 : (qsh (α 87) 192 (x1 : Int).toNat = 2 ∧ qun (α 104) (α 105) (qsh (α 87) 192) (x1 : Int).toNat = α 104 (x1 : Int).toNat + α 105 (x1 : Int).toNat) ∨ (¬ qsh (α 87) 192 (x1 : Int).toNat = 2 ∧ qun (α 104) (α 105) (qsh (α 87) 192) (x1 : Int).toNat = α 104 (x1 : Int).toNat) := (by rw [hun]; split; (next z => exact Or.inl ⟨z, rfl⟩); (next z => exact Or.inr ⟨z, by omega⟩)); have hb := qbit_inS (t := σ 86 29) (i := x1) (by omega) (by omega) hev4 hev5; have hb2 : (qbit (σ 86 29) x1 = 1 ∧ qhG (σ 86 29) (qhF (qsh (α 87) 192) (α 102) (α 103) (qun (α 104) (α 105) (qsh (α 87) 192)) (qcw (α 87)) (qll (α 91)) x2 x3 x4) (x1 : Int).toNat = 0) ∨ (¬ qbit (σ 86 29) x1 = 1 ∧ qhG (σ 86 29) (qhF (qsh (α 87) 192) (α 102) (α 103) (qun (α 104) (α 105) (qsh (α 87) 192)) (qcw (α 87)) (qll (α 91)) x2 x3 x4) (x1 : Int).toNat = (qhF (qsh (α 87) 192) (α 102) (α 103) (qun (α 104) (α 105) (qsh (α 87) 192)) (qcw (α 87)) (qll (α 91)) x2 x3 x4) (x1 : Int).toNat) := (by rw [hq4]; split; (next z => exact Or.inl ⟨z, rfl⟩); (next z => exact Or.inr ⟨z, rfl⟩)); have hs := qzv_of hev58 (by omega) (by omega); have hw := qrh_12 (kd := qsh (α 87) 192 (x1 : Int).toNat) (gv := α 102 (x1 : Int).toNat) (cp := qcw (α 87) (x1 : Int).toNat x2) (cq := qcw (α 87) (x1 : Int).toNat x3) (lp := qll (α 91) x2 (α 102 (x1 : Int).toNat)) (lq := qll (α 91) x3 (α 102 (x1 : Int).toNat)) (p := x2) (q := x3) (by omega); omega)⟩
                  · skip
                    refine qr_iconst 161 rfl rfl ?_
                    refine qr_goto 165 rfl rfl ?_
                    refine qr_retZ rfl rfl (Or.inr rfl) (by decide) (by decide) ?_
                    exact ⟨rfl, 1, rfl, (by decide), (by have hq0 := (show (qhF (qsh (α 87) 192) (α 102) (α 103) (qun (α 104) (α 105) (qsh (α 87) 192)) (qcw (α 87)) (qll (α 91)) x2 x3 x4) (x1 : Int).toNat = qho (qsh (α 87) 192 (x1 : Int).toNat) (α 102 (x1 : Int).toNat) (α 103 (x1 : Int).toNat) (qun (α 104) (α 105) (qsh (α 87) 192) (x1 : Int).toNat) (qcw (α 87) (x1 : Int).toNat x2) (qcw (α 87) (x1 : Int).toNat x3) (qll (α 91) x2 (α 102 (x1 : Int).toNat)) (qll (α 91) x3 (α 102 (x1 : Int).toNat)) x2 x3 x4 from rfl); have hq1 := qho_s (qsh (α 87) 192 (x1 : Int).toNat) (α 102 (x1 : Int).toNat) (α 103 (x1 : Int).toNat) (qun (α 104) (α 105) (qsh (α 87) 192) (x1 : Int).toNat) (qcw (α 87) (x1 : Int).toNat x2) (qcw (α 87) (x1 : Int).toNat x3) (qll (α 91) x2 (α 102 (x1 : Int).toNat)) (qll (α 91) x3 (α 102 (x1 : Int).toNat)) x2 x3 x4; have hq2 := qll_01 (α 91) x2 (α 102 (x1 : Int).toNat); have hq3 := qll_01 (α 91) x3 (α 102 (x1 : Int).toNat); have hq4 := (show qhG (σ 86 29) (qhF (qsh (α 87) 192) (α 102) (α 103) (qun (α 104) (α 105) (qsh (α 87) 192)) (qcw (α 87)) (qll (α 91)) x2 x3 x4) (x1 : Int).toNat = if qbit (σ 86 29) (((x1 : Int).toNat : Nat) : Int) = 1 then 0 else (qhF (qsh (α 87) 192) (α 102) (α 103) (qun (α 104) (α 105) (qsh (α 87) 192)) (qcw (α 87)) (qll (α 91)) x2 x3 x4) (x1 : Int).toNat from rfl); rw [Int.toNat_of_nonneg (show 0 ≤ x1 by omega)] at hq4; have hun : qun (α 104) (α 105) (qsh (α 87) 192) (x1 : Int).toNat = α 104 (x1 : Int).toNat + (if qsh (α 87) 192 (x1 : Int).toNat = 2 then α 105 (x1 : Int).toNat else 0) := rfl; have hu2 : (qsh (α 87) 192 (x1 : Int).toNat = 2 ∧ qun (α 104) (α 105) (qsh (α 87) 192) (x1 : Int).toNat = α 104 (x1 : Int).toNat + α 105 (x1 : Int).toNat) ∨ (¬ qsh (α 87) 192 (x1 : Int).toNat = 2 ∧ qun (α 104) (α 105) (qsh (α 87) 192) (x1 : Int).toNat = α 104 (x1 : Int).toNat) := (by rw [hun]; split; (next z => exact Or.inl ⟨z, rfl⟩); (next z => exact Or.inr ⟨z, by omega⟩)); have hb := qbit_inS (t := σ 86 29) (i := x1) (by omega) (by omega) hev4 hev5; have hb2 : (qbit (σ 86 29) x1 = 1 ∧ qhG (σ 86 29) (qhF (qsh (α 87) 192) (α 102) (α 103) (qun (α 104) (α 105) (qsh (α 87) 192)) (qcw (α 87)) (qll (α 91)) x2 x3 x4) (x1 : Int).toNat = 0) ∨ (¬ qbit (σ 86 29) x1 = 1 ∧ qhG (σ 86 29) (qhF (qsh (α 87) 192) (α 102) (α 103) (qun (α 104) (α 105) (qsh (α 87) 192)) (qcw (α 87)) (qll (α 91)) x2 x3 x4) (x1 : Int).toNat = (qhF (qsh (α 87) 192) (α 102) (α 103) (qun (α 104) (α 105) (qsh (α 87) 192)) (qcw (α 87)) (qll (α 91)) x2 x3 x4) (x1 : Int).toNat) := (by rw [hq4]; split; (next z => exact Or.inl ⟨z, rfl⟩); (next z => exact Or.inr ⟨z, rfl⟩)); have hs := qzv_of hev58 (by omega) (by omega); have hw := qrh_12 (kd := qsh (α 87) 192 (x1 : Int).toNat) (gv := α 102 (x1 : Int).toNat) (cp := qcw (α 87) (x1 : Int).toNat x2) (cq := qcw (α 87) (x1 : Int).toNat x3) (lp := qll (α 91) x2 (α 102 (x1 : Int).toNat)) (lq := qll (α 91) x3 (α 102 (x1 : Int).toNat)) (p := x2) (q := x3) (by omega); omega)⟩
            · skip
              as_aux_lemma =>
                refine qr_iload 127 rfl rfl rfl ?_
                refine qr_if_ne 160 130 rfl rfl rfl (qrg hv62 (by decide) (by decide)) (fun h71 => ?_) (fun h71 => ?_)
                · skip
                  refine qr_iconst 161 rfl rfl ?_
                  refine qr_goto 165 rfl rfl ?_
                  refine qr_retZ rfl rfl (Or.inr rfl) (by decide) (by decide) ?_
                  exact ⟨rfl, 1, rfl, (by decide), (by have hq0 := (show (qhF (qsh (α 87) 192) (α 102) (α 103) (qun (α 104) (α 105) (qsh (α 87) 192)) (qcw (α 87)) (qll (α 91)) x2 x3 x4) (x1 : Int).toNat = qho (qsh (α 87) 192 (x1 : Int).toNat) (α 102 (x1 : Int).toNat) (α 103 (x1 : Int).toNat) (qun (α 104) (α 105) (qsh (α 87) 192) (x1 : Int).toNat) (qcw (α 87) (x1 : Int).toNat x2) (qcw (α 87) (x1 : Int).toNat x3) (qll (α 91) x2 (α 102 (x1 : Int).toNat)) (qll (α 91) x3 (α 102 (x1 : Int).toNat)) x2 x3 x4 from rfl); have hq1 := qho_s (qsh (α 87) 192 (x1 : Int).toNat) (α 102 (x1 : Int).toNat) (α 103 (x1 : Int).toNat) (qun (α 104) (α 105) (qsh (α 87) 192) (x1 : Int).toNat) (qcw (α 87) (x1 : Int).toNat x2) (qcw (α 87) (x1 : Int).toNat x3) (qll (α 91) x2 (α 102 (x1 : Int).toNat)) (qll (α 91) x3 (α 102 (x1 : Int).toNat)) x2 x3 x4; have hq2 := qll_01 (α 91) x2 (α 102 (x1 : Int).toNat); have hq3 := qll_01 (α 91) x3 (α 102 (x1 : Int).toNat); have hq4 := (show qhG (σ 86 29) (qhF (qsh (α 87) 192) (α 102) (α 103) (qun (α 104) (α 105) (qsh (α 87) 192)) (qcw (α 87)) (qll (α 91)) x2 x3 x4) (x1 : Int).toNat = if qbit (σ 86 29) (((x1 : Int).toNat : Nat) : Int) = 1 then 0 else (qhF (qsh (α 87) 192) (α 102) (α 103) (qun (α 104) (α 105) (qsh (α 87) 192)) (qcw (α 87)) (qll (α 91)) x2 x3 x4) (x1 : Int).toNat from rfl); rw [Int.toNat_of_nonneg (show 0 ≤ x1 by omega)] at hq4; have hun : qun (α 104) (α 105) (qsh (α 87) 192) (x1 : Int).toNat = α 104 (x1 : Int).toNat + (if qsh (α 87) 192 (x1 : Int).toNat = 2 then α 105 (x1 : Int).toNat else 0) := rfl; have hu2 : (qsh (α 87) 192 (x1 : Int).toNat = 2 ∧ qun (α 104) (α 105) (qsh (α 87) 192) (x1 : Int).toNat = α 104 (x1 : Int).toNat + α 105 (x1 : Int).toNat) ∨ (¬ qsh (α 87) 192 (x1 : Int).toNat = 2 ∧ qun (α 104) (α 105) (qsh (α 87) 192) (x1 : Int).toNat = α 104 (x1 : Int).toNat) := (by rw [hun]; split; (next z => exact Or.inl ⟨z, rfl⟩); (next z => exact Or.inr ⟨z, by omega⟩)); have hb := qbit_inS (t := σ 86 29) (i := x1) (by omega) (by omega) hev4 hev5; have hb2 : (qbit (σ 86 29) x1 = 1 ∧ qhG (σ 86 29) (qhF (qsh (α 87) 192) (α 102) (α 103) (qun (α 104) (α 105) (qsh (α 87) 192)) (qcw (α 87)) (qll (α 91)) x2 x3 x4) (x1 : Int).toNat = 0) ∨ (¬ qbit (σ 86 29) x1 = 1 ∧ qhG (σ 86 29) (qhF (qsh (α 87) 192) (α 102) (α 103) (qun (α 104) (α 105) (qsh (α 87) 192)) (qcw (α 87)) (qll (α 91)) x2 x3 x4) (x1 : Int).toNat = (qhF (qsh (α 87) 192) (α 102) (α 103) (qun (α 104) (α 105) (qsh (α 87) 192)) (qcw (α 87)) (qll (α 91)) x2 x3 x4) (x1 : Int).toNat) := (by rw [hq4]; split; (next z => exact Or.inl ⟨z, rfl⟩); (next z => exact Or.inr ⟨z, rfl⟩)); have hs := qzv_of hev58 (by omega) (by omega); have hw := qrh_12 (kd := qsh (α 87) 192 (x1 : Int).toNat) (gv := α 102 (x1 : Int).toNat) (cp := qcw (α 87) (x1 : Int).toNat x2) (cq := qcw (α 87) (x1 : Int).toNat x3) (lp := qll (α 91) x2 (α 102 (x1 : Int).toNat)) (lq := qll (α 91) x3 (α 102 (x1 : Int).toNat)) (p := x2) (q := x3) (by omega); omega)⟩
                · skip
                  refine qr_iload 132 rfl rfl rfl ?_
                  refine qr_if_eq 145 135 rfl rfl rfl (qrg hv60 (by decide) (by decide)) (fun h => False.elim (by omega)) (fun h72 => ?_)
                  refine qr_iload_n 136 rfl rfl rfl ?_
                  refine qr_aload_n 137 rfl rfl rfl ?_
                  refine qr_get 140 rfl rfl rfl (by decide) rfl ?_
                  refine qr_iload_n 141 rfl rfl rfl ?_
                  refine qr_iaload 142 rfl rfl (qrgi r1 (by decide) (by decide)) (by decide) rfl ?_
                  refine qr_topI (fun v73 hv73 => ?_)
                  have hs74 : 0 ≤ v73 ∧ v73 ≤ 31 := by rw [hv73]; exact hI.2.1 102 _ (show _ < 60 from qrgt r1 (by decide) (by decide))
                  refine qr_icmp_eq 160 145 rfl rfl rfl (qrg r3 (by decide) (by decide)) (qrg hs74 (by decide) (by decide)) (fun h75 => ?_) (fun h75 => ?_)
                  · skip
                    refine qr_iconst 161 rfl rfl ?_
                    refine qr_goto 165 rfl rfl ?_
                    refine qr_retZ rfl rfl (Or.inr rfl) (by decide) (by decide) ?_
                    exact ⟨rfl, 1, rfl, (by decide), (by have hq0 := (show (qhF (qsh (α 87) 192) (α 102) (α 103) (qun (α 104) (α 105) (qsh (α 87) 192)) (qcw (α 87)) (qll (α 91)) x2 x3 x4) (x1 : Int).toNat = qho (qsh (α 87) 192 (x1 : Int).toNat) (α 102 (x1 : Int).toNat) (α 103 (x1 : Int).toNat) (qun (α 104) (α 105) (qsh (α 87) 192) (x1 : Int).toNat) (qcw (α 87) (x1 : Int).toNat x2) (qcw (α 87) (x1 : Int).toNat x3) (qll (α 91) x2 (α 102 (x1 : Int).toNat)) (qll (α 91) x3 (α 102 (x1 : Int).toNat)) x2 x3 x4 from rfl); have hq1 := qho_s (qsh (α 87) 192 (x1 : Int).toNat) (α 102 (x1 : Int).toNat) (α 103 (x1 : Int).toNat) (qun (α 104) (α 105) (qsh (α 87) 192) (x1 : Int).toNat) (qcw (α 87) (x1 : Int).toNat x2) (qcw (α 87) (x1 : Int).toNat x3) (qll (α 91) x2 (α 102 (x1 : Int).toNat)) (qll (α 91) x3 (α 102 (x1 : Int).toNat)) x2 x3 x4; have hq2 := qll_01 (α 91) x2 (α 102 (x1 : Int).toNat); have hq3 := qll_01 (α 91) x3 (α 102 (x1 : Int).toNat); have hq4 := (show qhG (σ 86 29) (qhF (qsh (α 87) 192) (α 102) (α 103) (qun (α 104) (α 105) (qsh (α 87) 192)) (qcw (α 87)) (qll (α 91)) x2 x3 x4) (x1 : Int).toNat = if qbit (σ 86 29) (((x1 : Int).toNat : Nat) : Int) = 1 then 0 else (qhF (qsh (α 87) 192) (α 102) (α 103) (qun (α 104) (α 105) (qsh (α 87) 192)) (qcw (α 87)) (qll (α 91)) x2 x3 x4) (x1 : Int).toNat from rfl); rw [Int.toNat_of_nonneg (show 0 ≤ x1 by omega)] at hq4; have hun : qun (α 104) (α 105) (qsh (α 87) 192) (x1 : Int).toNat = α 104 (x1 : Int).toNat + (if qsh (α 87) 192 (x1 : Int).toNat = 2 then α 105 (x1 : Int).toNat else 0) := rfl; have hu2 : (qsh (α 87) 192 (x1 : Int).toNat = 2 ∧ qun (α 104) (α 105) (qsh (α 87) 192) (x1 : Int).toNat = α 104 (x1 : Int).toNat + α 105 (x1 : Int).toNat) ∨ (¬ qsh (α 87) 192 (x1 : Int).toNat = 2 ∧ qun (α 104) (α 105) (qsh (α 87) 192) (x1 : Int).toNat = α 104 (x1 : Int).toNat) := (by rw [hun]; split; (next z => exact Or.inl ⟨z, rfl⟩); (next z => exact Or.inr ⟨z, by omega⟩)); have hb := qbit_inS (t := σ 86 29) (i := x1) (by omega) (by omega) hev4 hev5; have hb2 : (qbit (σ 86 29) x1 = 1 ∧ qhG (σ 86 29) (qhF (qsh (α 87) 192) (α 102) (α 103) (qun (α 104) (α 105) (qsh (α 87) 192)) (qcw (α 87)) (qll (α 91)) x2 x3 x4) (x1 : Int).toNat = 0) ∨ (¬ qbit (σ 86 29) x1 = 1 ∧ qhG (σ 86 29) (qhF (qsh (α 87) 192) (α 102) (α 103) (qun (α 104) (α 105) (qsh (α 87) 192)) (qcw (α 87)) (qll (α 91)) x2 x3 x4) (x1 : Int).toNat = (qhF (qsh (α 87) 192) (α 102) (α 103) (qun (α 104) (α 105) (qsh (α 87) 192)) (qcw (α 87)) (qll (α 91)) x2 x3 x4) (x1 : Int).toNat) := (by rw [hq4]; split; (next z => exact Or.inl ⟨z, rfl⟩); (next z => exact Or.inr ⟨z, rfl⟩)); have hs := qzv_of hev58 (by omega) (by omega); have hw := qrh_12 (kd := qsh (α 87) 192 (x1 : Int).toNat) (gv := α 102 (x1 : Int).toNat) (cp := qcw (α 87) (x1 : Int).toNat x2) (cq := qcw (α 87) (x1 : Int).toNat x3) (lp := qll (α 91) x2 (α 102 (x1 : Int).toNat)) (lq := qll (α 91) x3 (α 102 (x1 : Int).toNat)) (p := x2) (q := x3) (by omega); omega)⟩
                  · skip
                    refine qr_iload 147 rfl rfl rfl ?_
                    refine qr_if_eq 164 150 rfl rfl rfl (qrg hv62 (by decide) (by decide)) (fun h76 => ?_) (fun h => False.elim (by omega))
                    refine qr_iconst 165 rfl rfl ?_
                    refine qr_retZ rfl rfl (Or.inl rfl) (by decide) (by decide) ?_
                    exact ⟨rfl, 0, rfl, (by decide), (by have hq0 := (show (qhF (qsh (α 87) 192) (α 102) (α 103) (qun (α 104) (α 105) (qsh (α 87) 192)) (qcw (α 87)) (qll (α 91)) x2 x3 x4) (x1 : Int).toNat = qho (qsh (α 87) 192 (x1 : Int).toNat) (α 102 (x1 : Int).toNat) (α 103 (x1 : Int).toNat) (qun (α 104) (α 105) (qsh (α 87) 192) (x1 : Int).toNat) (qcw (α 87) (x1 : Int).toNat x2) (qcw (α 87) (x1 : Int).toNat x3) (qll (α 91) x2 (α 102 (x1 : Int).toNat)) (qll (α 91) x3 (α 102 (x1 : Int).toNat)) x2 x3 x4 from rfl); have hq1 := qho_s (qsh (α 87) 192 (x1 : Int).toNat) (α 102 (x1 : Int).toNat) (α 103 (x1 : Int).toNat) (qun (α 104) (α 105) (qsh (α 87) 192) (x1 : Int).toNat) (qcw (α 87) (x1 : Int).toNat x2) (qcw (α 87) (x1 : Int).toNat x3) (qll (α 91) x2 (α 102 (x1 : Int).toNat)) (qll (α 91) x3 (α 102 (x1 : Int).toNat)) x2 x3 x4; have hq2 := qll_01 (α 91) x2 (α 102 (x1 : Int).toNat); have hq3 := qll_01 (α 91) x3 (α 102 (x1 : Int).toNat); have hq4 := (show qhG (σ 86 29) (qhF (qsh (α 87) 192) (α 102) (α 103) (qun (α 104) (α 105) (qsh (α 87) 192)) (qcw (α 87)) (qll (α 91)) x2 x3 x4) (x1 : Int).toNat = if qbit (σ 86 29) (((x1 : Int).toNat : Nat) : Int) = 1 then 0 else (qhF (qsh (α 87) 192) (α 102) (α 103) (qun (α 104) (α 105) (qsh (α 87) 192)) (qcw (α 87)) (qll (α 91)) x2 x3 x4) (x1 : Int).toNat from rfl); rw [Int.toNat_of_nonneg (show 0 ≤ x1 by omega)] at hq4; have hun : qun (α 104) (α 105) (qsh (α 87) 192) (x1 : Int).toNat = α 104 (x1 : Int).toNat + (if qsh (α 87) 192 (x1 : Int).toNat = 2 then α 105 (x1 : Int).toNat else 0) := rfl; have hu2 : (qsh (α 87) 192 (x1 : Int).toNat = 2 ∧ qun (α 104) (α 105) (qsh (α 87) 192) (x1 : Int).toNat = α 104 (x1 : Int).toNat + α 105 (x1 : Int).toNat) ∨ (¬ qsh (α 87) 192 (x1 : Int).toNat = 2 ∧ qun (α 104) (α 105) (qsh (α 87) 192) (x1 : Int).toNat = α 104 (x1 : Int).toNat) := (by rw [hun]; split; (next z => exact Or.inl ⟨z, rfl⟩); (next z => exact Or.inr ⟨z, by omega⟩)); have hb := qbit_inS (t := σ 86 29) (i := x1) (by omega) (by omega) hev4 hev5; have hb2 : (qbit (σ 86 29) x1 = 1 ∧ qhG (σ 86 29) (qhF (qsh (α 87) 192) (α 102) (α 103) (qun (α 104) (α 105) (qsh (α 87) 192)) (qcw (α 87)) (qll (α 91)) x2 x3 x4) (x1 : Int).toNat = 0) ∨ (¬ qbit (σ 86 29) x1 = 1 ∧ qhG (σ 86 29) (qhF (qsh (α 87) 192) (α 102) (α 103) (qun (α 104) (α 105) (qsh (α 87) 192)) (qcw (α 87)) (qll (α 91)) x2 x3 x4) (x1 : Int).toNat = (qhF (qsh (α 87) 192) (α 102) (α 103) (qun (α 104) (α 105) (qsh (α 87) 192)) (qcw (α 87)) (qll (α 91)) x2 x3 x4) (x1 : Int).toNat) := (by rw [hq4]; split; (next z => exact Or.inl ⟨z, rfl⟩); (next z => exact Or.inr ⟨z, rfl⟩)); have hs := qzv_of hev58 (by omega) (by omega); have hw := qrh_12 (kd := qsh (α 87) 192 (x1 : Int).toNat) (gv := α 102 (x1 : Int).toNat) (cp := qcw (α 87) (x1 : Int).toNat x2) (cq := qcw (α 87) (x1 : Int).toNat x3) (lp := qll (α 91) x2 (α 102 (x1 : Int).toNat)) (lq := qll (α 91) x3 (α 102 (x1 : Int).toNat)) (p := x2) (q := x3) (by omega); omega)⟩
          · skip
            refine qr_iconst 67 rfl rfl ?_
            refine qr_retZ rfl rfl (Or.inl rfl) (by decide) (by decide) ?_
            exact ⟨rfl, 0, rfl, (by decide), (by have hq0 := (show (qhF (qsh (α 87) 192) (α 102) (α 103) (qun (α 104) (α 105) (qsh (α 87) 192)) (qcw (α 87)) (qll (α 91)) x2 x3 x4) (x1 : Int).toNat = qho (qsh (α 87) 192 (x1 : Int).toNat) (α 102 (x1 : Int).toNat) (α 103 (x1 : Int).toNat) (qun (α 104) (α 105) (qsh (α 87) 192) (x1 : Int).toNat) (qcw (α 87) (x1 : Int).toNat x2) (qcw (α 87) (x1 : Int).toNat x3) (qll (α 91) x2 (α 102 (x1 : Int).toNat)) (qll (α 91) x3 (α 102 (x1 : Int).toNat)) x2 x3 x4 from rfl); have hq1 := qho_s (qsh (α 87) 192 (x1 : Int).toNat) (α 102 (x1 : Int).toNat) (α 103 (x1 : Int).toNat) (qun (α 104) (α 105) (qsh (α 87) 192) (x1 : Int).toNat) (qcw (α 87) (x1 : Int).toNat x2) (qcw (α 87) (x1 : Int).toNat x3) (qll (α 91) x2 (α 102 (x1 : Int).toNat)) (qll (α 91) x3 (α 102 (x1 : Int).toNat)) x2 x3 x4; have hq2 := qll_01 (α 91) x2 (α 102 (x1 : Int).toNat); have hq3 := qll_01 (α 91) x3 (α 102 (x1 : Int).toNat); have hq4 := (show qhG (σ 86 29) (qhF (qsh (α 87) 192) (α 102) (α 103) (qun (α 104) (α 105) (qsh (α 87) 192)) (qcw (α 87)) (qll (α 91)) x2 x3 x4) (x1 : Int).toNat = if qbit (σ 86 29) (((x1 : Int).toNat : Nat) : Int) = 1 then 0 else (qhF (qsh (α 87) 192) (α 102) (α 103) (qun (α 104) (α 105) (qsh (α 87) 192)) (qcw (α 87)) (qll (α 91)) x2 x3 x4) (x1 : Int).toNat from rfl); rw [Int.toNat_of_nonneg (show 0 ≤ x1 by omega)] at hq4; have hun : qun (α 104) (α 105) (qsh (α 87) 192) (x1 : Int).toNat = α 104 (x1 : Int).toNat + (if qsh (α 87) 192 (x1 : Int).toNat = 2 then α 105 (x1 : Int).toNat else 0) := rfl; have hu2 : (qsh (α 87) 192 (x1 : Int).toNat = 2 ∧ qun (α 104) (α 105) (qsh (α 87) 192) (x1 : Int).toNat = α 104 (x1 : Int).toNat + α 105 (x1 : Int).toNat) ∨ (¬ qsh (α 87) 192 (x1 : Int).toNat = 2 ∧ qun (α 104) (α 105) (qsh (α 87) 192) (x1 : Int).toNat = α 104 (x1 : Int).toNat) := (by rw [hun]; split; (next z => exact Or.inl ⟨z, rfl⟩); (next z => exact Or.inr ⟨z, by omega⟩)); have hb := qbit_inS (t := σ 86 29) (i := x1) (by omega) (by omega) hev4 hev5; have hb2 : (qbit (σ 86 29) x1 = 1 ∧ qhG (σ 86 29) (qhF (qsh (α 87) 192) (α 102) (α 103) (qun (α 104) (α 105) (qsh (α 87) 192)) (qcw (α 87)) (qll (α 91)) x2 x3 x4) (x1 : Int).toNat = 0) ∨ (¬ qbit (σ 86 29) x1 = 1 ∧ qhG (σ 86 29) (qhF (qsh (α 87) 192) (α 102) (α 103) (qun (α 104) (α 105) (qsh (α 87) 192)) (qcw (α 87)) (qll (α 91)) x2 x3 x4) (x1 : Int).toNat = (qhF (qsh (α 87) 192) (α 102) (α 103) (qun (α 104) (α 105) (qsh (α 87) 192)) (qcw (α 87)) (qll (α 91)) x2 x3 x4) (x1 : Int).toNat) := (by rw [hq4]; split; (next z => exact Or.inl ⟨z, rfl⟩); (next z => exact Or.inr ⟨z, rfl⟩)); have hs := qzv_of hev58 (by omega) (by omega); have hw := qrh_o (kd := qsh (α 87) 192 (x1 : Int).toNat) (gv := α 102 (x1 : Int).toNat) (cp := qcw (α 87) (x1 : Int).toNat x2) (cq := qcw (α 87) (x1 : Int).toNat x3) (lp := qll (α 91) x2 (α 102 (x1 : Int).toNat)) (lq := qll (α 91) x3 (α 102 (x1 : Int).toNat)) (p := x2) (q := x3); omega)⟩

set_option maxHeartbeats 4000000 in
set_option maxRecDepth 20000 in
/-- OneRoofModel.manyBetween -/
theorem sf_209_86x {L : Nat} {xs : Nat → Int} {vb : Bool} {d : Nat} {σ α : Nat → Nat → Int} {κ : Nat → Option Nat} {ρ : Nat} {x1 : Int} {x2 : Int} {x3 : Int} (hI : qI σ α κ ρ) (r1 : 0 ≤ x1 ∧ x1 ≤ 31) (r2 : 0 ≤ x2 ∧ x2 ≤ 31) (r3 : (-2147483648) ≤ x3 ∧ x3 ≤ 2147483647) (p0 : ¬ x1 = x2) (p1 : qZk σ α) (p2 : 1 ≤ σ 86 6) : qm_T (qe L xs vb) (d + 4) 209 [.ref 86, .int (qz x1), .int (qz x2), .int (qz x3)] (qw σ α κ ρ) (fun r w' => ∃ σ', w' = qw σ' α κ ρ ∧ qI σ' α κ ρ ∧ qFr [(86, 30)] [] σ α σ' α ∧ ∃ v : Int, r = some (.int (qz v)) ∧ (0 ≤ v ∧ v ≤ 60) ∧ (v = qsm (qhG (σ 86 29) (qhF (qsh (α 87) 192) (α 102) (α 103) (qun (α 104) (α 105) (qsh (α 87) 192)) (qcw (α 87)) (qll (α 91)) x1 x2 x3)) (σ 86 24 : Int).toNat ∧ (1 ≤ v → σ' 86 30 = qlt (qhG (σ 86 29) (qhF (qsh (α 87) 192) (α 102) (α 103) (qun (α 104) (α 105) (qsh (α 87) 192)) (qcw (α 87)) (qll (α 91)) x1 x2 x3)) (σ 86 24 : Int).toNat))) := by
  refine qr_start (d := d + 3) qv_e209 (Nat.le_of_ble_eq_true rfl) ?_
  show qr_W (qe L xs vb) (d + 3) qx_e209 _ (0, [(0, .ref 86), (1, .int (qz x1)), (2, .int (qz x2)), (3, .int (qz x3))], [], _, 0, 0)
  have hF0 := qFr_rf [(86, 30)] [] σ α
  have hz86_29 : (-9223372036854775808) ≤ σ 86 29 ∧ σ 86 29 ≤ 9223372036854775807 := hI.1 86 29
  have hz86_24 : 0 ≤ σ 86 24 ∧ σ 86 24 ≤ 60 := hI.1 86 24
  have hz86_6 : 0 ≤ σ 86 6 ∧ σ 86 6 ≤ 32 := hI.1 86 6
  refine qr_iconst 1 rfl rfl ?_
  refine qr_istore _ 3 rfl (by decide) rfl rfl ?_
  refine qr_iconst 4 rfl rfl ?_
  refine qr_istore _ 6 rfl (by decide) rfl rfl ?_
  have hL975 : ∀ (n : Nat) (ls : qm_L) (u961 u963 : Int) (σ964 : Nat → Nat → Int), 60 - u963 < (n : Int) → qm_get ls 0 = some (.ref 86) → qm_get ls 1 = some (.int (qz x1)) → qm_get ls 2 = some (.int (qz x2)) → qm_get ls 3 = some (.int (qz x3)) → qm_get ls 4 = some (.int (qz u961)) → qm_get ls 5 = some (.int (qz u963)) → ((-2147483648) ≤ u961 ∧ u961 ≤ 2147483647) → (0 ≤ u963 ∧ u963 ≤ 60) → qI σ964 α κ ρ → qFr [(86, 30)] [] σ α σ964 α → σ964 86 6 = (σ 86 6) → σ964 86 24 = (σ 86 24) → σ964 86 29 = (σ 86 29) → (u961 = qsm (qhG (σ 86 29) (qhF (qsh (α 87) 192) (α 102) (α 103) (qun (α 104) (α 105) (qsh (α 87) 192)) (qcw (α 87)) (qll (α 91)) x1 x2 x3)) (u963 : Int).toNat ∧ (1 ≤ u961 → σ964 86 30 = qlt (qhG (σ 86 29) (qhF (qsh (α 87) 192) (α 102) (α 103) (qun (α 104) (α 105) (qsh (α 87) 192)) (qcw (α 87)) (qll (α 91)) x1 x2 x3)) (u963 : Int).toNat)) → u963 ≤ σ 86 24 → qr_W (qe L xs vb) (d + 3) qx_e209 (fun r w' => ∃ σ', w' = qw σ' α κ ρ ∧ qI σ' α κ ρ ∧ qFr [(86, 30)] [] σ α σ' α ∧ ∃ v : Int, r = some (.int (qz v)) ∧ (0 ≤ v ∧ v ≤ 60) ∧ (v = qsm (qhG (σ 86 29) (qhF (qsh (α 87) 192) (α 102) (α 103) (qun (α 104) (α 105) (qsh (α 87) 192)) (qcw (α 87)) (qll (α 91)) x1 x2 x3)) (σ 86 24 : Int).toNat ∧ (1 ≤ v → σ' 86 30 = qlt (qhG (σ 86 29) (qhF (qsh (α 87) 192) (α 102) (α 103) (qun (α 104) (α 105) (qsh (α 87) 192)) (qcw (α 87)) (qll (α 91)) x1 x2 x3)) (σ 86 24 : Int).toNat))) (6, ls, [], qw σ964 α κ ρ, 0, 0) := by
    intro n
    induction n with
    | zero => intro ls u961 u963 σ964 hm g956 g957 g958 g959 g960 g962 hf971 hf972 hI966 hF967 hk968 hk969 hk970 hx973 hx974; exact False.elim (by omega)
    | succ n ih976 =>
      intro ls u961 u963 σ964 hm g956 g957 g958 g959 g960 g962 hf971 hf972 hI966 hF967 hk968 hk969 hk970 hx973 hx974
      have hs977 : (-2147483648) ≤ σ964 86 30 ∧ σ964 86 30 ≤ 2147483647 := hI966.1 86 30
      refine qr_iload 8 rfl g962 rfl ?_
      refine qr_aload_n 9 rfl g956 rfl ?_
      refine qr_get 12 rfl rfl rfl (by decide) rfl ?_
      refine qy_v (σ 86 24) ((hk969).trans rfl) ?_
      refine qr_icmp_ge 42 15 rfl rfl rfl (qrg hf972 (by decide) (by decide)) (qrg hz86_24 (by decide) (by decide)) (fun h978 => ?_) (fun h978 => ?_)
      · skip
        have hqb := qsm_01 (f := (qhG (σ 86 29) (qhF (qsh (α 87) 192) (α 102) (α 103) (qun (α 104) (α 105) (qsh (α 87) 192)) (qcw (α 87)) (qll (α 91)) x1 x2 x3))) (fun k => qhG_01 _ (fun k => qho_01 _ _ _ _ _ _ _ _ _ _ _) k) (u963 : Int).toNat
        refine qr_iload 44 rfl g960 rfl ?_
        refine qr_retI rfl rfl (by decide) (by decide) ?_
        have hw979 : σ964 86 30 = (σ964 86 30) := rfl
        exact ⟨_, rfl, hI966, hF967, u961, rfl, (by omega), (by rw [show (σ 86 24) = u963 by omega]; have hp := hx973; have hw : σ964 86 30 = (σ964 86 30) := rfl; omega)⟩
      · skip
        refine qr_aload_n 16 rfl g956 rfl ?_
        refine qr_iload 18 rfl g962 rfl ?_
        refine qr_iload_n 19 rfl g957 rfl ?_
        refine qr_iload_n 20 rfl g958 rfl ?_
        refine qr_iload_n 21 rfl g959 rfl ?_
        have hs980 : 0 ≤ σ964 86 24 ∧ σ964 86 24 ≤ 60 := hI966.1 86 24
        have hs981 : σ964 86 24 = (σ 86 24) := (hk969).trans rfl
        have hs982 : 0 ≤ σ964 86 6 ∧ σ964 86 6 ≤ 32 := hI966.1 86 6
        have hs983 : σ964 86 6 = (σ 86 6) := (hk968).trans rfl
        refine qr_callN 24 rfl rfl rfl (sf_205_86x (d := d + 0) hI966 (by omega) r1 r2 r3 (by omega) (by omega) (qZk_fr hF967 (by decide) (by decide) p1) (by omega)) ?_
        have hs986 : (-9223372036854775808) ≤ σ964 86 29 ∧ σ964 86 29 ≤ 9223372036854775807 := hI966.1 86 29
        have hs987 : σ964 86 29 = (σ 86 29) := (hk970).trans rfl
        rintro _ _ ⟨rfl, v984, rfl, hv984, hp985⟩
        rw [hF967.1 86 29 (by decide)] at hp985
        show qr_W (qe L xs vb) (d + 3) qx_e209 _ (24, _, [.int (qz v984)], qw σ964 α κ ρ, 0, 0)
        refine qr_if_eq 36 27 rfl rfl rfl (qrg hv984 (by decide) (by decide)) (fun h988 => ?_) (fun h988 => ?_)
        · skip
          refine qr_iinc _ 39 rfl g962 (by decide) rfl rfl ?_
          refine qr_goto 6 rfl rfl ?_
          exact ih976 _ u961 (u963 + 1) σ964 (by omega) (qm_gk g956 (by decide) (Or.inl (by decide))) (qm_gk g957 (by decide) (Or.inl (by decide))) (qm_gk g958 (by decide) (Or.inl (by decide))) (qm_gk g959 (by decide) (Or.inl (by decide))) (qm_gk g960 (by decide) (Or.inr rfl)) (qm_ge _ _ _) hf971 (by omega) hI966 hF967 ((hk968).trans rfl) ((hk969).trans rfl) ((hk970).trans rfl) (by have hp := hx973; have hq0 := qsm_s (qhG (σ 86 29) (qhF (qsh (α 87) 192) (α 102) (α 103) (qun (α 104) (α 105) (qsh (α 87) 192)) (qcw (α 87)) (qll (α 91)) x1 x2 x3)) (i := u963) (by omega); have hq1 := qlt_s (qhG (σ 86 29) (qhF (qsh (α 87) 192) (α 102) (α 103) (qun (α 104) (α 105) (qsh (α 87) 192)) (qcw (α 87)) (qll (α 91)) x1 x2 x3)) (i := u963) (by omega); have hq2 := qsm_01 (f := (qhG (σ 86 29) (qhF (qsh (α 87) 192) (α 102) (α 103) (qun (α 104) (α 105) (qsh (α 87) 192)) (qcw (α 87)) (qll (α 91)) x1 x2 x3))) (fun k => qhG_01 _ (fun k => qho_01 _ _ _ _ _ _ _ _ _ _ _) k) (u963 : Int).toNat; have hw : σ964 86 30 = (σ964 86 30) := rfl; omega) (by omega)
        · skip
          refine qy_iincE 30 rfl g960 (by decide) rfl (fun v989 hv989 hev989 => ?_)
          refine qr_aload_n 31 rfl (qm_gk g956 (by decide) (Or.inl (by decide))) rfl ?_
          refine qr_iload 33 rfl (qm_gk g962 (by decide) (Or.inl (by decide))) rfl ?_
          refine qr_put 36 rfl (by decide) rfl (Nat.le_of_ble_eq_true rfl) (Nat.le_of_ble_eq_true rfl) (Or.inl rfl) (qr_fitI rfl _) rfl ?_
          refine qy_wS (qw_s σ964 86 30 u963) rfl (fun σ990 e991 => ?_)
          have hI992 : qI σ990 α κ ρ := by rw [e991]; exact qI_s hI966 86 30 rfl (show (-2147483648) ≤ u963 ∧ u963 ≤ 2147483647 by omega)
          have hF993 : qFr [(86, 30)] [] σ α σ990 α := by rw [e991]; exact qFr_s hF967 86 30 _ (by decide)
          refine qr_iinc _ 39 rfl (qm_gk g962 (by decide) (Or.inl (by decide))) (by decide) rfl rfl ?_
          refine qr_goto 6 rfl rfl ?_
          exact ih976 _ v989 (u963 + 1) σ990 (by omega) (qm_gk (qm_gk g956 (by decide) (Or.inl (by decide))) (by decide) (Or.inl (by decide))) (qm_gk (qm_gk g957 (by decide) (Or.inl (by decide))) (by decide) (Or.inl (by decide))) (qm_gk (qm_gk g958 (by decide) (Or.inl (by decide))) (by decide) (Or.inl (by decide))) (qm_gk (qm_gk g959 (by decide) (Or.inr rfl)) (by decide) (Or.inl (by decide))) (qm_gk (qm_ge _ _ _) (by decide) (Or.inr rfl)) (qm_ge _ _ _) (by omega) (by omega) hI992 hF993 ((congrFun (congrFun e991 86) 6).trans ((hk968).trans rfl)) ((congrFun (congrFun e991 86) 24).trans ((hk969).trans rfl)) ((congrFun (congrFun e991 86) 29).trans ((hk970).trans rfl)) (by have hp := hx973; have hq0 := qsm_s (qhG (σ 86 29) (qhF (qsh (α 87) 192) (α 102) (α 103) (qun (α 104) (α 105) (qsh (α 87) 192)) (qcw (α 87)) (qll (α 91)) x1 x2 x3)) (i := u963) (by omega); have hq1 := qlt_s (qhG (σ 86 29) (qhF (qsh (α 87) 192) (α 102) (α 103) (qun (α 104) (α 105) (qsh (α 87) 192)) (qcw (α 87)) (qll (α 91)) x1 x2 x3)) (i := u963) (by omega); have hq2 := qsm_01 (f := (qhG (σ 86 29) (qhF (qsh (α 87) 192) (α 102) (α 103) (qun (α 104) (α 105) (qsh (α 87) 192)) (qcw (α 87)) (qll (α 91)) x1 x2 x3))) (fun k => qhG_01 _ (fun k => qho_01 _ _ _ _ _ _ _ _ _ _ _) k) (u963 : Int).toNat; have hq3 := qz_val hev989 (by omega) (by omega); have hw : σ990 86 30 = u963 := (congrFun (congrFun e991 86) 30).trans rfl; omega) (by omega)
  exact hL975 ((60 - 0 + 1 : Int)).toNat _ 0 0 σ (by omega) rfl rfl rfl rfl rfl rfl (by decide) (by decide) hI hF0 (rfl) (rfl) (rfl) ⟨rfl, fun h => absurd h (by decide)⟩ (by omega)
end
section
/-! what is kept till the next opening -/
theorem qy_mulE {X : qm_X} {d : Nat} {x : qs_Ent} {Q : Option Value → qm_W → Prop} {pc : Nat} {ls : qm_L} {st : List Value} {w : qm_W} {c n : Nat} {a b A B C : Int} (ha : 0 ≤ a ∧ a ≤ A) (hb : 0 ≤ b ∧ b ≤ B) (hC : A * B ≤ C) (k : ∀ v : Int, (0 ≤ v ∧ v ≤ C) → v = a * b → qr_W X d x Q (pc, ls, .int (qz v) :: st, w, c, n)) : qr_W X d x Q (pc, ls, .int (qz (a * b)) :: st, w, c, n) := by
  refine k _ ⟨Int.mul_nonneg ha.1 hb.1, Int.le_trans ?_ hC⟩ rfl
  exact Int.mul_le_mul ha.2 hb.2 hb.1 (Int.le_trans ha.1 ha.2)
def qcel (p q : Int) : Int := if p < q then q * (q - 1) / 2 + p else p * (p - 1) / 2 + q
theorem qcel_of {x y lo hi m : Int} (hxy : ¬ x = y) (hl : (lo = x ∨ lo = y) ∧ lo ≤ x ∧ lo ≤ y) (hh : (hi = x ∨ hi = y) ∧ x ≤ hi ∧ y ≤ hi) (hm : m = hi * (hi - 1)) : m / 2 + lo = qcel x y := by
  unfold qcel
  by_cases h : x < y
  · have e1 : hi = y := by omega
    have e2 : lo = x := by omega
    rw [if_pos h, hm, e1, e2]
  · have e1 : hi = x := by omega
    have e2 : lo = y := by omega
    rw [if_neg h, hm, e1, e2]
theorem qcel_sym {x y : Int} (hxy : ¬ x = y) : qcel x y = qcel y x := by
  unfold qcel
  by_cases h : x < y
  · rw [if_pos h, if_neg (by omega)]
  · rw [if_neg h, if_pos (by omega)]
theorem qcel_t : ∀ n : Fin 32, (((n : Nat) : Int) + 1) * (((n : Nat) : Int) + 1 - 1) / 2 = ((n : Nat) : Int) * (((n : Nat) : Int) - 1) / 2 + ((n : Nat) : Int) := by decide
theorem qcel_lt {a b : Int} (ha : 0 ≤ a) (hab : a < b) (hb : b ≤ 31) : a * (a - 1) / 2 + a ≤ b * (b - 1) / 2 := by
  obtain ⟨n, rfl⟩ : ∃ n : Nat, b = a + 1 + n := ⟨(b - a - 1).toNat, by omega⟩
  have key : ∀ n : Nat, a + 1 + (n : Int) ≤ 31 → a * (a - 1) / 2 + a ≤ (a + 1 + (n : Int)) * (a + 1 + (n : Int) - 1) / 2 := by
    intro n
    induction n with
    | zero =>
      intro _
      have h := qcel_t ⟨a.toNat, by omega⟩
      have e : ((a.toNat : Nat) : Int) = a := by omega
      have h2 : (((a.toNat : Nat) : Int) + 1) * (((a.toNat : Nat) : Int) + 1 - 1) / 2 = ((a.toNat : Nat) : Int) * (((a.toNat : Nat) : Int) - 1) / 2 + ((a.toNat : Nat) : Int) := h
      rw [e] at h2
      show a * (a - 1) / 2 + a ≤ (a + 1 + ((0 : Nat) : Int)) * (a + 1 + ((0 : Nat) : Int) - 1) / 2
      rw [show a + 1 + ((0 : Nat) : Int) = a + 1 by omega, h2]
      exact Int.le_refl _
    | succ n ih =>
      intro hn
      have h1 := ih (by omega)
      have h := qcel_t ⟨(a + 1 + (n : Int)).toNat, by omega⟩
      have e : (((a + 1 + (n : Int)).toNat : Nat) : Int) = a + 1 + (n : Int) := by omega
      have h2 : ((((a + 1 + (n : Int)).toNat : Nat) : Int) + 1) * ((((a + 1 + (n : Int)).toNat : Nat) : Int) + 1 - 1) / 2 = (((a + 1 + (n : Int)).toNat : Nat) : Int) * ((((a + 1 + (n : Int)).toNat : Nat) : Int) - 1) / 2 + (((a + 1 + (n : Int)).toNat : Nat) : Int) := h
      rw [e] at h2
      rw [show a + 1 + ((n + 1 : Nat) : Int) = a + 1 + (n : Int) + 1 by omega, h2]
      omega
  exact key n hb
theorem qcel_inj {p q r s : Int} (hp : 0 ≤ p ∧ p < q ∧ q ≤ 31) (hr : 0 ≤ r ∧ r < s ∧ s ≤ 31) (h : qcel p q = qcel r s) : p = r ∧ q = s := by
  have e1 : qcel p q = q * (q - 1) / 2 + p := if_pos hp.2.1
  have e2 : qcel r s = s * (s - 1) / 2 + r := if_pos hr.2.1
  rw [e1, e2] at h
  by_cases c1 : q < s
  · have := qcel_lt (by omega) c1 hr.2.2
    omega
  · by_cases c2 : s < q
    · have := qcel_lt (by omega) c2 hp.2.2
      omega
    · have e : q = s := by omega
      subst e
      exact ⟨by omega, rfl⟩
theorem qcel_nn {p q : Int} (hp : 0 ≤ p ∧ p ≤ 31) (hq : 0 ≤ q ∧ q ≤ 31) : 0 ≤ qcel p q := by
  have key : ∀ n : Fin 32, 0 ≤ ((n : Nat) : Int) * (((n : Nat) : Int) - 1) / 2 := by decide
  have k2 : ∀ a : Int, 0 ≤ a → a ≤ 31 → 0 ≤ a * (a - 1) / 2 := fun a h0 h1 => by
    have h := key ⟨a.toNat, by omega⟩
    have e : ((a.toNat : Nat) : Int) = a := by omega
    have h2 : 0 ≤ ((a.toNat : Nat) : Int) * (((a.toNat : Nat) : Int) - 1) / 2 := h
    rwa [e] at h2
  unfold qcel
  split
  · have := k2 q hq.1 hq.2; omega
  · have := k2 p hp.1 hp.2; omega
def qCaN (s t : Nat → Int) (st : Int) (F : Int → Int → Int) : Prop := (∀ c : Nat, c < 496 → t c ≤ st) ∧ ∀ p q : Int, 0 ≤ p → p < q → q ≤ 31 → t (qcel p q).toNat = st → s (qcel p q).toNat = F p q
theorem qCaN_g {s t : Nat → Int} {st : Int} {F : Int → Int → Int} (h : qCaN s t st F) (sy : ∀ p q : Int, F p q = F q p) {x y : Int} (hx : 0 ≤ x ∧ x ≤ 31) (hy : 0 ≤ y ∧ y ≤ 31) (hxy : ¬ x = y) (hs : t (qcel x y).toNat = st) : s (qcel x y).toNat = F x y := by
  by_cases c : x < y
  · exact h.2 x y hx.1 c hy.2 hs
  · rw [qcel_sym hxy] at hs ⊢
    rw [sy x y]
    exact h.2 y x hy.1 (by omega) hx.2 hs
theorem qCaN_u {s t : Nat → Int} {st v : Int} {F : Int → Int → Int} (h : qCaN s t st F) (sy : ∀ p q : Int, F p q = F q p) {x y : Int} (hx : 0 ≤ x ∧ x ≤ 31) (hy : 0 ≤ y ∧ y ≤ 31) (hxy : ¬ x = y) (hv : v = F x y) : qCaN (qzu s (qcel x y).toNat v) (qzu t (qcel x y).toNat st) st F := by
  refine ⟨fun c hc => ?_, ?_⟩
  · show (if c = (qcel x y).toNat then st else t c) ≤ st
    split
    · exact Int.le_refl _
    · exact h.1 c hc
  intro p q h1 h2 h3 h4
  have hn := qcel_nn (p := p) (q := q) (by omega) (by omega)
  have hm := qcel_nn hx hy
  by_cases e : (qcel p q).toNat = (qcel x y).toNat
  · rw [e, qzu_at, hv]
    have e2 : qcel p q = qcel x y := by omega
    by_cases c : x < y
    · have := qcel_inj ⟨h1, h2, h3⟩ ⟨hx.1, c, hy.2⟩ e2
      rw [this.1, this.2]
    · rw [qcel_sym hxy] at e2
      have := qcel_inj ⟨h1, h2, h3⟩ ⟨hy.1, by omega, hx.2⟩ e2
      rw [this.1, this.2, sy]
  · have g : ∀ (f : Nat → Int) (w : Int), qzu f (qcel x y).toNat w (qcel p q).toNat = f (qcel p q).toNat := fun f w => if_neg e
    rw [g] at h4 ⊢
    exact h.2 p q h1 h2 h3 h4
/-- behind an opening nothing is kept -/
theorem qcel_le {p q : Int} (h : 0 ≤ p ∧ p < q ∧ q ≤ 31) : qcel p q ≤ 495 := by
  have key : ∀ n : Fin 32, ((n : Nat) : Int) * (((n : Nat) : Int) - 1) / 2 ≤ 465 := by decide
  have k1 := key ⟨q.toNat, by omega⟩
  have e : ((q.toNat : Nat) : Int) = q := by omega
  have k2 : ((q.toNat : Nat) : Int) * (((q.toNat : Nat) : Int) - 1) / 2 ≤ 465 := k1
  rw [e] at k2
  unfold qcel
  rw [if_pos h.2.1]
  omega
theorem qCaN_v {s t : Nat → Int} {st st0 : Int} {F : Int → Int → Int} (h : ∀ c : Nat, c < 496 → t c ≤ st0) (e : st = st0 + 1) : qCaN s t st F := by
  refine ⟨fun c hc => by have := h c hc; omega, fun p q h1 h2 h3 h4 => ?_⟩
  have h5 := qcel_le ⟨h1, h2, h3⟩
  have h6 := h (qcel p q).toNat (by omega)
  omega
theorem qcl_sym {a b c d t : Int} (ht : t ≤ 3) : qcl a b c d t = qcl c d a b t := by
  have h1 := qcl_c a b c d t
  have h2 := qcl_c c d a b t
  omega
theorem qnF_sy {σ α : Nat → Nat → Int} {κ : Nat → Option Nat} {ρ : Nat} (hI : qI σ α κ ρ) (h : Int) : ∀ p q : Int, (fun p q => qnF (qTb (α 24)) (α 28) (α 29) (α 31) (α 30) (α 33) (σ 27 6) (σ 27 7) p q h) p q = (fun p q => qnF (qTb (α 24)) (α 28) (α 29) (α 31) (α 30) (α 33) (σ 27 6) (σ 27 7) p q h) q p := by
  intro p q
  show qnk _ _ _ = qnk _ _ _
  refine qnk_eq _ (fun k hk => ⟨rfl, ?_⟩)
  have hn := hI.1 27 7
  have hn2 : σ 27 7 ≤ 40 := hn.2
  have hb := hI.2.1 31 k (show k < 40 by omega)
  have hb2 : α 31 k ≤ 3 := hb.2
  exact qcl_sym hb2
theorem qhB_sy (kd gv fr un : Nat → Int) (cov : Nat → Int → Int) (ln : Int → Int → Int) (h : Int) (n : Nat) : ∀ p q : Int, (fun p q => qbs (qhF kd gv fr un cov ln p q h) n) p q = (fun p q => qbs (qhF kd gv fr un cov ln p q h) n) q p := by
  intro p q
  exact qbs_eq n (fun k _ => qho_sym _ _ _ _ _ _ _ _ _ _ _)
theorem qhd_of {a b v v1 v2 : Int} (hv : -9223372036854775808 ≤ v ∧ v ≤ 9223372036854775807) (ha : v1 = a) (e1 : ql v2 = ql (ql_xor b (-1))) (e2 : ql v = ql (ql_and v1 v2)) : v = ql_and a (ql_xor b (-1)) := by
  have h1 := ql_val e2 hv (ql_and_r _ _)
  rw [h1, ha]
  unfold ql_and
  rw [e1]

set_option maxHeartbeats 4000000 in
set_option maxRecDepth 20000 in
/-- OneRoof$Moment.cell -/
theorem sf_93x {L : Nat} {xs : Nat → Int} {vb : Bool} {d : Nat} {σ α : Nat → Nat → Int} {κ : Nat → Option Nat} {ρ : Nat} {x0 : Int} {x1 : Int} (hI : qI σ α κ ρ) (r0 : 0 ≤ x0 ∧ x0 ≤ 31) (r1 : 0 ≤ x1 ∧ x1 ≤ 31) (p0 : ¬ x0 = x1) : qm_T (qe L xs vb) (d + 2) 93 [.int (qz x0), .int (qz x1)] (qw σ α κ ρ) (fun r w' => w' = qw σ α κ ρ ∧ ∃ v : Int, r = some (.int (qz v)) ∧ (0 ≤ v ∧ v ≤ 495) ∧ v = qcel x0 x1) := by
  refine qr_start (d := d + 1) qv_e93 (Nat.le_of_ble_eq_true rfl) ?_
  show qr_W (qe L xs vb) (d + 1) qx_e93 _ (0, [(0, .int (qz x0)), (1, .int (qz x1))], [], _, 0, 0)
  refine qr_iload_n 1 rfl rfl rfl ?_
  refine qr_iload_n 2 rfl rfl rfl ?_
  refine qr_callN 5 rfl rfl rfl (sf_12 (d := d + 0) hI (qrg r0 (by decide) (by decide)) (qrg r1 (by decide) (by decide))) ?_
  rintro _ _ ⟨rfl, v1, rfl, hv1, hp2⟩
  show qr_W (qe L xs vb) (d + 1) qx_e93 _ (5, _, [.int (qz v1)], qw σ α κ ρ, 0, 0)
  refine qr_istore_n _ 6 rfl (by decide) rfl rfl ?_
  refine qr_iload_n 7 rfl rfl rfl ?_
  refine qr_iload_n 8 rfl rfl rfl ?_
  refine qr_callN 11 rfl rfl rfl (sf_30 (d := d + 0) hI (qrg r0 (by decide) (by decide)) (qrg r1 (by decide) (by decide))) ?_
  rintro _ _ ⟨rfl, v3, rfl, hv3, hp4⟩
  show qr_W (qe L xs vb) (d + 1) qx_e93 _ (11, _, [.int (qz v3)], qw σ α κ ρ, 0, 0)
  refine qr_istore_n _ 12 rfl (by decide) rfl rfl ?_
  refine qr_iload_n 13 rfl rfl rfl ?_
  refine qr_iload_n 14 rfl rfl rfl ?_
  refine qr_iconst 15 rfl rfl ?_
  refine qr_isub 16 rfl rfl ?_
  refine qr_imul 17 rfl rfl ?_
  refine qy_mulE (A := 31) (B := 30) (C := 930) (by omega) (by omega) (by decide) (fun v5 hv5 hmv5 => ?_)
  refine qr_iconst 18 rfl rfl ?_
  refine qr_idiv 19 rfl (by omega) (by decide) rfl ?_
  refine qr_iload_n 20 rfl rfl rfl ?_
  refine qr_iadd 21 rfl rfl ?_
  refine qr_retI rfl rfl (by decide) (by decide) ?_
  exact ⟨rfl, ((v5 / 2) + v1), rfl, (by omega), (qcel_of (by omega) (by omega) (by omega) hmv5)⟩

set_option maxHeartbeats 4000000 in
set_option maxRecDepth 20000 in
/-- OneRoof$Moment.nearKey -/
theorem sf_92_58x {L : Nat} {xs : Nat → Int} {vb : Bool} {d : Nat} {σ α : Nat → Nat → Int} {κ : Nat → Option Nat} {ρ : Nat} {x1 : Int} {x2 : Int} (hI : qI σ α κ ρ) (r1 : 0 ≤ x1 ∧ x1 ≤ 31) (r2 : 0 ≤ x2 ∧ x2 ≤ 31) (p0 : ¬ x1 = x2) (p1 : qCaN (α 60) (α 61) (σ 58 12) (fun p q => qnF (qTb (α 24)) (α 28) (α 29) (α 31) (α 30) (α 33) (σ 27 6) (σ 27 7) p q (σ 58 11))) : qm_T (qe L xs vb) (d + 3) 92 [.ref 58, .int (qz x1), .int (qz x2)] (qw σ α κ ρ) (fun r w' => ∃ α', w' = qw σ α' κ ρ ∧ qI σ α' κ ρ ∧ qFr [] [60, 61] σ α σ α' ∧ ∃ v : Int, r = some (.int (qz v)) ∧ (0 ≤ v ∧ v ≤ 576) ∧ v = qnF (qTb (α 24)) (α 28) (α 29) (α 31) (α 30) (α 33) (σ 27 6) (σ 27 7) x1 x2 (σ 58 11) ∧ qCaN (α' 60) (α' 61) (σ 58 12) (fun p q => qnF (qTb (α 24)) (α 28) (α 29) (α 31) (α 30) (α 33) (σ 27 6) (σ 27 7) p q (σ 58 11))) := by
  refine qr_start (d := d + 2) qv_e92 (Nat.le_of_ble_eq_true rfl) ?_
  show qr_W (qe L xs vb) (d + 2) qx_e92 _ (0, [(0, .ref 58), (1, .int (qz x1)), (2, .int (qz x2))], [], _, 0, 0)
  have hF0 := qFr_rf [] [60, 61] σ α
  have hz58_12 : (-2147483648) ≤ σ 58 12 ∧ σ 58 12 ≤ 2147483647 := hI.1 58 12
  have hz27_6 : (-9223372036854775808) ≤ σ 27 6 ∧ σ 27 6 ≤ 9223372036854775807 := hI.1 27 6
  have hz27_7 : 0 ≤ σ 27 7 ∧ σ 27 7 ≤ 40 := hI.1 27 7
  have hz58_11 : (-2147483648) ≤ σ 58 11 ∧ σ 58 11 ≤ 2147483647 := hI.1 58 11
  refine qr_iload_n 1 rfl rfl rfl ?_
  refine qr_iload_n 2 rfl rfl rfl ?_
  refine qr_callN 5 rfl rfl rfl (sf_93x (d := d + 0) hI r1 r2 (by omega)) ?_
  rintro _ _ ⟨rfl, v1, rfl, hv1, hp2⟩
  show qr_W (qe L xs vb) (d + 2) qx_e92 _ (5, _, [.int (qz v1)], qw σ α κ ρ, 0, 0)
  refine qr_istore_n _ 6 rfl (by decide) rfl rfl ?_
  refine qr_aload_n 7 rfl rfl rfl ?_
  refine qr_get 10 rfl rfl rfl (by decide) rfl ?_
  refine qr_iload_n 11 rfl rfl rfl ?_
  refine qr_iaload 12 rfl rfl (qrgi hv1 (by decide) (by decide)) (by decide) rfl ?_
  refine qr_topI (fun v3 hv3 => ?_)
  have hs4 : (-2147483648) ≤ v3 ∧ v3 ≤ 2147483647 := by rw [hv3]; exact hI.2.1 61 _ (show _ < 496 from qrgt hv1 (by decide) (by decide))
  have hrv3 : v3 = (α 61) (v1 : Int).toNat := hv3
  refine qr_aload_n 13 rfl rfl rfl ?_
  refine qr_get 16 rfl rfl rfl (by decide) rfl ?_
  refine qr_icmp_eq 52 19 rfl rfl rfl hs4 hz58_12 (fun h5 => ?_) (fun h5 => ?_)
  · skip
    refine qr_aload_n 53 rfl rfl rfl ?_
    refine qr_get 56 rfl rfl rfl (by decide) rfl ?_
    refine qr_iload_n 57 rfl rfl rfl ?_
    refine qr_iaload 58 rfl rfl (qrgi hv1 (by decide) (by decide)) (by decide) rfl ?_
    refine qr_topI (fun v6 hv6 => ?_)
    have hs7 : 0 ≤ v6 ∧ v6 ≤ 576 := by rw [hv6]; exact hI.2.1 60 _ (show _ < 496 from qrgt hv1 (by decide) (by decide))
    have hrv6 : v6 = (α 60) (v1 : Int).toNat := hv6
    refine qr_retI rfl rfl (by decide) (by decide) ?_
    exact ⟨_, rfl, hI, hF0, v6, rfl, hs7, (by rw [hv6, hp2]; exact qCaN_g p1 (qnF_sy hI (σ 58 11)) (by omega) (by omega) (by omega) (by rw [← hp2, ← hv3]; omega)), p1⟩
  · skip
    refine qr_aload_n 20 rfl rfl rfl ?_
    refine qr_get 23 rfl rfl rfl (by decide) rfl ?_
    refine qr_iload_n 24 rfl rfl rfl ?_
    refine qr_aload_n 25 rfl rfl rfl ?_
    refine qr_get 28 rfl rfl rfl (by decide) rfl ?_
    refine qr_iastore 29 rfl (by decide) rfl (qrgi hv1 (by decide) (by decide)) (by decide) rfl ?_
    refine qy_wA (qw_r α 61 (qzu (α 61) (v1 : Int).toNat (σ 58 12))) rfl (fun α8 e9 => ?_)
    have hI10 : qI σ α8 κ ρ := by rw [e9]; exact qI_r hI 61 _ rfl (show (-2147483648) ≤ (σ 58 12) ∧ (σ 58 12) ≤ 2147483647 by omega)
    have hF11 : qFr [] [60, 61] σ α σ α8 := by rw [e9]; exact qFr_r hF0 61 _ (by decide)
    refine qr_aload_n 30 rfl rfl rfl ?_
    refine qr_get 33 rfl rfl rfl (by decide) rfl ?_
    refine qr_iload_n 34 rfl rfl rfl ?_
    refine qr_aload_n 35 rfl rfl rfl ?_
    refine qr_get 38 rfl rfl rfl (by decide) rfl ?_
    refine qr_iload_n 39 rfl rfl rfl ?_
    refine qr_iload_n 40 rfl rfl rfl ?_
    refine qr_aload_n 41 rfl rfl rfl ?_
    refine qr_get 44 rfl rfl rfl (by decide) rfl ?_
    refine qr_aload_n 45 rfl rfl rfl ?_
    refine qr_get 48 rfl rfl rfl (by decide) rfl ?_
    refine qr_callN 51 rfl rfl rfl (sf_66_27_23x (d := d + 0) hI10 r1 r2 hz58_11) ?_
    have hs14 : (-9223372036854775808) ≤ σ 27 6 ∧ σ 27 6 ≤ 9223372036854775807 := hI10.1 27 6
    have hs15 : 0 ≤ σ 27 7 ∧ σ 27 7 ≤ 40 := hI10.1 27 7
    rintro _ _ ⟨rfl, v12, rfl, hv12, hp13⟩
    rw [hF11.2 24 (by decide), hF11.2 28 (by decide), hF11.2 29 (by decide), hF11.2 30 (by decide), hF11.2 31 (by decide), hF11.2 33 (by decide)] at hp13
    show qr_W (qe L xs vb) (d + 2) qx_e92 _ (51, _, [.int (qz v12), .int (qz v1), .ref 60], qw σ α8 κ ρ, 0, 0)
    refine qr_iastore 52 rfl (by decide) rfl (qrgi hv1 (by decide) (by decide)) (by decide) rfl ?_
    refine qy_wA (qw_r α8 60 (qzu (α8 60) (v1 : Int).toNat v12)) rfl (fun α16 e17 => ?_)
    have hI18 : qI σ α16 κ ρ := by rw [e17]; exact qI_r hI10 60 _ rfl (show 0 ≤ v12 ∧ v12 ≤ 576 by omega)
    have hF19 : qFr [] [60, 61] σ α σ α16 := by rw [e17]; exact qFr_r hF11 60 _ (by decide)
    refine qr_aload_n 53 rfl rfl rfl ?_
    refine qr_get 56 rfl rfl rfl (by decide) rfl ?_
    refine qr_iload_n 57 rfl rfl rfl ?_
    refine qr_iaload 58 rfl rfl (qrgi hv1 (by decide) (by decide)) (by decide) rfl ?_
    refine qr_topI (fun v20 hv20 => ?_)
    have hs21 : 0 ≤ v20 ∧ v20 ≤ 576 := by rw [hv20]; exact hI18.2.1 60 _ (show _ < 496 from qrgt hv1 (by decide) (by decide))
    have hrv20 : v20 = (qzu (α 60) (v1 : Int).toNat v12) (v1 : Int).toNat := hv20.trans (congrFun ((congrFun e17 60).trans (qw_r_eq.trans (congrArg (fun f => qzu f (v1 : Int).toNat v12) ((congrFun e9 60).trans ((qw_r_ne (by decide)).trans rfl))))) _)
    refine qr_retI rfl rfl (by decide) (by decide) ?_
    exact ⟨_, rfl, hI18, hF19, v20, rfl, hs21, (by rw [hv20]; exact (congrFun ((congrFun e17 60).trans (qw_r_eq.trans (congrArg (fun f => qzu f (v1 : Int).toNat v12) ((congrFun e9 60).trans ((qw_r_ne (by decide)).trans rfl))))) _).trans ((qzu_at _ _ _).trans hp13)), (by rw [((congrFun e17 60).trans (qw_r_eq.trans (congrArg (fun f => qzu f (v1 : Int).toNat v12) ((congrFun e9 60).trans ((qw_r_ne (by decide)).trans rfl))))), ((congrFun e17 61).trans ((qw_r_ne (by decide)).trans ((congrFun e9 61).trans (qw_r_eq.trans (congrArg (fun f => qzu f (v1 : Int).toNat (σ 58 12)) rfl))))), hp2]; exact qCaN_u p1 (qnF_sy hI (σ 58 11)) (by omega) (by omega) (by omega) hp13)⟩

set_option maxHeartbeats 4000000 in
set_option maxRecDepth 20000 in
/-- OneRoof$Moment.held -/
theorem sf_94_58x {L : Nat} {xs : Nat → Int} {vb : Bool} {d : Nat} {σ α : Nat → Nat → Int} {κ : Nat → Option Nat} {ρ : Nat} {x1 : Int} {x2 : Int} (hI : qI σ α κ ρ) (r1 : 0 ≤ x1 ∧ x1 ≤ 31) (r2 : 0 ≤ x2 ∧ x2 ≤ 31) (p0 : ¬ x1 = x2) (p1 : qCaN (α 62) (α 63) (σ 58 12) (fun p q => qbs (qhF (α 35) (α 36) (α 37) (α 40) (qcv (α 41)) (qlw (α 22)) p q (σ 58 11)) (σ 34 7 : Int).toNat)) (p2 : qZp σ α) : qm_T (qe L xs vb) (d + 3) 94 [.ref 58, .int (qz x1), .int (qz x2)] (qw σ α κ ρ) (fun r w' => ∃ α', w' = qw σ α' κ ρ ∧ qI σ α' κ ρ ∧ qFr [] [62, 63] σ α σ α' ∧ ∃ v : Int, r = some (.long (ql v)) ∧ ((-9223372036854775808) ≤ v ∧ v ≤ 9223372036854775807) ∧ v = ql_and (qbs (qhF (α 35) (α 36) (α 37) (α 40) (qcv (α 41)) (qlw (α 22)) x1 x2 (σ 58 11)) (σ 34 7 : Int).toNat) (ql_xor (σ 58 10) (-1)) ∧ qCaN (α' 62) (α' 63) (σ 58 12) (fun p q => qbs (qhF (α 35) (α 36) (α 37) (α 40) (qcv (α 41)) (qlw (α 22)) p q (σ 58 11)) (σ 34 7 : Int).toNat)) := by
  refine qr_start (d := d + 2) qv_e94 (Nat.le_of_ble_eq_true rfl) ?_
  show qr_W (qe L xs vb) (d + 2) qx_e94 _ (0, [(0, .ref 58), (1, .int (qz x1)), (2, .int (qz x2))], [], _, 0, 0)
  have hF0 := qFr_rf [] [62, 63] σ α
  have hz58_12 : (-2147483648) ≤ σ 58 12 ∧ σ 58 12 ≤ 2147483647 := hI.1 58 12
  have hz58_11 : (-2147483648) ≤ σ 58 11 ∧ σ 58 11 ≤ 2147483647 := hI.1 58 11
  have hz34_7 : 0 ≤ σ 34 7 ∧ σ 34 7 ≤ 60 := hI.1 34 7
  have hz58_10 : (-9223372036854775808) ≤ σ 58 10 ∧ σ 58 10 ≤ 9223372036854775807 := hI.1 58 10
  refine qr_iload_n 1 rfl rfl rfl ?_
  refine qr_iload_n 2 rfl rfl rfl ?_
  refine qr_callN 5 rfl rfl rfl (sf_93x (d := d + 0) hI r1 r2 (by omega)) ?_
  rintro _ _ ⟨rfl, v1, rfl, hv1, hp2⟩
  show qr_W (qe L xs vb) (d + 2) qx_e94 _ (5, _, [.int (qz v1)], qw σ α κ ρ, 0, 0)
  refine qr_istore_n _ 6 rfl (by decide) rfl rfl ?_
  refine qr_aload_n 7 rfl rfl rfl ?_
  refine qr_get 10 rfl rfl rfl (by decide) rfl ?_
  refine qr_iload_n 11 rfl rfl rfl ?_
  refine qr_iaload 12 rfl rfl (qrgi hv1 (by decide) (by decide)) (by decide) rfl ?_
  refine qr_topI (fun v3 hv3 => ?_)
  have hs4 : (-2147483648) ≤ v3 ∧ v3 ≤ 2147483647 := by rw [hv3]; exact hI.2.1 63 _ (show _ < 496 from qrgt hv1 (by decide) (by decide))
  have hrv3 : v3 = (α 63) (v1 : Int).toNat := hv3
  refine qr_aload_n 13 rfl rfl rfl ?_
  refine qr_get 16 rfl rfl rfl (by decide) rfl ?_
  refine qr_icmp_eq 52 19 rfl rfl rfl hs4 hz58_12 (fun h5 => ?_) (fun h5 => ?_)
  · skip
    refine qr_aload_n 53 rfl rfl rfl ?_
    refine qr_get 56 rfl rfl rfl (by decide) rfl ?_
    refine qr_iload_n 57 rfl rfl rfl ?_
    refine qr_laload 58 rfl (by decide) rfl (qrgi hv1 (by decide) (by decide)) (by decide) rfl ?_
    refine qr_topL (fun v6 hv6 => ?_)
    have hs7 : (-9223372036854775808) ≤ v6 ∧ v6 ≤ 9223372036854775807 := by rw [hv6]; exact hI.2.1 62 _ (show _ < 496 from qrgt hv1 (by decide) (by decide))
    have hrv6 : v6 = (α 62) (v1 : Int).toNat := hv6
    refine qr_aload_n 59 rfl rfl rfl ?_
    refine qr_get 62 rfl rfl rfl (by decide) rfl ?_
    refine qr_ldc2 (-1) 65 rfl (by decide) rfl ?_
    refine qr_lxor 66 rfl rfl ?_
    refine qy_canlE (fun v8 hv8 hev8 => ?_)
    refine qr_land 67 rfl rfl ?_
    refine qy_canlE (fun v9 hv9 hev9 => ?_)
    refine qr_retL rfl rfl (by decide) (by decide) ?_
    exact ⟨_, rfl, hI, hF0, v9, rfl, hv9, (qhd_of (by omega) (by rw [hv6, hp2]; exact qCaN_g p1 (qhB_sy _ _ _ _ _ _ _ _) (by omega) (by omega) (by omega) (by rw [← hp2, ← hv3]; omega)) hev8 hev9), p1⟩
  · skip
    refine qr_aload_n 20 rfl rfl rfl ?_
    refine qr_get 23 rfl rfl rfl (by decide) rfl ?_
    refine qr_iload_n 24 rfl rfl rfl ?_
    refine qr_aload_n 25 rfl rfl rfl ?_
    refine qr_get 28 rfl rfl rfl (by decide) rfl ?_
    refine qr_iastore 29 rfl (by decide) rfl (qrgi hv1 (by decide) (by decide)) (by decide) rfl ?_
    refine qy_wA (qw_r α 63 (qzu (α 63) (v1 : Int).toNat (σ 58 12))) rfl (fun α10 e11 => ?_)
    have hI12 : qI σ α10 κ ρ := by rw [e11]; exact qI_r hI 63 _ rfl (show (-2147483648) ≤ (σ 58 12) ∧ (σ 58 12) ≤ 2147483647 by omega)
    have hF13 : qFr [] [62, 63] σ α σ α10 := by rw [e11]; exact qFr_r hF0 63 _ (by decide)
    refine qr_aload_n 30 rfl rfl rfl ?_
    refine qr_get 33 rfl rfl rfl (by decide) rfl ?_
    refine qr_iload_n 34 rfl rfl rfl ?_
    refine qr_aload_n 35 rfl rfl rfl ?_
    refine qr_get 38 rfl rfl rfl (by decide) rfl ?_
    refine qr_iload_n 39 rfl rfl rfl ?_
    refine qr_iload_n 40 rfl rfl rfl ?_
    refine qr_aload_n 41 rfl rfl rfl ?_
    refine qr_get 44 rfl rfl rfl (by decide) rfl ?_
    refine qr_aload_n 45 rfl rfl rfl ?_
    refine qr_get 48 rfl rfl rfl (by decide) rfl ?_
    refine qr_callN 51 rfl rfl rfl (sf_80_34_17x (d := d + 0) hI12 r1 r2 hz58_11 (by omega) (qZp_fr hF13 (by decide) (by decide) p2)) ?_
    have hs16 : 0 ≤ σ 34 7 ∧ σ 34 7 ≤ 60 := hI12.1 34 7
    rintro _ _ ⟨rfl, v14, rfl, hv14, hp15⟩
    rw [hF13.2 22 (by decide), hF13.2 35 (by decide), hF13.2 36 (by decide), hF13.2 37 (by decide), hF13.2 40 (by decide), hF13.2 41 (by decide)] at hp15
    show qr_W (qe L xs vb) (d + 2) qx_e94 _ (51, _, [.long (ql v14), .int (qz v1), .ref 62], qw σ α10 κ ρ, 0, 0)
    refine qr_lastore 52 rfl (by decide) rfl (qrgi hv1 (by decide) (by decide)) (by decide) rfl ?_
    refine qy_wA (qw_r α10 62 (qzu (α10 62) (v1 : Int).toNat v14)) rfl (fun α17 e18 => ?_)
    have hI19 : qI σ α17 κ ρ := by rw [e18]; exact qI_r hI12 62 _ rfl (show (-9223372036854775808) ≤ v14 ∧ v14 ≤ 9223372036854775807 by omega)
    have hF20 : qFr [] [62, 63] σ α σ α17 := by rw [e18]; exact qFr_r hF13 62 _ (by decide)
    refine qr_aload_n 53 rfl rfl rfl ?_
    refine qr_get 56 rfl rfl rfl (by decide) rfl ?_
    refine qr_iload_n 57 rfl rfl rfl ?_
    refine qr_laload 58 rfl (by decide) rfl (qrgi hv1 (by decide) (by decide)) (by decide) rfl ?_
    refine qr_topL (fun v21 hv21 => ?_)
    have hs22 : (-9223372036854775808) ≤ v21 ∧ v21 ≤ 9223372036854775807 := by rw [hv21]; exact hI19.2.1 62 _ (show _ < 496 from qrgt hv1 (by decide) (by decide))
    have hrv21 : v21 = (qzu (α 62) (v1 : Int).toNat v14) (v1 : Int).toNat := hv21.trans (congrFun ((congrFun e18 62).trans (qw_r_eq.trans (congrArg (fun f => qzu f (v1 : Int).toNat v14) ((congrFun e11 62).trans ((qw_r_ne (by decide)).trans rfl))))) _)
    refine qr_aload_n 59 rfl rfl rfl ?_
    refine qr_get 62 rfl rfl rfl (by decide) rfl ?_
    refine qr_ldc2 (-1) 65 rfl (by decide) rfl ?_
    refine qr_lxor 66 rfl rfl ?_
    refine qy_canlE (fun v23 hv23 hev23 => ?_)
    refine qr_land 67 rfl rfl ?_
    refine qy_canlE (fun v24 hv24 hev24 => ?_)
    refine qr_retL rfl rfl (by decide) (by decide) ?_
    exact ⟨_, rfl, hI19, hF20, v24, rfl, hv24, (qhd_of (by omega) (by rw [hv21]; exact (congrFun ((congrFun e18 62).trans (qw_r_eq.trans (congrArg (fun f => qzu f (v1 : Int).toNat v14) ((congrFun e11 62).trans ((qw_r_ne (by decide)).trans rfl))))) _).trans ((qzu_at _ _ _).trans hp15)) hev23 hev24), (by rw [((congrFun e18 62).trans (qw_r_eq.trans (congrArg (fun f => qzu f (v1 : Int).toNat v14) ((congrFun e11 62).trans ((qw_r_ne (by decide)).trans rfl))))), ((congrFun e18 63).trans ((qw_r_ne (by decide)).trans ((congrFun e11 63).trans (qw_r_eq.trans (congrArg (fun f => qzu f (v1 : Int).toNat (σ 58 12)) rfl))))), hp2]; exact qCaN_u p1 (qhB_sy _ _ _ _ _ _ _ _) (by omega) (by omega) (by omega) hp15)⟩
end
