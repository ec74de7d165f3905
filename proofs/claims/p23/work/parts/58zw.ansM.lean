section
/-- the best of all below b: the greatest by c, of like ones the first; -1: none -/
def qmB (D : Int → Prop) (c : Int → Int) (b w : Int) : Prop := (w = -1 ∧ ∀ u : Int, 0 ≤ u → u < b → ¬ D u) ∨ ((0 ≤ w ∧ w < b) ∧ D w ∧ ∀ u : Int, 0 ≤ u → u < b → D u → c u ≤ c w ∧ (u < w → c u < c w))
theorem qmB_0 (D : Int → Prop) (c : Int → Int) : qmB D c 0 (-1) := Or.inl ⟨rfl, fun u a b => absurd b (by omega)⟩
theorem qmB_no {D : Int → Prop} {c : Int → Int} {b w : Int} (hn : ¬ D b) (h : qmB D c b w) : qmB D c (b + 1) w := by
  rcases h with ⟨h1, h2⟩ | ⟨h1, h2, h3⟩
  · refine Or.inl ⟨h1, fun u a k => ?_⟩
    by_cases e : u = b
    · rw [e]; exact hn
    · exact h2 u a (by omega)
  · refine Or.inr ⟨by omega, h2, fun u a k hd => ?_⟩
    by_cases e : u = b
    · rw [e] at hd; exact absurd hd hn
    · exact h3 u a (by omega) hd
theorem qmB_lo {D : Int → Prop} {c : Int → Int} {b w : Int} (hw : 0 ≤ w) (hc : c b ≤ c w) (h : qmB D c b w) : qmB D c (b + 1) w := by
  rcases h with ⟨h1, h2⟩ | ⟨h1, h2, h3⟩
  · omega
  · refine Or.inr ⟨by omega, h2, fun u a k hd => ?_⟩
    by_cases e : u = b
    · rw [e]; exact ⟨hc, fun z => by omega⟩
    · exact h3 u a (by omega) hd
theorem qmB_hi {D : Int → Prop} {c : Int → Int} {b w : Int} (hb : 0 ≤ b) (hD : D b) (hc : w = -1 ∨ c w < c b) (h : qmB D c b w) : qmB D c (b + 1) b := by
  refine Or.inr ⟨by omega, hD, fun u a k hd => ?_⟩
  by_cases e : u = b
  · rw [e]; exact ⟨Int.le_refl _, fun z => by omega⟩
  · rcases h with ⟨h1, h2⟩ | ⟨h1, h2, h3⟩
    · exact absurd hd (h2 u a (by omega))
    · have h4 := (h3 u a (by omega) hd).1
      rcases hc with hc | hc
      · omega
      · exact ⟨by omega, fun _ => by omega⟩
theorem qmB_un {D D' : Int → Prop} {c c' : Int → Int} {b w w' : Int} (e : ∀ u : Int, 0 ≤ u → u < b → (D u ↔ D' u)) (e2 : ∀ u : Int, 0 ≤ u → u < b → c u = c' u) (h : qmB D c b w) (g : qmB D' c' b w') : w = w' := by
  rcases h with ⟨h1, h2⟩ | ⟨h1, h2, h3⟩
  · rcases g with ⟨g1, g2⟩ | ⟨g1, g2, g3⟩
    · omega
    · exact absurd ((e w' g1.1 g1.2).mpr g2) (h2 w' g1.1 g1.2)
  · rcases g with ⟨g1, g2⟩ | ⟨g1, g2, g3⟩
    · exact absurd ((e w h1.1 h1.2).mp h2) (g2 w h1.1 h1.2)
    · have a := h3 w' g1.1 g1.2 ((e w' g1.1 g1.2).mpr g2)
      have b' := g3 w h1.1 h1.2 ((e w h1.1 h1.2).mp h2)
      rw [← e2 w h1.1 h1.2, ← e2 w' g1.1 g1.2] at b'
      by_cases x : w < w'
      · have := b'.2 x; omega
      · by_cases y : w' < w
        · have := a.2 y; omega
        · omega
/-- rows of bits: who bars whom -/
def qBR (P : Int → Int → Prop) (r : Nat → Int) (n : Int) : Prop := ∀ a b : Int, 0 ≤ a → a < n → 0 ≤ b → b < 32 → (qbi (r a.toNat) b = 1 ↔ P a b)
theorem qBR_cg {P P' : Int → Int → Prop} {r : Nat → Int} {n : Int} (h : qBR P r n) (e : ∀ a b : Int, 0 ≤ a → a < n → 0 ≤ b → b < 32 → (P a b ↔ P' a b)) : qBR P' r n := fun a b a0 an b0 b32 => (h a b a0 an b0 b32).trans (e a b a0 an b0 b32)
theorem qBR_u {P : Int → Int → Prop} {r r' : Nat → Int} {n I J v1 v2 : Int} (h : qBR P r n) (hI : 0 ≤ I ∧ I < 32) (hJ : 0 ≤ J ∧ J < 32) (hne : ¬ I = J) (e : r' = qzu (qzu r I.toNat v1) J.toNat v2) (e1 : v1 = qz_or (r I.toNat) (qz_shl 1 J)) (e2 : v2 = qz_or (r J.toNat) (qz_shl 1 I)) : qBR (fun a b => P a b ∨ (a = I ∧ b = J) ∨ (a = J ∧ b = I)) r' n := by
  intro a b a0 an b0 b32
  have h1 := h a b a0 an b0 b32
  have ea : r' a.toNat = if a.toNat = J.toNat then v2 else if a.toNat = I.toNat then v1 else r a.toNat := by
    rw [e]
    rfl
  show qbi (r' a.toNat) b = 1 ↔ (P a b ∨ (a = I ∧ b = J) ∨ (a = J ∧ b = I))
  rw [ea, ← h1]
  by_cases cJ : a = J
  · rw [if_pos (by rw [cJ]), e2, qbi_or, qbi_shl hI b0, cJ]
    by_cases cb : b = I
    · rw [if_pos cb, if_pos (Or.inr rfl)]
      exact ⟨fun _ => Or.inr (Or.inr ⟨rfl, cb⟩), fun _ => rfl⟩
    · rw [if_neg cb]
      by_cases d : qbi (r J.toNat) b = 1
      · rw [if_pos (Or.inl d)]
        exact ⟨fun _ => Or.inl d, fun _ => rfl⟩
      · rw [if_neg (fun z => z.elim d (fun y => absurd y (by decide)))]
        exact ⟨fun z => absurd z (by decide), fun z => z.elim (fun y => absurd y d) (fun y => y.elim (fun x => absurd x.1.symm hne) (fun x => absurd x.2 cb))⟩
  · rw [if_neg (by omega)]
    by_cases cI : a = I
    · rw [if_pos (by rw [cI]), e1, qbi_or, qbi_shl hJ b0, cI]
      by_cases cb : b = J
      · rw [if_pos cb, if_pos (Or.inr rfl)]
        exact ⟨fun _ => Or.inr (Or.inl ⟨rfl, cb⟩), fun _ => rfl⟩
      · rw [if_neg cb]
        by_cases d : qbi (r I.toNat) b = 1
        · rw [if_pos (Or.inl d)]
          exact ⟨fun _ => Or.inl d, fun _ => rfl⟩
        · rw [if_neg (fun z => z.elim d (fun y => absurd y (by decide)))]
          exact ⟨fun z => absurd z (by decide), fun z => z.elim (fun y => absurd y d) (fun y => y.elim (fun x => absurd x.2 cb) (fun x => absurd x.1 hne))⟩
    · rw [if_neg (by omega)]
      exact ⟨fun z => Or.inl z, fun z => z.elim id (fun y => y.elim (fun x => absurd x.1 cI) (fun x => absurd x.1 cJ))⟩
/-- at the end: all pairs -/
def qPF (B : Int → Int → Prop) (n a b : Int) : Prop := (a < b ∧ b < n ∧ B a b) ∨ (b < a ∧ a < n ∧ B b a)
/-- so far, as the class goes on: by the first of two, then the second -/
def qPC (B : Int → Int → Prop) (n I J a b : Int) : Prop := (a < b ∧ b < n ∧ (a < I ∨ (a = I ∧ b < J)) ∧ B a b) ∨ (b < a ∧ a < n ∧ (b < I ∨ (b = I ∧ a < J)) ∧ B b a)
theorem qPC_0 {B : Int → Int → Prop} {r : Nat → Int} {n m : Int} (h : ∀ j : Nat, (j : Int) < n → r j = 0) : qBR (qPC B m 0 0) r n := fun a b a0 an b0 b32 => by
  rw [h a.toNat (by omega), qbi_0]
  refine ⟨fun z => absurd z (by decide), fun z => ?_⟩
  rcases z with z | z <;> exact absurd z.2.2.1 (by omega)
theorem qPC_in {B : Int → Int → Prop} {r : Nat → Int} {n m I : Int} (h : qBR (qPC B m I 0) r n) : qBR (qPC B m I (I + 1)) r n := qBR_cg h (fun a b _ _ _ _ => by
  constructor
  · rintro (⟨h1, h2, h3, h4⟩ | ⟨h1, h2, h3, h4⟩)
    · exact Or.inl ⟨h1, h2, by omega, h4⟩
    · exact Or.inr ⟨h1, h2, by omega, h4⟩
  · rintro (⟨h1, h2, h3, h4⟩ | ⟨h1, h2, h3, h4⟩)
    · exact Or.inl ⟨h1, h2, by omega, h4⟩
    · exact Or.inr ⟨h1, h2, by omega, h4⟩)
theorem qPC_out {B : Int → Int → Prop} {r : Nat → Int} {n m I J : Int} (hJ : m ≤ J) (h : qBR (qPC B m I J) r n) : qBR (qPC B m (I + 1) 0) r n := qBR_cg h (fun a b a0 _ b0 _ => by
  constructor
  · rintro (⟨h1, h2, h3, h4⟩ | ⟨h1, h2, h3, h4⟩)
    · exact Or.inl ⟨h1, h2, by omega, h4⟩
    · exact Or.inr ⟨h1, h2, by omega, h4⟩
  · rintro (⟨h1, h2, h3, h4⟩ | ⟨h1, h2, h3, h4⟩)
    · exact Or.inl ⟨h1, h2, by omega, h4⟩
    · exact Or.inr ⟨h1, h2, by omega, h4⟩)
theorem qPC_no {B : Int → Int → Prop} {r : Nat → Int} {n m I J : Int} (hn : ¬ B I J) (h : qBR (qPC B m I J) r n) : qBR (qPC B m I (J + 1)) r n := qBR_cg h (fun a b _ _ _ _ => by
  constructor
  · rintro (⟨h1, h2, h3, h4⟩ | ⟨h1, h2, h3, h4⟩)
    · exact Or.inl ⟨h1, h2, by omega, h4⟩
    · exact Or.inr ⟨h1, h2, by omega, h4⟩
  · rintro (⟨h1, h2, h3, h4⟩ | ⟨h1, h2, h3, h4⟩)
    · by_cases c : a = I ∧ b = J
      · rw [c.1, c.2] at h4
        exact absurd h4 hn
      · exact Or.inl ⟨h1, h2, by omega, h4⟩
    · by_cases c : b = I ∧ a = J
      · rw [c.1, c.2] at h4
        exact absurd h4 hn
      · exact Or.inr ⟨h1, h2, by omega, h4⟩)
theorem qPC_y {B : Int → Int → Prop} {r r' : Nat → Int} {n m I J v1 v2 : Int} (hB : B I J) (hI : 0 ≤ I ∧ I < 32) (hJ : I < J ∧ J < 32 ∧ J < m) (e : r' = qzu (qzu r I.toNat v1) J.toNat v2) (e1 : v1 = qz_or (r I.toNat) (qz_shl 1 J)) (e2 : v2 = qz_or (r J.toNat) (qz_shl 1 I)) (h : qBR (qPC B m I J) r n) : qBR (qPC B m I (J + 1)) r' n := qBR_cg (qBR_u h hI (by omega) (by omega) e e1 e2) (fun a b _ _ _ _ => by
  constructor
  · rintro ((⟨h1, h2, h3, h4⟩ | ⟨h1, h2, h3, h4⟩) | ⟨h1, h2⟩ | ⟨h1, h2⟩)
    · exact Or.inl ⟨h1, h2, by omega, h4⟩
    · exact Or.inr ⟨h1, h2, by omega, h4⟩
    · rw [h1, h2]
      exact Or.inl ⟨hJ.1, hJ.2.2, Or.inr ⟨rfl, by omega⟩, hB⟩
    · rw [h1, h2]
      exact Or.inr ⟨hJ.1, hJ.2.2, Or.inr ⟨rfl, by omega⟩, hB⟩
  · rintro (⟨h1, h2, h3, h4⟩ | ⟨h1, h2, h3, h4⟩)
    · by_cases c : a = I ∧ b = J
      · exact Or.inr (Or.inl c)
      · exact Or.inl (Or.inl ⟨h1, h2, by omega, h4⟩)
    · by_cases c : b = I ∧ a = J
      · exact Or.inr (Or.inr ⟨c.2, c.1⟩)
      · exact Or.inl (Or.inr ⟨h1, h2, by omega, h4⟩))
theorem qPC_end {B : Int → Int → Prop} {r : Nat → Int} {n m I : Int} (hI : m ≤ I) (h : qBR (qPC B m I 0) r n) : qBR (qPF B m) r n := qBR_cg h (fun a b _ _ _ _ => by
  constructor
  · rintro (⟨h1, h2, h3, h4⟩ | ⟨h1, h2, h3, h4⟩)
    · exact Or.inl ⟨h1, h2, h4⟩
    · exact Or.inr ⟨h1, h2, h4⟩
  · rintro (⟨h1, h2, h4⟩ | ⟨h1, h2, h4⟩)
    · exact Or.inl ⟨h1, h2, by omega, h4⟩
    · exact Or.inr ⟨h1, h2, by omega, h4⟩)
/-- so far, as the reference goes on: by the second of two, then the first -/
def qPR (B : Int → Int → Prop) (I J a b : Int) : Prop := (a < b ∧ (b < I ∨ (b = I ∧ a < J)) ∧ B a b) ∨ (b < a ∧ (a < I ∨ (a = I ∧ b < J)) ∧ B b a)
theorem qPR_0 {B : Int → Int → Prop} {r : Nat → Int} {n : Int} (h : ∀ j : Nat, (j : Int) < n → r j = 0) : qBR (qPR B 0 0) r n := fun a b a0 an b0 b32 => by
  rw [h a.toNat (by omega), qbi_0]
  refine ⟨fun z => absurd z (by decide), fun z => ?_⟩
  rcases z with z | z <;> exact absurd z.2.1 (by omega)
theorem qPR_out {B : Int → Int → Prop} {r : Nat → Int} {n I J : Int} (hJ : I ≤ J) (h : qBR (qPR B I J) r n) : qBR (qPR B (I + 1) 0) r n := qBR_cg h (fun a b a0 _ b0 _ => by
  constructor
  · rintro (⟨h1, h3, h4⟩ | ⟨h1, h3, h4⟩)
    · exact Or.inl ⟨h1, by omega, h4⟩
    · exact Or.inr ⟨h1, by omega, h4⟩
  · rintro (⟨h1, h3, h4⟩ | ⟨h1, h3, h4⟩)
    · exact Or.inl ⟨h1, by omega, h4⟩
    · exact Or.inr ⟨h1, by omega, h4⟩)
theorem qPR_no {B : Int → Int → Prop} {r : Nat → Int} {n I J : Int} (hn : ¬ B J I) (h : qBR (qPR B I J) r n) : qBR (qPR B I (J + 1)) r n := qBR_cg h (fun a b _ _ _ _ => by
  constructor
  · rintro (⟨h1, h3, h4⟩ | ⟨h1, h3, h4⟩)
    · exact Or.inl ⟨h1, by omega, h4⟩
    · exact Or.inr ⟨h1, by omega, h4⟩
  · rintro (⟨h1, h3, h4⟩ | ⟨h1, h3, h4⟩)
    · by_cases c : b = I ∧ a = J
      · rw [c.1, c.2] at h4
        exact absurd h4 hn
      · exact Or.inl ⟨h1, by omega, h4⟩
    · by_cases c : a = I ∧ b = J
      · rw [c.1, c.2] at h4
        exact absurd h4 hn
      · exact Or.inr ⟨h1, by omega, h4⟩)
theorem qPR_y {B : Int → Int → Prop} {r r' : Nat → Int} {n I J v1 v2 : Int} (hB : B J I) (hJ : 0 ≤ J ∧ J < I ∧ I < 32) (e : r' = qzu (qzu r I.toNat v1) J.toNat v2) (e1 : v1 = qz_or (r I.toNat) (qz_shl 1 J)) (e2 : v2 = qz_or (r J.toNat) (qz_shl 1 I)) (h : qBR (qPR B I J) r n) : qBR (qPR B I (J + 1)) r' n := qBR_cg (qBR_u h (by omega) (by omega) (by omega) e e1 e2) (fun a b _ _ _ _ => by
  constructor
  · rintro ((⟨h1, h3, h4⟩ | ⟨h1, h3, h4⟩) | ⟨h1, h2⟩ | ⟨h1, h2⟩)
    · exact Or.inl ⟨h1, by omega, h4⟩
    · exact Or.inr ⟨h1, by omega, h4⟩
    · rw [h1, h2]
      exact Or.inr ⟨hJ.2.1, Or.inr ⟨rfl, by omega⟩, hB⟩
    · rw [h1, h2]
      exact Or.inl ⟨hJ.2.1, Or.inr ⟨rfl, by omega⟩, hB⟩
  · rintro (⟨h1, h3, h4⟩ | ⟨h1, h3, h4⟩)
    · by_cases c : b = I ∧ a = J
      · exact Or.inr (Or.inr ⟨c.2, c.1⟩)
      · exact Or.inl (Or.inl ⟨h1, by omega, h4⟩)
    · by_cases c : a = I ∧ b = J
      · exact Or.inr (Or.inl c)
      · exact Or.inl (Or.inr ⟨h1, by omega, h4⟩))
theorem qPR_end {B : Int → Int → Prop} {r : Nat → Int} {n I : Int} (hI : n ≤ I) (hI2 : I ≤ n) (h : qBR (qPR B I 0) r n) : qBR (qPF B n) r n := qBR_cg h (fun a b a0 an b0 _ => by
  constructor
  · rintro (⟨h1, h3, h4⟩ | ⟨h1, h3, h4⟩)
    · exact Or.inl ⟨h1, by omega, h4⟩
    · exact Or.inr ⟨h1, by omega, h4⟩
  · rintro (⟨h1, h2, h4⟩ | ⟨h1, h2, h4⟩)
    · exact Or.inl ⟨h1, by omega, h4⟩
    · exact Or.inr ⟨h1, by omega, h4⟩)
/-- two rows that say alike are alike -/
theorem qBR_un {B B' : Int → Int → Prop} {r r' : Nat → Int} {n : Int} (h32 : n ≤ 32) (e : ∀ a b : Int, 0 ≤ a → a < b → b < n → (B a b ↔ B' a b)) (hr : ∀ k : Nat, (k : Int) < n → -2147483648 ≤ r k ∧ r k ≤ 2147483647) (hr' : ∀ k : Nat, (k : Int) < n → -2147483648 ≤ r' k ∧ r' k ≤ 2147483647) (h : qBR (qPF B n) r n) (g : qBR (qPF B' n) r' n) : ∀ k : Nat, (k : Int) < n → r k = r' k := fun k hk => by
  refine qbi_ext (hr k hk) (hr' k hk) (fun i h0 h1 => ?_)
  have a1 := h (k : Int) i (by omega) hk h0 h1
  have a2 := g (k : Int) i (by omega) hk h0 h1
  rw [Int.toNat_natCast] at a1 a2
  have e1 : qPF B n (k : Int) i ↔ qPF B' n (k : Int) i := by
    constructor
    · rintro (⟨c1, c2, c3⟩ | ⟨c1, c2, c3⟩)
      · exact Or.inl ⟨c1, c2, (e _ _ (by omega) c1 c2).mp c3⟩
      · exact Or.inr ⟨c1, c2, (e _ _ h0 c1 c2).mp c3⟩
    · rintro (⟨c1, c2, c3⟩ | ⟨c1, c2, c3⟩)
      · exact Or.inl ⟨c1, c2, (e _ _ (by omega) c1 c2).mpr c3⟩
      · exact Or.inr ⟨c1, c2, (e _ _ h0 c1 c2).mpr c3⟩
  have b1 := qbi_r (r k) i
  have b2 := qbi_r (r' k) i
  have e2 : qbi (r k) i = 1 ↔ qbi (r' k) i = 1 := (a1.trans e1).trans a2.symm
  by_cases c : qbi (r k) i = 1
  · rw [c, e2.mp c]
  · have c2 : ¬ qbi (r' k) i = 1 := fun z => c (e2.mpr z)
    omega
theorem qBaC_fr {S : List (Nat × Nat)} {R : List Nat} {σ α σ' α' : Nat → Nat → Int} (hG : qFr S R σ α σ' α') (hs : [(17, 6), (27, 6), (27, 7), (34, 7)].all (fun x => !S.contains x) = true) (hr : [18, 20, 22, 24, 28, 29, 30, 31, 33, 35, 36, 37, 40, 41].all (fun x => !R.contains x) = true) : qBaC σ' α' = qBaC σ α := by
  have es : ∀ a k, (a, k) ∈ [(17, 6), (27, 6), (27, 7), (34, 7)] → σ' a k = σ a k := fun a k hm => hG.1 a k (fun hn => by
    have h1 := List.all_eq_true.mp hs (a, k) hm
    rw [List.contains_iff_mem.mpr hn] at h1
    exact absurd h1 (by decide))
  have er : ∀ a, a ∈ [18, 20, 22, 24, 28, 29, 30, 31, 33, 35, 36, 37, 40, 41] → α' a = α a := fun a hm => hG.2 a (fun hn => by
    have h1 := List.all_eq_true.mp hr a hm
    rw [List.contains_iff_mem.mpr hn] at h1
    exact absurd h1 (by decide))
  have e : ∀ h : Int, qNVc (qw_s σ' 58 11 h) α' = qNVc (qw_s σ 58 11 h) α := fun h => by
    have s1 : qw_s σ' 58 11 h 17 6 = qw_s σ 58 11 h 17 6 := es 17 6 (by decide)
    have s2 : qw_s σ' 58 11 h 27 6 = qw_s σ 58 11 h 27 6 := es 27 6 (by decide)
    have s3 : qw_s σ' 58 11 h 27 7 = qw_s σ 58 11 h 27 7 := es 27 7 (by decide)
    have s4 : qw_s σ' 58 11 h 34 7 = qw_s σ 58 11 h 34 7 := es 34 7 (by decide)
    have s5 : qw_s σ' 58 11 h 58 11 = qw_s σ 58 11 h 58 11 := rfl
    unfold qNVc
    rw [s1, s2, s3, s4, s5, er 18 (by decide), er 20 (by decide), er 22 (by decide), er 24 (by decide), er 28 (by decide), er 29 (by decide), er 30 (by decide), er 31 (by decide), er 33 (by decide), er 35 (by decide), er 36 (by decide), er 37 (by decide), er 40 (by decide), er 41 (by decide)]
  funext f p q a b
  unfold qBaC qMaC
  simp only [e]
theorem qNVr_f4 {S : List (Nat × Nat)} {R : List Nat} {σ α σ' α' : Nat → Nat → Int} (hG : qFr S R σ α σ' α') (hs : [(86, 6), (86, 11), (86, 16), (86, 22), (86, 24)].all (fun x => !S.contains x) = true) (hr : [87, 91, 94, 95, 97, 98, 99, 100, 102, 103, 104, 105].all (fun x => !R.contains x) = true) (h1 : σ' 86 41 = σ 86 41) : qNVr σ' α' = qNVr σ α := by
  have es : ∀ a k, (a, k) ∈ [(86, 6), (86, 11), (86, 16), (86, 22), (86, 24)] → σ' a k = σ a k := fun a k hm => hG.1 a k (fun hn => by
    have h1 := List.all_eq_true.mp hs (a, k) hm
    rw [List.contains_iff_mem.mpr hn] at h1
    exact absurd h1 (by decide))
  have er : ∀ a, a ∈ [87, 91, 94, 95, 97, 98, 99, 100, 102, 103, 104, 105] → α' a = α a := fun a hm => hG.2 a (fun hn => by
    have h1 := List.all_eq_true.mp hr a hm
    rw [List.contains_iff_mem.mpr hn] at h1
    exact absurd h1 (by decide))
  unfold qNVr
  rw [es 86 6 (by decide), es 86 11 (by decide), es 86 16 (by decide), es 86 22 (by decide), es 86 24 (by decide), er 87 (by decide), er 91 (by decide), er 94 (by decide), er 95 (by decide), er 97 (by decide), er 98 (by decide), er 99 (by decide), er 100 (by decide), er 102 (by decide), er 103 (by decide), er 104 (by decide), er 105 (by decide), h1]
theorem qBaM_f4 {S : List (Nat × Nat)} {R : List Nat} {σ α σ' α' : Nat → Nat → Int} (hG : qFr S R σ α σ' α') (hs : [(86, 6), (86, 11), (86, 16), (86, 22), (86, 24)].all (fun x => !S.contains x) = true) (hr : [87, 91, 94, 95, 97, 98, 99, 100, 102, 103, 104, 105].all (fun x => !R.contains x) = true) (h1 : σ' 86 41 = σ 86 41) : qBaM σ' α' = qBaM σ α := by
  funext g p q a b
  unfold qBaM qMaM
  rw [qNVr_f4 hG hs hr h1]
/-- a row of people: of m people, one behind the other -/
def qSr (r : Nat → Int) (n m : Int) : Prop := (∀ i : Nat, (i : Int) < n → 0 ≤ r i ∧ r i < m) ∧ ∀ i j : Nat, i < j → (j : Int) < n → r i < r j
theorem qBr_so {Q : Nat → Int} : ∀ (n : Nat), (∀ (i : Nat) (h : i < (qBr Q n).length), 0 ≤ (qBr Q n)[i] ∧ (qBr Q n)[i] < (n : Int)) ∧ ∀ (i j : Nat) (hij : i < j) (h : j < (qBr Q n).length), (qBr Q n)[i]'(by omega) < (qBr Q n)[j]
  | 0 => ⟨fun i h => absurd h (Nat.not_lt_zero i), fun i j _ h => absurd h (Nat.not_lt_zero j)⟩
  | n + 1 => by
    have ih := qBr_so (Q := Q) n
    by_cases c : Q n = 1
    · have e : qBr Q (n + 1) = qBr Q n ++ [(n : Int)] := if_pos c
      refine ⟨fun i h => ?_, fun i j hij h => ?_⟩
      · have h' : i < (qBr Q n ++ [(n : Int)]).length := by rw [← e]; exact h
        have e2 : (qBr Q (n + 1))[i] = (qBr Q n ++ [(n : Int)])[i]'h' := by simp only [e]
        rw [e2, List.getElem_append]
        split
        · next hl => have := ih.1 i hl; omega
        · next hl =>
          rw [List.getElem_singleton]
          omega
      · have h' : j < (qBr Q n ++ [(n : Int)]).length := by rw [← e]; exact h
        have e1 : (qBr Q (n + 1))[i]'(by omega) = (qBr Q n ++ [(n : Int)])[i]'(by omega) := by simp only [e]
        have e2 : (qBr Q (n + 1))[j] = (qBr Q n ++ [(n : Int)])[j]'h' := by simp only [e]
        rw [List.length_append] at h'
        have h1 : i < (qBr Q n).length := by
          have : ([(n : Int)] : List Int).length = 1 := rfl
          omega
        rw [e1, e2, List.getElem_append_left h1, List.getElem_append]
        split
        · next hl => exact ih.2 i j hij hl
        · next hl =>
          rw [List.getElem_singleton]
          exact (ih.1 i h1).2
    · have e : qBr Q (n + 1) = qBr Q n := if_neg c
      refine ⟨fun i h => ?_, fun i j hij h => ?_⟩
      · have h' : i < (qBr Q n).length := by rw [← e]; exact h
        have e2 : (qBr Q (n + 1))[i] = (qBr Q n)[i]'h' := by simp only [e]
        rw [e2]
        have := ih.1 i h'
        omega
      · have h' : j < (qBr Q n).length := by rw [← e]; exact h
        have e1 : (qBr Q (n + 1))[i]'(by omega) = (qBr Q n)[i]'(by omega) := by simp only [e]
        have e2 : (qBr Q (n + 1))[j] = (qBr Q n)[j]'h' := by simp only [e]
        rw [e1, e2]
        exact ih.2 i j hij h'
theorem qSr_of {r : Nat → Int} {n m : Int} {Q : Nat → Int} (hm : 0 ≤ m) (h : qLs r n (qBr Q m.toNat)) : qSr r n m := by
  have s := qBr_so (Q := Q) m.toNat
  have h1 := h.1
  refine ⟨fun i hi => ?_, fun i j hij hj => ?_⟩
  · rw [h.2 i (by omega)]
    have := s.1 i (by omega)
    omega
  · rw [h.2 i (by omega), h.2 j (by omega)]
    exact s.2 i j hij (by omega)
theorem qri_s {f f' : Nat → Int} {g : Int → Int} {i v : Int} (hi : 0 ≤ i) (h : ∀ u : Int, 0 ≤ u → u < i → f u.toNat = g u) (e : f' = qzu f i.toNat v) (hv : v = g i) : ∀ u : Int, 0 ≤ u → u < i + 1 → f' u.toNat = g u := fun u h0 h1 => by
  rw [e]
  show (if u.toNat = i.toNat then v else f u.toNat) = g u
  by_cases c : u = i
  · rw [if_pos (by rw [c]), c]
    exact hv
  · rw [if_neg (by omega)]
    exact h u h0 (by omega)
theorem qwC_e {α α' : Nat → Nat → Int} {a b : Nat} (h1 : α' a = α a) (h2 : α' b = α b) : qwC α' a b = qwC α a b := by
  funext i
  unfold qwC
  rw [h1, h2]
theorem qwt_e {bd w : Nat → Int} {x a n v : Int} (h0 : 0 ≤ a) (han : a ≤ n) (hv : v = qwt bd w x a.toNat) (he : n ≤ a ∨ v < 0) : v = qwt bd w x n.toNat := by
  by_cases c : a = n
  · rw [← c]; exact hv
  · have e := qwt_neg (bd := bd) (w := w) (x := x) (n := a.toNat) (by omega) (n.toNat - a.toNat)
    rw [show a.toNat + (n.toNat - a.toNat) = n.toNat by omega] at e
    rw [e]
    exact hv

set_option maxHeartbeats 4000000 in
set_option maxRecDepth 20000 in
/-- java/util/Arrays.fill -/
theorem sf_4_66x {L : Nat} {xs : Nat → Int} {vb : Bool} {d : Nat} {σ α : Nat → Nat → Int} {κ : Nat → Option Nat} {ρ : Nat} {x1 : Int} (hI : qI σ α κ ρ) (r1 : (-2147483648) ≤ x1 ∧ x1 ≤ 2147483647) : qm_T (qe L xs vb) (d + 1) 4 [.ref 66, .int (qz x1)] (qw σ α κ ρ) (fun r w' => ∃ α', w' = qw σ α' κ ρ ∧ qI σ α' κ ρ ∧ qFr [] [66] σ α σ α' ∧ r = none ∧ (∀ j : Nat, (j : Int) < 12 → α' 66 j = x1)) := by
  refine qr_start (d := d + 0) qv_e4 (Nat.le_of_ble_eq_true rfl) ?_
  show qr_W (qe L xs vb) (d + 0) qx_e4 _ (0, [(0, .ref 66), (1, .int (qz x1))], [], _, 0, 0)
  have hF0 := qFr_rf [] [66] σ α
  refine qr_iconst 1 rfl rfl ?_
  refine qr_istore_n _ 2 rfl (by decide) rfl rfl ?_
  refine qr_aload_n 3 rfl rfl rfl ?_
  refine qr_alen 4 rfl rfl (by first | exact Or.inl (by decide) | exact Or.inr (Or.inl rfl) | exact Or.inr (Or.inr (Or.inl rfl)) | exact Or.inr (Or.inr (Or.inr (Or.inl rfl)))) rfl ?_
  refine qy_v 12 rfl ?_
  refine qr_istore_n _ 5 rfl (by decide) rfl rfl ?_
  have hL100 : ∀ (n : Nat) (ls : qm_L) (u92 : Int) (α95 : Nat → Nat → Int), 12 - u92 < (n : Int) → qm_get ls 0 = some (.ref 66) → qm_get ls 1 = some (.int (qz x1)) → qm_get ls 2 = some (.int (qz u92)) → qm_get ls 3 = some (.int (qz 12)) → (0 ≤ u92 ∧ u92 ≤ 12) → qI σ α95 κ ρ → qFr [] [66] σ α σ α95 → (∀ j : Nat, (j : Int) < u92 → α95 66 j = x1) → qr_W (qe L xs vb) (d + 0) qx_e4 (fun r w' => ∃ α', w' = qw σ α' κ ρ ∧ qI σ α' κ ρ ∧ qFr [] [66] σ α σ α' ∧ r = none ∧ (∀ j : Nat, (j : Int) < 12 → α' 66 j = x1)) (5, ls, [], qw σ α95 κ ρ, 0, 0) := by
    intro n
    induction n with
    | zero => intro ls u92 α95 hm g89 g90 g91 g93 hf98 hI96 hF97 hx99; exact False.elim (by omega)
    | succ n ih101 =>
      intro ls u92 α95 hm g89 g90 g91 g93 hf98 hI96 hF97 hx99
      refine qr_iload_n 6 rfl g91 rfl ?_
      refine qr_iload_n 7 rfl g93 rfl ?_
      refine qr_icmp_ge 20 10 rfl rfl rfl (qrg hf98 (by decide) (by decide)) (by decide) (fun h102 => ?_) (fun h102 => ?_)
      · skip
        refine qr_retV rfl rfl (by decide) (by decide) ?_
        exact ⟨_, rfl, hI96, hF97, rfl, (fun j hj => hx99 j (by omega))⟩
      · skip
        refine qr_aload_n 11 rfl g89 rfl ?_
        refine qr_iload_n 12 rfl g91 rfl ?_
        refine qr_iload_n 13 rfl g90 rfl ?_
        refine qr_iastore 14 rfl (by decide) rfl (by omega) (by decide) rfl ?_
        refine qy_wA (qw_r α95 66 (qzu (α95 66) (u92 : Int).toNat x1)) rfl (fun α103 e104 => ?_)
        have hI105 : qI σ α103 κ ρ := by rw [e104]; exact qI_r hI96 66 _ rfl (show (-2147483648) ≤ x1 ∧ x1 ≤ 2147483647 by omega)
        have hF106 : qFr [] [66] σ α σ α103 := by rw [e104]; exact qFr_r hF97 66 _ (by decide)
        refine qr_iinc _ 17 rfl g91 (by decide) rfl rfl ?_
        refine qr_goto 5 rfl rfl ?_
        exact ih101 _ (u92 + 1) α103 (by omega) (qm_gk g89 (by decide) (Or.inl (by decide))) (qm_gk g90 (by decide) (Or.inr rfl)) (qm_ge _ _ _) (qm_gk g93 (by decide) (Or.inl (by decide))) (by omega) hI105 hF106 (qrw_s (g := fun _ => x1) (by omega) hx99 ((congrFun e104 66).trans (qw_r_eq.trans (congrArg (fun f => qzu f (u92 : Int).toNat x1) rfl))) rfl)
  exact hL100 ((12 - 0 + 1 : Int)).toNat _ 0 α (by omega) rfl rfl rfl rfl (by decide) hI hF0 (fun j hj => False.elim (by omega))

set_option maxHeartbeats 4000000 in
set_option maxRecDepth 20000 in
/-- OneRoof$Guests.learnBars -/
theorem sf_111_64x {L : Nat} {xs : Nat → Int} {vb : Bool} {d : Nat} {σ α : Nat → Nat → Int} {κ : Nat → Option Nat} {ρ : Nat} {x1 : Int} {x2 : Int} {f : (Nat → Int) → Int} (hI : qI σ α κ ρ) (r1 : 0 ≤ x1 ∧ x1 ≤ 9999) (r2 : 0 ≤ x2 ∧ x2 ≤ 9999) (p0 : x2 - x1 ≤ 47) (p1 : qPW σ α κ (0 : Int).toNat f) (p2 : qZp σ α) (p3 : σ 58 10 = 0) (p4 : ∀ c : Nat, c < 496 → α 61 c ≤ σ 58 12) (p5 : ∀ c : Nat, c < 496 → α 63 c ≤ σ 58 12) (p6 : 0 ≤ σ 58 12 ∧ σ 58 12 ≤ 1999990000) : qm_T (qe L xs vb) (d + 7) 111 [.ref 64, .int (qz x1), .int (qz x2)] (qw σ α κ ρ) (fun r w' => ∃ σ' α', w' = qw σ' α' κ ρ ∧ qI σ' α' κ ρ ∧ qFr [(58, 11), (58, 12)] [53, 57, 59, 60, 61, 62, 63, 66, 85] σ α σ' α' ∧ σ' 58 12 ≤ σ 58 12 + 6912 ∧ σ' 58 12 ≥ σ 58 12 ∧ r = none ∧ qBR (qPF (fun a b : Int => qBaC σ α f (α 65 (a : Int).toNat) (α 65 (b : Int).toNat) x1 x2) (σ 64 2)) (α' 66) (σ 64 2) ∧ (∀ c : Nat, c < 496 → α' 61 c ≤ σ' 58 12) ∧ (∀ c : Nat, c < 496 → α' 63 c ≤ σ' 58 12)) := by
  refine qr_start (d := d + 6) qv_e111 (Nat.le_of_ble_eq_true rfl) ?_
  show qr_W (qe L xs vb) (d + 6) qx_e111 _ (0, [(0, .ref 64), (1, .int (qz x1)), (2, .int (qz x2))], [], _, 0, 0)
  have hF0 := qFr_rf [(58, 11), (58, 12)] [53, 57, 59, 60, 61, 62, 63, 66, 85] σ α
  have hz58_10 : (-9223372036854775808) ≤ σ 58 10 ∧ σ 58 10 ≤ 9223372036854775807 := hI.1 58 10
  have hz58_12 : (-2147483648) ≤ σ 58 12 ∧ σ 58 12 ≤ 2147483647 := hI.1 58 12
  have hz17_5 : (-9223372036854775808) ≤ σ 17 5 ∧ σ 17 5 ≤ 9223372036854775807 := hI.1 17 5
  have hz17_6 : 0 ≤ σ 17 6 ∧ σ 17 6 ≤ 32 := hI.1 17 6
  have hz27_6 : (-9223372036854775808) ≤ σ 27 6 ∧ σ 27 6 ≤ 9223372036854775807 := hI.1 27 6
  have hz27_7 : 0 ≤ σ 27 7 ∧ σ 27 7 ≤ 40 := hI.1 27 7
  have hz34_7 : 0 ≤ σ 34 7 ∧ σ 34 7 ≤ 60 := hI.1 34 7
  have hz58_11 : (-2147483648) ≤ σ 58 11 ∧ σ 58 11 ≤ 2147483647 := hI.1 58 11
  have hz64_2 : 0 ≤ σ 64 2 ∧ σ 64 2 ≤ 12 := hI.1 64 2
  refine qr_aload_n 1 rfl rfl rfl ?_
  refine qr_get 4 rfl rfl rfl (by decide) rfl ?_
  refine qr_iconst 5 rfl rfl ?_
  refine qr_callN 8 rfl rfl rfl (sf_4_66x (d := d + 5) hI (by decide)) ?_
  rintro _ _ ⟨α2, rfl, hI3, hG4, rfl, hx1⟩
  have hF5 : qFr [(58, 11), (58, 12)] [53, 57, 59, 60, 61, 62, 63, 66, 85] σ α σ α2 := qFr_t hF0 hG4 (by decide) (by decide)
  show qr_W (qe L xs vb) (d + 6) qx_e111 _ (8, _, [], qw σ α2 κ ρ, 0, 0)
  refine qr_iconst 9 rfl rfl ?_
  refine qr_istore_n _ 10 rfl (by decide) rfl rfl ?_
  have hL4461 : ∀ (n : Nat) (ls : qm_L) (u4442 : Int) (σ4443 α4444 : Nat → Nat → Int), 12 - u4442 < (n : Int) → qm_get ls 0 = some (.ref 64) → qm_get ls 1 = some (.int (qz x1)) → qm_get ls 2 = some (.int (qz x2)) → qm_get ls 3 = some (.int (qz u4442)) → (0 ≤ u4442 ∧ u4442 ≤ 12) → qI σ4443 α4444 κ ρ → qFr [(58, 11), (58, 12)] [53, 57, 59, 60, 61, 62, 63, 66, 85] σ α σ4443 α4444 → σ4443 17 5 = (σ 17 5) → σ4443 17 6 = (σ 17 6) → σ4443 27 6 = (σ 27 6) → σ4443 27 7 = (σ 27 7) → σ4443 34 7 = (σ 34 7) → σ4443 58 10 = (σ 58 10) → σ4443 64 2 = (σ 64 2) → α4444 65 = (α 65) → qBR (qPC (fun a b : Int => qBaC σ α f (α 65 (a : Int).toNat) (α 65 (b : Int).toNat) x1 x2) (σ 64 2) u4442 0) (α4444 66) (σ 64 2) → (∀ c : Nat, c < 496 → α4444 61 c ≤ σ4443 58 12) → (∀ c : Nat, c < 496 → α4444 63 c ≤ σ4443 58 12) → σ4443 58 12 ≤ σ 58 12 + 576 * u4442 → σ 58 12 ≤ σ4443 58 12 → qr_W (qe L xs vb) (d + 6) qx_e111 (fun r w' => ∃ σ' α', w' = qw σ' α' κ ρ ∧ qI σ' α' κ ρ ∧ qFr [(58, 11), (58, 12)] [53, 57, 59, 60, 61, 62, 63, 66, 85] σ α σ' α' ∧ σ' 58 12 ≤ σ 58 12 + 6912 ∧ σ' 58 12 ≥ σ 58 12 ∧ r = none ∧ qBR (qPF (fun a b : Int => qBaC σ α f (α 65 (a : Int).toNat) (α 65 (b : Int).toNat) x1 x2) (σ 64 2)) (α' 66) (σ 64 2) ∧ (∀ c : Nat, c < 496 → α' 61 c ≤ σ' 58 12) ∧ (∀ c : Nat, c < 496 → α' 63 c ≤ σ' 58 12)) (10, ls, [], qw σ4443 α4444 κ ρ, 0, 0) := by
    intro n
    induction n with
    | zero => intro ls u4442 σ4443 α4444 hm g4438 g4439 g4440 g4441 hf4455 hI4445 hF4446 hk4447 hk4448 hk4449 hk4450 hk4451 hk4452 hk4453 hk4454 hx4456 hx4457 hx4458 hx4459 hx4460; exact False.elim (by omega)
    | succ n ih4462 =>
      intro ls u4442 σ4443 α4444 hm g4438 g4439 g4440 g4441 hf4455 hI4445 hF4446 hk4447 hk4448 hk4449 hk4450 hk4451 hk4452 hk4453 hk4454 hx4456 hx4457 hx4458 hx4459 hx4460
      have hs4463 : (-2147483648) ≤ σ4443 58 12 ∧ σ4443 58 12 ≤ 2147483647 := hI4445.1 58 12
      refine qr_iload_n 11 rfl g4441 rfl ?_
      refine qr_aload_n 12 rfl g4438 rfl ?_
      refine qr_get 15 rfl rfl rfl (by decide) rfl ?_
      refine qy_v (σ 64 2) ((hk4453).trans rfl) ?_
      refine qr_icmp_ge 98 18 rfl rfl rfl (qrg hf4455 (by decide) (by decide)) (qrg hz64_2 (by decide) (by decide)) (fun h4464 => ?_) (fun h4464 => ?_)
      · skip
        refine qr_retV rfl rfl (by decide) (by decide) ?_
        exact ⟨_, _, rfl, hI4445, hF4446, (by have hw : σ4443 58 12 = (σ4443 58 12) := rfl; omega), (by have hw : σ4443 58 12 = (σ4443 58 12) := rfl; omega), rfl, (qPC_end (by omega) hx4456), hx4457, hx4458⟩
      · skip
        refine qr_iload_n 19 rfl g4441 rfl ?_
        refine qr_iconst 20 rfl rfl ?_
        refine qr_iadd 21 rfl rfl ?_
        refine qr_istore _ 23 rfl (by decide) rfl rfl ?_
        have hL4690 : ∀ (n : Nat) (ls : qm_L) (u4670 : Int) (σ4671 α4672 : Nat → Nat → Int), 12 - u4670 < (n : Int) → qm_get ls 0 = some (.ref 64) → qm_get ls 1 = some (.int (qz x1)) → qm_get ls 2 = some (.int (qz x2)) → qm_get ls 3 = some (.int (qz u4442)) → qm_get ls 4 = some (.int (qz u4670)) → (1 ≤ u4670 ∧ u4670 ≤ 12) → qI σ4671 α4672 κ ρ → qFr [(58, 11), (58, 12)] [53, 57, 59, 60, 61, 62, 63, 66, 85] σ α σ4671 α4672 → σ4671 17 5 = (σ 17 5) → σ4671 17 6 = (σ 17 6) → σ4671 27 6 = (σ 27 6) → σ4671 27 7 = (σ 27 7) → σ4671 34 7 = (σ 34 7) → σ4671 58 10 = (σ 58 10) → σ4671 64 2 = (σ 64 2) → α4672 65 = (α 65) → qBR (qPC (fun a b : Int => qBaC σ α f (α 65 (a : Int).toNat) (α 65 (b : Int).toNat) x1 x2) (σ 64 2) u4442 u4670) (α4672 66) (σ 64 2) → (∀ c : Nat, c < 496 → α4672 61 c ≤ σ4671 58 12) → (∀ c : Nat, c < 496 → α4672 63 c ≤ σ4671 58 12) → σ4671 58 12 ≤ σ 58 12 + 576 * u4442 + 48 * u4670 → σ 58 12 ≤ σ4671 58 12 → (u4442 + 1) ≤ u4670 → qr_W (qe L xs vb) (d + 6) qx_e111 (fun r w' => ∃ σ' α', w' = qw σ' α' κ ρ ∧ qI σ' α' κ ρ ∧ qFr [(58, 11), (58, 12)] [53, 57, 59, 60, 61, 62, 63, 66, 85] σ α σ' α' ∧ σ' 58 12 ≤ σ 58 12 + 6912 ∧ σ' 58 12 ≥ σ 58 12 ∧ r = none ∧ qBR (qPF (fun a b : Int => qBaC σ α f (α 65 (a : Int).toNat) (α 65 (b : Int).toNat) x1 x2) (σ 64 2)) (α' 66) (σ 64 2) ∧ (∀ c : Nat, c < 496 → α' 61 c ≤ σ' 58 12) ∧ (∀ c : Nat, c < 496 → α' 63 c ≤ σ' 58 12)) (23, ls, [], qw σ4671 α4672 κ ρ, 0, 0) := by
          intro n
          induction n with
          | zero => intro ls u4670 σ4671 α4672 hm g4665 g4666 g4667 g4668 g4669 hf4683 hI4673 hF4674 hk4675 hk4676 hk4677 hk4678 hk4679 hk4680 hk4681 hk4682 hx4684 hx4685 hx4686 hx4687 hx4688 hx4689; exact False.elim (by omega)
          | succ n ih4691 =>
            intro ls u4670 σ4671 α4672 hm g4665 g4666 g4667 g4668 g4669 hf4683 hI4673 hF4674 hk4675 hk4676 hk4677 hk4678 hk4679 hk4680 hk4681 hk4682 hx4684 hx4685 hx4686 hx4687 hx4688 hx4689
            have hs4692 : (-2147483648) ≤ σ4671 58 12 ∧ σ4671 58 12 ≤ 2147483647 := hI4673.1 58 12
            refine qr_iload 25 rfl g4669 rfl ?_
            refine qr_aload_n 26 rfl g4665 rfl ?_
            refine qr_get 29 rfl rfl rfl (by decide) rfl ?_
            refine qy_v (σ 64 2) ((hk4681).trans rfl) ?_
            refine qr_icmp_ge 92 32 rfl rfl rfl (qrg hf4683 (by decide) (by decide)) (qrg hz64_2 (by decide) (by decide)) (fun h4693 => ?_) (fun h4693 => ?_)
            · skip
              refine qr_iinc _ 95 rfl g4668 (by decide) rfl rfl ?_
              refine qr_goto 10 rfl rfl ?_
              exact ih4462 _ (u4442 + 1) σ4671 α4672 (by omega) (qm_gk g4665 (by decide) (Or.inl (by decide))) (qm_gk g4666 (by decide) (Or.inl (by decide))) (qm_gk g4667 (by decide) (Or.inr rfl)) (qm_ge _ _ _) (by omega) hI4673 hF4674 ((hk4675).trans rfl) ((hk4676).trans rfl) ((hk4677).trans rfl) ((hk4678).trans rfl) ((hk4679).trans rfl) ((hk4680).trans rfl) ((hk4681).trans rfl) hk4682 (qPC_out (J := u4670) (by omega) hx4684) hx4685 hx4686 (by have hw : σ4671 58 12 = (σ4671 58 12) := rfl; omega) (by have hw : σ4671 58 12 = (σ4671 58 12) := rfl; omega)
            · skip
              refine qr_aload_n 33 rfl g4665 rfl ?_
              refine qr_get 36 rfl rfl rfl (by decide) rfl ?_
              refine qr_aload_n 37 rfl g4665 rfl ?_
              refine qr_get 40 rfl rfl rfl (by decide) rfl ?_
              refine qr_iload_n 41 rfl g4668 rfl ?_
              refine qr_iaload 42 rfl rfl (by omega) (by decide) rfl ?_
              refine qr_topI (fun v4694 hv4694 => ?_)
              have hs4695 : 0 ≤ v4694 ∧ v4694 ≤ 31 := by rw [hv4694]; exact hI4673.2.1 65 _ (show _ < 12 by omega)
              have hrv4694 : v4694 = (α 65) (u4442 : Int).toNat := hv4694.trans (congrFun hk4682 _)
              have hs4696 : σ4671 64 2 = (σ 64 2) := (hk4681).trans rfl
              refine qr_aload_n 43 rfl g4665 rfl ?_
              refine qr_get 46 rfl rfl rfl (by decide) rfl ?_
              refine qr_iload 48 rfl g4669 rfl ?_
              refine qr_iaload 49 rfl rfl (by omega) (by decide) rfl ?_
              refine qr_topI (fun v4697 hv4697 => ?_)
              have hs4698 : 0 ≤ v4697 ∧ v4697 ≤ 31 := by rw [hv4697]; exact hI4673.2.1 65 _ (show _ < 12 by omega)
              have hrv4697 : v4697 = (α 65) (u4670 : Int).toNat := hv4697.trans (congrFun hk4682 _)
              have hs4699 : σ4671 64 2 = (σ 64 2) := (hk4681).trans rfl
              have hs4700 := qI_li hI4673 (u4442) (u4670)
              refine qr_iload_n 50 rfl g4666 rfl ?_
              refine qr_iload_n 51 rfl g4667 rfl ?_
              have hs4701 : (-9223372036854775808) ≤ σ4671 58 10 ∧ σ4671 58 10 ≤ 9223372036854775807 := hI4673.1 58 10
              have hs4702 : σ4671 58 10 = (σ 58 10) := (hk4680).trans rfl
              have hs4703 : (-2147483648) ≤ σ4671 58 12 ∧ σ4671 58 12 ≤ 2147483647 := hI4673.1 58 12
              refine qr_callN 54 rfl rfl rfl (sf_106_58x (d := d + 0) hI4673 hs4695 hs4698 r1 r2 (by omega) (by omega) (qPW_fr hF4674 (by decide) (by decide) p1) (qZp_fr hF4674 (by decide) (by decide) p2) ((hF4674.1 58 10 (by decide)).trans p3) hx4685 hx4686 (by omega)) ?_
              rintro _ _ ⟨σ4710, α4711, rfl, hI4712, hG4713, hw4708, hw4709, v4704, rfl, hv4704, hx4705, hx4706, hx4707⟩
              have hF4714 : qFr [(58, 11), (58, 12)] [53, 57, 59, 60, 61, 62, 63, 66, 85] σ α σ4710 α4711 := qFr_t hF4674 hG4713 (by decide) (by decide)
              have hs4715 : (-2147483648) ≤ σ4710 58 12 ∧ σ4710 58 12 ≤ 2147483647 := hI4712.1 58 12
              show qr_W (qe L xs vb) (d + 6) qx_e111 _ (54, _, [.int (qz v4704)], qw σ4710 α4711 κ ρ, 0, 0)
              rw [qBaC_fr hF4674 (by decide) (by decide), hrv4694, hrv4697] at hx4705
              refine qr_if_ne 60 57 rfl rfl rfl (qrg hv4704 (by decide) (by decide)) (fun h4716 => ?_) (fun h4716 => ?_)
              · skip
                refine qr_aload_n 61 rfl g4665 rfl ?_
                refine qr_get 64 rfl rfl rfl (by decide) rfl ?_
                refine qr_iload_n 65 rfl g4668 rfl ?_
                refine qr_dup2 66 rfl rfl rfl rfl ?_
                refine qr_iaload 67 rfl rfl (by omega) (by decide) rfl ?_
                refine qr_topI (fun v4717 hv4717 => ?_)
                have hs4718 : (-2147483648) ≤ v4717 ∧ v4717 ≤ 2147483647 := by rw [hv4717]; exact hI4712.2.1 66 _ (show _ < 12 by omega)
                have hrv4717 : v4717 = (α4711 66) (u4442 : Int).toNat := hv4717
                refine qr_iconst 68 rfl rfl ?_
                refine qr_iload 70 rfl g4669 rfl ?_
                refine qr_ishl 71 rfl rfl ?_
                refine qy_shl1E (N := 11) (by omega) (fun v4719 hv4719 hev4719 => ?_)
                refine qr_ior 72 rfl rfl ?_
                refine qy_canE (fun v4720 hv4720 hev4720 => ?_)
                refine qr_iastore 73 rfl (by decide) rfl (by omega) (by decide) rfl ?_
                refine qy_wA (qw_r α4711 66 (qzu (α4711 66) (u4442 : Int).toNat v4720)) rfl (fun α4721 e4722 => ?_)
                have hI4723 : qI σ4710 α4721 κ ρ := by rw [e4722]; exact qI_r hI4712 66 _ rfl (show (-2147483648) ≤ v4720 ∧ v4720 ≤ 2147483647 by omega)
                have hF4724 : qFr [(58, 11), (58, 12)] [53, 57, 59, 60, 61, 62, 63, 66, 85] σ α σ4710 α4721 := by rw [e4722]; exact qFr_r hF4714 66 _ (by decide)
                refine qr_aload_n 74 rfl g4665 rfl ?_
                refine qr_get 77 rfl rfl rfl (by decide) rfl ?_
                refine qr_iload 79 rfl g4669 rfl ?_
                refine qr_dup2 80 rfl rfl rfl rfl ?_
                refine qr_iaload 81 rfl rfl (by omega) (by decide) rfl ?_
                refine qr_topI (fun v4725 hv4725 => ?_)
                have hs4726 : (-2147483648) ≤ v4725 ∧ v4725 ≤ 2147483647 := by rw [hv4725]; exact hI4723.2.1 66 _ (show _ < 12 by omega)
                have hrv4725 : v4725 = (qzu (α4711 66) (u4442 : Int).toNat v4720) (u4670 : Int).toNat := hv4725.trans (congrFun ((congrFun e4722 66).trans (qw_r_eq.trans (congrArg (fun f => qzu f (u4442 : Int).toNat v4720) rfl))) _)
                refine qr_iconst 82 rfl rfl ?_
                refine qr_iload_n 83 rfl g4668 rfl ?_
                refine qr_ishl 84 rfl rfl ?_
                refine qy_shl1E (N := 11) (by omega) (fun v4727 hv4727 hev4727 => ?_)
                refine qr_ior 85 rfl rfl ?_
                refine qy_canE (fun v4728 hv4728 hev4728 => ?_)
                refine qr_iastore 86 rfl (by decide) rfl (by omega) (by decide) rfl ?_
                refine qy_wA (qw_r α4721 66 (qzu (α4721 66) (u4670 : Int).toNat v4728)) rfl (fun α4729 e4730 => ?_)
                have hI4731 : qI σ4710 α4729 κ ρ := by rw [e4730]; exact qI_r hI4723 66 _ rfl (show (-2147483648) ≤ v4728 ∧ v4728 ≤ 2147483647 by omega)
                have hF4732 : qFr [(58, 11), (58, 12)] [53, 57, 59, 60, 61, 62, 63, 66, 85] σ α σ4710 α4729 := by rw [e4730]; exact qFr_r hF4724 66 _ (by decide)
                refine qr_iinc _ 89 rfl g4669 (by decide) rfl rfl ?_
                refine qr_goto 23 rfl rfl ?_
                exact ih4691 _ (u4670 + 1) σ4710 α4729 (by omega) (qm_gk g4665 (by decide) (Or.inl (by decide))) (qm_gk g4666 (by decide) (Or.inl (by decide))) (qm_gk g4667 (by decide) (Or.inl (by decide))) (qm_gk g4668 (by decide) (Or.inr rfl)) (qm_ge _ _ _) (by omega) hI4731 hF4732 ((hG4713.1 17 5 (by decide)).trans ((hk4675).trans rfl)) ((hG4713.1 17 6 (by decide)).trans ((hk4676).trans rfl)) ((hG4713.1 27 6 (by decide)).trans ((hk4677).trans rfl)) ((hG4713.1 27 7 (by decide)).trans ((hk4678).trans rfl)) ((hG4713.1 34 7 (by decide)).trans ((hk4679).trans rfl)) ((hG4713.1 58 10 (by decide)).trans ((hk4680).trans rfl)) ((hG4713.1 64 2 (by decide)).trans ((hk4681).trans rfl)) ((congrFun e4730 65).trans ((qw_r_ne (by decide)).trans ((congrFun e4722 65).trans ((qw_r_ne (by decide)).trans ((hG4713.2 65 (by decide)).trans hk4682))))) (qPC_y (r := (α4711 66)) (by rcases hx4705 with hz | hz; (exact hz.2); (omega)) (by omega) (by omega) (((congrFun e4730 66).trans (qw_r_eq.trans (congrArg (fun f => qzu f (u4670 : Int).toNat v4728) ((congrFun e4722 66).trans (qw_r_eq.trans (congrArg (fun f => qzu f (u4442 : Int).toNat v4720) rfl))))))) (by rw [qz_val hev4720 (by omega) (qz_or_r _ _), hev4719, show v4717 = (α4711 66) (u4442 : Int).toNat from hv4717]) (by rw [qz_val hev4728 (by omega) (qz_or_r _ _), hev4727, show v4725 = (α4711 66) (u4670 : Int).toNat from (by rw [show v4725 = _ from hv4725, show α4721 66 = _ from ((congrFun e4722 66).trans (qw_r_eq.trans (congrArg (fun f => qzu f (u4442 : Int).toNat v4720) rfl)))]; exact if_neg (by omega))]) (by rw [hG4713.2 66 (by decide)]; exact hx4684)) (fun c hc => by rw [show α4729 61 = α4711 61 from ((congrFun e4730 61).trans ((qw_r_ne (by decide)).trans ((congrFun e4722 61).trans ((qw_r_ne (by decide)).trans rfl))))]; exact hx4706 c hc) (fun c hc => by rw [show α4729 63 = α4711 63 from ((congrFun e4730 63).trans ((qw_r_ne (by decide)).trans ((congrFun e4722 63).trans ((qw_r_ne (by decide)).trans rfl))))]; exact hx4707 c hc) (by have hw : σ4710 58 12 = (σ4710 58 12) := rfl; omega) (by have hw : σ4710 58 12 = (σ4710 58 12) := rfl; omega) (by omega)
              · skip
                refine qr_goto 86 rfl rfl ?_
                refine qr_iinc _ 89 rfl g4669 (by decide) rfl rfl ?_
                refine qr_goto 23 rfl rfl ?_
                exact ih4691 _ (u4670 + 1) σ4710 α4711 (by omega) (qm_gk g4665 (by decide) (Or.inl (by decide))) (qm_gk g4666 (by decide) (Or.inl (by decide))) (qm_gk g4667 (by decide) (Or.inl (by decide))) (qm_gk g4668 (by decide) (Or.inr rfl)) (qm_ge _ _ _) (by omega) hI4712 hF4714 ((hG4713.1 17 5 (by decide)).trans ((hk4675).trans rfl)) ((hG4713.1 17 6 (by decide)).trans ((hk4676).trans rfl)) ((hG4713.1 27 6 (by decide)).trans ((hk4677).trans rfl)) ((hG4713.1 27 7 (by decide)).trans ((hk4678).trans rfl)) ((hG4713.1 34 7 (by decide)).trans ((hk4679).trans rfl)) ((hG4713.1 58 10 (by decide)).trans ((hk4680).trans rfl)) ((hG4713.1 64 2 (by decide)).trans ((hk4681).trans rfl)) ((hG4713.2 65 (by decide)).trans hk4682) (by rw [hG4713.2 66 (by decide)]; exact qPC_no (by rcases hx4705 with hz | hz; (omega); (exact hz.2)) hx4684) hx4706 hx4707 (by have hw : σ4710 58 12 = (σ4710 58 12) := rfl; omega) (by have hw : σ4710 58 12 = (σ4710 58 12) := rfl; omega) (by omega)
        exact hL4690 ((12 - (u4442 + 1) + 1 : Int)).toNat _ (u4442 + 1) σ4443 α4444 (by omega) (qm_gk g4438 (by decide) (Or.inl (by decide))) (qm_gk g4439 (by decide) (Or.inl (by decide))) (qm_gk g4440 (by decide) (Or.inl (by decide))) (qm_gk g4441 (by decide) (Or.inr rfl)) (qm_ge _ _ _) (by omega) hI4445 hF4446 ((hk4447).trans rfl) ((hk4448).trans rfl) ((hk4449).trans rfl) ((hk4450).trans rfl) ((hk4451).trans rfl) ((hk4452).trans rfl) ((hk4453).trans rfl) hk4454 (qPC_in hx4456) hx4457 hx4458 (by have hw : σ4443 58 12 = (σ4443 58 12) := rfl; omega) (by have hw : σ4443 58 12 = (σ4443 58 12) := rfl; omega) (by omega)
  exact hL4461 ((12 - 0 + 1 : Int)).toNat _ 0 σ α2 (by omega) rfl rfl rfl rfl (by decide) hI3 hF5 (rfl) (rfl) (rfl) (rfl) (rfl) (rfl) (rfl) ((hG4.2 65 (by decide)).trans rfl) (qPC_0 (fun j hj => hx1 j (by omega))) (fun c hc => by rw [hG4.2 61 (by decide)]; exact p4 c hc) (fun c hc => by rw [hG4.2 63 (by decide)]; exact p5 c hc) (by have hw : σ 58 12 = (σ 58 12) := rfl; omega) (by have hw : σ 58 12 = (σ 58 12) := rfl; omega)

set_option maxHeartbeats 4000000 in
set_option maxRecDepth 20000 in
/-- OneRoofModel.findSets -/
theorem sf_235_86x {L : Nat} {xs : Nat → Int} {vb : Bool} {d : Nat} {σ α : Nat → Nat → Int} {κ : Nat → Option Nat} {ρ : Nat} {x1 : Int} {g : (Nat → Int) → Int} (hI : qI σ α κ ρ) (r1 : 0 ≤ x1 ∧ x1 ≤ 23999999) (p0 : 1 ≤ σ 86 6) (p1 : σ 86 43 ≤ 12) (p2 : qPG σ α 0 g) (p3 : qZf σ α) (p4 : σ 86 41 = 0) (p5 : ∀ p : Nat, p < 32 → 0 ≤ α 92 p ∧ α 92 p ≤ 99) (p6 : qSr (α 110) (σ 86 43) (σ 86 6)) (p7 : qZk σ α) (p8 : σ 86 29 = 0) : qm_T (qe L xs vb) (d + 49) 235 [.ref 86, .int (qz x1)] (qw σ α κ ρ) (fun r w' => ∃ σ' α', w' = qw σ' α' κ ρ ∧ qI σ' α' κ ρ ∧ qFr [(86, 15), (86, 23), (86, 30), (86, 35), (86, 36), (86, 37), (86, 38), (86, 39), (86, 41)] [96, 109, 111, 112] σ α σ' α' ∧ σ' 86 41 = 0 ∧ r = none ∧ qBR (qPF (fun a b : Int => qBaM σ α g (α 110 (a : Int).toNat) (α 110 (b : Int).toNat) (x1 / 10000) (x1 % 10000)) (σ 86 43)) (α' 111) (σ 86 43) ∧ (∀ u : Int, 0 ≤ u → u < qz_shl 1 (σ 86 43) → α' 112 (u : Int).toNat = qwt (α' 111) (qwC α' 92 110) u (σ 86 43 : Int).toNat)) := by
  refine qr_start (d := d + 48) qv_e235 (Nat.le_of_ble_eq_true rfl) ?_
  show qr_W (qe L xs vb) (d + 48) qx_e235 _ (0, [(0, .ref 86), (1, .int (qz x1))], [], _, 0, 0)
  have hF0 := qFr_rf [(86, 15), (86, 23), (86, 30), (86, 35), (86, 36), (86, 37), (86, 38), (86, 39), (86, 41)] [96, 109, 111, 112] σ α
  have hz86_6 : 0 ≤ σ 86 6 ∧ σ 86 6 ≤ 32 := hI.1 86 6
  have hz86_43 : 0 ≤ σ 86 43 ∧ σ 86 43 ≤ 32 := hI.1 86 43
  have hz86_41 : 0 ≤ σ 86 41 ∧ σ 86 41 ≤ 1 := hI.1 86 41
  have hz86_29 : (-9223372036854775808) ≤ σ 86 29 ∧ σ 86 29 ≤ 9223372036854775807 := hI.1 86 29
  have hz86_10 : (-9223372036854775808) ≤ σ 86 10 ∧ σ 86 10 ≤ 9223372036854775807 := hI.1 86 10
  have hz86_24 : 0 ≤ σ 86 24 ∧ σ 86 24 ≤ 60 := hI.1 86 24
  refine qr_iconst 1 rfl rfl ?_
  refine qr_istore_n _ 2 rfl (by decide) rfl rfl ?_
  have hL621485 : ∀ (n : Nat) (ls : qm_L) (u621475 : Int) (α621477 : Nat → Nat → Int), 12 - u621475 < (n : Int) → qm_get ls 0 = some (.ref 86) → qm_get ls 1 = some (.int (qz x1)) → qm_get ls 2 = some (.int (qz u621475)) → (0 ≤ u621475 ∧ u621475 ≤ 12) → qI σ α621477 κ ρ → qFr [(86, 15), (86, 23), (86, 30), (86, 35), (86, 36), (86, 37), (86, 38), (86, 39), (86, 41)] [96, 109, 111, 112] σ α σ α621477 → α621477 92 = (α 92) → α621477 110 = (α 110) → α621477 112 = (α 112) → (∀ j : Nat, (j : Int) < u621475 → α621477 111 j = 0) → qr_W (qe L xs vb) (d + 48) qx_e235 (fun r w' => ∃ σ' α', w' = qw σ' α' κ ρ ∧ qI σ' α' κ ρ ∧ qFr [(86, 15), (86, 23), (86, 30), (86, 35), (86, 36), (86, 37), (86, 38), (86, 39), (86, 41)] [96, 109, 111, 112] σ α σ' α' ∧ σ' 86 41 = 0 ∧ r = none ∧ qBR (qPF (fun a b : Int => qBaM σ α g (α 110 (a : Int).toNat) (α 110 (b : Int).toNat) (x1 / 10000) (x1 % 10000)) (σ 86 43)) (α' 111) (σ 86 43) ∧ (∀ u : Int, 0 ≤ u → u < qz_shl 1 (σ 86 43) → α' 112 (u : Int).toNat = qwt (α' 111) (qwC α' 92 110) u (σ 86 43 : Int).toNat)) (2, ls, [], qw σ α621477 κ ρ, 0, 0) := by
    intro n
    induction n with
    | zero => intro ls u621475 α621477 hm g621472 g621473 g621474 hf621483 hI621478 hF621479 hk621480 hk621481 hk621482 hx621484; exact False.elim (by omega)
    | succ n ih621486 =>
      intro ls u621475 α621477 hm g621472 g621473 g621474 hf621483 hI621478 hF621479 hk621480 hk621481 hk621482 hx621484
      refine qr_iload_n 3 rfl g621474 rfl ?_
      refine qr_aload_n 4 rfl g621472 rfl ?_
      refine qr_get 7 rfl rfl rfl (by decide) rfl ?_
      refine qr_icmp_ge 23 10 rfl rfl rfl (qrg hf621483 (by decide) (by decide)) (qrg hz86_43 (by decide) (by decide)) (fun h621487 => ?_) (fun h621487 => ?_)
      · skip
        refine qr_iconst 24 rfl rfl ?_
        refine qr_istore_n _ 25 rfl (by decide) rfl rfl ?_
        have hL709708 : ∀ (n : Nat) (ls : qm_L) (u709692 : Int) (σ709693 α709694 : Nat → Nat → Int), 12 - u709692 < (n : Int) → qm_get ls 0 = some (.ref 86) → qm_get ls 1 = some (.int (qz x1)) → qm_get ls 2 = some (.int (qz u709692)) → (0 ≤ u709692 ∧ u709692 ≤ 12) → qI σ709693 α709694 κ ρ → qFr [(86, 15), (86, 23), (86, 30), (86, 35), (86, 36), (86, 37), (86, 38), (86, 39), (86, 41)] [96, 109, 111, 112] σ α σ709693 α709694 → σ709693 86 6 = (σ 86 6) → σ709693 86 10 = (σ 86 10) → σ709693 86 24 = (σ 86 24) → σ709693 86 29 = (σ 86 29) → σ709693 86 43 = (σ 86 43) → α709694 92 = (α 92) → α709694 110 = (α 110) → qBR (qPR (fun a b : Int => qBaM σ α g (α 110 (a : Int).toNat) (α 110 (b : Int).toNat) (x1 / 10000) (x1 % 10000)) u709692 0) (α709694 111) (σ 86 43) → σ709693 86 41 = 0 → u709692 ≤ σ 86 43 → qr_W (qe L xs vb) (d + 48) qx_e235 (fun r w' => ∃ σ' α', w' = qw σ' α' κ ρ ∧ qI σ' α' κ ρ ∧ qFr [(86, 15), (86, 23), (86, 30), (86, 35), (86, 36), (86, 37), (86, 38), (86, 39), (86, 41)] [96, 109, 111, 112] σ α σ' α' ∧ σ' 86 41 = 0 ∧ r = none ∧ qBR (qPF (fun a b : Int => qBaM σ α g (α 110 (a : Int).toNat) (α 110 (b : Int).toNat) (x1 / 10000) (x1 % 10000)) (σ 86 43)) (α' 111) (σ 86 43) ∧ (∀ u : Int, 0 ≤ u → u < qz_shl 1 (σ 86 43) → α' 112 (u : Int).toNat = qwt (α' 111) (qwC α' 92 110) u (σ 86 43 : Int).toNat)) (25, ls, [], qw σ709693 α709694 κ ρ, 0, 0) := by
          intro n
          induction n with
          | zero => intro ls u709692 σ709693 α709694 hm g709689 g709690 g709691 hf709704 hI709695 hF709696 hk709697 hk709698 hk709699 hk709700 hk709701 hk709702 hk709703 hx709705 hx709706 hx709707; exact False.elim (by omega)
          | succ n ih709709 =>
            intro ls u709692 σ709693 α709694 hm g709689 g709690 g709691 hf709704 hI709695 hF709696 hk709697 hk709698 hk709699 hk709700 hk709701 hk709702 hk709703 hx709705 hx709706 hx709707
            have hs709710 : 0 ≤ σ709693 86 41 ∧ σ709693 86 41 ≤ 1 := hI709695.1 86 41
            refine qr_iload_n 26 rfl g709691 rfl ?_
            refine qr_aload_n 27 rfl g709689 rfl ?_
            refine qr_get 30 rfl rfl rfl (by decide) rfl ?_
            refine qy_v (σ 86 43) ((hk709701).trans rfl) ?_
            refine qr_icmp_ge 96 33 rfl rfl rfl (qrg hf709704 (by decide) (by decide)) (qrg hz86_43 (by decide) (by decide)) (fun h709711 => ?_) (fun h709711 => ?_)
            · skip
              have hsh := qshl_r (n := σ 86 43) (by omega)
              refine qr_iconst 97 rfl rfl ?_
              refine qr_istore_n _ 98 rfl (by decide) rfl rfl ?_
              have hL722559 : ∀ (n : Nat) (ls : qm_L) (u722548 : Int) (α722550 : Nat → Nat → Int), 4096 - u722548 < (n : Int) → qm_get ls 0 = some (.ref 86) → qm_get ls 2 = some (.int (qz u722548)) → (0 ≤ u722548 ∧ u722548 ≤ 4096) → qI σ709693 α722550 κ ρ → qFr [(86, 15), (86, 23), (86, 30), (86, 35), (86, 36), (86, 37), (86, 38), (86, 39), (86, 41)] [96, 109, 111, 112] σ α σ709693 α722550 → α722550 92 = (α 92) → α722550 110 = (α 110) → α722550 111 = (α709694 111) → (∀ u : Int, 0 ≤ u → u < u722548 → α722550 112 (u : Int).toNat = qwt (α709694 111) (qwC α 92 110) u (σ 86 43 : Int).toNat) → u722548 ≤ qz_shl 1 (σ 86 43) → qr_W (qe L xs vb) (d + 48) qx_e235 (fun r w' => ∃ σ' α', w' = qw σ' α' κ ρ ∧ qI σ' α' κ ρ ∧ qFr [(86, 15), (86, 23), (86, 30), (86, 35), (86, 36), (86, 37), (86, 38), (86, 39), (86, 41)] [96, 109, 111, 112] σ α σ' α' ∧ σ' 86 41 = 0 ∧ r = none ∧ qBR (qPF (fun a b : Int => qBaM σ α g (α 110 (a : Int).toNat) (α 110 (b : Int).toNat) (x1 / 10000) (x1 % 10000)) (σ 86 43)) (α' 111) (σ 86 43) ∧ (∀ u : Int, 0 ≤ u → u < qz_shl 1 (σ 86 43) → α' 112 (u : Int).toNat = qwt (α' 111) (qwC α' 92 110) u (σ 86 43 : Int).toNat)) (98, ls, [], qw σ709693 α722550 κ ρ, 0, 0) := by
                intro n
                induction n with
                | zero => intro ls u722548 α722550 hm g722546 g722547 hf722556 hI722551 hF722552 hk722553 hk722554 hk722555 hx722557 hx722558; exact False.elim (by omega)
                | succ n ih722560 =>
                  intro ls u722548 α722550 hm g722546 g722547 hf722556 hI722551 hF722552 hk722553 hk722554 hk722555 hx722557 hx722558
                  refine qr_iload_n 99 rfl g722547 rfl ?_
                  refine qr_iconst 100 rfl rfl ?_
                  refine qr_aload_n 101 rfl g722546 rfl ?_
                  refine qr_get 104 rfl rfl rfl (by decide) rfl ?_
                  refine qy_v (σ 86 43) ((hk709701).trans rfl) ?_
                  refine qr_ishl 105 rfl rfl ?_
                  refine qy_shl1E (N := 12) (by omega) (fun v722561 hv722561 hev722561 => ?_)
                  refine qr_icmp_ge 186 108 rfl rfl rfl (qrg hf722556 (by decide) (by decide)) (by omega) (fun h722562 => ?_) (fun h722562 => ?_)
                  · skip
                    refine qr_retV rfl rfl (by decide) (by decide) ?_
                    exact ⟨_, _, rfl, hI722551, hF722552, (by have hw : σ709693 86 41 = (σ709693 86 41) := rfl; omega), rfl, (by rw [show α722550 111 = (α709694 111) from hk722555]; exact qPR_end (by omega) (by omega) hx709705), (by rw [show α722550 111 = (α709694 111) from hk722555, qwC_e (hF722552.2 92 (by decide)) (hF722552.2 110 (by decide))]; exact fun u h0 h1 => hx722557 u h0 (by omega))⟩
                  · skip
                    refine qr_iconst 109 rfl rfl ?_
                    refine qr_istore_n _ 110 rfl (by decide) rfl rfl ?_
                    refine qr_iconst 111 rfl rfl ?_
                    refine qr_istore _ 113 rfl (by decide) rfl rfl ?_
                    have hL722822 : ∀ (n : Nat) (ls : qm_L) (u722814 u722816 : Int), 12 - u722816 < (n : Int) → qm_get ls 0 = some (.ref 86) → qm_get ls 2 = some (.int (qz u722548)) → qm_get ls 3 = some (.int (qz u722814)) → qm_get ls 4 = some (.int (qz u722816)) → ((-2147483648) ≤ u722814 ∧ u722814 ≤ 2147483647) → (0 ≤ u722816 ∧ u722816 ≤ 12) → (∀ u : Int, 0 ≤ u → u < u722548 → α722550 112 (u : Int).toNat = qwt (α709694 111) (qwC α 92 110) u (σ 86 43 : Int).toNat) → (u722814 = qwt (α709694 111) (qwC α 92 110) u722548 (u722816 : Int).toNat ∧ -1 ≤ u722814 ∧ u722814 ≤ 99 * u722816) → u722816 ≤ σ 86 43 → qr_W (qe L xs vb) (d + 48) qx_e235 (fun r w' => ∃ σ' α', w' = qw σ' α' κ ρ ∧ qI σ' α' κ ρ ∧ qFr [(86, 15), (86, 23), (86, 30), (86, 35), (86, 36), (86, 37), (86, 38), (86, 39), (86, 41)] [96, 109, 111, 112] σ α σ' α' ∧ σ' 86 41 = 0 ∧ r = none ∧ qBR (qPF (fun a b : Int => qBaM σ α g (α 110 (a : Int).toNat) (α 110 (b : Int).toNat) (x1 / 10000) (x1 % 10000)) (σ 86 43)) (α' 111) (σ 86 43) ∧ (∀ u : Int, 0 ≤ u → u < qz_shl 1 (σ 86 43) → α' 112 (u : Int).toNat = qwt (α' 111) (qwC α' 92 110) u (σ 86 43 : Int).toNat)) (113, ls, [], qw σ709693 α722550 κ ρ, 0, 0) := by
                      intro n
                      induction n with
                      | zero => intro ls u722814 u722816 hm g722811 g722812 g722813 g722815 hf722817 hf722818 hx722819 hx722820 hx722821; exact False.elim (by omega)
                      | succ n ih722823 =>
                        intro ls u722814 u722816 hm g722811 g722812 g722813 g722815 hf722817 hf722818 hx722819 hx722820 hx722821
                        refine qr_iload 115 rfl g722815 rfl ?_
                        refine qr_aload_n 116 rfl g722811 rfl ?_
                        refine qr_get 119 rfl rfl rfl (by decide) rfl ?_
                        refine qy_v (σ 86 43) ((hk709701).trans rfl) ?_
                        refine qr_icmp_ge 173 122 rfl rfl rfl (qrg hf722818 (by decide) (by decide)) (qrg hz86_43 (by decide) (by decide)) (fun h722824 => ?_) (fun h722824 => ?_)
                        · skip
                          refine qr_aload_n 174 rfl g722811 rfl ?_
                          refine qr_get 177 rfl rfl rfl (by decide) rfl ?_
                          refine qr_iload_n 178 rfl g722812 rfl ?_
                          refine qr_iload_n 179 rfl g722813 rfl ?_
                          refine qr_iastore 180 rfl (by decide) rfl (by omega) (by decide) rfl ?_
                          refine qy_wA (qw_r α722550 112 (qzu (α722550 112) (u722548 : Int).toNat u722814)) rfl (fun α722825 e722826 => ?_)
                          have hI722827 : qI σ709693 α722825 κ ρ := by rw [e722826]; exact qI_r hI722551 112 _ rfl (show (-2147483648) ≤ u722814 ∧ u722814 ≤ 2147483647 by omega)
                          have hF722828 : qFr [(86, 15), (86, 23), (86, 30), (86, 35), (86, 36), (86, 37), (86, 38), (86, 39), (86, 41)] [96, 109, 111, 112] σ α σ709693 α722825 := by rw [e722826]; exact qFr_r hF722552 112 _ (by decide)
                          refine qr_iinc _ 183 rfl g722812 (by decide) rfl rfl ?_
                          refine qr_goto 98 rfl rfl ?_
                          exact ih722560 _ (u722548 + 1) α722825 (by omega) (qm_gk g722811 (by decide) (Or.inl (by decide))) (qm_ge _ _ _) (by omega) hI722827 hF722828 ((congrFun e722826 92).trans ((qw_r_ne (by decide)).trans hk722553)) ((congrFun e722826 110).trans ((qw_r_ne (by decide)).trans hk722554)) ((congrFun e722826 111).trans ((qw_r_ne (by decide)).trans hk722555)) (qri_s (g := fun u => qwt (α709694 111) (qwC α 92 110) u (σ 86 43 : Int).toNat) (by omega) hx722557 (((congrFun e722826 112).trans (qw_r_eq.trans (congrArg (fun f => qzu f (u722548 : Int).toNat u722814) rfl)))) (qwt_e (a := u722816) (by omega) (by omega) hx722820.1 (by omega))) (by omega)
                        · skip
                          refine qr_iload_n 123 rfl g722813 rfl ?_
                          refine qr_if_lt 173 126 rfl rfl rfl hf722817 (fun h722829 => ?_) (fun h722829 => ?_)
                          · skip
                            refine qr_aload_n 174 rfl g722811 rfl ?_
                            refine qr_get 177 rfl rfl rfl (by decide) rfl ?_
                            refine qr_iload_n 178 rfl g722812 rfl ?_
                            refine qr_iload_n 179 rfl g722813 rfl ?_
                            refine qr_iastore 180 rfl (by decide) rfl (by omega) (by decide) rfl ?_
                            refine qy_wA (qw_r α722550 112 (qzu (α722550 112) (u722548 : Int).toNat u722814)) rfl (fun α722830 e722831 => ?_)
                            have hI722832 : qI σ709693 α722830 κ ρ := by rw [e722831]; exact qI_r hI722551 112 _ rfl (show (-2147483648) ≤ u722814 ∧ u722814 ≤ 2147483647 by omega)
                            have hF722833 : qFr [(86, 15), (86, 23), (86, 30), (86, 35), (86, 36), (86, 37), (86, 38), (86, 39), (86, 41)] [96, 109, 111, 112] σ α σ709693 α722830 := by rw [e722831]; exact qFr_r hF722552 112 _ (by decide)
                            refine qr_iinc _ 183 rfl g722812 (by decide) rfl rfl ?_
                            refine qr_goto 98 rfl rfl ?_
                            exact ih722560 _ (u722548 + 1) α722830 (by omega) (qm_gk g722811 (by decide) (Or.inl (by decide))) (qm_ge _ _ _) (by omega) hI722832 hF722833 ((congrFun e722831 92).trans ((qw_r_ne (by decide)).trans hk722553)) ((congrFun e722831 110).trans ((qw_r_ne (by decide)).trans hk722554)) ((congrFun e722831 111).trans ((qw_r_ne (by decide)).trans hk722555)) (qri_s (g := fun u => qwt (α709694 111) (qwC α 92 110) u (σ 86 43 : Int).toNat) (by omega) hx722557 (((congrFun e722831 112).trans (qw_r_eq.trans (congrArg (fun f => qzu f (u722548 : Int).toNat u722814) rfl)))) (qwt_e (a := u722816) (by omega) (by omega) hx722820.1 (by omega))) (by omega)
                          · skip
                            refine qr_iload_n 127 rfl g722812 rfl ?_
                            refine qr_iload 129 rfl g722815 rfl ?_
                            refine qr_ishr 130 rfl rfl ?_
                            refine qy_canE (fun v722834 hv722834 hev722834 => ?_)
                            refine qr_iconst 131 rfl rfl ?_
                            refine qr_iand 132 rfl rfl ?_
                            refine qy_andrE (by omega) (fun v722835 hv722835 hev722835 => ?_)
                            refine qr_iconst 133 rfl rfl ?_
                            refine qr_icmp_ne 167 136 rfl rfl rfl (by omega) (by decide) (fun h722837 => ?_) (fun h722837 => ?_)
                            · skip
                              refine qr_iinc _ 170 rfl g722815 (by decide) rfl rfl ?_
                              refine qr_goto 113 rfl rfl ?_
                              exact ih722823 _ u722814 (u722816 + 1) (by omega) (qm_gk g722811 (by decide) (Or.inl (by decide))) (qm_gk g722812 (by decide) (Or.inl (by decide))) (qm_gk g722813 (by decide) (Or.inr rfl)) (qm_ge _ _ _) hf722817 (by omega) hx722557 (by have hq0 := hx722820; have hq1 := qwt_s (α709694 111) (qwC α 92 110) u722548 (i := u722816) (by omega) (by have hz := hx722820; omega); have hq2 := qbi_inS (t := u722548) (i := u722816) (by omega) hev722834 hev722835 (by omega); omega) (by omega)
                            · skip
                              refine qr_aload_n 137 rfl g722811 rfl ?_
                              refine qr_get 140 rfl rfl rfl (by decide) rfl ?_
                              refine qr_iload 142 rfl g722815 rfl ?_
                              refine qr_iaload 143 rfl rfl (by omega) (by decide) rfl ?_
                              refine qr_topI (fun v722838 hv722838 => ?_)
                              have hs722839 : (-2147483648) ≤ v722838 ∧ v722838 ≤ 2147483647 := by rw [hv722838]; exact hI722551.2.1 111 _ (show _ < 12 by omega)
                              have hrv722838 : v722838 = (α709694 111) (u722816 : Int).toNat := hv722838.trans (congrFun hk722555 _)
                              refine qr_iload_n 144 rfl g722812 rfl ?_
                              refine qr_iand 145 rfl rfl ?_
                              refine qy_andrE (by omega) (fun v722840 hv722840 hev722840 => ?_)
                              refine qr_if_eq 152 148 rfl rfl rfl (by omega) (fun h722841 => ?_) (fun h722841 => ?_)
                              · skip
                                refine qr_iload_n 153 rfl g722813 rfl ?_
                                refine qr_aload_n 154 rfl g722811 rfl ?_
                                refine qr_get 157 rfl rfl rfl (by decide) rfl ?_
                                refine qr_aload_n 158 rfl g722811 rfl ?_
                                refine qr_get 161 rfl rfl rfl (by decide) rfl ?_
                                refine qr_iload 163 rfl g722815 rfl ?_
                                refine qr_iaload 164 rfl rfl (qrgi hf722818 (by decide) (by decide)) (by decide) rfl ?_
                                refine qr_topI (fun v722842 hv722842 => ?_)
                                have hs722843 : 0 ≤ v722842 ∧ v722842 ≤ 31 := by rw [hv722842]; exact hI722551.2.1 110 _ (show _ < 32 from qrgt hf722818 (by decide) (by decide))
                                have hrv722842 : v722842 = (α 110) (u722816 : Int).toNat := hv722842.trans (congrFun hk722554 _)
                                refine qr_iaload 165 rfl rfl (qrgi hs722843 (by decide) (by decide)) (by decide) rfl ?_
                                refine qr_topI (fun v722844 hv722844 => ?_)
                                have hs722845 : (-2147483648) ≤ v722844 ∧ v722844 ≤ 2147483647 := by rw [hv722844]; exact hI722551.2.1 92 _ (show _ < 32 from qrgt hs722843 (by decide) (by decide))
                                have hrv722844 : v722844 = (α 92) (v722842 : Int).toNat := hv722844.trans (congrFun hk722553 _)
                                refine qr_iadd 166 rfl rfl ?_
                                refine qy_canE (fun v722846 hv722846 hev722846 => ?_)
                                refine qr_istore_n _ 167 rfl (by decide) rfl rfl ?_
                                refine qr_iinc _ 170 rfl (qm_gk g722815 (by decide) (Or.inl (by decide))) (by decide) rfl rfl ?_
                                refine qr_goto 113 rfl rfl ?_
                                exact ih722823 _ v722846 (u722816 + 1) (by omega) (qm_gk (qm_gk g722811 (by decide) (Or.inl (by decide))) (by decide) (Or.inl (by decide))) (qm_gk (qm_gk g722812 (by decide) (Or.inr rfl)) (by decide) (Or.inl (by decide))) (qm_gk (qm_ge _ _ _) (by decide) (Or.inr rfl)) (qm_ge _ _ _) hv722846 (by omega) hx722557 (by have hq0 := hx722820; have hq1 := qwt_s (α709694 111) (qwC α 92 110) u722548 (i := u722816) (by omega) (by have hz := hx722820; omega); have hq2 := qbi_inS (t := u722548) (i := u722816) (by omega) hev722834 hev722835 (by omega); have hq3 := (show qz_and ((α709694 111) (u722816 : Int).toNat) u722548 = v722840 by rw [← hrv722838]; exact hev722840.symm); have hq4 := (show (qwC α 92 110) (u722816 : Int).toNat = v722844 by unfold qwC; rw [← hrv722842]; exact (hrv722844).symm); have hq5 := p5 (v722842 : Int).toNat (by omega); have hq6 := hrv722844; have hq7 := qz_val hev722846 (by omega) (by omega); omega) (by omega)
                              · skip
                                refine qr_iconst 149 rfl rfl ?_
                                refine qr_goto 166 rfl rfl ?_
                                refine qr_istore_n _ 167 rfl (by decide) rfl rfl ?_
                                refine qr_iinc _ 170 rfl (qm_gk g722815 (by decide) (Or.inl (by decide))) (by decide) rfl rfl ?_
                                refine qr_goto 113 rfl rfl ?_
                                exact ih722823 _ (-1) (u722816 + 1) (by omega) (qm_gk (qm_gk g722811 (by decide) (Or.inl (by decide))) (by decide) (Or.inl (by decide))) (qm_gk (qm_gk g722812 (by decide) (Or.inr rfl)) (by decide) (Or.inl (by decide))) (qm_gk (qm_ge _ _ _) (by decide) (Or.inr rfl)) (qm_ge _ _ _) (by decide) (by omega) hx722557 (by have hq0 := hx722820; have hq1 := qwt_s (α709694 111) (qwC α 92 110) u722548 (i := u722816) (by omega) (by have hz := hx722820; omega); have hq2 := qbi_inS (t := u722548) (i := u722816) (by omega) hev722834 hev722835 (by omega); have hq3 := (show qz_and ((α709694 111) (u722816 : Int).toNat) u722548 = v722840 by rw [← hrv722838]; exact hev722840.symm); omega) (by omega)
                    exact hL722822 ((12 - 0 + 1 : Int)).toNat _ 0 0 (by omega) (qm_gk (qm_gk g722546 (by decide) (Or.inl (by decide))) (by decide) (Or.inl (by decide))) (qm_gk (qm_gk g722547 (by decide) (Or.inr rfl)) (by decide) (Or.inl (by decide))) (qm_gk (qm_ge _ _ _) (by decide) (Or.inr rfl)) (qm_ge _ _ _) (by decide) (by decide) hx722557 ⟨rfl, by omega, by omega⟩ (by omega)
              exact hL722559 ((4096 - 0 + 1 : Int)).toNat _ 0 α709694 (by omega) (qm_gk g709689 (by decide) (Or.inl (by decide))) (qm_ge _ _ _) (by decide) hI709695 hF709696 hk709702 hk709703 rfl (fun u h0 h1 => False.elim (by omega)) (by omega)
            · skip
              refine qr_iconst 34 rfl rfl ?_
              refine qr_istore_n _ 35 rfl (by decide) rfl rfl ?_
              have hL723316 : ∀ (n : Nat) (ls : qm_L) (u723301 : Int) (σ723302 α723303 : Nat → Nat → Int), 11 - u723301 < (n : Int) → qm_get ls 0 = some (.ref 86) → qm_get ls 1 = some (.int (qz x1)) → qm_get ls 2 = some (.int (qz u709692)) → qm_get ls 3 = some (.int (qz u723301)) → (0 ≤ u723301 ∧ u723301 ≤ 11) → qI σ723302 α723303 κ ρ → qFr [(86, 15), (86, 23), (86, 30), (86, 35), (86, 36), (86, 37), (86, 38), (86, 39), (86, 41)] [96, 109, 111, 112] σ α σ723302 α723303 → σ723302 86 6 = (σ 86 6) → σ723302 86 10 = (σ 86 10) → σ723302 86 24 = (σ 86 24) → σ723302 86 29 = (σ 86 29) → σ723302 86 43 = (σ 86 43) → α723303 92 = (α 92) → α723303 110 = (α 110) → qBR (qPR (fun a b : Int => qBaM σ α g (α 110 (a : Int).toNat) (α 110 (b : Int).toNat) (x1 / 10000) (x1 % 10000)) u709692 u723301) (α723303 111) (σ 86 43) → σ723302 86 41 = 0 → qr_W (qe L xs vb) (d + 48) qx_e235 (fun r w' => ∃ σ' α', w' = qw σ' α' κ ρ ∧ qI σ' α' κ ρ ∧ qFr [(86, 15), (86, 23), (86, 30), (86, 35), (86, 36), (86, 37), (86, 38), (86, 39), (86, 41)] [96, 109, 111, 112] σ α σ' α' ∧ σ' 86 41 = 0 ∧ r = none ∧ qBR (qPF (fun a b : Int => qBaM σ α g (α 110 (a : Int).toNat) (α 110 (b : Int).toNat) (x1 / 10000) (x1 % 10000)) (σ 86 43)) (α' 111) (σ 86 43) ∧ (∀ u : Int, 0 ≤ u → u < qz_shl 1 (σ 86 43) → α' 112 (u : Int).toNat = qwt (α' 111) (qwC α' 92 110) u (σ 86 43 : Int).toNat)) (35, ls, [], qw σ723302 α723303 κ ρ, 0, 0) := by
                intro n
                induction n with
                | zero => intro ls u723301 σ723302 α723303 hm g723297 g723298 g723299 g723300 hf723313 hI723304 hF723305 hk723306 hk723307 hk723308 hk723309 hk723310 hk723311 hk723312 hx723314 hx723315; exact False.elim (by omega)
                | succ n ih723317 =>
                  intro ls u723301 σ723302 α723303 hm g723297 g723298 g723299 g723300 hf723313 hI723304 hF723305 hk723306 hk723307 hk723308 hk723309 hk723310 hk723311 hk723312 hx723314 hx723315
                  have hs723318 : 0 ≤ σ723302 86 41 ∧ σ723302 86 41 ≤ 1 := hI723304.1 86 41
                  refine qr_iload_n 36 rfl g723300 rfl ?_
                  refine qr_iload_n 37 rfl g723299 rfl ?_
                  refine qr_icmp_ge 90 40 rfl rfl rfl (qrg hf723313 (by decide) (by decide)) (qrg hf709704 (by decide) (by decide)) (fun h723319 => ?_) (fun h723319 => ?_)
                  · skip
                    refine qr_iinc _ 93 rfl g723299 (by decide) rfl rfl ?_
                    refine qr_goto 25 rfl rfl ?_
                    exact ih709709 _ (u709692 + 1) σ723302 α723303 (by omega) (qm_gk g723297 (by decide) (Or.inl (by decide))) (qm_gk g723298 (by decide) (Or.inr rfl)) (qm_ge _ _ _) (by omega) hI723304 hF723305 ((hk723306).trans rfl) ((hk723307).trans rfl) ((hk723308).trans rfl) ((hk723309).trans rfl) ((hk723310).trans rfl) hk723311 hk723312 (qPR_out (J := u723301) (by omega) hx723314) ((rfl).trans hx723315) (by omega)
                  · skip
                    refine qr_aload_n 41 rfl g723297 rfl ?_
                    refine qr_aload_n 42 rfl g723297 rfl ?_
                    refine qr_get 45 rfl rfl rfl (by decide) rfl ?_
                    refine qr_iload_n 46 rfl g723300 rfl ?_
                    refine qr_iaload 47 rfl rfl (qrgi hf723313 (by decide) (by decide)) (by decide) rfl ?_
                    refine qr_topI (fun v723320 hv723320 => ?_)
                    have hs723321 : 0 ≤ v723320 ∧ v723320 ≤ 31 := by rw [hv723320]; exact hI723304.2.1 110 _ (show _ < 32 from qrgt hf723313 (by decide) (by decide))
                    have hrv723320 : v723320 = (α 110) (u723301 : Int).toNat := hv723320.trans (congrFun hk723312 _)
                    refine qr_aload_n 48 rfl g723297 rfl ?_
                    refine qr_get 51 rfl rfl rfl (by decide) rfl ?_
                    refine qr_iload_n 52 rfl g723299 rfl ?_
                    refine qr_iaload 53 rfl rfl (qrgi hf709704 (by decide) (by decide)) (by decide) rfl ?_
                    refine qr_topI (fun v723322 hv723322 => ?_)
                    have hs723323 : 0 ≤ v723322 ∧ v723322 ≤ 31 := by rw [hv723322]; exact hI723304.2.1 110 _ (show _ < 32 from qrgt hf709704 (by decide) (by decide))
                    have hrv723322 : v723322 = (α 110) (u709692 : Int).toNat := hv723322.trans (congrFun hk723312 _)
                    have hy1 := p6.1 (u723301 : Int).toNat (by omega)
                    have hy2 := p6.1 (u709692 : Int).toNat (by omega)
                    have hy3 := p6.2 (u723301 : Int).toNat (u709692 : Int).toNat (by omega) (by omega)
                    rw [← hrv723320] at hy1 hy3
                    rw [← hrv723322] at hy2 hy3
                    refine qr_iload_n 54 rfl g723298 rfl ?_
                    have hs723324 : (-9223372036854775808) ≤ σ723302 86 29 ∧ σ723302 86 29 ≤ 9223372036854775807 := hI723304.1 86 29
                    have hs723325 : σ723302 86 29 = (σ 86 29) := (hk723309).trans rfl
                    have hs723326 : 0 ≤ σ723302 86 41 ∧ σ723302 86 41 ≤ 1 := hI723304.1 86 41
                    have hs723327 : 0 ≤ σ723302 86 6 ∧ σ723302 86 6 ≤ 32 := hI723304.1 86 6
                    have hs723328 : σ723302 86 6 = (σ 86 6) := (hk723306).trans rfl
                    refine qr_callN 57 rfl rfl rfl (sf_232_86x (d := d + 0) hI723304 hs723321 hs723323 r1 (by omega) (qPG_fr hF723305 (by decide) (by decide) p2) (qZf_fr hF723305 (by decide) (by decide) p3) (qZk_fr hF723305 (by decide) (by decide) p7) ((hF723305.1 86 29 (by decide)).trans p8) ((rfl).trans hx723315) (by omega)) ?_
                    rintro _ _ ⟨σ723332, α723333, rfl, hI723334, hG723335, hw723331, v723329, rfl, hv723329, hx723330⟩
                    have hF723336 : qFr [(86, 15), (86, 23), (86, 30), (86, 35), (86, 36), (86, 37), (86, 38), (86, 39), (86, 41)] [96, 109, 111, 112] σ α σ723332 α723333 := qFr_t hF723305 hG723335 (by decide) (by decide)
                    have hs723337 : 0 ≤ σ723332 86 41 ∧ σ723332 86 41 ≤ 1 := hI723334.1 86 41
                    show qr_W (qe L xs vb) (d + 48) qx_e235 _ (57, _, [.int (qz v723329)], qw σ723332 α723333 κ ρ, 0, 0)
                    rw [qBaM_f4 hF723305 (by decide) (by decide) ((show σ723302 86 41 = σ 86 41 from (((rfl).trans hx723315)).trans p4.symm)), hrv723320, hrv723322] at hx723330
                    refine qr_if_eq 84 60 rfl rfl rfl (qrg hv723329 (by decide) (by decide)) (fun h723338 => ?_) (fun h723338 => ?_)
                    · skip
                      refine qr_iinc _ 87 rfl g723300 (by decide) rfl rfl ?_
                      refine qr_goto 35 rfl rfl ?_
                      exact ih723317 _ (u723301 + 1) σ723332 α723333 (by omega) (qm_gk g723297 (by decide) (Or.inl (by decide))) (qm_gk g723298 (by decide) (Or.inl (by decide))) (qm_gk g723299 (by decide) (Or.inr rfl)) (qm_ge _ _ _) (by omega) hI723334 hF723336 ((hG723335.1 86 6 (by decide)).trans ((hk723306).trans rfl)) ((hG723335.1 86 10 (by decide)).trans ((hk723307).trans rfl)) ((hG723335.1 86 24 (by decide)).trans ((hk723308).trans rfl)) ((hG723335.1 86 29 (by decide)).trans ((hk723309).trans rfl)) ((hG723335.1 86 43 (by decide)).trans ((hk723310).trans rfl)) ((hG723335.2 92 (by decide)).trans hk723311) ((hG723335.2 110 (by decide)).trans hk723312) (by rw [hG723335.2 111 (by decide)]; exact qPR_no (by rcases hx723330 with hz | hz; (omega); (exact hz.2)) hx723314) ((rfl).trans hw723331)
                    · skip
                      refine qr_aload_n 61 rfl g723297 rfl ?_
                      refine qr_get 64 rfl rfl rfl (by decide) rfl ?_
                      refine qr_iload_n 65 rfl g723299 rfl ?_
                      refine qr_dup2 66 rfl rfl rfl rfl ?_
                      refine qr_iaload 67 rfl rfl (by omega) (by decide) rfl ?_
                      refine qr_topI (fun v723339 hv723339 => ?_)
                      have hs723340 : (-2147483648) ≤ v723339 ∧ v723339 ≤ 2147483647 := by rw [hv723339]; exact hI723334.2.1 111 _ (show _ < 12 by omega)
                      have hrv723339 : v723339 = (α723333 111) (u709692 : Int).toNat := hv723339
                      refine qr_iconst 68 rfl rfl ?_
                      refine qr_iload_n 69 rfl g723300 rfl ?_
                      refine qr_ishl 70 rfl rfl ?_
                      refine qy_shl1E (N := 10) (by omega) (fun v723341 hv723341 hev723341 => ?_)
                      refine qr_ior 71 rfl rfl ?_
                      refine qy_canE (fun v723342 hv723342 hev723342 => ?_)
                      refine qr_iastore 72 rfl (by decide) rfl (by omega) (by decide) rfl ?_
                      refine qy_wA (qw_r α723333 111 (qzu (α723333 111) (u709692 : Int).toNat v723342)) rfl (fun α723343 e723344 => ?_)
                      have hI723345 : qI σ723332 α723343 κ ρ := by rw [e723344]; exact qI_r hI723334 111 _ rfl (show (-2147483648) ≤ v723342 ∧ v723342 ≤ 2147483647 by omega)
                      have hF723346 : qFr [(86, 15), (86, 23), (86, 30), (86, 35), (86, 36), (86, 37), (86, 38), (86, 39), (86, 41)] [96, 109, 111, 112] σ α σ723332 α723343 := by rw [e723344]; exact qFr_r hF723336 111 _ (by decide)
                      refine qr_aload_n 73 rfl g723297 rfl ?_
                      refine qr_get 76 rfl rfl rfl (by decide) rfl ?_
                      refine qr_iload_n 77 rfl g723300 rfl ?_
                      refine qr_dup2 78 rfl rfl rfl rfl ?_
                      refine qr_iaload 79 rfl rfl (qrgi hf723313 (by decide) (by decide)) (by decide) rfl ?_
                      refine qr_topI (fun v723347 hv723347 => ?_)
                      have hs723348 : (-2147483648) ≤ v723347 ∧ v723347 ≤ 2147483647 := by rw [hv723347]; exact hI723345.2.1 111 _ (show _ < 12 from qrgt hf723313 (by decide) (by decide))
                      have hrv723347 : v723347 = (qzu (α723333 111) (u709692 : Int).toNat v723342) (u723301 : Int).toNat := hv723347.trans (congrFun ((congrFun e723344 111).trans (qw_r_eq.trans (congrArg (fun f => qzu f (u709692 : Int).toNat v723342) rfl))) _)
                      refine qr_iconst 80 rfl rfl ?_
                      refine qr_iload_n 81 rfl g723299 rfl ?_
                      refine qr_ishl 82 rfl rfl ?_
                      refine qy_shl1E (N := 11) (by omega) (fun v723349 hv723349 hev723349 => ?_)
                      refine qr_ior 83 rfl rfl ?_
                      refine qy_canE (fun v723350 hv723350 hev723350 => ?_)
                      refine qr_iastore 84 rfl (by decide) rfl (qrgi hf723313 (by decide) (by decide)) (by decide) rfl ?_
                      refine qy_wA (qw_r α723343 111 (qzu (α723343 111) (u723301 : Int).toNat v723350)) rfl (fun α723351 e723352 => ?_)
                      have hI723353 : qI σ723332 α723351 κ ρ := by rw [e723352]; exact qI_r hI723345 111 _ rfl (show (-2147483648) ≤ v723350 ∧ v723350 ≤ 2147483647 by omega)
                      have hF723354 : qFr [(86, 15), (86, 23), (86, 30), (86, 35), (86, 36), (86, 37), (86, 38), (86, 39), (86, 41)] [96, 109, 111, 112] σ α σ723332 α723351 := by rw [e723352]; exact qFr_r hF723346 111 _ (by decide)
                      refine qr_iinc _ 87 rfl g723300 (by decide) rfl rfl ?_
                      refine qr_goto 35 rfl rfl ?_
                      exact ih723317 _ (u723301 + 1) σ723332 α723351 (by omega) (qm_gk g723297 (by decide) (Or.inl (by decide))) (qm_gk g723298 (by decide) (Or.inl (by decide))) (qm_gk g723299 (by decide) (Or.inr rfl)) (qm_ge _ _ _) (by omega) hI723353 hF723354 ((hG723335.1 86 6 (by decide)).trans ((hk723306).trans rfl)) ((hG723335.1 86 10 (by decide)).trans ((hk723307).trans rfl)) ((hG723335.1 86 24 (by decide)).trans ((hk723308).trans rfl)) ((hG723335.1 86 29 (by decide)).trans ((hk723309).trans rfl)) ((hG723335.1 86 43 (by decide)).trans ((hk723310).trans rfl)) ((congrFun e723352 92).trans ((qw_r_ne (by decide)).trans ((congrFun e723344 92).trans ((qw_r_ne (by decide)).trans ((hG723335.2 92 (by decide)).trans hk723311))))) ((congrFun e723352 110).trans ((qw_r_ne (by decide)).trans ((congrFun e723344 110).trans ((qw_r_ne (by decide)).trans ((hG723335.2 110 (by decide)).trans hk723312))))) (qPR_y (r := (α723333 111)) (by rcases hx723330 with hz | hz; (exact hz.2); (omega)) (by omega) (((congrFun e723352 111).trans (qw_r_eq.trans (congrArg (fun f => qzu f (u723301 : Int).toNat v723350) ((congrFun e723344 111).trans (qw_r_eq.trans (congrArg (fun f => qzu f (u709692 : Int).toNat v723342) rfl))))))) (by rw [qz_val hev723342 (by omega) (qz_or_r _ _), hev723341, show v723339 = (α723333 111) (u709692 : Int).toNat from hv723339]) (by rw [qz_val hev723350 (by omega) (qz_or_r _ _), hev723349, show v723347 = (α723333 111) (u723301 : Int).toNat from (by rw [show v723347 = _ from hv723347, show α723343 111 = _ from ((congrFun e723344 111).trans (qw_r_eq.trans (congrArg (fun f => qzu f (u709692 : Int).toNat v723342) rfl)))]; exact if_neg (by omega))]) (by rw [hG723335.2 111 (by decide)]; exact hx723314)) ((rfl).trans hw723331)
              exact hL723316 ((11 - 0 + 1 : Int)).toNat _ 0 σ709693 α709694 (by omega) (qm_gk g709689 (by decide) (Or.inl (by decide))) (qm_gk g709690 (by decide) (Or.inl (by decide))) (qm_gk g709691 (by decide) (Or.inr rfl)) (qm_ge _ _ _) (by decide) hI709695 hF709696 ((hk709697).trans rfl) ((hk709698).trans rfl) ((hk709699).trans rfl) ((hk709700).trans rfl) ((hk709701).trans rfl) hk709702 hk709703 hx709705 ((rfl).trans hx709706)
        exact hL709708 ((12 - 0 + 1 : Int)).toNat _ 0 σ α621477 (by omega) (qm_gk g621472 (by decide) (Or.inl (by decide))) (qm_gk g621473 (by decide) (Or.inr rfl)) (qm_ge _ _ _) (by decide) hI621478 hF621479 (rfl) (rfl) (rfl) (rfl) (rfl) hk621480 hk621481 (qPR_0 (fun j hj => hx621484 j (by omega))) ((rfl).trans p4) (by omega)
      · skip
        refine qr_aload_n 11 rfl g621472 rfl ?_
        refine qr_get 14 rfl rfl rfl (by decide) rfl ?_
        refine qr_iload_n 15 rfl g621474 rfl ?_
        refine qr_iconst 16 rfl rfl ?_
        refine qr_iastore 17 rfl (by decide) rfl (by omega) (by decide) rfl ?_
        refine qy_wA (qw_r α621477 111 (qzu (α621477 111) (u621475 : Int).toNat 0)) rfl (fun α723355 e723356 => ?_)
        have hI723357 : qI σ α723355 κ ρ := by rw [e723356]; exact qI_r hI621478 111 _ rfl (show (-2147483648) ≤ 0 ∧ 0 ≤ 2147483647 by omega)
        have hF723358 : qFr [(86, 15), (86, 23), (86, 30), (86, 35), (86, 36), (86, 37), (86, 38), (86, 39), (86, 41)] [96, 109, 111, 112] σ α σ α723355 := by rw [e723356]; exact qFr_r hF621479 111 _ (by decide)
        refine qr_iinc _ 20 rfl g621474 (by decide) rfl rfl ?_
        refine qr_goto 2 rfl rfl ?_
        exact ih621486 _ (u621475 + 1) α723355 (by omega) (qm_gk g621472 (by decide) (Or.inl (by decide))) (qm_gk g621473 (by decide) (Or.inr rfl)) (qm_ge _ _ _) (by omega) hI723357 hF723358 ((congrFun e723356 92).trans ((qw_r_ne (by decide)).trans hk621480)) ((congrFun e723356 110).trans ((qw_r_ne (by decide)).trans hk621481)) ((congrFun e723356 112).trans ((qw_r_ne (by decide)).trans hk621482)) (qrw_s (g := fun _ => 0) (by omega) hx621484 ((congrFun e723356 111).trans (qw_r_eq.trans (congrArg (fun f => qzu f (u621475 : Int).toNat 0) rfl))) rfl)
  exact hL621485 ((12 - 0 + 1 : Int)).toNat _ 0 α (by omega) rfl rfl rfl (by decide) hI hF0 rfl rfl rfl (fun j hj => False.elim (by omega))

theorem qgl_0 {x d n : Int} (h : qst x n) (hn : 0 ≤ n ∧ n ≤ 32) : ∀ k : Nat, n.toNat ≤ k → qbit (ql_and x d) (k : Int) = 0 := fun k hk => by
  have h1 := qst_bit h (by omega) (i := (k : Int)) (by omega)
  have h2 := qband_c x d (k : Int)
  omega
theorem qgl_len {x d n : Int} (h : qst x n) (hn : 0 ≤ n ∧ n ≤ 32) : qcn (ql_and x d) 64 = qsm (fun k : Nat => qbit (ql_and x d) (k : Int)) n.toNat := by
  have h1 := qcn_sm (ql_and x d) 64
  have h2 : qcn (ql_and x d) ((64 : Nat) : Int) = qcn (ql_and x d) 64 := rfl
  have h3 := qsm_z (f := fun k : Nat => qbit (ql_and x d) (k : Int)) (n := n.toNat) (qgl_0 h hn) (64 - n.toNat)
  rw [show n.toNat + (64 - n.toNat) = 64 by omega] at h3
  omega
theorem qgl_ls {x d n : Int} (h : qst x n) (hn : 0 ≤ n ∧ n ≤ 32) : qBr (fun k : Nat => qbit (ql_and x d) (k : Int)) 32 = qBr (fun k : Nat => qbit (ql_and x d) (k : Int)) n.toNat := by
  have h3 := qBr_stop (Q := fun k : Nat => qbit (ql_and x d) (k : Int)) (n := n.toNat) (fun k hk => by
    have := qgl_0 (d := d) h hn k hk
    omega) (32 - n.toNat)
  rw [show n.toNat + (32 - n.toNat) = 32 by omega] at h3
  exact h3
theorem qgl_nz {L : Int} (hr : -9223372036854775808 ≤ L ∧ L ≤ 9223372036854775807) : ¬ L = 0 ↔ 1 ≤ qcn L 64 := by
  constructor
  · intro h
    by_cases c : ∃ i : Int, (0 ≤ i ∧ i < 64) ∧ qbit L i = 1
    · obtain ⟨i, hi, hb⟩ := c
      exact qcn_1 hi hb
    · exact absurd (qbit_ext hr (by decide) (fun i h0 h1 => by
        rw [qbit_0]
        have hb := qbit_r L i
        have hn : ¬ qbit L i = 1 := fun z => c ⟨i, ⟨h0, h1⟩, z⟩
        omega)) h
  · intro h e
    rw [e, qcn_z] at h
    omega
/-- the rows of those told are alike -/
theorem qgr_ls {r r' : Nat → Int} {n m : Int} {l : List Int} (h : qLs r n l) (g : qLs r' m l) : n = m ∧ ∀ k : Nat, (k : Int) < n → r k = r' k := by
  have h1 := h.1
  have g1 := g.1
  refine ⟨by omega, fun k hk => ?_⟩
  rw [h.2 k (by omega), g.2 k (by omega)]
theorem qgr_in {r : Nat → Int} {n m : Int} {L : Int} (h : qLs r n (qBr (fun k : Nat => qbit L (k : Int)) m.toNat)) : ∀ k : Nat, (k : Int) < n → qbit L (r k) = 1 := fun k hk => by
  have h1 := h.1
  have h2 := h.2 k (by omega)
  have h3 := (qBr_mem (P := fun k : Nat => qbit L (k : Int)) m.toNat (r k)).mp (by rw [h2]; exact List.getElem_mem _)
  have h4 : qbit L (((r k).toNat : Nat) : Int) = 1 := h3.2
  rw [show (((r k).toNat : Nat) : Int) = r k by have := h3.1; omega] at h4
  exact h4
theorem qrr_w {σ α : Nat → Nat → Int} {κ : Nat → Option Nat} {ρ : Nat} (hI : qI σ α κ ρ) (hR : qR σ α) : ∀ p : Nat, p < 32 → 0 ≤ α 92 p ∧ α 92 p ≤ 99 := fun p hp => by
  rw [← hR.2.2.2.2.1]
  exact hI.2.1 19 p hp
end
section
/-! two rooms -/
theorem qsh_eq {n : Int} (h : 0 ≤ n ∧ n ≤ 12) : qz_shl 1 n = ((2 ^ n.toNat : Nat) : Int) := by
  obtain ⟨m, rfl⟩ : ∃ m : Nat, n = m := ⟨n.toNat, by omega⟩
  have e : ∀ q : Fin 13, qz_shl 1 ((q : Nat) : Int) = ((2 ^ (q : Nat) : Nat) : Int) := by decide
  exact e ⟨m, by omega⟩
theorem qlz_nt {x : Int} (h : 0 ≤ x ∧ x ≤ 2147483647) : qlz x = x.toNat := by
  have h1 := qlz_nn (a := x) h
  omega
theorem qbi_hin {x n k : Int} (hn : 0 ≤ n ∧ n ≤ 12) (hx : 0 ≤ x ∧ x < qz_shl 1 n) (hk : n ≤ k) : qbi x k = 0 := by
  have h1 := qshl_r hn
  rw [qsh_eq hn] at hx
  rw [qbi_if, qlz_nt (by rw [qsh_eq hn] at h1; omega), Nat.testBit_lt_two_pow (Nat.lt_of_lt_of_le (show x.toNat < 2 ^ n.toNat by omega) (Nat.pow_le_pow_right (by decide) (show n.toNat ≤ k.toNat by omega)))]
  exact if_neg (by decide)
theorem qbi_lt {x n : Int} (hn : 0 ≤ n ∧ n ≤ 12) (hr : -2147483648 ≤ x ∧ x ≤ 2147483647) (h : ∀ k : Int, n ≤ k → k < 32 → qbi x k = 0) : 0 ≤ x ∧ x < qz_shl 1 n := by
  have ht : ∀ i : Nat, n.toNat ≤ i → (qlz x).testBit i = false := fun i hi => by
    by_cases h32 : i < 32
    · have h1 := h (i : Int) (by omega) (by omega)
      by_cases c : (qlz x).testBit i = true
      · rw [qbi_if, Int.toNat_natCast, if_pos c] at h1
        exact absurd h1 (by decide)
      · exact Bool.eq_false_iff.mpr c
    · exact qlz_hi x (by omega)
  have hlt : qlz x < 2 ^ n.toNat := Nat.lt_pow_two_of_testBit _ (fun i hi => ht i hi)
  have h12 : 2 ^ n.toNat ≤ 2 ^ 12 := Nat.pow_le_pow_right (by decide) (by omega)
  have h13 : (2 : Nat) ^ 12 = 4096 := by decide
  have hm : (qz x).toBitVec.msb = false := by
    rw [BitVec.msb_eq_decide, decide_eq_false_iff_not]
    have : (qz x).toBitVec.toNat < 2 ^ n.toNat := hlt
    show ¬ 2 ^ 31 ≤ (qz x).toBitVec.toNat
    have h31 : (2 : Nat) ^ 31 = 2147483648 := by decide
    omega
  have h1 : (qz x).toInt = x := qz_ti hr
  have h3 : (qz x).toInt = ((qz x).toBitVec.toNat : Int) := BitVec.toInt_eq_toNat_of_msb hm
  have h4 : qlz x = (qz x).toBitVec.toNat := rfl
  rw [qsh_eq hn]
  omega
def qsub (x y : Int) : Prop := ∀ k : Int, 0 ≤ k → k < 32 → qbi x k = 1 → qbi y k = 1
theorem qsub_iff {x y : Int} (hr : -2147483648 ≤ x ∧ x ≤ 2147483647) : qz_and x y = x ↔ qsub x y := by
  constructor
  · intro h k h0 h1 hb
    rw [← h, qbi_and] at hb
    by_cases c : qbi x k = 1 ∧ qbi y k = 1
    · exact c.2
    · rw [if_neg c] at hb
      exact absurd hb (by decide)
  · intro h
    refine qbi_ext (qz_and_r _ _) hr (fun k h0 h1 => ?_)
    rw [qbi_and]
    by_cases c : qbi x k = 1
    · rw [if_pos ⟨c, h k h0 h1 c⟩, c]
    · rw [if_neg (fun z => c z.1)]
      have := qbi_r x k
      omega
theorem qand0 {x y : Int} : qz_and x y = 0 ↔ ∀ k : Int, 0 ≤ k → k < 32 → ¬ (qbi x k = 1 ∧ qbi y k = 1) := by
  constructor
  · intro h k h0 h1 hc
    have h2 : qbi (qz_and x y) k = 0 := by rw [h, qbi_0]
    rw [qbi_and, if_pos hc] at h2
    exact absurd h2 (by decide)
  · intro h
    refine qbi_ext (qz_and_r _ _) (by decide) (fun k h0 h1 => ?_)
    rw [qbi_and, qbi_0]
    exact if_neg (h k h0 h1)
/-- the greatest weight of a set within y, of those below m -/
def qmx (W : Int → Int) (y : Int) : Nat → Int
  | 0 => 0
  | m + 1 => if qz_and (m : Int) y = (m : Int) ∧ qmx W y m < W (m : Int) then W (m : Int) else qmx W y m
theorem qmx_nn {W : Int → Int} {y : Int} : ∀ m : Nat, 0 ≤ qmx W y m
  | 0 => Int.le_refl _
  | m + 1 => by
    have ih := qmx_nn (W := W) (y := y) m
    show 0 ≤ if qz_and (m : Int) y = (m : Int) ∧ qmx W y m < W (m : Int) then W (m : Int) else qmx W y m
    by_cases c : qz_and (m : Int) y = (m : Int) ∧ qmx W y m < W (m : Int)
    · rw [if_pos c]; omega
    · rw [if_neg c]; exact ih
theorem qmx_ge {W : Int → Int} {y : Int} : ∀ (m : Nat) (T : Int), 0 ≤ T → T < (m : Int) → qz_and T y = T → W T ≤ qmx W y m
  | 0, T, h0, h1, _ => False.elim (by omega)
  | m + 1, T, h0, h1, h2 => by
    show W T ≤ if qz_and (m : Int) y = (m : Int) ∧ qmx W y m < W (m : Int) then W (m : Int) else qmx W y m
    by_cases e : T = (m : Int)
    · by_cases c : qz_and (m : Int) y = (m : Int) ∧ qmx W y m < W (m : Int)
      · rw [if_pos c, e]; exact Int.le_refl _
      · rw [if_neg c]
        by_cases d : qmx W y m < W (m : Int)
        · exact absurd ⟨by rw [← e]; exact h2, d⟩ c
        · rw [e]; omega
    · have ih := qmx_ge (W := W) m T h0 (by omega) h2
      by_cases c : qz_and (m : Int) y = (m : Int) ∧ qmx W y m < W (m : Int)
      · rw [if_pos c]; omega
      · rw [if_neg c]; exact ih
theorem qmx_at {W : Int → Int} {y : Int} : ∀ m : Nat, qmx W y m = 0 ∨ ∃ T : Int, 0 ≤ T ∧ T < (m : Int) ∧ qz_and T y = T ∧ W T = qmx W y m
  | 0 => Or.inl rfl
  | m + 1 => by
    have ih := qmx_at (W := W) (y := y) m
    have e : qmx W y (m + 1) = if qz_and (m : Int) y = (m : Int) ∧ qmx W y m < W (m : Int) then W (m : Int) else qmx W y m := rfl
    by_cases c : qz_and (m : Int) y = (m : Int) ∧ qmx W y m < W (m : Int)
    · rw [if_pos c] at e
      exact Or.inr ⟨(m : Int), by omega, by omega, c.1, e.symm⟩
    · rw [if_neg c] at e
      rcases ih with ih | ⟨T, h0, h1, h2, h3⟩
      · exact Or.inl (by rw [e, ih])
      · exact Or.inr ⟨T, h0, by omega, h2, by rw [h3, e]⟩
theorem qmx_le {W : Int → Int} {y B : Int} (hB : 0 ≤ B) (h : ∀ T : Int, W T ≤ B) (m : Nat) : qmx W y m ≤ B := by
  rcases qmx_at (W := W) (y := y) m with c | ⟨T, _, _, _, h3⟩
  · omega
  · rw [← h3]; exact h T
theorem qmx_cg {W W' : Int → Int} {y : Int} (e : ∀ T : Int, W T = W' T) : ∀ m : Nat, qmx W y m = qmx W' y m
  | 0 => rfl
  | m + 1 => by
    show (if qz_and (m : Int) y = (m : Int) ∧ qmx W y m < W (m : Int) then W (m : Int) else qmx W y m) = (if qz_and (m : Int) y = (m : Int) ∧ qmx W' y m < W' (m : Int) then W' (m : Int) else qmx W' y m)
    rw [qmx_cg e m, e]
/-- the weight of a set: what it is -/
def qWf (bd w : Nat → Int) (n x : Int) : Int := qwt bd w x n.toNat
theorem qwt_c {bd w : Nat → Int} {x : Int} : ∀ n : Nat, (∀ k : Nat, k < n → 0 ≤ w k) → (0 ≤ qwt bd w x n ∧ (∀ a : Nat, a < n → qbi x (a : Int) = 1 → qz_and (bd a) x = 0) ∧ qwt bd w x n = qsm (fun a => if qbi x (a : Int) = 1 then w a else 0) n) ∨ (qwt bd w x n = -1 ∧ ∃ a : Nat, a < n ∧ qbi x (a : Int) = 1 ∧ ¬ qz_and (bd a) x = 0)
  | 0, _ => Or.inl ⟨Int.le_refl _, fun a h => absurd h (Nat.not_lt_zero a), rfl⟩
  | n + 1, hw => by
    have hwn := hw n (by omega)
    have e : qwt bd w x (n + 1) = if qwt bd w x n < 0 then qwt bd w x n else if qbi x (n : Int) = 1 then (if qz_and (bd n) x = 0 then qwt bd w x n + w n else -1) else qwt bd w x n := rfl
    rcases qwt_c (bd := bd) (w := w) (x := x) n (fun k hk => hw k (by omega)) with ⟨h1, h2, h3⟩ | ⟨h1, a, h2, h3, h4⟩
    · rw [if_neg (by omega)] at e
      have es : qsm (fun a => if qbi x (a : Int) = 1 then w a else 0) (n + 1) = qsm (fun a => if qbi x (a : Int) = 1 then w a else 0) n + (if qbi x (n : Int) = 1 then w n else 0) := rfl
      by_cases c : qbi x (n : Int) = 1
      · rw [if_pos c] at e es
        by_cases d : qz_and (bd n) x = 0
        · rw [if_pos d] at e
          refine Or.inl ⟨by omega, fun a ha hb => ?_, by omega⟩
          by_cases f : a = n
          · rw [f]; exact d
          · exact h2 a (by omega) hb
        · rw [if_neg d] at e
          exact Or.inr ⟨e, n, by omega, c, d⟩
      · rw [if_neg c] at e es
        refine Or.inl ⟨by omega, fun a ha hb => ?_, by omega⟩
        by_cases f : a = n
        · rw [f] at hb; exact absurd hb c
        · exact h2 a (by omega) hb
    · rw [if_pos (by omega), h1] at e
      exact Or.inr ⟨e, a, by omega, h3, h4⟩
theorem qwt_le {bd w : Nat → Int} {x : Int} : ∀ n : Nat, (∀ k : Nat, k < n → 0 ≤ w k ∧ w k ≤ 99) → -1 ≤ qwt bd w x n ∧ qwt bd w x n ≤ 99 * (n : Int)
  | 0, _ => by
    show (-1 : Int) ≤ 0 ∧ (0 : Int) ≤ 99 * ((0 : Nat) : Int)
    omega
  | n + 1, hw => by
    have ih := qwt_le (bd := bd) (w := w) (x := x) n (fun k hk => hw k (by omega))
    have hwn := hw n (by omega)
    show -1 ≤ (if qwt bd w x n < 0 then qwt bd w x n else if qbi x (n : Int) = 1 then (if qz_and (bd n) x = 0 then qwt bd w x n + w n else -1) else qwt bd w x n) ∧ (if qwt bd w x n < 0 then qwt bd w x n else if qbi x (n : Int) = 1 then (if qz_and (bd n) x = 0 then qwt bd w x n + w n else -1) else qwt bd w x n) ≤ 99 * ((n + 1 : Nat) : Int)
    split
    · omega
    · split
      · split <;> omega
      · omega
theorem qsm_1 {f g : Nat → Int} {l : Nat} {c : Int} (hl : f l = g l + c) (hk : ∀ k : Nat, ¬ k = l → f k = g k) : ∀ n : Nat, l < n → qsm f n = qsm g n + c
  | 0, h => absurd h (Nat.not_lt_zero l)
  | n + 1, h => by
    show qsm f n + f n = qsm g n + g n + c
    by_cases e : l = n
    · have h1 : qsm f n = qsm g n := qsm_eq n (fun k hkn => hk k (by omega))
      rw [h1, ← e, hl]
      omega
    · have ih := qsm_1 hl hk n (by omega)
      rw [ih, hk n (by omega)]
      omega
/-- who bars whom goes both ways, and nobody bars himself -/
def qSy (bd : Nat → Int) (n : Int) : Prop := ∀ a k : Int, 0 ≤ a → a < n → 0 ≤ k → k < 32 → qbi (bd a.toNat) k = 1 → k < n ∧ ¬ a = k ∧ qbi (bd k.toNat) a = 1
theorem qSy_of {B : Int → Int → Prop} {bd : Nat → Int} {n : Int} (hn : n ≤ 12) (h : qBR (qPF B n) bd n) : qSy bd n := fun a k a0 an k0 k32 hb => by
  have h1 := (h a k a0 an k0 k32).mp hb
  have kn : k < n := by
    rcases h1 with h1 | h1
    · exact h1.2.1
    · omega
  refine ⟨kn, ?_, (h k a k0 kn a0 (by omega)).mpr ?_⟩
  · rcases h1 with h1 | h1 <;> omega
  · rcases h1 with h1 | h1
    · exact Or.inr h1
    · exact Or.inl h1
/-- the first place of a set -/
def qlN : Nat → Nat → Nat
  | 0, _ => 0
  | f + 1, x => if x % 2 = 1 then 0 else qlN f (x / 2) + 1
def qlo (x : Int) : Int := (qlN 12 x.toNat : Int)
theorem qlo_k : ∀ q r : Fin 64, 64 * (q : Nat) + (r : Nat) = 0 ∨ (qlN 12 (64 * (q : Nat) + (r : Nat)) ≤ 11 ∧ (64 * (q : Nat) + (r : Nat)).testBit (qlN 12 (64 * (q : Nat) + (r : Nat))) = true ∧ qz_and ((64 * (q : Nat) + (r : Nat) : Nat) : Int) (((64 * (q : Nat) + (r : Nat) : Nat) : Int) - 1) = ((64 * (q : Nat) + (r : Nat) - 2 ^ qlN 12 (64 * (q : Nat) + (r : Nat)) : Nat) : Int) ∧ qz_and (qz_xor ((64 * (q : Nat) + (r : Nat) : Nat) : Int) (-1)) (((64 * (q : Nat) + (r : Nat) : Nat) : Int) - 1) = ((2 ^ qlN 12 (64 * (q : Nat) + (r : Nat)) - 1 : Nat) : Int)) := by decide +kernel
theorem qlo_b : ∀ q r : Fin 64, ∀ k : Fin 12, (64 * (q : Nat) + (r : Nat) - 2 ^ qlN 12 (64 * (q : Nat) + (r : Nat))).testBit (k : Nat) = ((64 * (q : Nat) + (r : Nat)).testBit (k : Nat) && !(((k : Nat)) == qlN 12 (64 * (q : Nat) + (r : Nat)))) := by decide +kernel
theorem qlo_c {x : Int} (h : 1 ≤ x ∧ x ≤ 4095) : (0 ≤ qlo x ∧ qlo x ≤ 11) ∧ qbi x (qlo x) = 1 ∧ (∀ k : Int, 0 ≤ k → k < 32 → qbi (qz_and x (x - 1)) k = if k = qlo x then 0 else qbi x k) ∧ qz_and (qz_xor x (-1)) (x - 1) = ((2 ^ (qlo x).toNat - 1 : Nat) : Int) := by
  obtain ⟨m, rfl⟩ : ∃ m : Nat, x = m := ⟨x.toNat, by omega⟩
  have hm : 64 * (m / 64) + m % 64 = m := by omega
  have h1 := qlo_k ⟨m / 64, by omega⟩ ⟨m % 64, by omega⟩
  have h2 := qlo_b ⟨m / 64, by omega⟩ ⟨m % 64, by omega⟩
  have e : 64 * ((⟨m / 64, by omega⟩ : Fin 64) : Nat) + ((⟨m % 64, by omega⟩ : Fin 64) : Nat) = m := hm
  rw [e] at h1
  simp only [e] at h2
  have hq : qlo (m : Int) = (qlN 12 m : Int) := rfl
  rcases h1 with h1 | ⟨h3, h4, h5, h6⟩
  · omega
  have hz : qlz (m : Int) = m := by
    have := qlz_nt (x := (m : Int)) (by omega)
    omega
  refine ⟨by omega, ?_, fun k k0 k32 => ?_, ?_⟩
  · rw [qbi_if, hz, hq, Int.toNat_natCast]
    exact if_pos h4
  · rw [h5]
    have hz2 : qlz ((m - 2 ^ qlN 12 m : Nat) : Int) = m - 2 ^ qlN 12 m := by
      have hp := Nat.sub_le m (2 ^ qlN 12 m)
      generalize m - 2 ^ qlN 12 m = z at hp
      have := qlz_nt (x := (z : Int)) (by omega)
      omega
    rw [qbi_if, qbi_if, hz2, hz, hq]
    by_cases c : k < 12
    · have h7 := h2 ⟨k.toNat, by omega⟩
      have h8 : (m - 2 ^ qlN 12 m).testBit k.toNat = (m.testBit k.toNat && !(k.toNat == qlN 12 m)) := h7
      rw [h8]
      by_cases d : k = (qlN 12 m : Int)
      · rw [if_pos d, show (k.toNat == qlN 12 m) = true by rw [beq_iff_eq]; omega, Bool.not_true, Bool.and_false]
        exact if_neg (by decide)
      · rw [if_neg d, show (k.toNat == qlN 12 m) = false by rw [beq_eq_false_iff_ne]; omega, Bool.not_false, Bool.and_true]
    · have p12 : 2 ^ 12 ≤ 2 ^ k.toNat := Nat.pow_le_pow_right (by decide) (by omega)
      have p : (2 : Nat) ^ 12 = 4096 := by decide
      rw [Nat.testBit_lt_two_pow (Nat.lt_of_le_of_lt (Nat.sub_le m (2 ^ qlN 12 m)) (show m < 2 ^ k.toNat by omega)), Nat.testBit_lt_two_pow (show m < 2 ^ k.toNat by omega), if_neg (show ¬ k = (qlN 12 m : Int) by omega)]
  · rw [h6, hq, Int.toNat_natCast]
/-- one more place: what it weighs -/
theorem qwf_add {bd w : Nat → Int} {n l T T2 : Int} (hn : 0 ≤ n ∧ n ≤ 12) (hw : ∀ k : Nat, (k : Int) < n → 0 ≤ w k ∧ w k ≤ 99) (hsy : qSy bd n) (hl : 0 ≤ l ∧ l < n) (hT : ∀ k : Int, 0 ≤ k → k < 32 → (qbi T k = 1 ↔ (qbi T2 k = 1 ∨ k = l))) (hl2 : ¬ qbi T2 l = 1) (hc : ∀ k : Int, 0 ≤ k → k < 32 → qbi T2 k = 1 → k < n ∧ ¬ qbi (bd l.toNat) k = 1) (h2 : 0 ≤ qWf bd w n T2) : qWf bd w n T = qWf bd w n T2 + w l.toNat := by
  have c2 := qwt_c (bd := bd) (w := w) (x := T2) n.toNat (fun k hk => (hw k (by omega)).1)
  have c1 := qwt_c (bd := bd) (w := w) (x := T) n.toNat (fun k hk => (hw k (by omega)).1)
  unfold qWf at *
  rcases c2 with ⟨a1, a2, a3⟩ | ⟨a1, _⟩
  · rcases c1 with ⟨b1, b2, b3⟩ | ⟨b1, a, b2, b3, b4⟩
    · rw [a3, b3]
      refine qsm_1 (l := l.toNat) ?_ (fun k hk => ?_) n.toNat (by omega)
      · show (if qbi T ((l.toNat : Nat) : Int) = 1 then w l.toNat else 0) = (if qbi T2 ((l.toNat : Nat) : Int) = 1 then w l.toNat else 0) + w l.toNat
        rw [show ((l.toNat : Nat) : Int) = l by omega, if_pos ((hT l hl.1 (by omega)).mpr (Or.inr rfl)), if_neg hl2]
        omega
      · show (if qbi T (k : Int) = 1 then w k else 0) = (if qbi T2 (k : Int) = 1 then w k else 0)
        by_cases k32 : (k : Int) < 32
        · have e := hT (k : Int) (by omega) k32
          by_cases c : qbi T2 (k : Int) = 1
          · rw [if_pos c, if_pos (e.mpr (Or.inl c))]
          · rw [if_neg c, if_neg (fun z => (e.mp z).elim c (fun y => hk (by omega)))]
        · rw [qbi_hi T (by omega), qbi_hi T2 (by omega)]
    · exfalso
      apply b4
      refine qand0.mpr (fun k k0 k32 hk => ?_)
      have ha := (hT (a : Int) (by omega) (by omega)).mp b3
      have hkk := (hT k k0 k32).mp hk.2
      rcases ha with ha | ha
      · rcases hkk with hkk | hkk
        · exact qand0.mp (a2 a (by omega) ha) k k0 k32 ⟨hk.1, hkk⟩
        · have h3 := hc (a : Int) (by omega) (by omega) ha
          have h4 := hsy (a : Int) k (by omega) (by omega) k0 k32 (by rw [Int.toNat_natCast]; exact hk.1)
          rw [hkk] at h4
          exact h3.2 h4.2.2
      · rcases hkk with hkk | hkk
        · have h3 := hc k k0 k32 hkk
          exact h3.2 (by rw [← ha, Int.toNat_natCast]; exact hk.1)
        · have h4 := hsy (a : Int) k (by omega) (by omega) k0 k32 (by rw [Int.toNat_natCast]; exact hk.1)
          exact h4.2.1 (by omega)
  · omega
/-- a set without a place -/
theorem qwf_sub {bd w : Nat → Int} {n T T2 : Int} (hn : 0 ≤ n ∧ n ≤ 12) (hw : ∀ k : Nat, (k : Int) < n → 0 ≤ w k ∧ w k ≤ 99) (hT : qsub T2 T) (h : 0 ≤ qWf bd w n T) : 0 ≤ qWf bd w n T2 := by
  have c2 := qwt_c (bd := bd) (w := w) (x := T2) n.toNat (fun k hk => (hw k (by omega)).1)
  have c1 := qwt_c (bd := bd) (w := w) (x := T) n.toNat (fun k hk => (hw k (by omega)).1)
  unfold qWf at *
  rcases c1 with ⟨a1, a2, a3⟩ | ⟨a1, _⟩
  · rcases c2 with ⟨b1, b2, b3⟩ | ⟨b1, a, b2, b3, b4⟩
    · exact b1
    · exfalso
      apply b4
      have ha := hT (a : Int) (by omega) (by omega) b3
      exact qand0.mpr (fun k k0 k32 hk => qand0.mp (a2 a b2 ha) k k0 k32 ⟨hk.1, hT k k0 k32 hk.2⟩)
  · omega
/-- the greatest weight within a set, by its first place -/
theorem qmx_dp {bd w : Nat → Int} {n y a b m : Int} (hn : 0 ≤ n ∧ n ≤ 12) (hw : ∀ k : Nat, (k : Int) < n → 0 ≤ w k ∧ w k ≤ 99) (hsy : qSy bd n) (hy : 1 ≤ y ∧ y < qz_shl 1 n)
    (ha : a = qmx (qWf bd w n) (qz_and y (y - 1)) (qz_shl 1 n : Int).toNat) (hb : b = w (qlo y).toNat + qmx (qWf bd w n) (qz_and (qz_and y (y - 1)) (qz_xor (bd (qlo y).toNat) (-1))) (qz_shl 1 n : Int).toNat) (hm : (m = a ∨ m = b) ∧ a ≤ m ∧ b ≤ m) : m = qmx (qWf bd w n) y (qz_shl 1 n : Int).toNat := by
  have hN := qshl_r hn
  have hl := qlo_c (x := y) (by omega)
  obtain ⟨l1, l2, l3, _⟩ := hl
  have hln : qlo y < n := by
    by_cases c : qlo y < n
    · exact c
    · have := qbi_hin hn ⟨by omega, hy.2⟩ (k := qlo y) (by omega)
      omega
  have hwl := hw (qlo y).toNat (by omega)
  have hW : ∀ T : Int, 0 ≤ T → T < qz_shl 1 n → ∀ k : Int, n ≤ k → qbi T k = 0 := fun T h0 h1 k hk => qbi_hin hn ⟨h0, h1⟩ hk
  -- within the rest is within y
  have r1 : ∀ k : Int, 0 ≤ k → k < 32 → qbi (qz_and y (y - 1)) k = 1 → qbi y k = 1 ∧ ¬ k = qlo y := fun k k0 k32 hk => by
    rw [l3 k k0 k32] at hk
    by_cases c : k = qlo y
    · rw [if_pos c] at hk
      exact absurd hk (by decide)
    · rw [if_neg c] at hk
      exact ⟨hk, c⟩
  have s1 : qmx (qWf bd w n) (qz_and y (y - 1)) (qz_shl 1 n : Int).toNat ≤ qmx (qWf bd w n) y (qz_shl 1 n : Int).toNat := by
    rcases qmx_at (W := qWf bd w n) (y := qz_and y (y - 1)) (qz_shl 1 n : Int).toNat with c | ⟨T, h0, h1, h2, h3⟩
    · rw [c]; exact qmx_nn _
    · rw [← h3]
      refine qmx_ge _ T h0 h1 ((qsub_iff (by omega)).mpr (fun k k0 k32 hk => (r1 k k0 k32 ((qsub_iff (by omega)).mp h2 k k0 k32 hk)).1))
  -- with the first place and those whom it does not bar
  have s2 : w (qlo y).toNat + qmx (qWf bd w n) (qz_and (qz_and y (y - 1)) (qz_xor (bd (qlo y).toNat) (-1))) (qz_shl 1 n : Int).toNat ≤ qmx (qWf bd w n) y (qz_shl 1 n : Int).toNat := by
    have key : ∀ T2 : Int, 0 ≤ T2 → T2 < qz_shl 1 n → qz_and T2 (qz_and (qz_and y (y - 1)) (qz_xor (bd (qlo y).toNat) (-1))) = T2 → 0 ≤ qWf bd w n T2 → w (qlo y).toNat + qWf bd w n T2 ≤ qmx (qWf bd w n) y (qz_shl 1 n : Int).toNat := fun T2 h0 h1 h2 h3 => by
      have hs := (qsub_iff (by omega)).mp h2
      have q1 : ∀ k : Int, 0 ≤ k → k < 32 → qbi T2 k = 1 → qbi y k = 1 ∧ ¬ k = qlo y ∧ ¬ qbi (bd (qlo y).toNat) k = 1 := fun k k0 k32 hk => by
        have h4 := hs k k0 k32 hk
        rw [qbi_and, qbi_not _ ⟨k0, k32⟩] at h4
        by_cases c : qbi (qz_and y (y - 1)) k = 1 ∧ 1 - qbi (bd (qlo y).toNat) k = 1
        · exact ⟨(r1 k k0 k32 c.1).1, (r1 k k0 k32 c.1).2, by omega⟩
        · rw [if_neg c] at h4
          exact absurd h4 (by decide)
      have hT : ∀ k : Int, 0 ≤ k → k < 32 → (qbi (qz_or T2 (qz_shl 1 (qlo y))) k = 1 ↔ (qbi T2 k = 1 ∨ k = qlo y)) := fun k k0 k32 => by
        rw [qbi_or, qbi_shl (by omega) k0]
        by_cases c : k = qlo y
        · rw [if_pos c, if_pos (Or.inr rfl)]
          exact ⟨fun _ => Or.inr c, fun _ => rfl⟩
        · rw [if_neg c]
          by_cases d : qbi T2 k = 1
          · rw [if_pos (Or.inl d)]
            exact ⟨fun _ => Or.inl d, fun _ => rfl⟩
          · rw [if_neg (fun z => z.elim d (fun y => absurd y (by decide)))]
            exact ⟨fun z => absurd z (by decide), fun z => z.elim (fun y => absurd y d) (fun y => absurd y c)⟩
      have hadd := qwf_add hn hw hsy ⟨l1.1, hln⟩ hT (fun z => (q1 _ l1.1 (by omega) z).2.1 rfl) (fun k k0 k32 hk => ⟨by
        by_cases c : k < n
        · exact c
        · have := hW T2 h0 h1 k (by omega)
          omega, (q1 k k0 k32 hk).2.2⟩) h3
      have hr := qbi_lt (x := qz_or T2 (qz_shl 1 (qlo y))) hn (qz_or_r _ _) (fun k kn k32 => by
        have h5 := hT k (by omega) k32
        have h6 := hW T2 h0 h1 k kn
        have h7 := qbi_r (qz_or T2 (qz_shl 1 (qlo y))) k
        by_cases c : qbi (qz_or T2 (qz_shl 1 (qlo y))) k = 1
        · rcases h5.mp c with h8 | h8 <;> omega
        · omega)
      have hg := qmx_ge (W := qWf bd w n) (y := y) (qz_shl 1 n : Int).toNat (qz_or T2 (qz_shl 1 (qlo y))) hr.1 (by omega) ((qsub_iff (qz_or_r _ _)).mpr (fun k k0 k32 hk => by
        rcases (hT k k0 k32).mp hk with h8 | h8
        · exact (q1 k k0 k32 h8).1
        · rw [h8]; exact l2))
      omega
    rcases qmx_at (W := qWf bd w n) (y := qz_and (qz_and y (y - 1)) (qz_xor (bd (qlo y).toNat) (-1))) (qz_shl 1 n : Int).toNat with c | ⟨T, h0, h1, h2, h3⟩
    · rw [c]
      have z0 : qWf bd w n 0 = 0 := by
        have c0 := qwt_c (bd := bd) (w := w) (x := 0) n.toNat (fun k hk => (hw k (by omega)).1)
        unfold qWf
        rcases c0 with ⟨_, _, c3⟩ | ⟨_, a, _, c4, _⟩
        · rw [c3]
          have : ∀ N : Nat, qsm (fun a : Nat => if qbi 0 (a : Int) = 1 then w a else 0) N = 0 := fun N => by
            induction N with
            | zero => rfl
            | succ N ih =>
              show qsm (fun a : Nat => if qbi 0 (a : Int) = 1 then w a else 0) N + (if qbi 0 (N : Int) = 1 then w N else 0) = 0
              rw [ih, qbi_0]
              rfl
          exact this _
        · rw [qbi_0] at c4
          exact absurd c4 (by decide)
      have := key 0 (by decide) (by omega) (by
        refine (qsub_iff (by decide)).mpr (fun k k0 k32 hk => ?_)
        rw [qbi_0] at hk
        exact absurd hk (by decide)) (by rw [z0]; decide)
      omega
    · have hnn := qmx_nn (W := qWf bd w n) (y := qz_and (qz_and y (y - 1)) (qz_xor (bd (qlo y).toNat) (-1))) (qz_shl 1 n : Int).toNat
      have := key T h0 (by omega) h2 (by omega)
      omega
  -- and no more than these
  have s3 : qmx (qWf bd w n) y (qz_shl 1 n : Int).toNat ≤ m := by
    rcases qmx_at (W := qWf bd w n) (y := y) (qz_shl 1 n : Int).toNat with c | ⟨T, h0, h1, h2, h3⟩
    · have := qmx_nn (W := qWf bd w n) (y := qz_and y (y - 1)) (qz_shl 1 n : Int).toNat
      omega
    · have hnn := qmx_nn (W := qWf bd w n) (y := y) (qz_shl 1 n : Int).toNat
      have hs := (qsub_iff (by omega)).mp h2
      by_cases c : qbi T (qlo y) = 1
      · have hT2 : ∀ k : Int, 0 ≤ k → k < 32 → (qbi (qz_and T (qz_xor (qz_shl 1 (qlo y)) (-1))) k = 1 ↔ (qbi T k = 1 ∧ ¬ k = qlo y)) := fun k k0 k32 => by
          rw [qbi_and, qbi_not _ ⟨k0, k32⟩, qbi_shl (by omega) k0]
          by_cases d : k = qlo y
          · rw [if_pos d]
            exact ⟨fun z => by rw [if_neg (fun q => absurd q.2 (by decide))] at z; exact absurd z (by decide), fun z => absurd d z.2⟩
          · rw [if_neg d]
            by_cases e : qbi T k = 1
            · rw [if_pos ⟨e, by decide⟩]
              exact ⟨fun _ => ⟨e, d⟩, fun _ => rfl⟩
            · rw [if_neg (fun q => e q.1)]
              exact ⟨fun z => absurd z (by decide), fun z => absurd z.1 e⟩
        have hcalm : ∀ k : Int, 0 ≤ k → k < 32 → qbi T k = 1 → ¬ qbi (bd (qlo y).toNat) k = 1 := fun k k0 k32 hk hb => by
          have c1 := qwt_c (bd := bd) (w := w) (x := T) n.toNat (fun k hk => (hw k (by omega)).1)
          have h3' : qwt bd w T n.toNat = qmx (qWf bd w n) y (qz_shl 1 n : Int).toNat := h3
          rcases c1 with ⟨_, a2, _⟩ | ⟨a1, _⟩
          · have h8 := a2 (qlo y).toNat (by omega) (by rw [show (((qlo y).toNat : Nat) : Int) = qlo y by omega]; exact c)
            exact qand0.mp h8 k k0 k32 ⟨hb, hk⟩
          · omega
        have hsub : qsub (qz_and T (qz_xor (qz_shl 1 (qlo y)) (-1))) T := fun k k0 k32 hk => ((hT2 k k0 k32).mp hk).1
        have hny := qmx_nn (W := qWf bd w n) (y := y) (qz_shl 1 n : Int).toNat
        have h2w := qwf_sub (bd := bd) hn hw hsub (by omega)
        have hr := qbi_lt (x := qz_and T (qz_xor (qz_shl 1 (qlo y)) (-1))) hn (qz_and_r _ _) (fun k kn k32 => by
          have h6 := hW T h0 (by omega) k kn
          have h7 := qbi_r (qz_and T (qz_xor (qz_shl 1 (qlo y)) (-1))) k
          by_cases d : qbi (qz_and T (qz_xor (qz_shl 1 (qlo y)) (-1))) k = 1
          · have := ((hT2 k (by omega) k32).mp d).1
            omega
          · omega)
        have hadd := qwf_add (T := T) hn hw hsy ⟨l1.1, hln⟩ (fun k k0 k32 => by
          rw [hT2 k k0 k32]
          by_cases d : k = qlo y
          · exact ⟨fun _ => Or.inr d, fun _ => by rw [d]; exact c⟩
          · exact ⟨fun z => Or.inl ⟨z, d⟩, fun z => z.elim (fun q => q.1) (fun q => absurd q d)⟩) (fun z => ((hT2 _ l1.1 (by omega)).mp z).2 rfl) (fun k k0 k32 hk => ⟨by
            by_cases d : k < n
            · exact d
            · have h8 := hW T h0 (by omega) k (by omega)
              have h9 := ((hT2 k k0 k32).mp hk).1
              omega, hcalm k k0 k32 ((hT2 k k0 k32).mp hk).1⟩) h2w
        have hg := qmx_ge (W := qWf bd w n) (y := qz_and (qz_and y (y - 1)) (qz_xor (bd (qlo y).toNat) (-1))) (qz_shl 1 n : Int).toNat _ hr.1 (by omega) ((qsub_iff (qz_and_r _ _)).mpr (fun k k0 k32 hk => by
          have h8 := (hT2 k k0 k32).mp hk
          have h9 := hcalm k k0 k32 h8.1
          have h10 := qbi_r (bd (qlo y).toNat) k
          rw [qbi_and, qbi_not _ ⟨k0, k32⟩, l3 k k0 k32, if_neg h8.2]
          exact if_pos ⟨hs k k0 k32 h8.1, by omega⟩))
        omega
      · have hg := qmx_ge (W := qWf bd w n) (y := qz_and y (y - 1)) (qz_shl 1 n : Int).toNat T h0 h1 ((qsub_iff (by omega)).mpr (fun k k0 k32 hk => by
          have h8 := hs k k0 k32 hk
          rw [l3 k k0 k32]
          by_cases d : k = qlo y
          · rw [d] at hk
            exact absurd hk c
          · rw [if_neg d]; exact h8))
        omega
  rcases hm.1 with e | e <;> omega
theorem qwf_0 {bd w : Nat → Int} {n : Int} : qWf bd w n 0 = 0 := by
  have : ∀ N : Nat, qwt bd w 0 N = 0 := fun N => by
    induction N with
    | zero => rfl
    | succ N ih =>
      show (if qwt bd w 0 N < 0 then qwt bd w 0 N else if qbi 0 (N : Int) = 1 then (if qz_and (bd N) 0 = 0 then qwt bd w 0 N + w N else -1) else qwt bd w 0 N) = 0
      rw [ih, qbi_0]
      rfl
  exact this _
theorem qmx_00 {bd w : Nat → Int} {n : Int} (m : Nat) (hm : m ≤ 4096) : qmx (qWf bd w n) 0 m = 0 := by
  rcases qmx_at (W := qWf bd w n) (y := 0) m with c | ⟨T, h0, h1, h2, h3⟩
  · exact c
  · have e : T = 0 := qbi_ext (by omega) (by decide) (fun k k0 k32 => by
      have h4 := (qsub_iff (by omega)).mp h2 k k0 k32
      rw [qbi_0] at h4 ⊢
      have h5 := qbi_r T k
      by_cases c : qbi T k = 1
      · exact absurd (h4 c) (by decide)
      · omega)
    rw [← h3, e, qwf_0]
/-- both rooms, when the first one is told -/
def qrK (W : Int → Int) (N A : Int) : Int := W A + qmx W (qz_and (N - 1) (qz_xor A (-1))) N.toNat
def qrC (W : Int → Int) (N A : Int) : Int := qrK W N A * 2048 + W A
def qRoo (W : Int → Int) (N n what v : Int) (ls : Nat → Int) : Prop := ∃ b : Int, qmB (fun A => 0 ≤ W A) (qrC W N) N b ∧ 0 ≤ b ∧ ((what = 0 ∧ v = qrK W N b) ∨ (¬ what = 0 ∧ v = qap ls b n.toNat))
theorem qRoo_un {W W' : Int → Int} {N n what v v' : Int} {ls ls' : Nat → Int} (e : ∀ T : Int, W T = W' T) (el : ∀ k : Nat, k < n.toNat → ls k = ls' k) (h : qRoo W N n what v ls) (g : qRoo W' N n what v' ls') : v = v' := by
  have ek : ∀ A : Int, qrK W N A = qrK W' N A := fun A => by
    unfold qrK
    rw [e, qmx_cg e]
  have ec : ∀ A : Int, qrC W N A = qrC W' N A := fun A => by
    unfold qrC
    rw [ek, e]
  obtain ⟨b, h1, h2, h3⟩ := h
  obtain ⟨b', g1, g2, g3⟩ := g
  have eb : b = b' := qmB_un (fun u _ _ => by rw [e]) (fun u _ _ => ec u) h1 g1
  subst eb
  rcases h3 with ⟨h3, h4⟩ | ⟨h3, h4⟩
  · rcases g3 with ⟨g3, g4⟩ | ⟨g3, g4⟩
    · rw [h4, g4, ek]
    · exact absurd h3 g3
  · rcases g3 with ⟨g3, g4⟩ | ⟨g3, g4⟩
    · exact absurd g3 h3
    · rw [h4, g4]
      exact qap_cg _ el
/-- the next set within rest, from above: none is passed over -/
theorem qnx_n : ∀ (f rest two T : Nat), rest < 2 ^ f → two &&& rest = two → T &&& rest = T → T < two → T ≤ (two - 1) &&& rest
  | 0, rest, two, T, hr, h2, hT, hlt => by
    have e : rest = 0 := by omega
    rw [e, Nat.and_zero] at h2
    omega
  | f + 1, rest, two, T, hr, h2, hT, hlt => by
    have p : 2 ^ (f + 1) = 2 * 2 ^ f := by rw [Nat.pow_succ, Nat.mul_comm]
    have dv : ∀ a b : Nat, (a &&& b) / 2 = a / 2 &&& b / 2 := fun a b => by
      apply Nat.eq_of_testBit_eq
      intro i
      rw [Nat.testBit_div_two, Nat.testBit_and, Nat.testBit_and, Nat.testBit_div_two, Nat.testBit_div_two]
    have md : ∀ a b : Nat, (a &&& b) % 2 = if a % 2 = 1 ∧ b % 2 = 1 then 1 else 0 := fun a b => by
      have t : (a &&& b).testBit 0 = (a.testBit 0 && b.testBit 0) := Nat.testBit_and _ _ _
      rw [Nat.testBit_zero, Nat.testBit_zero, Nat.testBit_zero] at t
      by_cases c : a % 2 = 1 ∧ b % 2 = 1
      · rw [if_pos c]
        rw [decide_eq_true c.1, decide_eq_true c.2] at t
        exact of_decide_eq_true t
      · rw [if_neg c]
        by_cases d : (a &&& b) % 2 = 1
        · rw [decide_eq_true d] at t
          have t1 : (decide (a % 2 = 1) && decide (b % 2 = 1)) = true := t.symm
          rw [Bool.and_eq_true, decide_eq_true_eq, decide_eq_true_eq] at t1
          exact absurd t1 c
        · omega
    have h2d := dv two rest
    have h2m := md two rest
    have hTd := dv T rest
    have hTm := md T rest
    rw [h2] at h2d h2m
    rw [hT] at hTd hTm
    have rd := dv (two - 1) rest
    have rm := md (two - 1) rest
    by_cases o : two % 2 = 1
    · have e1 : (two - 1) / 2 = two / 2 := by omega
      rw [e1, ← h2d] at rd
      omega
    · have e1 : (two - 1) / 2 = two / 2 - 1 := by omega
      have ih := qnx_n f (rest / 2) (two / 2) (T / 2) (by omega) h2d.symm hTd.symm (by omega)
      rw [e1] at rd
      have e2 : (two - 1) % 2 = 1 := by omega
      have hT2 : T % 2 ≤ ((two - 1) &&& rest) % 2 := by
        rw [rm, hTm]
        by_cases c : T % 2 = 1 ∧ rest % 2 = 1
        · rw [if_pos c, if_pos ⟨e2, c.2⟩]
          exact Nat.le_refl _
        · rw [if_neg c]
          exact Nat.zero_le _
      omega
theorem qlz_ofn {x : Int} (h : 0 ≤ x ∧ x ≤ 4095) : x = (qlz x : Int) := by
  have := qlz_nt (x := x) (by omega)
  omega
theorem qnx {rest two T : Int} (hr : 0 ≤ rest ∧ rest ≤ 4095) (h2 : 0 ≤ two ∧ two ≤ 4095) (h2s : qz_and two rest = two) (hT : 0 ≤ T) (hTs : qz_and T rest = T) (hlt : T < two) : T ≤ qz_and (two - 1) rest := by
  have a0 := qlz_and (v := qz_and two rest) (a := two) (b := rest) rfl
  have b0 := qlz_and (v := qz_and T rest) (a := T) (b := rest) rfl
  have c0 := qlz_and (v := qz_and (two - 1) rest) (a := two - 1) (b := rest) rfl
  rw [h2s] at a0
  rw [hTs] at b0
  have hb := qz_andL (a := two - 1) rest (by omega)
  have e1 := qlz_ofn hr
  have e2 := qlz_ofn h2
  have e3 := qlz_ofn (x := T) (by omega)
  have e4 := qlz_ofn (x := two - 1) (by omega)
  have e5 := qlz_ofn (x := qz_and (two - 1) rest) (by omega)
  have e6 : qlz (two - 1) = qlz two - 1 := by omega
  rw [e6] at c0
  have h := qnx_n 12 (qlz rest) (qlz two) (qlz T) (by have p : (2 : Nat) ^ 12 = 4096 := by decide
                                                      omega) a0.symm b0.symm (by omega)
  omega

section QYNT
variable {X : qm_X} {d : Nat} {x : qs_Ent} {Q : Option Value → qm_W → Prop} {pc : Nat} {ls : qm_L} {st : List Value} {w : qm_W} {c n : Nat}
theorem qlo_v {a : Int} (h : 1 ≤ a ∧ a ≤ 4095) : (qlo a = 0 ∧ qz_and (qz_xor a (-1)) (a - 1) = 0) ∨ (qlo a = 1 ∧ qz_and (qz_xor a (-1)) (a - 1) = 1) ∨ (qlo a = 2 ∧ qz_and (qz_xor a (-1)) (a - 1) = 3) ∨ (qlo a = 3 ∧ qz_and (qz_xor a (-1)) (a - 1) = 7) ∨ (qlo a = 4 ∧ qz_and (qz_xor a (-1)) (a - 1) = 15) ∨ (qlo a = 5 ∧ qz_and (qz_xor a (-1)) (a - 1) = 31) ∨ (qlo a = 6 ∧ qz_and (qz_xor a (-1)) (a - 1) = 63) ∨ (qlo a = 7 ∧ qz_and (qz_xor a (-1)) (a - 1) = 127) ∨ (qlo a = 8 ∧ qz_and (qz_xor a (-1)) (a - 1) = 255) ∨ (qlo a = 9 ∧ qz_and (qz_xor a (-1)) (a - 1) = 511) ∨ (qlo a = 10 ∧ qz_and (qz_xor a (-1)) (a - 1) = 1023) ∨ (qlo a = 11 ∧ qz_and (qz_xor a (-1)) (a - 1) = 2047) := by
  obtain ⟨h1, _, _, h2⟩ := qlo_c h
  have hq : qlo a = 0 ∨ qlo a = 1 ∨ qlo a = 2 ∨ qlo a = 3 ∨ qlo a = 4 ∨ qlo a = 5 ∨ qlo a = 6 ∨ qlo a = 7 ∨ qlo a = 8 ∨ qlo a = 9 ∨ qlo a = 10 ∨ qlo a = 11 := by omega
  rcases hq with e | e | e | e | e | e | e | e | e | e | e | e
  · rw [e] at h2
    exact Or.inl ⟨e, h2.trans (by decide)⟩
  · rw [e] at h2
    exact Or.inr (Or.inl ⟨e, h2.trans (by decide)⟩)
  · rw [e] at h2
    exact Or.inr (Or.inr (Or.inl ⟨e, h2.trans (by decide)⟩))
  · rw [e] at h2
    exact Or.inr (Or.inr (Or.inr (Or.inl ⟨e, h2.trans (by decide)⟩)))
  · rw [e] at h2
    exact Or.inr (Or.inr (Or.inr (Or.inr (Or.inl ⟨e, h2.trans (by decide)⟩))))
  · rw [e] at h2
    exact Or.inr (Or.inr (Or.inr (Or.inr (Or.inr (Or.inl ⟨e, h2.trans (by decide)⟩)))))
  · rw [e] at h2
    exact Or.inr (Or.inr (Or.inr (Or.inr (Or.inr (Or.inr (Or.inl ⟨e, h2.trans (by decide)⟩))))))
  · rw [e] at h2
    exact Or.inr (Or.inr (Or.inr (Or.inr (Or.inr (Or.inr (Or.inr (Or.inl ⟨e, h2.trans (by decide)⟩)))))))
  · rw [e] at h2
    exact Or.inr (Or.inr (Or.inr (Or.inr (Or.inr (Or.inr (Or.inr (Or.inr (Or.inl ⟨e, h2.trans (by decide)⟩))))))))
  · rw [e] at h2
    exact Or.inr (Or.inr (Or.inr (Or.inr (Or.inr (Or.inr (Or.inr (Or.inr (Or.inr (Or.inl ⟨e, h2.trans (by decide)⟩)))))))))
  · rw [e] at h2
    exact Or.inr (Or.inr (Or.inr (Or.inr (Or.inr (Or.inr (Or.inr (Or.inr (Or.inr (Or.inr (Or.inl ⟨e, h2.trans (by decide)⟩))))))))))
  · rw [e] at h2
    exact Or.inr (Or.inr (Or.inr (Or.inr (Or.inr (Or.inr (Or.inr (Or.inr (Or.inr (Or.inr (Or.inr (⟨e, h2.trans (by decide)⟩)))))))))))
theorem qy_ntzE {a : Int} (h : 1 ≤ a ∧ a ≤ 4095) (k : ∀ v : Int, ((0 ≤ v ∧ v ≤ 2047) ∧ ((qlo a = 0 ∧ v = 0) ∨ (qlo a = 1 ∧ v = 1) ∨ (qlo a = 2 ∧ v = 3) ∨ (qlo a = 3 ∧ v = 7) ∨ (qlo a = 4 ∧ v = 15) ∨ (qlo a = 5 ∧ v = 31) ∨ (qlo a = 6 ∧ v = 63) ∨ (qlo a = 7 ∧ v = 127) ∨ (qlo a = 8 ∧ v = 255) ∨ (qlo a = 9 ∧ v = 511) ∨ (qlo a = 10 ∧ v = 1023) ∨ (qlo a = 11 ∧ v = 2047))) → qr_W X d x Q (pc, ls, .int (qz v) :: st, w, c, n)) : qr_W X d x Q (pc, ls, .int (qz (qz_and (qz_xor a (-1)) (a - 1))) :: st, w, c, n) := by
  have h1 := qlo_v h
  refine k _ ⟨by omega, h1⟩
end QYNT
/-- the best so far, as the class goes on -/
def qtwA (W : Int → Int) (N A b m f : Int) : Prop := (A = 0 ∧ b = 0 ∧ m = -1 ∧ f = -1) ∨ (qmB (fun A => 0 ≤ W A) (qrC W N) A b ∧ 0 ≤ b ∧ m = qrK W N b ∧ f = W b ∧ 0 ≤ m ∧ 0 ≤ f)
theorem qtwA_no {W : Int → Int} {N A b m f : Int} (hW : W 0 = 0) (hn : W A < 0) (h : qtwA W N A b m f) : qtwA W N (A + 1) b m f := by
  rcases h with ⟨h1, _⟩ | ⟨h1, h2⟩
  · rw [h1, hW] at hn
    omega
  · exact Or.inr ⟨qmB_no (show ¬ (0 ≤ W A) by omega) h1, h2⟩
theorem qtwA_lo {W : Int → Int} {N A b m f k w : Int} (hk : k = qrK W N A) (hw : w = W A) (h0 : 0 ≤ w ∧ w ≤ 1188) (hb : W b ≤ 1188) (hc : k < m ∨ (k = m ∧ w ≤ f)) (hk0 : 0 ≤ k) (h : qtwA W N A b m f) : qtwA W N (A + 1) b m f := by
  rcases h with ⟨_, _, h3, h4⟩ | ⟨h1, h2, h3, h4, h5⟩
  · omega
  · have ka : qrC W N A = qrK W N A * 2048 + W A := rfl
    have kb : qrC W N b = qrK W N b * 2048 + W b := rfl
    exact Or.inr ⟨qmB_lo h2 (by omega) h1, h2, h3, h4, h5⟩
theorem qtwA_hi {W : Int → Int} {N A b m f k w : Int} (hA : 0 ≤ A) (hk : k = qrK W N A) (hw : w = W A) (h0 : 0 ≤ w ∧ w ≤ 1188) (hb : W b ≤ 1188) (hc : ¬ k < m ∧ (k = m → f < w)) (hk0 : 0 ≤ k) (h : qtwA W N A b m f) : qtwA W N (A + 1) A k w := by
  have ka : qrC W N A = qrK W N A * 2048 + W A := rfl
  have kb : qrC W N b = qrK W N b * 2048 + W b := rfl
  rcases h with ⟨h1, h2, h3, h4⟩ | ⟨h1, h2, h3, h4, h5⟩
  · refine Or.inr ⟨?_, hA, hk, hw, hk0, h0.1⟩
    have hq := qmB_hi (D := fun A => 0 ≤ W A) (c := qrC W N) (b := A) (w := -1) hA (show 0 ≤ W A by omega) (Or.inl rfl) (by rw [h1]; exact qmB_0 _ _)
    exact hq
  · refine Or.inr ⟨qmB_hi hA (show 0 ≤ W A by omega) (Or.inr ?_) h1, hA, hk, hw, hk0, h0.1⟩
    by_cases e : k = m
    · have := hc.2 e
      omega
    · omega
theorem qtwA_end {W : Int → Int} {N b m f : Int} (hN : 1 ≤ N) (h : qtwA W N N b m f) : qmB (fun A => 0 ≤ W A) (qrC W N) N b ∧ 0 ≤ b ∧ m = qrK W N b := by
  rcases h with ⟨h1, _⟩ | ⟨h1, h2, h3, _⟩
  · omega
  · exact ⟨h1, h2, h3⟩
/-- the best so far, as the reference goes on: by the first room -/
def qtrA (W : Int → Int) (N A o b : Int) : Prop := (A = 0 ∧ o = 0 ∧ b = 0) ∨ (qmB (fun A => 0 ≤ W A) (qrC W N) A o ∧ 0 ≤ o ∧ b = qrK W N o)
theorem qtrA_no {W : Int → Int} {N A o b : Int} (hW : W 0 = 0) (hn : W A < 0) (h : qtrA W N A o b) : qtrA W N (A + 1) o b := by
  rcases h with ⟨h1, _⟩ | ⟨h1, h2⟩
  · rw [h1, hW] at hn
    omega
  · exact Or.inr ⟨qmB_no (show ¬ (0 ≤ W A) by omega) h1, h2⟩
theorem qtrA_end {W : Int → Int} {N o b : Int} (hN : 1 ≤ N) (h : qtrA W N N o b) : qmB (fun A => 0 ≤ W A) (qrC W N) N o ∧ 0 ≤ o ∧ b = qrK W N o := by
  rcases h with ⟨h1, _⟩ | h1
  · omega
  · exact h1
/-- within one first room: the second rooms from lo on are looked at -/
def qin (W : Int → Int) (N rest A o b lo o' b' : Int) : Prop := (o' = o ∧ b' = b ∧ ∀ T : Int, lo ≤ T → T < N → qz_and T rest = T → 0 ≤ W T → W A + W T ≤ b ∧ (W A + W T = b → W A ≤ W o)) ∨ (o' = A ∧ (b < b' ∨ (b' = b ∧ W o < W A)) ∧ (∃ T0 : Int, (0 ≤ T0 ∧ T0 < N) ∧ qz_and T0 rest = T0 ∧ 0 ≤ W T0 ∧ b' = W A + W T0) ∧ ∀ T : Int, lo ≤ T → T < N → qz_and T rest = T → 0 ≤ W T → W A + W T ≤ b')
theorem qand_le {T rest : Int} (hr : 0 ≤ rest ∧ rest ≤ 4095) (hT : 0 ≤ T ∧ T ≤ 4095) (h : qz_and T rest = T) : T ≤ rest := by
  have a0 := qlz_and (v := qz_and T rest) (a := T) (b := rest) rfl
  rw [h] at a0
  have e1 := qlz_ofn hr
  have e2 := qlz_ofn hT
  have := Nat.and_le_right (n := qlz T) (m := qlz rest)
  omega
theorem qin_0 {W : Int → Int} {N rest A o b : Int} (hN : N ≤ 4096) (hr : 0 ≤ rest ∧ rest ≤ 4095) : qin W N rest A o b (rest + 1) o b := Or.inl ⟨rfl, rfl, fun T h1 h2 h3 _ => by
  have := qand_le hr (T := T) (by omega) h3
  omega⟩
theorem qin_neg {W : Int → Int} {N rest A o b t o' b' : Int} (hn : W t < 0) (h : qin W N rest A o b (t + 1) o' b') : qin W N rest A o b t o' b' := by
  rcases h with ⟨h1, h2, h3⟩ | ⟨h1, h2, h3, h4⟩
  · refine Or.inl ⟨h1, h2, fun T a1 a2 a3 a4 => ?_⟩
    by_cases e : T = t
    · rw [e] at a4
      omega
    · exact h3 T (by omega) a2 a3 a4
  · refine Or.inr ⟨h1, h2, h3, fun T a1 a2 a3 a4 => ?_⟩
    by_cases e : T = t
    · rw [e] at a4
      omega
    · exact h4 T (by omega) a2 a3 a4
theorem qin_keep {W : Int → Int} {N rest A o b t o' b' s : Int} (hs : s = W A + W t) (hc : ¬ b' < s ∧ (s = b' → W A ≤ W o')) (h : qin W N rest A o b (t + 1) o' b') : qin W N rest A o b t o' b' := by
  rcases h with ⟨h1, h2, h3⟩ | ⟨h1, h2, h3, h4⟩
  · refine Or.inl ⟨h1, h2, fun T a1 a2 a3 a4 => ?_⟩
    by_cases e : T = t
    · rw [e]
      rw [h1, h2] at hc
      exact ⟨by omega, fun z => hc.2 (by omega)⟩
    · exact h3 T (by omega) a2 a3 a4
  · refine Or.inr ⟨h1, h2, h3, fun T a1 a2 a3 a4 => ?_⟩
    by_cases e : T = t
    · rw [e]
      omega
    · exact h4 T (by omega) a2 a3 a4
theorem qin_new {W : Int → Int} {N rest A o b t o' b' s : Int} (ht : 0 ≤ t ∧ t < N) (hr : qz_and t rest = t) (hn : 0 ≤ W t) (hs : s = W A + W t) (hc : b' < s ∨ (s = b' ∧ W o' < W A)) (h : qin W N rest A o b (t + 1) o' b') : qin W N rest A o b t A s := by
  rcases h with ⟨h1, h2, h3⟩ | ⟨h1, h2, h3, h4⟩
  · rw [h1, h2] at hc
    refine Or.inr ⟨rfl, by omega, ⟨t, ht, hr, hn, hs⟩, fun T a1 a2 a3 a4 => ?_⟩
    by_cases e : T = t
    · rw [e]
      omega
    · have := (h3 T (by omega) a2 a3 a4).1
      omega
  · rw [h1] at hc
    refine Or.inr ⟨rfl, by omega, ⟨t, ht, hr, hn, hs⟩, fun T a1 a2 a3 a4 => ?_⟩
    by_cases e : T = t
    · rw [e]
      omega
    · have := h4 T (by omega) a2 a3 a4
      omega
theorem qin_lo {W : Int → Int} {N rest A o b lo lo' o' b' : Int} (hl : ∀ T : Int, lo' ≤ T → T < N → qz_and T rest = T → lo ≤ T) (h : qin W N rest A o b lo o' b') : qin W N rest A o b lo' o' b' := by
  rcases h with ⟨h1, h2, h3⟩ | ⟨h1, h2, h3, h4⟩
  · exact Or.inl ⟨h1, h2, fun T a1 a2 a3 a4 => h3 T (hl T a1 a2 a3) a2 a3 a4⟩
  · exact Or.inr ⟨h1, h2, h3, fun T a1 a2 a3 a4 => h4 T (hl T a1 a2 a3) a2 a3 a4⟩
theorem qin_z {W : Int → Int} {N rest A o b t o' b' : Int} (ht : t = 0) (h : qin W N rest A o b t o' b') : qin W N rest A o b (-1 + 1) o' b' := qin_lo (lo := t) (fun T a1 _ _ => by omega) h
theorem qin_nx {W : Int → Int} {N rest A o b t u o' b' : Int} (hN : N ≤ 4096) (hr : 0 ≤ rest ∧ rest ≤ 4095) (ht : 0 ≤ t ∧ t ≤ 4095) (hts : qz_and t rest = t) (hu : u = qz_and (t - 1) rest) (hu0 : 0 ≤ u) (h : qin W N rest A o b t o' b') : qin W N rest A o b (u + 1) o' b' := qin_lo (lo := t) (fun T a1 a2 a3 => by
  by_cases c : t ≤ T
  · exact c
  · have := qnx hr ht hts (T := T) (by omega) a3 (by omega)
    omega) h
theorem qand_s {a b : Int} : qz_and (qz_and a b) b = qz_and a b := qbi_ext (qz_and_r _ _) (qz_and_r _ _) (fun k k0 k32 => by
  rw [qbi_and, qbi_and]
  by_cases c : qbi a k = 1 ∧ qbi b k = 1
  · rw [if_pos c, if_pos ⟨rfl, c.2⟩]
  · rw [if_neg c, if_neg (fun z => absurd z.1 (by decide))])
theorem qand_ii {a : Int} (h : -2147483648 ≤ a ∧ a ≤ 2147483647) : qz_and a a = a := qbi_ext (qz_and_r _ _) h (fun k k0 k32 => by
  rw [qbi_and]
  by_cases c : qbi a k = 1
  · rw [if_pos ⟨c, c⟩, c]
  · rw [if_neg (fun z => c z.1)]
    have := qbi_r a k
    omega)
theorem qand_0 {a : Int} : qz_and 0 a = 0 := qand0.mpr (fun k k0 k32 hk => by
  have h := hk.1
  rw [qbi_0] at h
  exact absurd h (by decide))
theorem qin_end {W : Int → Int} {N A o b o' b' t : Int} (hN : 1 ≤ N) (hW0 : W 0 = 0) (hWb : ∀ T : Int, -1 ≤ W T ∧ W T ≤ 1188) (hA : 0 ≤ A) (hWA : 0 ≤ W A) (ht : t = -1) (h : qin W N (qz_and (N - 1) (qz_xor A (-1))) A o b (t + 1) o' b') (g : qtrA W N A o b) : qtrA W N (A + 1) o' b' := by
  have hm := qmx_at (W := W) (y := qz_and (N - 1) (qz_xor A (-1))) N.toNat
  have hnn := qmx_nn (W := W) (y := qz_and (N - 1) (qz_xor A (-1))) N.toNat
  have hk : qrK W N A = W A + qmx W (qz_and (N - 1) (qz_xor A (-1))) N.toNat := rfl
  have hT : ∃ T : Int, 0 ≤ T ∧ T < N ∧ qz_and T (qz_and (N - 1) (qz_xor A (-1))) = T ∧ W T = qmx W (qz_and (N - 1) (qz_xor A (-1))) N.toNat := by
    rcases hm with c | ⟨T, c0, c1, c2, c3⟩
    · exact ⟨0, by decide, by omega, qand_0, by rw [hW0, c]⟩
    · exact ⟨T, c0, by omega, c2, c3⟩
  obtain ⟨T, t0, t1, t2, t3⟩ := hT
  have ka : qrC W N A = qrK W N A * 2048 + W A := rfl
  have ko : qrC W N o = qrK W N o * 2048 + W o := rfl
  have ba := hWb A
  have bo := hWb o
  have hD : (fun A => 0 ≤ W A) A := hWA
  rcases h with ⟨h1, h2, h3⟩ | ⟨h1, h2, ⟨T0, ⟨s0, s1⟩, s2, s3, s4⟩, h4⟩
  · have h5 := h3 T (by omega) t1 t2 (by omega)
    rcases g with ⟨g1, g2, g3⟩ | ⟨g1, g2, g3⟩
    · have eo : o' = A := by omega
      refine Or.inr ⟨?_, by omega, ?_⟩
      · have hq := qmB_hi (D := fun A => 0 ≤ W A) (c := qrC W N) (b := A) (w := -1) hA hD (Or.inl rfl) (by rw [g1]; exact qmB_0 _ _)
        rw [eo]
        exact hq
      · rw [eo, hk]
        omega
    · have hle : qrC W N A ≤ qrC W N o := by
        by_cases e : W A + W T = b
        · have := h5.2 e
          omega
        · omega
      exact Or.inr ⟨by rw [h1]; exact qmB_lo g2 hle g1, by omega, by rw [h1, h2, g3]⟩
  · have h5 := h4 T (by omega) t1 t2 (by omega)
    have h6 := qmx_ge (W := W) (y := qz_and (N - 1) (qz_xor A (-1))) N.toNat T0 s0 (by omega) s2
    have hb : b' = qrK W N A := by omega
    rcases g with ⟨g1, g2, g3⟩ | ⟨g1, g2, g3⟩
    · refine Or.inr ⟨?_, by omega, by rw [h1]; exact hb⟩
      have hq := qmB_hi (D := fun A => 0 ≤ W A) (c := qrC W N) (b := A) (w := -1) hA hD (Or.inl rfl) (by rw [g1]; exact qmB_0 _ _)
      rw [h1]
      exact hq
    · refine Or.inr ⟨?_, by omega, by rw [h1]; exact hb⟩
      rw [h1]
      refine qmB_hi hA hD (Or.inr ?_) g1
      rcases h2 with h2 | h2 <;> omega
/-- what a set may weigh -/
theorem qWf_r {bd w : Nat → Int} {n : Int} (hn : 0 ≤ n ∧ n ≤ 12) (hw : ∀ k : Nat, (k : Int) < n → 0 ≤ w k ∧ w k ≤ 99) (T : Int) : -1 ≤ qWf bd w n T ∧ qWf bd w n T ≤ 1188 := by
  have h := qwt_le (bd := bd) (w := w) (x := T) n.toNat (fun k hk => hw k (by omega))
  unfold qWf
  omega
theorem qmx_r {bd w : Nat → Int} {n y : Int} {m : Nat} (hn : 0 ≤ n ∧ n ≤ 12) (hw : ∀ k : Nat, (k : Int) < n → 0 ≤ w k ∧ w k ≤ 99) : 0 ≤ qmx (qWf bd w n) y m ∧ qmx (qWf bd w n) y m ≤ 1188 := ⟨qmx_nn m, qmx_le (by decide) (fun T => (qWf_r hn hw T).2) m⟩
theorem qlo_n {n y : Int} (hn : 0 ≤ n ∧ n ≤ 12) (hy : 1 ≤ y ∧ y < qz_shl 1 n) : 0 ≤ qlo y ∧ qlo y < n := by
  have hN := qshl_r hn
  obtain ⟨l1, l2, _, _⟩ := qlo_c (x := y) (by omega)
  by_cases c : qlo y < n
  · exact ⟨l1.1, c⟩
  · have := qbi_hin hn ⟨by omega, hy.2⟩ (k := qlo y) (by omega)
    omega

set_option maxHeartbeats 4000000 in
set_option maxRecDepth 20000 in
/-- java/lang/Integer.numberOfTrailingZeros -/
theorem sf_83q {L : Nat} {xs : Nat → Int} {vb : Bool} {d : Nat} {σ α : Nat → Nat → Int} {κ : Nat → Option Nat} {ρ : Nat} {x0 : Int} (hI : qI σ α κ ρ) (r0 : 1 ≤ x0 ∧ x0 ≤ 4095) : qm_T (qe L xs vb) (d + 1) 83 [.int (qz x0)] (qw σ α κ ρ) (fun r w' => w' = qw σ α κ ρ ∧ ∃ v : Int, r = some (.int (qz v)) ∧ (0 ≤ v ∧ v ≤ 11) ∧ v = qlo x0) := by
  refine qr_start (d := d + 0) qv_e83 (Nat.le_of_ble_eq_true rfl) ?_
  show qr_W (qe L xs vb) (d + 0) qx_e83 _ (0, [(0, .int (qz x0))], [], _, 0, 0)
  refine qr_iload_n 1 rfl rfl rfl ?_
  refine qr_iconst 2 rfl rfl ?_
  refine qr_ixor 3 rfl rfl ?_
  refine qr_iload_n 4 rfl rfl rfl ?_
  refine qr_iconst 5 rfl rfl ?_
  refine qr_isub 6 rfl rfl ?_
  refine qr_iand 7 rfl rfl ?_
  refine qy_ntzE (by omega) (fun v1 hv1 => ?_)
  refine qr_istore_n _ 8 rfl (by decide) rfl rfl ?_
  refine qr_iload_n 9 rfl rfl rfl ?_
  refine qr_if_gt 17 12 rfl rfl rfl (by omega) (fun h2 => ?_) (fun h2 => ?_)
  · skip
    refine qr_iconst 18 rfl rfl ?_
    refine qr_istore_n _ 19 rfl (by decide) rfl rfl ?_
    refine qr_iload_n 20 rfl rfl rfl ?_
    refine qr_ldcw 65536 23 rfl (by decide) rfl ?_
    refine qr_icmp_le 34 26 rfl rfl rfl (by omega) (by decide) (fun h3 => ?_) (fun h => False.elim (by omega))
    refine qr_iload_n 35 rfl rfl rfl ?_
    refine qr_sipush 38 rfl (by decide) rfl ?_
    refine qr_icmp_le 49 41 rfl rfl rfl (by omega) (by decide) (fun h4 => ?_) (fun h4 => ?_)
    · skip
      refine qr_iload_n 50 rfl rfl rfl ?_
      refine qr_bipush 52 rfl (by decide) rfl ?_
      refine qr_icmp_le 62 55 rfl rfl rfl (by omega) (by decide) (fun h5 => ?_) (fun h5 => ?_)
      · skip
        refine qr_iload_n 63 rfl rfl rfl ?_
        refine qr_iconst 64 rfl rfl ?_
        refine qr_icmp_le 74 67 rfl rfl rfl (by omega) (by decide) (fun h6 => ?_) (fun h6 => ?_)
        · skip
          refine qr_iload_n 75 rfl rfl rfl ?_
          refine qr_iload_n 76 rfl rfl rfl ?_
          refine qr_iconst 77 rfl rfl ?_
          refine qr_iushr 78 rfl rfl ?_
          refine qy_v (v1 / 2) (qz_ushr1 (by omega)) ?_
          refine qr_iadd 79 rfl rfl ?_
          refine qr_retI rfl rfl (by decide) (by decide) ?_
          exact ⟨rfl, (1 + (v1 / 2)), rfl, (by omega), (by omega)⟩
        · skip
          refine qr_iinc _ 70 rfl rfl (by decide) rfl rfl ?_
          refine qr_iload_n 71 rfl rfl rfl ?_
          refine qr_iconst 72 rfl rfl ?_
          refine qr_iushr 73 rfl rfl ?_
          refine qy_v (v1 / 4) (qz_ushr2 (by omega)) ?_
          refine qr_istore_n _ 74 rfl (by decide) rfl rfl ?_
          refine qr_iload_n 75 rfl rfl rfl ?_
          refine qr_iload_n 76 rfl rfl rfl ?_
          refine qr_iconst 77 rfl rfl ?_
          refine qr_iushr 78 rfl rfl ?_
          refine qy_v ((v1 / 4) / 2) (qz_ushr1 (by omega)) ?_
          refine qr_iadd 79 rfl rfl ?_
          refine qr_retI rfl rfl (by decide) (by decide) ?_
          exact ⟨rfl, ((1 + 2) + ((v1 / 4) / 2)), rfl, (by omega), (by omega)⟩
      · skip
        refine qr_iinc _ 58 rfl rfl (by decide) rfl rfl ?_
        refine qr_iload_n 59 rfl rfl rfl ?_
        refine qr_iconst 60 rfl rfl ?_
        refine qr_iushr 61 rfl rfl ?_
        refine qy_v (v1 / 16) (qz_ushr4 (by omega)) ?_
        refine qr_istore_n _ 62 rfl (by decide) rfl rfl ?_
        refine qr_iload_n 63 rfl rfl rfl ?_
        refine qr_iconst 64 rfl rfl ?_
        refine qr_icmp_le 74 67 rfl rfl rfl (by omega) (by decide) (fun h7 => ?_) (fun h7 => ?_)
        · skip
          refine qr_iload_n 75 rfl rfl rfl ?_
          refine qr_iload_n 76 rfl rfl rfl ?_
          refine qr_iconst 77 rfl rfl ?_
          refine qr_iushr 78 rfl rfl ?_
          refine qy_v ((v1 / 16) / 2) (qz_ushr1 (by omega)) ?_
          refine qr_iadd 79 rfl rfl ?_
          refine qr_retI rfl rfl (by decide) (by decide) ?_
          exact ⟨rfl, ((1 + 4) + ((v1 / 16) / 2)), rfl, (by omega), (by omega)⟩
        · skip
          refine qr_iinc _ 70 rfl rfl (by decide) rfl rfl ?_
          refine qr_iload_n 71 rfl rfl rfl ?_
          refine qr_iconst 72 rfl rfl ?_
          refine qr_iushr 73 rfl rfl ?_
          refine qy_v ((v1 / 16) / 4) (qz_ushr2 (by omega)) ?_
          refine qr_istore_n _ 74 rfl (by decide) rfl rfl ?_
          refine qr_iload_n 75 rfl rfl rfl ?_
          refine qr_iload_n 76 rfl rfl rfl ?_
          refine qr_iconst 77 rfl rfl ?_
          refine qr_iushr 78 rfl rfl ?_
          refine qy_v (((v1 / 16) / 4) / 2) (qz_ushr1 (by omega)) ?_
          refine qr_iadd 79 rfl rfl ?_
          refine qr_retI rfl rfl (by decide) (by decide) ?_
          exact ⟨rfl, (((1 + 4) + 2) + (((v1 / 16) / 4) / 2)), rfl, (by omega), (by omega)⟩
    · skip
      refine qr_iinc _ 44 rfl rfl (by decide) rfl rfl ?_
      refine qr_iload_n 45 rfl rfl rfl ?_
      refine qr_bipush 47 rfl (by decide) rfl ?_
      refine qr_iushr 48 rfl rfl ?_
      refine qy_v (v1 / 256) (qz_ushr8 (by omega)) ?_
      refine qr_istore_n _ 49 rfl (by decide) rfl rfl ?_
      refine qr_iload_n 50 rfl rfl rfl ?_
      refine qr_bipush 52 rfl (by decide) rfl ?_
      refine qr_icmp_le 62 55 rfl rfl rfl (by omega) (by decide) (fun h8 => ?_) (fun h => False.elim (by omega))
      refine qr_iload_n 63 rfl rfl rfl ?_
      refine qr_iconst 64 rfl rfl ?_
      refine qr_icmp_le 74 67 rfl rfl rfl (by omega) (by decide) (fun h9 => ?_) (fun h9 => ?_)
      · skip
        refine qr_iload_n 75 rfl rfl rfl ?_
        refine qr_iload_n 76 rfl rfl rfl ?_
        refine qr_iconst 77 rfl rfl ?_
        refine qr_iushr 78 rfl rfl ?_
        refine qy_v ((v1 / 256) / 2) (qz_ushr1 (by omega)) ?_
        refine qr_iadd 79 rfl rfl ?_
        refine qr_retI rfl rfl (by decide) (by decide) ?_
        exact ⟨rfl, ((1 + 8) + ((v1 / 256) / 2)), rfl, (by omega), (by omega)⟩
      · skip
        refine qr_iinc _ 70 rfl rfl (by decide) rfl rfl ?_
        refine qr_iload_n 71 rfl rfl rfl ?_
        refine qr_iconst 72 rfl rfl ?_
        refine qr_iushr 73 rfl rfl ?_
        refine qy_v ((v1 / 256) / 4) (qz_ushr2 (by omega)) ?_
        refine qr_istore_n _ 74 rfl (by decide) rfl rfl ?_
        refine qr_iload_n 75 rfl rfl rfl ?_
        refine qr_iload_n 76 rfl rfl rfl ?_
        refine qr_iconst 77 rfl rfl ?_
        refine qr_iushr 78 rfl rfl ?_
        refine qy_v (((v1 / 256) / 4) / 2) (qz_ushr1 (by omega)) ?_
        refine qr_iadd 79 rfl rfl ?_
        refine qr_retI rfl rfl (by decide) (by decide) ?_
        exact ⟨rfl, (((1 + 8) + 2) + (((v1 / 256) / 4) / 2)), rfl, (by omega), (by omega)⟩
  · skip
    refine qr_iload_n 13 rfl rfl rfl ?_
    refine qr_bipush 15 rfl (by decide) rfl ?_
    refine qr_iand 16 rfl rfl ?_
    refine qy_andlE (by omega) (fun v10 hv10 hev10 => ?_)
    refine qr_retI rfl rfl (by decide) (by decide) ?_
    exact ⟨rfl, v10, rfl, (by omega), (by rw [hev10, show v1 = 0 by omega, show qlo x0 = 0 by omega]; exact qand_0)⟩

set_option maxHeartbeats 4000000 in
set_option maxRecDepth 20000 in
/-- OneRoof$Guests.fillHeaviestWithin -/
theorem sf_119_64x {L : Nat} {xs : Nat → Int} {vb : Bool} {d : Nat} {σ α : Nat → Nat → Int} {κ : Nat → Option Nat} {ρ : Nat}  (hI : qI σ α κ ρ) (p0 : qSy (α 66) (σ 64 2)) : qm_T (qe L xs vb) (d + 2) 119 [.ref 64] (qw σ α κ ρ) (fun r w' => ∃ α', w' = qw σ α' κ ρ ∧ qI σ α' κ ρ ∧ qFr [] [67] σ α σ α' ∧ r = none ∧ (∀ u : Int, 0 ≤ u → u < (qz_shl 1 (σ 64 2)) → α' 67 (u : Int).toNat = qmx (qWf (α 66) (qwC α 19 65) (σ 64 2)) u (qz_shl 1 (σ 64 2)).toNat)) := by
  refine qr_start (d := d + 1) qv_e119 (Nat.le_of_ble_eq_true rfl) ?_
  show qr_W (qe L xs vb) (d + 1) qx_e119 _ (0, [(0, .ref 64)], [], _, 0, 0)
  have hF0 := qFr_rf [] [67] σ α
  have hz64_2 : 0 ≤ σ 64 2 ∧ σ 64 2 ≤ 12 := hI.1 64 2
  have hsh := qshl_r (n := σ 64 2) (by omega)
  have hwt : ∀ k : Nat, (k : Int) < σ 64 2 → 0 ≤ qwC α 19 65 k ∧ qwC α 19 65 k ≤ 99 := fun k hk => by have h1 : 0 ≤ α 65 k ∧ α 65 k ≤ 31 := hI.2.1 65 k (show k < 12 by omega); exact hI.2.1 19 (α 65 k : Int).toNat (show _ < 32 by omega)
  refine qr_aload_n 1 rfl rfl rfl ?_
  refine qr_get 4 rfl rfl rfl (by decide) rfl ?_
  refine qr_iconst 5 rfl rfl ?_
  refine qr_iconst 6 rfl rfl ?_
  refine qr_iastore 7 rfl (by decide) rfl (by decide) (by decide) rfl ?_
  refine qy_wA (qw_r α 67 (qzu (α 67) (0 : Int).toNat 0)) rfl (fun α1 e2 => ?_)
  have hI3 : qI σ α1 κ ρ := by rw [e2]; exact qI_r hI 67 _ rfl (show (-2147483648) ≤ 0 ∧ 0 ≤ 2147483647 by omega)
  have hF4 : qFr [] [67] σ α σ α1 := by rw [e2]; exact qFr_r hF0 67 _ (by decide)
  refine qr_iconst 8 rfl rfl ?_
  refine qr_istore_n _ 9 rfl (by decide) rfl rfl ?_
  have hL1211 : ∀ (n : Nat) (ls : qm_L) (u1203 : Int) (α1205 : Nat → Nat → Int), 4096 - u1203 < (n : Int) → qm_get ls 0 = some (.ref 64) → qm_get ls 1 = some (.int (qz u1203)) → (1 ≤ u1203 ∧ u1203 ≤ 4096) → qI σ α1205 κ ρ → qFr [] [67] σ α σ α1205 → (∀ u : Int, 0 ≤ u → u < u1203 → α1205 67 (u : Int).toNat = qmx (qWf (α 66) (qwC α 19 65) (σ 64 2)) u (qz_shl 1 (σ 64 2)).toNat) → u1203 ≤ (qz_shl 1 (σ 64 2)) → qr_W (qe L xs vb) (d + 1) qx_e119 (fun r w' => ∃ α', w' = qw σ α' κ ρ ∧ qI σ α' κ ρ ∧ qFr [] [67] σ α σ α' ∧ r = none ∧ (∀ u : Int, 0 ≤ u → u < (qz_shl 1 (σ 64 2)) → α' 67 (u : Int).toNat = qmx (qWf (α 66) (qwC α 19 65) (σ 64 2)) u (qz_shl 1 (σ 64 2)).toNat)) (9, ls, [], qw σ α1205 κ ρ, 0, 0) := by
    intro n
    induction n with
    | zero => intro ls u1203 α1205 hm g1201 g1202 hf1208 hI1206 hF1207 hx1209 hx1210; exact False.elim (by omega)
    | succ n ih1212 =>
      intro ls u1203 α1205 hm g1201 g1202 hf1208 hI1206 hF1207 hx1209 hx1210
      refine qr_iload_n 10 rfl g1202 rfl ?_
      refine qr_iconst 11 rfl rfl ?_
      refine qr_aload_n 12 rfl g1201 rfl ?_
      refine qr_get 15 rfl rfl rfl (by decide) rfl ?_
      refine qr_ishl 16 rfl rfl ?_
      refine qy_shl1E (N := 12) (by omega) (fun v1213 hv1213 hev1213 => ?_)
      refine qr_icmp_ge 72 19 rfl rfl rfl (qrg hf1208 (by decide) (by decide)) (by omega) (fun h1214 => ?_) (fun h1214 => ?_)
      · skip
        refine qr_retV rfl rfl (by decide) (by decide) ?_
        exact ⟨_, rfl, hI1206, hF1207, rfl, (fun u h0 h1 => hx1209 u h0 (by omega))⟩
      · skip
        refine qr_iload_n 20 rfl g1202 rfl ?_
        refine qr_callN 23 rfl rfl rfl (sf_83q (d := d + 0) hI1206 (by omega)) ?_
        rintro _ _ ⟨rfl, v1215, rfl, hv1215, hp1216⟩
        show qr_W (qe L xs vb) (d + 1) qx_e119 _ (23, _, [.int (qz v1215)], qw σ α1205 κ ρ, 0, 0)
        refine qr_istore_n _ 24 rfl (by decide) rfl rfl ?_
        refine qr_iload_n 25 rfl (qm_gk g1202 (by decide) (Or.inr rfl)) rfl ?_
        refine qr_iload_n 26 rfl (qm_gk g1202 (by decide) (Or.inr rfl)) rfl ?_
        refine qr_iconst 27 rfl rfl ?_
        refine qr_isub 28 rfl rfl ?_
        refine qr_iand 29 rfl rfl ?_
        refine qy_andrE (by omega) (fun v1217 hv1217 hev1217 => ?_)
        refine qr_istore_n _ 30 rfl (by decide) rfl rfl ?_
        refine qr_aload_n 31 rfl (qm_gk (qm_gk g1201 (by decide) (Or.inl (by decide))) (by decide) (Or.inl (by decide))) rfl ?_
        refine qr_get 34 rfl rfl rfl (by decide) rfl ?_
        refine qr_iload_n 35 rfl (qm_gk (qm_gk g1202 (by decide) (Or.inr rfl)) (by decide) (Or.inl (by decide))) rfl ?_
        refine qr_aload_n 36 rfl (qm_gk (qm_gk g1201 (by decide) (Or.inl (by decide))) (by decide) (Or.inl (by decide))) rfl ?_
        refine qr_get 39 rfl rfl rfl (by decide) rfl ?_
        refine qr_iload_n 40 rfl (qm_ge _ _ _) rfl ?_
        refine qr_iaload 41 rfl rfl (by omega) (by decide) rfl ?_
        refine qr_topI (fun v1218 hv1218 => ?_)
        have hs1219 : (-2147483648) ≤ v1218 ∧ v1218 ≤ 2147483647 := by rw [hv1218]; exact hI1206.2.1 67 _ (show _ < 4096 by omega)
        have hrv1218 : v1218 = (α1205 67) (v1217 : Int).toNat := hv1218
        refine qr_aload_n 42 rfl (qm_gk (qm_gk g1201 (by decide) (Or.inl (by decide))) (by decide) (Or.inl (by decide))) rfl ?_
        refine qr_iload_n 43 rfl (qm_gk (qm_ge _ _ _) (by decide) (Or.inr rfl)) rfl ?_
        refine qr_callN 46 rfl rfl rfl (sf_114_64x (d := d + 0) hI1206 hv1215) ?_
        rintro _ _ ⟨rfl, v1220, rfl, hv1220, hp1221⟩
        show qr_W (qe L xs vb) (d + 1) qx_e119 _ (46, _, [.int (qz v1220), .int (qz v1218), .int (qz u1203), .ref 67], qw σ α1205 κ ρ, 0, 0)
        refine qr_aload_n 47 rfl (qm_gk (qm_gk g1201 (by decide) (Or.inl (by decide))) (by decide) (Or.inl (by decide))) rfl ?_
        refine qr_get 50 rfl rfl rfl (by decide) rfl ?_
        refine qr_iload_n 51 rfl (qm_ge _ _ _) rfl ?_
        refine qr_aload_n 52 rfl (qm_gk (qm_gk g1201 (by decide) (Or.inl (by decide))) (by decide) (Or.inl (by decide))) rfl ?_
        refine qr_get 55 rfl rfl rfl (by decide) rfl ?_
        refine qr_iload_n 56 rfl (qm_gk (qm_ge _ _ _) (by decide) (Or.inr rfl)) rfl ?_
        refine qr_iaload 57 rfl rfl (qrgi hv1215 (by decide) (by decide)) (by decide) rfl ?_
        refine qr_topI (fun v1222 hv1222 => ?_)
        have hs1223 : (-2147483648) ≤ v1222 ∧ v1222 ≤ 2147483647 := by rw [hv1222]; exact hI1206.2.1 66 _ (show _ < 12 from qrgt hv1215 (by decide) (by decide))
        refine qr_iconst 58 rfl rfl ?_
        refine qr_ixor 59 rfl rfl ?_
        refine qy_canE (fun v1224 hv1224 hev1224 => ?_)
        refine qr_iand 60 rfl rfl ?_
        refine qy_andlE (by omega) (fun v1225 hv1225 hev1225 => ?_)
        refine qr_iaload 61 rfl rfl (by omega) (by decide) rfl ?_
        refine qr_topI (fun v1226 hv1226 => ?_)
        have hs1227 : (-2147483648) ≤ v1226 ∧ v1226 ≤ 2147483647 := by rw [hv1226]; exact hI1206.2.1 67 _ (show _ < 4096 by omega)
        have hrv1226 : v1226 = (α1205 67) (v1225 : Int).toNat := hv1226
        refine qr_iadd 62 rfl rfl ?_
        refine qy_canE (fun v1228 hv1228 hev1228 => ?_)
        refine qr_callN 65 rfl rfl rfl (sf_30 (d := d + 0) hI1206 hs1219 hv1228) ?_
        rintro _ _ ⟨rfl, v1229, rfl, hv1229, hp1230⟩
        show qr_W (qe L xs vb) (d + 1) qx_e119 _ (65, _, [.int (qz v1229), .int (qz u1203), .ref 67], qw σ α1205 κ ρ, 0, 0)
        have hm1231a : v1218 = qmx (qWf (α 66) (qwC α 19 65) (σ 64 2)) (qz_and u1203 (u1203 - 1)) (qz_shl 1 (σ 64 2)).toNat := by rw [← hev1217]; exact (hv1218).trans (hx1209 v1217 (by omega) (by omega))
        have hm1231x : v1224 = qz_xor (α 66 (qlo u1203).toNat) (-1) := (qz_val hev1224 (by omega) (qz_xor_r _ _)).trans (by rw [(hv1222).trans (congrFun (hF1207.2 66 (by decide)) _), hp1216])
        have hm1231c : v1226 = qmx (qWf (α 66) (qwC α 19 65) (σ 64 2)) (qz_and (qz_and u1203 (u1203 - 1)) (qz_xor (α 66 (qlo u1203).toNat) (-1))) (qz_shl 1 (σ 64 2)).toNat := by rw [← hm1231x, ← hev1217, ← hev1225]; exact (hv1226).trans (hx1209 v1225 (by omega) (by omega))
        have hm1231r := qmx_r (bd := α 66) (y := (qz_and (qz_and u1203 (u1203 - 1)) (qz_xor (α 66 (qlo u1203).toNat) (-1)))) (m := (qz_shl 1 (σ 64 2)).toNat) (show 0 ≤ σ 64 2 ∧ σ 64 2 ≤ 12 by omega) hwt
        have hm1231l := qlo_n (n := σ 64 2) (y := u1203) (by omega) (by omega)
        have hm1231t := hwt (qlo u1203).toNat (by omega)
        have hm1231w : v1220 = qwC α 19 65 (qlo u1203).toNat := by rw [← hp1216, ← qwC_e (hF1207.2 19 (by decide)) (hF1207.2 65 (by decide))]; exact hp1221
        have hm1231s : v1228 = v1220 + v1226 := qz_val hev1228 (by omega) (by omega)
        have hm1231v : v1229 = qmx (qWf (α 66) (qwC α 19 65) (σ 64 2)) u1203 (qz_shl 1 (σ 64 2)).toNat := qmx_dp (a := v1218) (b := v1220 + v1226) (by omega) hwt p0 (by omega) hm1231a (by rw [← hm1231c, hm1231w]) (by omega)
        refine qr_iastore 66 rfl (by decide) rfl (by omega) (by decide) rfl ?_
        refine qy_wA (qw_r α1205 67 (qzu (α1205 67) (u1203 : Int).toNat v1229)) rfl (fun α1232 e1233 => ?_)
        have hI1234 : qI σ α1232 κ ρ := by rw [e1233]; exact qI_r hI1206 67 _ rfl (show (-2147483648) ≤ v1229 ∧ v1229 ≤ 2147483647 by omega)
        have hF1235 : qFr [] [67] σ α σ α1232 := by rw [e1233]; exact qFr_r hF1207 67 _ (by decide)
        refine qr_iinc _ 69 rfl (qm_gk (qm_gk g1202 (by decide) (Or.inr rfl)) (by decide) (Or.inl (by decide))) (by decide) rfl rfl ?_
        refine qr_goto 9 rfl rfl ?_
        exact ih1212 _ (u1203 + 1) α1232 (by omega) (qm_gk (qm_gk (qm_gk g1201 (by decide) (Or.inl (by decide))) (by decide) (Or.inl (by decide))) (by decide) (Or.inr rfl)) (qm_ge _ _ _) (by omega) hI1234 hF1235 (qri_s (g := fun u => qmx (qWf (α 66) (qwC α 19 65) (σ 64 2)) u (qz_shl 1 (σ 64 2)).toNat) (by omega) hx1209 (((congrFun e1233 67).trans (qw_r_eq.trans (congrArg (fun f => qzu f (u1203 : Int).toNat v1229) rfl)))) hm1231v) (by omega)
  exact hL1211 ((4096 - 1 + 1 : Int)).toNat _ 1 α1 (by omega) rfl rfl (by decide) hI3 hF4 (qri_s (g := fun u => qmx (qWf (α 66) (qwC α 19 65) (σ 64 2)) u (qz_shl 1 (σ 64 2)).toNat) (i := 0) (by decide) (fun u h0 h1 => False.elim (by omega)) (((congrFun e2 67).trans (qw_r_eq.trans (congrArg (fun f => qzu f (0 : Int).toNat 0) rfl)))) (qmx_00 _ (by omega)).symm) (by omega)

set_option maxHeartbeats 4000000 in
set_option maxRecDepth 20000 in
/-- OneRoof$Guests.twoRooms -/
theorem sf_118_64x {L : Nat} {xs : Nat → Int} {vb : Bool} {d : Nat} {σ α : Nat → Nat → Int} {κ : Nat → Option Nat} {ρ : Nat} {x1 : Int} (hI : qI σ α κ ρ) (r1 : (-2147483648) ≤ x1 ∧ x1 ≤ 2147483647) (p0 : qSy (α 66) (σ 64 2)) : qm_T (qe L xs vb) (d + 3) 118 [.ref 64, .int (qz x1)] (qw σ α κ ρ) (fun r w' => ∃ α', w' = qw σ α' κ ρ ∧ qI σ α' κ ρ ∧ qFr [] [67] σ α σ α' ∧ ∃ v : Int, r = some (.long (ql v)) ∧ ((-9223372036854775808) ≤ v ∧ v ≤ 9223372036854775807) ∧ qRoo (qWf (α 66) (qwC α 19 65) (σ 64 2)) (qz_shl 1 (σ 64 2)) (σ 64 2) x1 v (α 65)) := by
  refine qr_start (d := d + 2) qv_e118 (Nat.le_of_ble_eq_true rfl) ?_
  show qr_W (qe L xs vb) (d + 2) qx_e118 _ (0, [(0, .ref 64), (1, .int (qz x1))], [], _, 0, 0)
  have hF0 := qFr_rf [] [67] σ α
  have hz64_2 : 0 ≤ σ 64 2 ∧ σ 64 2 ≤ 12 := hI.1 64 2
  have hsh := qshl_r (n := σ 64 2) (by omega)
  have hn12 : 0 ≤ σ 64 2 ∧ σ 64 2 ≤ 12 := by omega
  have hwt : ∀ k : Nat, (k : Int) < σ 64 2 → 0 ≤ qwC α 19 65 k ∧ qwC α 19 65 k ≤ 99 := fun k hk => by have h1 : 0 ≤ α 65 k ∧ α 65 k ≤ 31 := hI.2.1 65 k (show k < 12 by omega); exact hI.2.1 19 (α 65 k : Int).toNat (show _ < 32 by omega)
  refine qr_aload_n 1 rfl rfl rfl ?_
  have hs1 : 0 ≤ σ 64 2 ∧ σ 64 2 ≤ 12 := hI.1 64 2
  refine qr_callN 4 rfl rfl rfl (sf_119_64x (d := d + 0) hI p0) ?_
  rintro _ _ ⟨α3, rfl, hI4, hG5, rfl, hx2⟩
  have hF6 : qFr [] [67] σ α σ α3 := qFr_t hF0 hG5 (by decide) (by decide)
  show qr_W (qe L xs vb) (d + 2) qx_e118 _ (4, _, [], qw σ α3 κ ρ, 0, 0)
  refine qr_iconst 5 rfl rfl ?_
  refine qr_aload_n 6 rfl rfl rfl ?_
  refine qr_get 9 rfl rfl rfl (by decide) rfl ?_
  refine qr_ishl 10 rfl rfl ?_
  refine qy_shl1E (N := 12) (by omega) (fun v7 hv7 hev7 => ?_)
  refine qr_iconst 11 rfl rfl ?_
  refine qr_isub 12 rfl rfl ?_
  refine qr_istore_n _ 13 rfl (by decide) rfl rfl ?_
  refine qr_iconst 14 rfl rfl ?_
  refine qr_istore_n _ 15 rfl (by decide) rfl rfl ?_
  refine qr_iconst 16 rfl rfl ?_
  refine qr_istore _ 18 rfl (by decide) rfl rfl ?_
  refine qr_iconst 19 rfl rfl ?_
  refine qr_istore _ 21 rfl (by decide) rfl rfl ?_
  refine qr_iconst 22 rfl rfl ?_
  refine qr_istore _ 24 rfl (by decide) rfl rfl ?_
  have hL713 : ∀ (n : Nat) (ls : qm_L) (u700 u702 u704 u706 : Int), 4096 - u706 < (n : Int) → qm_get ls 0 = some (.ref 64) → qm_get ls 1 = some (.int (qz x1)) → qm_get ls 2 = some (.int (qz (v7 - 1))) → qm_get ls 3 = some (.int (qz u700)) → qm_get ls 4 = some (.int (qz u702)) → qm_get ls 5 = some (.int (qz u704)) → qm_get ls 6 = some (.int (qz u706)) → (0 ≤ u700 ∧ u700 ≤ 4095) → ((-1) ≤ u702 ∧ u702 ≤ 2147483647) → ((-1) ≤ u704 ∧ u704 ≤ 2147483647) → (0 ≤ u706 ∧ u706 ≤ 4096) → qtwA (qWf (α 66) (qwC α 19 65) (σ 64 2)) (qz_shl 1 (σ 64 2)) u706 u700 u702 u704 → (u706 ≤ (qz_shl 1 (σ 64 2)) ∧ 0 ≤ u700 ∧ (u700 < u706 ∨ u700 = 0)) → qr_W (qe L xs vb) (d + 2) qx_e118 (fun r w' => ∃ α', w' = qw σ α' κ ρ ∧ qI σ α' κ ρ ∧ qFr [] [67] σ α σ α' ∧ ∃ v : Int, r = some (.long (ql v)) ∧ ((-9223372036854775808) ≤ v ∧ v ≤ 9223372036854775807) ∧ qRoo (qWf (α 66) (qwC α 19 65) (σ 64 2)) (qz_shl 1 (σ 64 2)) (σ 64 2) x1 v (α 65)) (24, ls, [], qw σ α3 κ ρ, 0, 0) := by
    intro n
    induction n with
    | zero => intro ls u700 u702 u704 u706 hm g696 g697 g698 g699 g701 g703 g705 hf707 hf708 hf709 hf710 hx711 hx712; exact False.elim (by omega)
    | succ n ih714 =>
      intro ls u700 u702 u704 u706 hm g696 g697 g698 g699 g701 g703 g705 hf707 hf708 hf709 hf710 hx711 hx712
      refine qr_iload 26 rfl g705 rfl ?_
      refine qr_iload_n 27 rfl g698 rfl ?_
      refine qr_icmp_gt 103 30 rfl rfl rfl (qrg hf710 (by decide) (by decide)) (by omega) (fun h715 => ?_) (fun h715 => ?_)
      · skip
        refine qr_iload_n 104 rfl g697 rfl ?_
        refine qr_if_ne 113 107 rfl rfl rfl r1 (fun h716 => ?_) (fun h716 => ?_)
        · skip
          refine qr_aload_n 114 rfl g696 rfl ?_
          refine qr_iload_n 115 rfl g699 rfl ?_
          refine qr_callN 118 rfl rfl rfl (sf_116_64x (d := d + 0) hI4 hf707) ?_
          rintro _ _ ⟨rfl, v717, rfl, hv717, hx718⟩
          show qr_W (qe L xs vb) (d + 2) qx_e118 _ (118, _, [.long (ql v717)], qw σ α3 κ ρ, 0, 0)
          refine qr_retL rfl rfl (by decide) (by decide) ?_
          exact ⟨_, rfl, hI4, hF6, v717, rfl, hv717, ⟨u700, (qtwA_end (N := (qz_shl 1 (σ 64 2))) (by omega) (by have hz := hx711; rw [show u706 = (qz_shl 1 (σ 64 2)) by omega] at hz; exact hz)).1, (qtwA_end (N := (qz_shl 1 (σ 64 2))) (by omega) (by have hz := hx711; rw [show u706 = (qz_shl 1 (σ 64 2)) by omega] at hz; exact hz)).2.1, Or.inr ⟨by omega, (by have hz := hx718; rw [hF6.2 65 (by decide)] at hz; exact hz)⟩⟩⟩
        · skip
          refine qr_iload 109 rfl g701 rfl ?_
          refine qr_i2l 110 rfl (qrg hf708 (by decide) (by decide)) rfl ?_
          refine qr_goto 118 rfl rfl ?_
          refine qr_retL rfl rfl (by decide) (by decide) ?_
          exact ⟨_, rfl, hI4, hF6, u702, rfl, (qrg hf708 (by decide) (by decide)), ⟨u700, (qtwA_end (N := (qz_shl 1 (σ 64 2))) (by omega) (by have hz := hx711; rw [show u706 = (qz_shl 1 (σ 64 2)) by omega] at hz; exact hz)).1, (qtwA_end (N := (qz_shl 1 (σ 64 2))) (by omega) (by have hz := hx711; rw [show u706 = (qz_shl 1 (σ 64 2)) by omega] at hz; exact hz)).2.1, Or.inl ⟨by omega, (qtwA_end (N := (qz_shl 1 (σ 64 2))) (by omega) (by have hz := hx711; rw [show u706 = (qz_shl 1 (σ 64 2)) by omega] at hz; exact hz)).2.2⟩⟩⟩
      · skip
        refine qr_aload_n 31 rfl g696 rfl ?_
        refine qr_iload 33 rfl g705 rfl ?_
        refine qr_callN 36 rfl rfl rfl (sf_113_64x (d := d + 0) hI4 (by omega)) ?_
        rintro _ _ ⟨rfl, v719, rfl, hv719, hx720⟩
        show qr_W (qe L xs vb) (d + 2) qx_e118 _ (36, _, [.int (qz v719)], qw σ α3 κ ρ, 0, 0)
        have hk721w : v719 = qWf (α 66) (qwC α 19 65) (σ 64 2) u706 := by have hz := hx720; rw [hF6.2 66 (by decide), qwC_e (hF6.2 19 (by decide)) (hF6.2 65 (by decide))] at hz; exact hz
        have hk721b := qWf_r (bd := α 66) hn12 hwt u706
        refine qr_istore _ 38 rfl (by decide) rfl rfl ?_
        refine qr_iload 40 rfl (qm_ge _ _ _) rfl ?_
        refine qr_if_ge 46 43 rfl rfl rfl hv719 (fun h722 => ?_) (fun h722 => ?_)
        · skip
          refine qr_iload 48 rfl (qm_ge _ _ _) rfl ?_
          refine qr_aload_n 49 rfl (qm_gk g696 (by decide) (Or.inl (by decide))) rfl ?_
          refine qr_get 52 rfl rfl rfl (by decide) rfl ?_
          refine qr_iload_n 53 rfl (qm_gk g698 (by decide) (Or.inl (by decide))) rfl ?_
          refine qr_iload 55 rfl (qm_gk g705 (by decide) (Or.inr rfl)) rfl ?_
          refine qr_iconst 56 rfl rfl ?_
          refine qr_ixor 57 rfl rfl ?_
          refine qy_canE (fun v723 hv723 hev723 => ?_)
          refine qr_iand 58 rfl rfl ?_
          refine qy_andlE (by omega) (fun v724 hv724 hev724 => ?_)
          refine qr_iaload 59 rfl rfl (by omega) (by decide) rfl ?_
          refine qr_topI (fun v725 hv725 => ?_)
          have hs726 : (-2147483648) ≤ v725 ∧ v725 ≤ 2147483647 := by rw [hv725]; exact hI4.2.1 67 _ (show _ < 4096 by omega)
          refine qr_iadd 60 rfl rfl ?_
          refine qy_canE (fun v727 hv727 hev727 => ?_)
          refine qr_istore _ 62 rfl (by decide) rfl rfl ?_
          have hk728x : v724 = qz_and ((qz_shl 1 (σ 64 2)) - 1) (qz_xor u706 (-1)) := by rw [hev724, qz_val hev723 (by omega) (qz_xor_r _ _), show (v7 - 1) = (qz_shl 1 (σ 64 2)) - 1 by omega]
          have hk728h : v725 = qmx (qWf (α 66) (qwC α 19 65) (σ 64 2)) (qz_and ((qz_shl 1 (σ 64 2)) - 1) (qz_xor u706 (-1))) (qz_shl 1 (σ 64 2)).toNat := by rw [← hk728x]; exact (hv725).trans (hx2 v724 (by omega) (by omega))
          have hk728r := qmx_r (bd := α 66) (y := (qz_and ((qz_shl 1 (σ 64 2)) - 1) (qz_xor u706 (-1)))) (m := (qz_shl 1 (σ 64 2)).toNat) hn12 hwt
          have hk728e : v727 = v719 + v725 := qz_val hev727 (by omega) (by omega)
          have hk728s : v727 = qrK (qWf (α 66) (qwC α 19 65) (σ 64 2)) (qz_shl 1 (σ 64 2)) u706 := by show v727 = (qWf (α 66) (qwC α 19 65) (σ 64 2)) u706 + qmx (qWf (α 66) (qwC α 19 65) (σ 64 2)) (qz_and ((qz_shl 1 (σ 64 2)) - 1) (qz_xor u706 (-1))) (qz_shl 1 (σ 64 2)).toNat; omega
          refine qr_iload 64 rfl (qm_ge _ _ _) rfl ?_
          refine qr_iload 66 rfl (qm_gk (qm_gk g701 (by decide) (Or.inl (by decide))) (by decide) (Or.inl (by decide))) rfl ?_
          refine qr_icmp_lt 97 69 rfl rfl rfl hv727 (qrg hf708 (by decide) (by decide)) (fun h729 => ?_) (fun h729 => ?_)
          · skip
            refine qr_iinc _ 100 rfl (qm_gk (qm_gk g705 (by decide) (Or.inr rfl)) (by decide) (Or.inl (by decide))) (by decide) rfl rfl ?_
            refine qr_goto 24 rfl rfl ?_
            exact ih714 _ u700 u702 u704 (u706 + 1) (by omega) (qm_gk (qm_gk (qm_gk g696 (by decide) (Or.inl (by decide))) (by decide) (Or.inl (by decide))) (by decide) (Or.inl (by decide))) (qm_gk (qm_gk (qm_gk g697 (by decide) (Or.inl (by decide))) (by decide) (Or.inl (by decide))) (by decide) (Or.inl (by decide))) (qm_gk (qm_gk (qm_gk g698 (by decide) (Or.inl (by decide))) (by decide) (Or.inl (by decide))) (by decide) (Or.inl (by decide))) (qm_gk (qm_gk (qm_gk g699 (by decide) (Or.inl (by decide))) (by decide) (Or.inl (by decide))) (by decide) (Or.inl (by decide))) (qm_gk (qm_gk (qm_gk g701 (by decide) (Or.inl (by decide))) (by decide) (Or.inl (by decide))) (by decide) (Or.inl (by decide))) (qm_gk (qm_gk (qm_gk g703 (by decide) (Or.inl (by decide))) (by decide) (Or.inl (by decide))) (by decide) (Or.inr rfl)) (qm_ge _ _ _) hf707 hf708 hf709 (by omega) (qtwA_lo hk728s hk721w (by omega) (qWf_r hn12 hwt _).2 (by omega) (by omega) hx711) (by omega)
          · skip
            refine qr_iload 71 rfl (qm_ge _ _ _) rfl ?_
            refine qr_iload 73 rfl (qm_gk (qm_gk g701 (by decide) (Or.inl (by decide))) (by decide) (Or.inl (by decide))) rfl ?_
            refine qr_icmp_ne 86 76 rfl rfl rfl hv727 (qrg hf708 (by decide) (by decide)) (fun h730 => ?_) (fun h730 => ?_)
            · skip
              refine qr_iload 88 rfl (qm_gk (qm_gk g705 (by decide) (Or.inr rfl)) (by decide) (Or.inl (by decide))) rfl ?_
              refine qr_istore_n _ 89 rfl (by decide) rfl rfl ?_
              refine qr_iload 91 rfl (qm_gk (qm_ge _ _ _) (by decide) (Or.inl (by decide))) rfl ?_
              refine qr_istore _ 93 rfl (by decide) rfl rfl ?_
              refine qr_iload 95 rfl (qm_gk (qm_gk (qm_gk (qm_ge _ _ _) (by decide) (Or.inr rfl)) (by decide) (Or.inl (by decide))) (by decide) (Or.inl (by decide))) rfl ?_
              refine qr_istore _ 97 rfl (by decide) rfl rfl ?_
              refine qr_iinc _ 100 rfl (qm_gk (qm_gk (qm_gk (qm_gk (qm_gk g705 (by decide) (Or.inr rfl)) (by decide) (Or.inl (by decide))) (by decide) (Or.inl (by decide))) (by decide) (Or.inl (by decide))) (by decide) (Or.inl (by decide))) (by decide) rfl rfl ?_
              refine qr_goto 24 rfl rfl ?_
              exact ih714 _ u706 v727 v719 (u706 + 1) (by omega) (qm_gk (qm_gk (qm_gk (qm_gk (qm_gk (qm_gk g696 (by decide) (Or.inl (by decide))) (by decide) (Or.inl (by decide))) (by decide) (Or.inl (by decide))) (by decide) (Or.inl (by decide))) (by decide) (Or.inl (by decide))) (by decide) (Or.inl (by decide))) (qm_gk (qm_gk (qm_gk (qm_gk (qm_gk (qm_gk g697 (by decide) (Or.inl (by decide))) (by decide) (Or.inl (by decide))) (by decide) (Or.inl (by decide))) (by decide) (Or.inl (by decide))) (by decide) (Or.inl (by decide))) (by decide) (Or.inl (by decide))) (qm_gk (qm_gk (qm_gk (qm_gk (qm_gk (qm_gk g698 (by decide) (Or.inl (by decide))) (by decide) (Or.inl (by decide))) (by decide) (Or.inr rfl)) (by decide) (Or.inl (by decide))) (by decide) (Or.inl (by decide))) (by decide) (Or.inl (by decide))) (qm_gk (qm_gk (qm_gk (qm_ge _ _ _) (by decide) (Or.inr rfl)) (by decide) (Or.inl (by decide))) (by decide) (Or.inl (by decide))) (qm_gk (qm_gk (qm_ge _ _ _) (by decide) (Or.inr rfl)) (by decide) (Or.inl (by decide))) (qm_gk (qm_ge _ _ _) (by decide) (Or.inr rfl)) (qm_ge _ _ _) (by omega) (by omega) (by omega) (by omega) (qtwA_hi (by omega) hk728s hk721w (by omega) (qWf_r hn12 hwt _).2 (by omega) (by omega) hx711) (by omega)
            · skip
              refine qr_iload 78 rfl (qm_gk (qm_ge _ _ _) (by decide) (Or.inr rfl)) rfl ?_
              refine qr_iload 80 rfl (qm_gk (qm_gk g703 (by decide) (Or.inl (by decide))) (by decide) (Or.inl (by decide))) rfl ?_
              refine qr_icmp_gt 86 83 rfl rfl rfl hv719 (qrg hf709 (by decide) (by decide)) (fun h731 => ?_) (fun h731 => ?_)
              · skip
                refine qr_iload 88 rfl (qm_gk (qm_gk g705 (by decide) (Or.inr rfl)) (by decide) (Or.inl (by decide))) rfl ?_
                refine qr_istore_n _ 89 rfl (by decide) rfl rfl ?_
                refine qr_iload 91 rfl (qm_gk (qm_ge _ _ _) (by decide) (Or.inl (by decide))) rfl ?_
                refine qr_istore _ 93 rfl (by decide) rfl rfl ?_
                refine qr_iload 95 rfl (qm_gk (qm_gk (qm_gk (qm_ge _ _ _) (by decide) (Or.inr rfl)) (by decide) (Or.inl (by decide))) (by decide) (Or.inl (by decide))) rfl ?_
                refine qr_istore _ 97 rfl (by decide) rfl rfl ?_
                refine qr_iinc _ 100 rfl (qm_gk (qm_gk (qm_gk (qm_gk (qm_gk g705 (by decide) (Or.inr rfl)) (by decide) (Or.inl (by decide))) (by decide) (Or.inl (by decide))) (by decide) (Or.inl (by decide))) (by decide) (Or.inl (by decide))) (by decide) rfl rfl ?_
                refine qr_goto 24 rfl rfl ?_
                exact ih714 _ u706 v727 v719 (u706 + 1) (by omega) (qm_gk (qm_gk (qm_gk (qm_gk (qm_gk (qm_gk g696 (by decide) (Or.inl (by decide))) (by decide) (Or.inl (by decide))) (by decide) (Or.inl (by decide))) (by decide) (Or.inl (by decide))) (by decide) (Or.inl (by decide))) (by decide) (Or.inl (by decide))) (qm_gk (qm_gk (qm_gk (qm_gk (qm_gk (qm_gk g697 (by decide) (Or.inl (by decide))) (by decide) (Or.inl (by decide))) (by decide) (Or.inl (by decide))) (by decide) (Or.inl (by decide))) (by decide) (Or.inl (by decide))) (by decide) (Or.inl (by decide))) (qm_gk (qm_gk (qm_gk (qm_gk (qm_gk (qm_gk g698 (by decide) (Or.inl (by decide))) (by decide) (Or.inl (by decide))) (by decide) (Or.inr rfl)) (by decide) (Or.inl (by decide))) (by decide) (Or.inl (by decide))) (by decide) (Or.inl (by decide))) (qm_gk (qm_gk (qm_gk (qm_ge _ _ _) (by decide) (Or.inr rfl)) (by decide) (Or.inl (by decide))) (by decide) (Or.inl (by decide))) (qm_gk (qm_gk (qm_ge _ _ _) (by decide) (Or.inr rfl)) (by decide) (Or.inl (by decide))) (qm_gk (qm_ge _ _ _) (by decide) (Or.inr rfl)) (qm_ge _ _ _) (by omega) (by omega) (by omega) (by omega) (qtwA_hi (by omega) hk728s hk721w (by omega) (qWf_r hn12 hwt _).2 (by omega) (by omega) hx711) (by omega)
              · skip
                refine qr_goto 97 rfl rfl ?_
                refine qr_iinc _ 100 rfl (qm_gk (qm_gk g705 (by decide) (Or.inr rfl)) (by decide) (Or.inl (by decide))) (by decide) rfl rfl ?_
                refine qr_goto 24 rfl rfl ?_
                exact ih714 _ u700 u702 u704 (u706 + 1) (by omega) (qm_gk (qm_gk (qm_gk g696 (by decide) (Or.inl (by decide))) (by decide) (Or.inl (by decide))) (by decide) (Or.inl (by decide))) (qm_gk (qm_gk (qm_gk g697 (by decide) (Or.inl (by decide))) (by decide) (Or.inl (by decide))) (by decide) (Or.inl (by decide))) (qm_gk (qm_gk (qm_gk g698 (by decide) (Or.inl (by decide))) (by decide) (Or.inl (by decide))) (by decide) (Or.inl (by decide))) (qm_gk (qm_gk (qm_gk g699 (by decide) (Or.inl (by decide))) (by decide) (Or.inl (by decide))) (by decide) (Or.inl (by decide))) (qm_gk (qm_gk (qm_gk g701 (by decide) (Or.inl (by decide))) (by decide) (Or.inl (by decide))) (by decide) (Or.inl (by decide))) (qm_gk (qm_gk (qm_gk g703 (by decide) (Or.inl (by decide))) (by decide) (Or.inl (by decide))) (by decide) (Or.inr rfl)) (qm_ge _ _ _) hf707 hf708 hf709 (by omega) (qtwA_lo hk728s hk721w (by omega) (qWf_r hn12 hwt _).2 (by omega) (by omega) hx711) (by omega)
        · skip
          refine qr_goto 97 rfl rfl ?_
          refine qr_iinc _ 100 rfl (qm_gk g705 (by decide) (Or.inr rfl)) (by decide) rfl rfl ?_
          refine qr_goto 24 rfl rfl ?_
          exact ih714 _ u700 u702 u704 (u706 + 1) (by omega) (qm_gk (qm_gk g696 (by decide) (Or.inl (by decide))) (by decide) (Or.inl (by decide))) (qm_gk (qm_gk g697 (by decide) (Or.inl (by decide))) (by decide) (Or.inl (by decide))) (qm_gk (qm_gk g698 (by decide) (Or.inl (by decide))) (by decide) (Or.inl (by decide))) (qm_gk (qm_gk g699 (by decide) (Or.inl (by decide))) (by decide) (Or.inl (by decide))) (qm_gk (qm_gk g701 (by decide) (Or.inl (by decide))) (by decide) (Or.inl (by decide))) (qm_gk (qm_gk g703 (by decide) (Or.inl (by decide))) (by decide) (Or.inr rfl)) (qm_ge _ _ _) hf707 hf708 hf709 (by omega) (qtwA_no qwf_0 (by omega) hx711) (by omega)
  exact hL713 ((4096 - 0 + 1 : Int)).toNat _ 0 (-1) (-1) 0 (by omega) rfl rfl rfl rfl rfl rfl rfl (by decide) (by decide) (by decide) (by decide) (Or.inl ⟨rfl, rfl, rfl, rfl⟩) (by omega)

set_option maxHeartbeats 4000000 in
set_option maxRecDepth 20000 in
/-- OneRoof.rooms -/
theorem sf_117_16x {L : Nat} {xs : Nat → Int} {vb : Bool} {d : Nat} {σ α : Nat → Nat → Int} {κ : Nat → Option Nat} {ρ : Nat} {x1 : Int} {x2 : Int} {x3 : Int} {f : (Nat → Int) → Int} (hI : qI σ α κ ρ) (r1 : (-9223372036854775808) ≤ x1 ∧ x1 ≤ 9223372036854775807) (r2 : (-2147483648) ≤ x2 ∧ x2 ≤ 2147483647) (r3 : (-2147483648) ≤ x3 ∧ x3 ≤ 2147483647) (p0 : qPW σ α κ (0 : Int).toNat f) (p1 : qZp σ α) (p2 : σ 58 10 = 0) (p3 : ∀ c : Nat, c < 496 → α 61 c ≤ σ 58 12) (p4 : ∀ c : Nat, c < 496 → α 63 c ≤ σ 58 12) (p5 : 0 ≤ σ 58 12 ∧ σ 58 12 ≤ 1900000000) : qm_T (qe L xs vb) (d + 8) 117 [.ref 16, .long (ql x1), .int (qz x2), .int (qz x3)] (qw σ α κ ρ) (fun r w' => ∃ σ' α', w' = qw σ' α' κ ρ ∧ qI σ' α' κ ρ ∧ qFr [(58, 11), (58, 12), (64, 2)] [53, 57, 59, 60, 61, 62, 63, 65, 66, 67, 85] σ α σ' α' ∧ ∃ v : Int, r = some (.long (ql v)) ∧ ((-9223372036854775808) ≤ v ∧ v ≤ 9223372036854775807) ∧ ((v = -1 ∧ ¬ (qst x1 (σ 17 6) ∧ 0 ≤ x2 ∧ x2 / 10000 ≤ x2 % 10000 ∧ x2 % 10000 ≤ 2399 ∧ x2 % 10000 - x2 / 10000 < 48 ∧ (x3 = 0 ∨ x3 = 1) ∧ ¬ (ql_and x1 (ql_xor (σ 17 5) (-1))) = 0 ∧ qcn (ql_and x1 (ql_xor (σ 17 5) (-1))) 64 ≤ 12)) ∨ ((qst x1 (σ 17 6) ∧ 0 ≤ x2 ∧ x2 / 10000 ≤ x2 % 10000 ∧ x2 % 10000 ≤ 2399 ∧ x2 % 10000 - x2 / 10000 < 48 ∧ (x3 = 0 ∨ x3 = 1) ∧ ¬ (ql_and x1 (ql_xor (σ 17 5) (-1))) = 0 ∧ qcn (ql_and x1 (ql_xor (σ 17 5) (-1))) 64 ≤ 12) ∧ qLs (α' 65) (σ' 64 2) (qBr (fun k : Nat => qbit (ql_and x1 (ql_xor (σ 17 5) (-1))) (k : Int)) 32) ∧ qBR (qPF (fun a b : Int => qBaC σ α f (α' 65 (a : Int).toNat) (α' 65 (b : Int).toNat) (x2 / 10000) (x2 % 10000)) (σ' 64 2)) (α' 66) (σ' 64 2) ∧ qRoo (qWf (α' 66) (qwC α' 19 65) (σ' 64 2)) (qz_shl 1 (σ' 64 2)) (σ' 64 2) x3 v (α' 65))) ∧ (∀ c : Nat, c < 496 → α' 61 c ≤ σ' 58 12) ∧ (∀ c : Nat, c < 496 → α' 63 c ≤ σ' 58 12) ∧ (0 ≤ σ' 58 12 ∧ σ' 58 12 ≤ σ 58 12 + 6912)) := by
  refine qr_start (d := d + 7) qv_e117 (Nat.le_of_ble_eq_true rfl) ?_
  show qr_W (qe L xs vb) (d + 7) qx_e117 _ (0, [(0, .ref 16), (1, .long (ql x1)), (3, .int (qz x2)), (4, .int (qz x3))], [], _, 0, 0)
  have hF0 := qFr_rf [(58, 11), (58, 12), (64, 2)] [53, 57, 59, 60, 61, 62, 63, 65, 66, 67, 85] σ α
  have hz58_10 : (-9223372036854775808) ≤ σ 58 10 ∧ σ 58 10 ≤ 9223372036854775807 := hI.1 58 10
  have hz58_12 : (-2147483648) ≤ σ 58 12 ∧ σ 58 12 ≤ 2147483647 := hI.1 58 12
  have hz17_5 : (-9223372036854775808) ≤ σ 17 5 ∧ σ 17 5 ≤ 9223372036854775807 := hI.1 17 5
  have hz17_6 : 0 ≤ σ 17 6 ∧ σ 17 6 ≤ 32 := hI.1 17 6
  have hz27_6 : (-9223372036854775808) ≤ σ 27 6 ∧ σ 27 6 ≤ 9223372036854775807 := hI.1 27 6
  have hz27_7 : 0 ≤ σ 27 7 ∧ σ 27 7 ≤ 40 := hI.1 27 7
  have hz34_7 : 0 ≤ σ 34 7 ∧ σ 34 7 ≤ 60 := hI.1 34 7
  have hz58_11 : (-2147483648) ≤ σ 58 11 ∧ σ 58 11 ≤ 2147483647 := hI.1 58 11
  have hz64_2 : 0 ≤ σ 64 2 ∧ σ 64 2 ≤ 12 := hI.1 64 2
  refine qr_aload_n 1 rfl rfl rfl ?_
  refine qr_get 4 rfl rfl rfl (by decide) rfl ?_
  refine qr_lload_n 5 rfl rfl rfl ?_
  refine qr_callN 8 rfl rfl rfl (sf_88_17x (d := d + 6) hI r1) ?_
  have hs3 : 0 ≤ σ 17 6 ∧ σ 17 6 ≤ 32 := hI.1 17 6
  rintro _ _ ⟨rfl, v1, rfl, hv1, hp2⟩
  show qr_W (qe L xs vb) (d + 7) qx_e117 _ (8, _, [.int (qz v1)], qw σ α κ ρ, 0, 0)
  refine qr_if_eq 26 11 rfl rfl rfl (qrg hv1 (by decide) (by decide)) (fun h4 => ?_) (fun h4 => ?_)
  · skip
    refine qr_ldc2 (-1) 29 rfl (by decide) rfl ?_
    refine qr_retL rfl rfl (by decide) (by decide) ?_
    exact ⟨_, _, rfl, hI, hF0, (-1), rfl, (by decide), (Or.inl ⟨rfl, (fun hc => by obtain ⟨c1, c2, c3, c4, c5, c6, c7, c8⟩ := hc; first | omega | (have hz := hp2; rcases hz with hz | hz; (omega); (exact hz.2 c1)))⟩), p3, p4, (by omega)⟩
  · skip
    refine qr_iload_n 12 rfl rfl rfl ?_
    refine qr_callN 15 rfl rfl rfl (sf_100 (d := d + 4) hI r2) ?_
    rintro _ _ ⟨rfl, v5, rfl, hv5, hp6⟩
    show qr_W (qe L xs vb) (d + 7) qx_e117 _ (15, _, [.int (qz v5)], qw σ α κ ρ, 0, 0)
    refine qr_if_eq 26 18 rfl rfl rfl (qrg hv5 (by decide) (by decide)) (fun h7 => ?_) (fun h7 => ?_)
    · skip
      refine qr_ldc2 (-1) 29 rfl (by decide) rfl ?_
      refine qr_retL rfl rfl (by decide) (by decide) ?_
      exact ⟨_, _, rfl, hI, hF0, (-1), rfl, (by decide), (Or.inl ⟨rfl, (fun hc => by obtain ⟨c1, c2, c3, c4, c5, c6, c7, c8⟩ := hc; first | omega | (have hz := hp2; rcases hz with hz | hz; (omega); (exact hz.2 c1)))⟩), p3, p4, (by omega)⟩
    · skip
      refine qr_iload 20 rfl rfl rfl ?_
      refine qr_callN 23 rfl rfl rfl (sf_41 (d := d + 6) hI r3) ?_
      rintro _ _ ⟨rfl, v8, rfl, hv8, hp9⟩
      show qr_W (qe L xs vb) (d + 7) qx_e117 _ (23, _, [.int (qz v8)], qw σ α κ ρ, 0, 0)
      refine qr_if_ne 30 26 rfl rfl rfl (qrg hv8 (by decide) (by decide)) (fun h10 => ?_) (fun h10 => ?_)
      · skip
        refine qr_lload_n 31 rfl rfl rfl ?_
        refine qr_aload_n 32 rfl rfl rfl ?_
        refine qr_get 35 rfl rfl rfl (by decide) rfl ?_
        refine qr_get 38 rfl rfl rfl (by decide) rfl ?_
        refine qr_ldc2 (-1) 41 rfl (by decide) rfl ?_
        refine qr_lxor 42 rfl rfl ?_
        refine qy_canlE (fun v11 hv11 hev11 => ?_)
        refine qr_land 43 rfl rfl ?_
        refine qy_canlE (fun v12 hv12 hev12 => ?_)
        refine qr_lstore _ 45 rfl (by decide) rfl rfl ?_
        have hv13 : v12 = ql_and x1 (ql_xor (σ 17 5) (-1)) := by rw [ql_val hev12 (by omega) (ql_and_r _ _), ql_val hev11 (by omega) (ql_xor_r _ _)]
        refine qr_lload 47 rfl rfl rfl ?_
        refine qr_bipush 49 rfl (by decide) rfl ?_
        refine qr_callN 52 rfl rfl rfl (sf_109x (d := d + 5) hI hv12 (by decide)) ?_
        rintro _ _ ⟨rfl, v14, rfl, hv14, hp15⟩
        show qr_W (qe L xs vb) (d + 7) qx_e117 _ (52, _, [.int (qz v14)], qw σ α κ ρ, 0, 0)
        refine qr_if_ne 59 55 rfl rfl rfl (qrg hv14 (by decide) (by decide)) (fun h16 => ?_) (fun h16 => ?_)
        · skip
          refine qr_aload_n 60 rfl rfl rfl ?_
          refine qr_get 63 rfl rfl rfl (by decide) rfl ?_
          refine qr_lload 65 rfl rfl rfl ?_
          refine qr_callN 68 rfl rfl rfl (sf_110_64x (d := d + 5) hI hv12 (by omega)) ?_
          rintro _ _ ⟨σ18, α19, rfl, hI20, hG21, rfl, hx17⟩
          have hF22 : qFr [(58, 11), (58, 12), (64, 2)] [53, 57, 59, 60, 61, 62, 63, 65, 66, 67, 85] σ α σ18 α19 := qFr_t hF0 hG21 (by decide) (by decide)
          show qr_W (qe L xs vb) (d + 7) qx_e117 _ (68, _, [], qw σ18 α19 κ ρ, 0, 0)
          rw [hv13] at hx17
          have hsg23 : 0 ≤ σ18 64 2 ∧ σ18 64 2 ≤ 12 := hI20.1 64 2
          refine qr_aload_n 69 rfl rfl rfl ?_
          refine qr_get 72 rfl rfl rfl (by decide) rfl ?_
          refine qr_iload_n 73 rfl rfl rfl ?_
          refine qr_sipush 76 rfl (by decide) rfl ?_
          refine qr_idiv 77 rfl (by omega) (by decide) rfl ?_
          refine qr_iload_n 78 rfl rfl rfl ?_
          refine qr_sipush 81 rfl (by decide) rfl ?_
          refine qr_irem 82 rfl (by omega) (by decide) rfl ?_
          have hs24 : (-9223372036854775808) ≤ σ18 58 10 ∧ σ18 58 10 ≤ 9223372036854775807 := hI20.1 58 10
          have hs25 : σ18 58 10 = (σ 58 10) := (hG21.1 58 10 (by decide)).trans rfl
          have hs26 : (-2147483648) ≤ σ18 58 12 ∧ σ18 58 12 ≤ 2147483647 := hI20.1 58 12
          have hs27 : σ18 58 12 = (σ 58 12) := (hG21.1 58 12 (by decide)).trans rfl
          refine qr_callN 85 rfl rfl rfl (sf_111_64x (d := d + 0) hI20 (by omega) (by omega) (by omega) (qPW_fr hF22 (by decide) (by decide) p0) (qZp_fr hF22 (by decide) (by decide) p1) ((hF22.1 58 10 (by decide)).trans p2) (fun c hc => by rw [hG21.2 61 (by decide), hG21.1 58 12 (by decide)]; exact p3 c hc) (fun c hc => by rw [hG21.2 63 (by decide), hG21.1 58 12 (by decide)]; exact p4 c hc) (by omega)) ?_
          rintro _ _ ⟨σ33, α34, rfl, hI35, hG36, hw31, hw32, rfl, hx28, hx29, hx30⟩
          have hF37 : qFr [(58, 11), (58, 12), (64, 2)] [53, 57, 59, 60, 61, 62, 63, 65, 66, 67, 85] σ α σ33 α34 := qFr_t hF22 hG36 (by decide) (by decide)
          have hs38 : (-2147483648) ≤ σ33 58 12 ∧ σ33 58 12 ≤ 2147483647 := hI35.1 58 12
          show qr_W (qe L xs vb) (d + 7) qx_e117 _ (85, _, [], qw σ33 α34 κ ρ, 0, 0)
          rw [qBaC_fr hF22 (by decide) (by decide)] at hx28
          refine qr_aload_n 86 rfl rfl rfl ?_
          refine qr_get 89 rfl rfl rfl (by decide) rfl ?_
          refine qr_iload 91 rfl rfl rfl ?_
          have hs39 : 0 ≤ σ33 64 2 ∧ σ33 64 2 ≤ 12 := hI35.1 64 2
          refine qr_callN 94 rfl rfl rfl (sf_118_64x (d := d + 4) hI35 r3 (by have hq := qSy_of (n := σ18 64 2) (by omega) hx28; rw [← hG36.1 64 2 (by decide)] at hq; exact hq)) ?_
          rintro _ _ ⟨α42, rfl, hI43, hG44, v40, rfl, hv40, hx41⟩
          have hF45 : qFr [(58, 11), (58, 12), (64, 2)] [53, 57, 59, 60, 61, 62, 63, 65, 66, 67, 85] σ α σ33 α42 := qFr_t hF37 hG44 (by decide) (by decide)
          show qr_W (qe L xs vb) (d + 7) qx_e117 _ (94, _, [.long (ql v40)], qw σ33 α42 κ ρ, 0, 0)
          refine qr_retL rfl rfl (by decide) (by decide) ?_
          exact ⟨_, _, rfl, hI43, hF45, v40, rfl, hv40, (Or.inr ⟨⟨(by have hz := hp2; rcases hz with hz | hz; (exact hz.2); (exact absurd hz.1 (by omega))), by omega, by omega, by omega, by omega, by omega, by rw [← hv13]; omega, by rw [← hv13]; omega⟩, (by rw [hG44.2 65 (by decide), hG36.2 65 (by decide), hG44.1 64 2 (by decide), hG36.1 64 2 (by decide)]; exact hx17), (by rw [hG44.2 65 (by decide), hG36.2 65 (by decide), hG44.1 64 2 (by decide), hG36.1 64 2 (by decide), hG44.2 66 (by decide)]; exact hx28), (by rw [qwC_e (hG44.2 19 (by decide)) (hG44.2 65 (by decide)), hG44.2 65 (by decide), hG44.2 66 (by decide), hG44.1 64 2 (by decide)]; exact hx41)⟩), (fun c hc => by rw [hG44.2 61 (by decide)]; exact hx29 c hc), (fun c hc => by rw [hG44.2 63 (by decide)]; exact hx30 c hc), (by have hw1 := hw31; have hw2 := hw32; have hw3 := hG21.1 58 12 (by decide); have hw4 := hG44.1 58 12 (by decide); omega)⟩
        · skip
          refine qr_ldc2 (-1) 58 rfl (by decide) rfl ?_
          refine qr_retL rfl rfl (by decide) (by decide) ?_
          exact ⟨_, _, rfl, hI, hF0, (-1), rfl, (by decide), (Or.inl ⟨rfl, (fun hc => by obtain ⟨c1, c2, c3, c4, c5, c6, c7, c8⟩ := hc; first | omega | (have hz := hp2; rcases hz with hz | hz; (omega); (exact hz.2 c1)) | (rw [← hv13] at c7 c8; omega))⟩), p3, p4, (by omega)⟩
      · skip
        refine qr_ldc2 (-1) 29 rfl (by decide) rfl ?_
        refine qr_retL rfl rfl (by decide) (by decide) ?_
        exact ⟨_, _, rfl, hI, hF0, (-1), rfl, (by decide), (Or.inl ⟨rfl, (fun hc => by obtain ⟨c1, c2, c3, c4, c5, c6, c7, c8⟩ := hc; first | omega | (have hz := hp2; rcases hz with hz | hz; (omega); (exact hz.2 c1)))⟩), p3, p4, (by omega)⟩

set_option maxHeartbeats 4000000 in
set_option maxRecDepth 20000 in
/-- OneRoofModel.rooms -/
theorem sf_238_86x {L : Nat} {xs : Nat → Int} {vb : Bool} {d : Nat} {σ α : Nat → Nat → Int} {κ : Nat → Option Nat} {ρ : Nat} {x1 : Int} {x2 : Int} {x3 : Int} {g : (Nat → Int) → Int} (hI : qI σ α κ ρ) (r1 : (-9223372036854775808) ≤ x1 ∧ x1 ≤ 9223372036854775807) (r2 : (-2147483648) ≤ x2 ∧ x2 ≤ 2147483647) (r3 : (-2147483648) ≤ x3 ∧ x3 ≤ 2147483647) (p0 : qPG σ α 0 g) (p1 : qZf σ α) (p2 : qZk σ α) (p3 : σ 86 29 = 0) (p4 : ∀ p : Nat, p < 32 → 0 ≤ α 92 p ∧ α 92 p ≤ 99) (p5 : σ 86 41 = 0) : qm_T (qe L xs vb) (d + 50) 238 [.ref 86, .long (ql x1), .int (qz x2), .int (qz x3)] (qw σ α κ ρ) (fun r w' => ∃ σ' α', w' = qw σ' α' κ ρ ∧ qI σ' α' κ ρ ∧ qFr [(86, 15), (86, 23), (86, 30), (86, 35), (86, 36), (86, 37), (86, 38), (86, 39), (86, 41), (86, 43)] [96, 109, 110, 111, 112] σ α σ' α' ∧ σ' 86 41 = 0 ∧ ∃ v : Int, r = some (.long (ql v)) ∧ ((-9223372036854775808) ≤ v ∧ v ≤ 9223372036854775807) ∧ ((v = -1 ∧ ¬ (0 ≤ x2 ∧ x2 / 10000 ≤ x2 % 10000 ∧ x2 % 10000 ≤ 2399 ∧ x2 % 10000 - x2 / 10000 < 48 ∧ (x3 = 0 ∨ x3 = 1) ∧ qst x1 (σ 86 6) ∧ 1 ≤ qsm (fun k : Nat => qbit (ql_and x1 (ql_xor (σ 86 10) (-1))) (k : Int)) (σ 86 6 : Int).toNat ∧ qsm (fun k : Nat => qbit (ql_and x1 (ql_xor (σ 86 10) (-1))) (k : Int)) (σ 86 6 : Int).toNat ≤ 12)) ∨ ((0 ≤ x2 ∧ x2 / 10000 ≤ x2 % 10000 ∧ x2 % 10000 ≤ 2399 ∧ x2 % 10000 - x2 / 10000 < 48 ∧ (x3 = 0 ∨ x3 = 1) ∧ qst x1 (σ 86 6) ∧ 1 ≤ qsm (fun k : Nat => qbit (ql_and x1 (ql_xor (σ 86 10) (-1))) (k : Int)) (σ 86 6 : Int).toNat ∧ qsm (fun k : Nat => qbit (ql_and x1 (ql_xor (σ 86 10) (-1))) (k : Int)) (σ 86 6 : Int).toNat ≤ 12) ∧ qLs (α' 110) (σ' 86 43) (qBr (fun k : Nat => qbit (ql_and x1 (ql_xor (σ 86 10) (-1))) (k : Int)) (σ 86 6 : Int).toNat) ∧ qBR (qPF (fun a b : Int => qBaM σ α g (α' 110 (a : Int).toNat) (α' 110 (b : Int).toNat) (x2 / 10000) (x2 % 10000)) (σ' 86 43)) (α' 111) (σ' 86 43) ∧ qRoo (qWf (α' 111) (qwC α' 92 110) (σ' 86 43)) (qz_shl 1 (σ' 86 43)) (σ' 86 43) x3 v (α' 110)))) := by
  refine qr_start (d := d + 49) qv_e238 (Nat.le_of_ble_eq_true rfl) ?_
  show qr_W (qe L xs vb) (d + 49) qx_e238 _ (0, [(0, .ref 86), (1, .long (ql x1)), (3, .int (qz x2)), (4, .int (qz x3))], [], _, 0, 0)
  have hF0 := qFr_rf [(86, 15), (86, 23), (86, 30), (86, 35), (86, 36), (86, 37), (86, 38), (86, 39), (86, 41), (86, 43)] [96, 109, 110, 111, 112] σ α
  have hz86_29 : (-9223372036854775808) ≤ σ 86 29 ∧ σ 86 29 ≤ 9223372036854775807 := hI.1 86 29
  have hz86_41 : 0 ≤ σ 86 41 ∧ σ 86 41 ≤ 1 := hI.1 86 41
  have hz86_6 : 0 ≤ σ 86 6 ∧ σ 86 6 ≤ 32 := hI.1 86 6
  have hz86_10 : (-9223372036854775808) ≤ σ 86 10 ∧ σ 86 10 ≤ 9223372036854775807 := hI.1 86 10
  have hz86_24 : 0 ≤ σ 86 24 ∧ σ 86 24 ≤ 60 := hI.1 86 24
  have hz86_43 : 0 ≤ σ 86 43 ∧ σ 86 43 ≤ 32 := hI.1 86 43
  refine qr_iload_n 1 rfl rfl rfl ?_
  refine qr_callN 4 rfl rfl rfl (sf_230 (d := d + 46) hI r2) ?_
  rintro _ _ ⟨rfl, v1, rfl, hv1, hp2⟩
  show qr_W (qe L xs vb) (d + 49) qx_e238 _ (4, _, [.int (qz v1)], qw σ α κ ρ, 0, 0)
  refine qr_if_eq 28 7 rfl rfl rfl (qrg hv1 (by decide) (by decide)) (fun h3 => ?_) (fun h3 => ?_)
  · skip
    refine qr_ldc2 (-1) 31 rfl (by decide) rfl ?_
    refine qr_retL rfl rfl (by decide) (by decide) ?_
    exact ⟨_, _, rfl, hI, hF0, (by have hw : σ 86 41 = (σ 86 41) := rfl; omega), (-1), rfl, (by decide), (Or.inl ⟨rfl, (fun hc => by obtain ⟨c1, c2, c3, c4, c5, c6, c7, c8⟩ := hc; first | omega)⟩)⟩
  · skip
    refine qr_iload 9 rfl rfl rfl ?_
    refine qr_i2l 10 rfl r3 rfl ?_
    refine qr_lconst 11 rfl rfl ?_
    refine qy_vl 0 rfl ?_
    refine qr_lconst 12 rfl rfl ?_
    refine qy_vl 1 rfl ?_
    refine qr_callN 15 rfl rfl rfl (sf_176 (d := d + 48) hI (qrg r3 (by decide) (by decide)) (by decide) (by decide)) ?_
    rintro _ _ ⟨rfl, v4, rfl, hv4, hp5⟩
    show qr_W (qe L xs vb) (d + 49) qx_e238 _ (15, _, [.int (qz v4)], qw σ α κ ρ, 0, 0)
    refine qr_if_eq 28 18 rfl rfl rfl (qrg hv4 (by decide) (by decide)) (fun h6 => ?_) (fun h6 => ?_)
    · skip
      refine qr_ldc2 (-1) 31 rfl (by decide) rfl ?_
      refine qr_retL rfl rfl (by decide) (by decide) ?_
      exact ⟨_, _, rfl, hI, hF0, (by have hw : σ 86 41 = (σ 86 41) := rfl; omega), (-1), rfl, (by decide), (Or.inl ⟨rfl, (fun hc => by obtain ⟨c1, c2, c3, c4, c5, c6, c7, c8⟩ := hc; first | omega)⟩)⟩
    · skip
      refine qr_aload_n 19 rfl rfl rfl ?_
      refine qr_lload_n 20 rfl rfl rfl ?_
      refine qr_bipush 22 rfl (by decide) rfl ?_
      refine qr_callN 25 rfl rfl rfl (sf_234_86x (d := d + 47) hI r1 (by decide)) ?_
      have hs10 : 0 ≤ σ 86 6 ∧ σ 86 6 ≤ 32 := hI.1 86 6
      rintro _ _ ⟨σ11, α12, rfl, hI13, hG14, v7, rfl, hv7, hp8, hx9⟩
      have hF15 : qFr [(86, 15), (86, 23), (86, 30), (86, 35), (86, 36), (86, 37), (86, 38), (86, 39), (86, 41), (86, 43)] [96, 109, 110, 111, 112] σ α σ11 α12 := qFr_t hF0 hG14 (by decide) (by decide)
      have hs16 : 0 ≤ σ11 86 43 ∧ σ11 86 43 ≤ 32 := hI13.1 86 43
      show qr_W (qe L xs vb) (d + 49) qx_e238 _ (25, _, [.int (qz v7)], qw σ11 α12 κ ρ, 0, 0)
      refine qr_if_ne 32 28 rfl rfl rfl (qrg hv7 (by decide) (by decide)) (fun h17 => ?_) (fun h17 => ?_)
      · skip
        rcases id hx9 with hq | ⟨_, hc18, hc19⟩
        · exact absurd hq.1 (by omega)
        have hc19_ := qSr_of (by omega) hc19
        refine qr_aload_n 33 rfl rfl rfl ?_
        refine qr_iload_n 34 rfl rfl rfl ?_
        have hs20 : (-9223372036854775808) ≤ σ11 86 29 ∧ σ11 86 29 ≤ 9223372036854775807 := hI13.1 86 29
        have hs21 : σ11 86 29 = (σ 86 29) := (hG14.1 86 29 (by decide)).trans rfl
        have hs22 : 0 ≤ σ11 86 41 ∧ σ11 86 41 ≤ 1 := hI13.1 86 41
        have hs23 : σ11 86 41 = (σ 86 41) := (hG14.1 86 41 (by decide)).trans rfl
        have hs24 : 0 ≤ σ11 86 43 ∧ σ11 86 43 ≤ 32 := hI13.1 86 43
        have hs25 : 0 ≤ σ11 86 6 ∧ σ11 86 6 ≤ 32 := hI13.1 86 6
        have hs26 : σ11 86 6 = (σ 86 6) := (hG14.1 86 6 (by decide)).trans rfl
        refine qr_callN 37 rfl rfl rfl (sf_235_86x (d := d + 0) hI13 (by omega) (by omega) (by omega) (qPG_fr hF15 (by decide) (by decide) p0) (qZf_fr hF15 (by decide) (by decide) p1) ((hG14.1 86 41 (by decide)).trans p5) (fun p hp => by rw [hF15.2 92 (by decide)]; exact p4 p hp) (by rw [show σ11 86 6 = σ 86 6 from hG14.1 86 6 (by decide)]; exact hc19_) (qZk_fr hF15 (by decide) (by decide) p2) ((hF15.1 86 29 (by decide)).trans p3)) ?_
        rintro _ _ ⟨σ30, α31, rfl, hI32, hG33, hw29, rfl, hx27, hx28⟩
        have hF34 : qFr [(86, 15), (86, 23), (86, 30), (86, 35), (86, 36), (86, 37), (86, 38), (86, 39), (86, 41), (86, 43)] [96, 109, 110, 111, 112] σ α σ30 α31 := qFr_t hF15 hG33 (by decide) (by decide)
        have hs35 : 0 ≤ σ30 86 41 ∧ σ30 86 41 ≤ 1 := hI32.1 86 41
        show qr_W (qe L xs vb) (d + 49) qx_e238 _ (37, _, [], qw σ30 α31 κ ρ, 0, 0)
        rw [qBaM_f4 hF15 (by decide) (by decide) (show σ11 86 41 = σ 86 41 from (((hG14.1 86 41 (by decide)).trans p5)).trans p5.symm)] at hx27
        have hsh := qshl_r (n := σ11 86 43) (by omega)
        have hn12 : 0 ≤ σ11 86 43 ∧ σ11 86 43 ≤ 12 := by omega
        have hwt : ∀ k : Nat, (k : Int) < σ11 86 43 → 0 ≤ qwC α31 92 110 k ∧ qwC α31 92 110 k ≤ 99 := fun k hk => by have h1 : 0 ≤ α31 110 k ∧ α31 110 k ≤ 31 := hI32.2.1 110 k (show k < 32 by omega); show 0 ≤ α31 92 (α31 110 k).toNat ∧ α31 92 (α31 110 k).toNat ≤ 99; rw [hF34.2 92 (by decide)]; exact p4 _ (by omega)
        refine qr_iconst 38 rfl rfl ?_
        refine qr_aload_n 39 rfl rfl rfl ?_
        refine qr_get 42 rfl rfl rfl (by decide) rfl ?_
        refine qy_v (σ11 86 43) ((hG33.1 86 43 (by decide)).trans rfl) ?_
        refine qr_ishl 43 rfl rfl ?_
        refine qy_shl1E (N := 12) (by omega) (fun v36 hv36 hev36 => ?_)
        refine qr_iconst 44 rfl rfl ?_
        refine qr_isub 45 rfl rfl ?_
        refine qr_istore _ 47 rfl (by decide) rfl rfl ?_
        refine qr_iconst 48 rfl rfl ?_
        refine qr_istore _ 50 rfl (by decide) rfl rfl ?_
        refine qr_iconst 51 rfl rfl ?_
        refine qr_istore _ 53 rfl (by decide) rfl rfl ?_
        refine qr_iconst 54 rfl rfl ?_
        refine qr_istore _ 56 rfl (by decide) rfl rfl ?_
        have hL8557 : ∀ (n : Nat) (ls : qm_L) (u8547 u8549 u8551 : Int), 4096 - u8551 < (n : Int) → qm_get ls 0 = some (.ref 86) → qm_get ls 4 = some (.int (qz x3)) → qm_get ls 5 = some (.int (qz (v36 - 1))) → qm_get ls 6 = some (.int (qz u8547)) → qm_get ls 7 = some (.int (qz u8549)) → qm_get ls 8 = some (.int (qz u8551)) → (0 ≤ u8547 ∧ u8547 ≤ 4095) → (0 ≤ u8549 ∧ u8549 ≤ 2147483647) → (0 ≤ u8551 ∧ u8551 ≤ 4096) → qtrA (qWf (α31 111) (qwC α31 92 110) (σ11 86 43)) (qz_shl 1 (σ11 86 43)) u8551 u8547 u8549 → (u8551 ≤ (qz_shl 1 (σ11 86 43)) ∧ 0 ≤ u8547 ∧ (u8547 < u8551 ∨ u8547 = 0)) → qr_W (qe L xs vb) (d + 49) qx_e238 (fun r w' => ∃ σ' α', w' = qw σ' α' κ ρ ∧ qI σ' α' κ ρ ∧ qFr [(86, 15), (86, 23), (86, 30), (86, 35), (86, 36), (86, 37), (86, 38), (86, 39), (86, 41), (86, 43)] [96, 109, 110, 111, 112] σ α σ' α' ∧ σ' 86 41 = 0 ∧ ∃ v : Int, r = some (.long (ql v)) ∧ ((-9223372036854775808) ≤ v ∧ v ≤ 9223372036854775807) ∧ ((v = -1 ∧ ¬ (0 ≤ x2 ∧ x2 / 10000 ≤ x2 % 10000 ∧ x2 % 10000 ≤ 2399 ∧ x2 % 10000 - x2 / 10000 < 48 ∧ (x3 = 0 ∨ x3 = 1) ∧ qst x1 (σ 86 6) ∧ 1 ≤ qsm (fun k : Nat => qbit (ql_and x1 (ql_xor (σ 86 10) (-1))) (k : Int)) (σ 86 6 : Int).toNat ∧ qsm (fun k : Nat => qbit (ql_and x1 (ql_xor (σ 86 10) (-1))) (k : Int)) (σ 86 6 : Int).toNat ≤ 12)) ∨ ((0 ≤ x2 ∧ x2 / 10000 ≤ x2 % 10000 ∧ x2 % 10000 ≤ 2399 ∧ x2 % 10000 - x2 / 10000 < 48 ∧ (x3 = 0 ∨ x3 = 1) ∧ qst x1 (σ 86 6) ∧ 1 ≤ qsm (fun k : Nat => qbit (ql_and x1 (ql_xor (σ 86 10) (-1))) (k : Int)) (σ 86 6 : Int).toNat ∧ qsm (fun k : Nat => qbit (ql_and x1 (ql_xor (σ 86 10) (-1))) (k : Int)) (σ 86 6 : Int).toNat ≤ 12) ∧ qLs (α' 110) (σ' 86 43) (qBr (fun k : Nat => qbit (ql_and x1 (ql_xor (σ 86 10) (-1))) (k : Int)) (σ 86 6 : Int).toNat) ∧ qBR (qPF (fun a b : Int => qBaM σ α g (α' 110 (a : Int).toNat) (α' 110 (b : Int).toNat) (x2 / 10000) (x2 % 10000)) (σ' 86 43)) (α' 111) (σ' 86 43) ∧ qRoo (qWf (α' 111) (qwC α' 92 110) (σ' 86 43)) (qz_shl 1 (σ' 86 43)) (σ' 86 43) x3 v (α' 110)))) (56, ls, [], qw σ30 α31 κ ρ, 0, 0) := by
          intro n
          induction n with
          | zero => intro ls u8547 u8549 u8551 hm g8543 g8544 g8545 g8546 g8548 g8550 hf8552 hf8553 hf8554 hx8555 hx8556; exact False.elim (by omega)
          | succ n ih8558 =>
            intro ls u8547 u8549 u8551 hm g8543 g8544 g8545 g8546 g8548 g8550 hf8552 hf8553 hf8554 hx8555 hx8556
            refine qr_iload 58 rfl g8550 rfl ?_
            refine qr_iload 60 rfl g8545 rfl ?_
            refine qr_icmp_gt 187 63 rfl rfl rfl (qrg hf8554 (by decide) (by decide)) (by omega) (fun h8559 => ?_) (fun h8559 => ?_)
            · skip
              refine qr_iload 189 rfl g8544 rfl ?_
              refine qr_if_ne 198 192 rfl rfl rfl r3 (fun h8560 => ?_) (fun h8560 => ?_)
              · skip
                refine qr_aload_n 199 rfl g8543 rfl ?_
                refine qr_iload 201 rfl g8546 rfl ?_
                have hs8561 : 0 ≤ σ30 86 43 ∧ σ30 86 43 ≤ 32 := hI32.1 86 43
                have hs8562 : σ30 86 43 = (σ11 86 43) := (hG33.1 86 43 (by decide)).trans rfl
                refine qr_callN 204 rfl rfl rfl (sf_237_86x (d := d + 48) hI32 hf8552 (by omega)) ?_
                rintro _ _ ⟨rfl, v8563, rfl, hv8563, hx8564⟩
                show qr_W (qe L xs vb) (d + 49) qx_e238 _ (204, _, [.long (ql v8563)], qw σ30 α31 κ ρ, 0, 0)
                refine qr_retL rfl rfl (by decide) (by decide) ?_
                exact ⟨_, _, rfl, hI32, hF34, (by have hw : σ30 86 41 = (σ30 86 41) := rfl; omega), v8563, rfl, hv8563, (Or.inr ⟨⟨by omega, by omega, by omega, by omega, by omega, hc18⟩, (by rw [hG33.2 110 (by decide), hG33.1 86 43 (by decide)]; exact hc19), (by rw [hG33.2 110 (by decide), hG33.1 86 43 (by decide)]; exact hx27), (by rw [show σ30 86 43 = σ11 86 43 from hG33.1 86 43 (by decide)]; exact ⟨u8547, (qtrA_end (N := (qz_shl 1 (σ11 86 43))) (by omega) (by have hz := hx8555; rw [show u8551 = (qz_shl 1 (σ11 86 43)) by omega] at hz; exact hz)).1, (qtrA_end (N := (qz_shl 1 (σ11 86 43))) (by omega) (by have hz := hx8555; rw [show u8551 = (qz_shl 1 (σ11 86 43)) by omega] at hz; exact hz)).2.1, Or.inr ⟨by omega, (by have hz := hx8564; rw [hG33.1 86 43 (by decide)] at hz; exact hz)⟩⟩)⟩)⟩
              · skip
                refine qr_iload 194 rfl g8548 rfl ?_
                refine qr_i2l 195 rfl (qrg hf8553 (by decide) (by decide)) rfl ?_
                refine qr_goto 204 rfl rfl ?_
                refine qr_retL rfl rfl (by decide) (by decide) ?_
                exact ⟨_, _, rfl, hI32, hF34, (by have hw : σ30 86 41 = (σ30 86 41) := rfl; omega), u8549, rfl, (qrg hf8553 (by decide) (by decide)), (Or.inr ⟨⟨by omega, by omega, by omega, by omega, by omega, hc18⟩, (by rw [hG33.2 110 (by decide), hG33.1 86 43 (by decide)]; exact hc19), (by rw [hG33.2 110 (by decide), hG33.1 86 43 (by decide)]; exact hx27), (by rw [show σ30 86 43 = σ11 86 43 from hG33.1 86 43 (by decide)]; exact ⟨u8547, (qtrA_end (N := (qz_shl 1 (σ11 86 43))) (by omega) (by have hz := hx8555; rw [show u8551 = (qz_shl 1 (σ11 86 43)) by omega] at hz; exact hz)).1, (qtrA_end (N := (qz_shl 1 (σ11 86 43))) (by omega) (by have hz := hx8555; rw [show u8551 = (qz_shl 1 (σ11 86 43)) by omega] at hz; exact hz)).2.1, Or.inl ⟨by omega, (qtrA_end (N := (qz_shl 1 (σ11 86 43))) (by omega) (by have hz := hx8555; rw [show u8551 = (qz_shl 1 (σ11 86 43)) by omega] at hz; exact hz)).2.2⟩⟩)⟩)⟩
            · skip
              refine qr_iload 65 rfl g8545 rfl ?_
              refine qr_iload 67 rfl g8550 rfl ?_
              refine qr_iconst 68 rfl rfl ?_
              refine qr_ixor 69 rfl rfl ?_
              refine qy_canE (fun v8565 hv8565 hev8565 => ?_)
              refine qr_iand 70 rfl rfl ?_
              refine qy_andlE (by omega) (fun v8566 hv8566 hev8566 => ?_)
              refine qr_istore _ 72 rfl (by decide) rfl rfl ?_
              have hr8567 : v8566 = qz_and ((qz_shl 1 (σ11 86 43)) - 1) (qz_xor u8551 (-1)) := by rw [hev8566, qz_val hev8565 (by omega) (qz_xor_r _ _), show (v36 - 1) = (qz_shl 1 (σ11 86 43)) - 1 by omega]
              refine qr_iload 74 rfl (qm_ge _ _ _) rfl ?_
              refine qr_istore _ 76 rfl (by decide) rfl rfl ?_
              have hL8731 : ∀ (n : Nat) (ls : qm_L) (u8717 u8719 u8723 : Int), u8723 + 1 < (n : Int) → qm_get ls 0 = some (.ref 86) → qm_get ls 4 = some (.int (qz x3)) → qm_get ls 5 = some (.int (qz (v36 - 1))) → qm_get ls 6 = some (.int (qz u8717)) → qm_get ls 7 = some (.int (qz u8719)) → qm_get ls 8 = some (.int (qz u8551)) → qm_get ls 9 = some (.int (qz v8566)) → qm_get ls 10 = some (.int (qz u8723)) → (0 ≤ u8717 ∧ u8717 ≤ 4095) → (0 ≤ u8719 ∧ u8719 ≤ 2147483647) → ((-1) ≤ u8723 ∧ u8723 ≤ 4095) → qin (qWf (α31 111) (qwC α31 92 110) (σ11 86 43)) (qz_shl 1 (σ11 86 43)) v8566 u8551 u8547 u8549 (u8723 + 1) u8717 u8719 → (u8723 = -1 ∨ (0 ≤ u8723 ∧ u8723 ≤ v8566 ∧ qz_and u8723 v8566 = u8723)) → (0 ≤ u8717 ∧ (u8717 = u8547 ∨ u8717 = u8551)) → (0 ≤ (qWf (α31 111) (qwC α31 92 110) (σ11 86 43)) u8551 ∨ (u8717 = u8547 ∧ u8719 = u8549)) → qr_W (qe L xs vb) (d + 49) qx_e238 (fun r w' => ∃ σ' α', w' = qw σ' α' κ ρ ∧ qI σ' α' κ ρ ∧ qFr [(86, 15), (86, 23), (86, 30), (86, 35), (86, 36), (86, 37), (86, 38), (86, 39), (86, 41), (86, 43)] [96, 109, 110, 111, 112] σ α σ' α' ∧ σ' 86 41 = 0 ∧ ∃ v : Int, r = some (.long (ql v)) ∧ ((-9223372036854775808) ≤ v ∧ v ≤ 9223372036854775807) ∧ ((v = -1 ∧ ¬ (0 ≤ x2 ∧ x2 / 10000 ≤ x2 % 10000 ∧ x2 % 10000 ≤ 2399 ∧ x2 % 10000 - x2 / 10000 < 48 ∧ (x3 = 0 ∨ x3 = 1) ∧ qst x1 (σ 86 6) ∧ 1 ≤ qsm (fun k : Nat => qbit (ql_and x1 (ql_xor (σ 86 10) (-1))) (k : Int)) (σ 86 6 : Int).toNat ∧ qsm (fun k : Nat => qbit (ql_and x1 (ql_xor (σ 86 10) (-1))) (k : Int)) (σ 86 6 : Int).toNat ≤ 12)) ∨ ((0 ≤ x2 ∧ x2 / 10000 ≤ x2 % 10000 ∧ x2 % 10000 ≤ 2399 ∧ x2 % 10000 - x2 / 10000 < 48 ∧ (x3 = 0 ∨ x3 = 1) ∧ qst x1 (σ 86 6) ∧ 1 ≤ qsm (fun k : Nat => qbit (ql_and x1 (ql_xor (σ 86 10) (-1))) (k : Int)) (σ 86 6 : Int).toNat ∧ qsm (fun k : Nat => qbit (ql_and x1 (ql_xor (σ 86 10) (-1))) (k : Int)) (σ 86 6 : Int).toNat ≤ 12) ∧ qLs (α' 110) (σ' 86 43) (qBr (fun k : Nat => qbit (ql_and x1 (ql_xor (σ 86 10) (-1))) (k : Int)) (σ 86 6 : Int).toNat) ∧ qBR (qPF (fun a b : Int => qBaM σ α g (α' 110 (a : Int).toNat) (α' 110 (b : Int).toNat) (x2 / 10000) (x2 % 10000)) (σ' 86 43)) (α' 111) (σ' 86 43) ∧ qRoo (qWf (α' 111) (qwC α' 92 110) (σ' 86 43)) (qz_shl 1 (σ' 86 43)) (σ' 86 43) x3 v (α' 110)))) (76, ls, [], qw σ30 α31 κ ρ, 0, 0) := by
                intro n
                induction n with
                | zero => intro ls u8717 u8719 u8723 hm g8713 g8714 g8715 g8716 g8718 g8720 g8721 g8722 hf8724 hf8725 hf8726 hx8727 hx8728 hx8729 hx8730; exact False.elim (by omega)
                | succ n ih8732 =>
                  intro ls u8717 u8719 u8723 hm g8713 g8714 g8715 g8716 g8718 g8720 g8721 g8722 hf8724 hf8725 hf8726 hx8727 hx8728 hx8729 hx8730
                  refine qr_aload_n 77 rfl g8713 rfl ?_
                  refine qr_get 80 rfl rfl rfl (by decide) rfl ?_
                  refine qr_iload 82 rfl g8720 rfl ?_
                  refine qr_iaload 83 rfl rfl (by omega) (by decide) rfl ?_
                  refine qr_topI (fun v8733 hv8733 => ?_)
                  have hs8734 : (-2147483648) ≤ v8733 ∧ v8733 ≤ 2147483647 := by rw [hv8733]; exact hI32.2.1 112 _ (show _ < 4096 by omega)
                  have hk8735 : v8733 = (qWf (α31 111) (qwC α31 92 110) (σ11 86 43)) u8551 := (hv8733).trans (hx28 u8551 (by omega) (by omega))
                  have hk8735r := qWf_r (bd := α31 111) hn12 hwt u8551
                  refine qr_if_lt 181 86 rfl rfl rfl hs8734 (fun h8736 => ?_) (fun h8736 => ?_)
                  · skip
                    refine qr_iinc _ 184 rfl g8720 (by decide) rfl rfl ?_
                    refine qr_goto 56 rfl rfl ?_
                    exact ih8558 _ u8717 u8719 (u8551 + 1) (by omega) (qm_gk g8713 (by decide) (Or.inl (by decide))) (qm_gk g8714 (by decide) (Or.inl (by decide))) (qm_gk g8715 (by decide) (Or.inl (by decide))) (qm_gk g8716 (by decide) (Or.inl (by decide))) (qm_gk g8718 (by decide) (Or.inr rfl)) (qm_ge _ _ _) hf8724 hf8725 (by omega) (by have hd := hx8730; have he : u8717 = u8547 ∧ u8719 = u8549 := (by omega); rw [he.1, he.2]; exact qtrA_no qwf_0 (by omega) hx8555) (by omega)
                  · skip
                    refine qr_iload 88 rfl g8722 rfl ?_
                    refine qr_if_lt 181 91 rfl rfl rfl (qrg hf8726 (by decide) (by decide)) (fun h8737 => ?_) (fun h8737 => ?_)
                    · skip
                      refine qr_iinc _ 184 rfl g8720 (by decide) rfl rfl ?_
                      refine qr_goto 56 rfl rfl ?_
                      exact ih8558 _ u8717 u8719 (u8551 + 1) (by omega) (qm_gk g8713 (by decide) (Or.inl (by decide))) (qm_gk g8714 (by decide) (Or.inl (by decide))) (qm_gk g8715 (by decide) (Or.inl (by decide))) (qm_gk g8716 (by decide) (Or.inl (by decide))) (qm_gk g8718 (by decide) (Or.inr rfl)) (qm_ge _ _ _) hf8724 hf8725 (by omega) (qin_end (t := u8723) (by omega) qwf_0 (fun T => qWf_r hn12 hwt T) (by omega) (by omega) (by omega) (by have hz := hx8727; rw [hr8567] at hz; exact hz) hx8555) (by omega)
                    · skip
                      refine qr_aload_n 92 rfl g8713 rfl ?_
                      refine qr_get 95 rfl rfl rfl (by decide) rfl ?_
                      refine qr_iload 97 rfl g8722 rfl ?_
                      refine qr_iaload 98 rfl rfl (by omega) (by decide) rfl ?_
                      refine qr_topI (fun v8738 hv8738 => ?_)
                      have hs8739 : (-2147483648) ≤ v8738 ∧ v8738 ≤ 2147483647 := by rw [hv8738]; exact hI32.2.1 112 _ (show _ < 4096 from qrgt hf8726 (by decide) (by decide))
                      have hk8740 : v8738 = (qWf (α31 111) (qwC α31 92 110) (σ11 86 43)) u8723 := (hv8738).trans (hx28 u8723 (by omega) (by omega))
                      have hk8740r := qWf_r (bd := α31 111) hn12 hwt u8723
                      refine qr_if_ge 104 101 rfl rfl rfl hs8739 (fun h8741 => ?_) (fun h8741 => ?_)
                      · skip
                        refine qr_aload_n 105 rfl g8713 rfl ?_
                        refine qr_get 108 rfl rfl rfl (by decide) rfl ?_
                        refine qr_iload 110 rfl g8720 rfl ?_
                        refine qr_iaload 111 rfl rfl (by omega) (by decide) rfl ?_
                        refine qr_topI (fun v8742 hv8742 => ?_)
                        have hs8743 : (-2147483648) ≤ v8742 ∧ v8742 ≤ 2147483647 := by rw [hv8742]; exact hI32.2.1 112 _ (show _ < 4096 by omega)
                        have hk8744 : v8742 = (qWf (α31 111) (qwC α31 92 110) (σ11 86 43)) u8551 := (hv8742).trans (hx28 u8551 (by omega) (by omega))
                        have hk8744r := qWf_r (bd := α31 111) hn12 hwt u8551
                        refine qr_aload_n 112 rfl g8713 rfl ?_
                        refine qr_get 115 rfl rfl rfl (by decide) rfl ?_
                        refine qr_iload 117 rfl g8722 rfl ?_
                        refine qr_iaload 118 rfl rfl (by omega) (by decide) rfl ?_
                        refine qr_topI (fun v8745 hv8745 => ?_)
                        have hs8746 : (-2147483648) ≤ v8745 ∧ v8745 ≤ 2147483647 := by rw [hv8745]; exact hI32.2.1 112 _ (show _ < 4096 from qrgt hf8726 (by decide) (by decide))
                        have hk8747 : v8745 = (qWf (α31 111) (qwC α31 92 110) (σ11 86 43)) u8723 := (hv8745).trans (hx28 u8723 (by omega) (by omega))
                        have hk8747r := qWf_r (bd := α31 111) hn12 hwt u8723
                        refine qr_iadd 119 rfl rfl ?_
                        refine qy_canE (fun v8748 hv8748 hev8748 => ?_)
                        refine qr_istore _ 121 rfl (by decide) rfl rfl ?_
                        have hs8749 : v8748 = (qWf (α31 111) (qwC α31 92 110) (σ11 86 43)) u8551 + (qWf (α31 111) (qwC α31 92 110) (σ11 86 43)) u8723 := by have he : v8748 = v8742 + v8745 := qz_val hev8748 (by omega) (by omega); omega
                        refine qr_iload 123 rfl (qm_ge _ _ _) rfl ?_
                        refine qr_iload 125 rfl (qm_gk g8718 (by decide) (Or.inl (by decide))) rfl ?_
                        refine qr_icmp_gt 152 128 rfl rfl rfl hv8748 (qrg hf8725 (by decide) (by decide)) (fun h8750 => ?_) (fun h8750 => ?_)
                        · skip
                          refine qr_iload 154 rfl (qm_gk g8720 (by decide) (Or.inl (by decide))) rfl ?_
                          refine qr_istore _ 156 rfl (by decide) rfl rfl ?_
                          refine qr_iload 158 rfl (qm_gk (qm_ge _ _ _) (by decide) (Or.inl (by decide))) rfl ?_
                          refine qr_istore _ 160 rfl (by decide) rfl rfl ?_
                          refine qr_iload 162 rfl (qm_gk (qm_gk (qm_gk g8722 (by decide) (Or.inr rfl)) (by decide) (Or.inl (by decide))) (by decide) (Or.inl (by decide))) rfl ?_
                          refine qr_if_ne 169 165 rfl rfl rfl (qrg hf8726 (by decide) (by decide)) (fun h8751 => ?_) (fun h8751 => ?_)
                          · skip
                            refine qr_iload 171 rfl (qm_gk (qm_gk (qm_gk g8722 (by decide) (Or.inr rfl)) (by decide) (Or.inl (by decide))) (by decide) (Or.inl (by decide))) rfl ?_
                            refine qr_iconst 172 rfl rfl ?_
                            refine qr_isub 173 rfl rfl ?_
                            refine qr_iload 175 rfl (qm_gk (qm_gk (qm_gk g8721 (by decide) (Or.inl (by decide))) (by decide) (Or.inl (by decide))) (by decide) (Or.inl (by decide))) rfl ?_
                            refine qr_iand 176 rfl rfl ?_
                            refine qy_andlE (by omega) (fun v8752 hv8752 hev8752 => ?_)
                            refine qr_istore _ 178 rfl (by decide) rfl rfl ?_
                            refine qr_goto 76 rfl rfl ?_
                            exact ih8732 _ u8551 v8748 v8752 (by omega) (qm_gk (qm_gk (qm_gk (qm_gk g8713 (by decide) (Or.inl (by decide))) (by decide) (Or.inl (by decide))) (by decide) (Or.inl (by decide))) (by decide) (Or.inl (by decide))) (qm_gk (qm_gk (qm_gk (qm_gk g8714 (by decide) (Or.inl (by decide))) (by decide) (Or.inl (by decide))) (by decide) (Or.inl (by decide))) (by decide) (Or.inl (by decide))) (qm_gk (qm_gk (qm_gk (qm_gk g8715 (by decide) (Or.inl (by decide))) (by decide) (Or.inr rfl)) (by decide) (Or.inl (by decide))) (by decide) (Or.inl (by decide))) (qm_gk (qm_gk (qm_ge _ _ _) (by decide) (Or.inr rfl)) (by decide) (Or.inl (by decide))) (qm_gk (qm_ge _ _ _) (by decide) (Or.inl (by decide))) (qm_gk (qm_gk (qm_gk (qm_gk g8720 (by decide) (Or.inl (by decide))) (by decide) (Or.inl (by decide))) (by decide) (Or.inl (by decide))) (by decide) (Or.inl (by decide))) (qm_gk (qm_gk (qm_gk (qm_gk g8721 (by decide) (Or.inl (by decide))) (by decide) (Or.inl (by decide))) (by decide) (Or.inl (by decide))) (by decide) (Or.inr rfl)) (qm_ge _ _ _) (by omega) (by omega) (by omega) (qin_nx (by omega) (by omega) (by omega) (by rcases hx8728 with hz | hz; (omega); (exact hz.2.2)) hev8752 (by omega) (qin_new (t := u8723) (by omega) (by rcases hx8728 with hz | hz; (omega); (exact hz.2.2)) (by omega) hs8749 (by omega) hx8727)) (Or.inr ⟨by omega, by omega, by rw [hev8752]; exact qand_s⟩) (by omega) (Or.inl (by omega))
                          · skip
                            refine qr_iconst 166 rfl rfl ?_
                            refine qr_goto 176 rfl rfl ?_
                            refine qr_istore _ 178 rfl (by decide) rfl rfl ?_
                            refine qr_goto 76 rfl rfl ?_
                            exact ih8732 _ u8551 v8748 (-1) (by omega) (qm_gk (qm_gk (qm_gk (qm_gk g8713 (by decide) (Or.inl (by decide))) (by decide) (Or.inl (by decide))) (by decide) (Or.inl (by decide))) (by decide) (Or.inl (by decide))) (qm_gk (qm_gk (qm_gk (qm_gk g8714 (by decide) (Or.inl (by decide))) (by decide) (Or.inl (by decide))) (by decide) (Or.inl (by decide))) (by decide) (Or.inl (by decide))) (qm_gk (qm_gk (qm_gk (qm_gk g8715 (by decide) (Or.inl (by decide))) (by decide) (Or.inr rfl)) (by decide) (Or.inl (by decide))) (by decide) (Or.inl (by decide))) (qm_gk (qm_gk (qm_ge _ _ _) (by decide) (Or.inr rfl)) (by decide) (Or.inl (by decide))) (qm_gk (qm_ge _ _ _) (by decide) (Or.inl (by decide))) (qm_gk (qm_gk (qm_gk (qm_gk g8720 (by decide) (Or.inl (by decide))) (by decide) (Or.inl (by decide))) (by decide) (Or.inl (by decide))) (by decide) (Or.inl (by decide))) (qm_gk (qm_gk (qm_gk (qm_gk g8721 (by decide) (Or.inl (by decide))) (by decide) (Or.inl (by decide))) (by decide) (Or.inl (by decide))) (by decide) (Or.inr rfl)) (qm_ge _ _ _) (by omega) (by omega) (by decide) (qin_z (by omega) (qin_new (t := u8723) (by omega) (by rcases hx8728 with hz | hz; (omega); (exact hz.2.2)) (by omega) hs8749 (by omega) hx8727)) (Or.inl rfl) (by omega) (Or.inl (by omega))
                        · skip
                          refine qr_iload 130 rfl (qm_ge _ _ _) rfl ?_
                          refine qr_iload 132 rfl (qm_gk g8718 (by decide) (Or.inl (by decide))) rfl ?_
                          refine qr_icmp_ne 160 135 rfl rfl rfl hv8748 (qrg hf8725 (by decide) (by decide)) (fun h8753 => ?_) (fun h8753 => ?_)
                          · skip
                            refine qr_iload 162 rfl (qm_gk g8722 (by decide) (Or.inr rfl)) rfl ?_
                            refine qr_if_ne 169 165 rfl rfl rfl (qrg hf8726 (by decide) (by decide)) (fun h8754 => ?_) (fun h8754 => ?_)
                            · skip
                              refine qr_iload 171 rfl (qm_gk g8722 (by decide) (Or.inr rfl)) rfl ?_
                              refine qr_iconst 172 rfl rfl ?_
                              refine qr_isub 173 rfl rfl ?_
                              refine qr_iload 175 rfl (qm_gk g8721 (by decide) (Or.inl (by decide))) rfl ?_
                              refine qr_iand 176 rfl rfl ?_
                              refine qy_andlE (by omega) (fun v8755 hv8755 hev8755 => ?_)
                              refine qr_istore _ 178 rfl (by decide) rfl rfl ?_
                              refine qr_goto 76 rfl rfl ?_
                              exact ih8732 _ u8717 u8719 v8755 (by omega) (qm_gk (qm_gk g8713 (by decide) (Or.inl (by decide))) (by decide) (Or.inl (by decide))) (qm_gk (qm_gk g8714 (by decide) (Or.inl (by decide))) (by decide) (Or.inl (by decide))) (qm_gk (qm_gk g8715 (by decide) (Or.inl (by decide))) (by decide) (Or.inl (by decide))) (qm_gk (qm_gk g8716 (by decide) (Or.inl (by decide))) (by decide) (Or.inl (by decide))) (qm_gk (qm_gk g8718 (by decide) (Or.inl (by decide))) (by decide) (Or.inl (by decide))) (qm_gk (qm_gk g8720 (by decide) (Or.inl (by decide))) (by decide) (Or.inl (by decide))) (qm_gk (qm_gk g8721 (by decide) (Or.inl (by decide))) (by decide) (Or.inr rfl)) (qm_ge _ _ _) hf8724 hf8725 (by omega) (qin_nx (by omega) (by omega) (by omega) (by rcases hx8728 with hz | hz; (omega); (exact hz.2.2)) hev8755 (by omega) (qin_keep (t := u8723) hs8749 (by omega) hx8727)) (Or.inr ⟨by omega, by omega, by rw [hev8755]; exact qand_s⟩) (by omega) (Or.inl (by omega))
                            · skip
                              refine qr_iconst 166 rfl rfl ?_
                              refine qr_goto 176 rfl rfl ?_
                              refine qr_istore _ 178 rfl (by decide) rfl rfl ?_
                              refine qr_goto 76 rfl rfl ?_
                              exact ih8732 _ u8717 u8719 (-1) (by omega) (qm_gk (qm_gk g8713 (by decide) (Or.inl (by decide))) (by decide) (Or.inl (by decide))) (qm_gk (qm_gk g8714 (by decide) (Or.inl (by decide))) (by decide) (Or.inl (by decide))) (qm_gk (qm_gk g8715 (by decide) (Or.inl (by decide))) (by decide) (Or.inl (by decide))) (qm_gk (qm_gk g8716 (by decide) (Or.inl (by decide))) (by decide) (Or.inl (by decide))) (qm_gk (qm_gk g8718 (by decide) (Or.inl (by decide))) (by decide) (Or.inl (by decide))) (qm_gk (qm_gk g8720 (by decide) (Or.inl (by decide))) (by decide) (Or.inl (by decide))) (qm_gk (qm_gk g8721 (by decide) (Or.inl (by decide))) (by decide) (Or.inr rfl)) (qm_ge _ _ _) hf8724 hf8725 (by decide) (qin_z (by omega) (qin_keep (t := u8723) hs8749 (by omega) hx8727)) (Or.inl rfl) (by omega) (Or.inl (by omega))
                          · skip
                            refine qr_aload_n 136 rfl (qm_gk g8713 (by decide) (Or.inl (by decide))) rfl ?_
                            refine qr_get 139 rfl rfl rfl (by decide) rfl ?_
                            refine qr_iload 141 rfl (qm_gk g8720 (by decide) (Or.inl (by decide))) rfl ?_
                            refine qr_iaload 142 rfl rfl (by omega) (by decide) rfl ?_
                            refine qr_topI (fun v8756 hv8756 => ?_)
                            have hs8757 : (-2147483648) ≤ v8756 ∧ v8756 ≤ 2147483647 := by rw [hv8756]; exact hI32.2.1 112 _ (show _ < 4096 by omega)
                            have hk8758 : v8756 = (qWf (α31 111) (qwC α31 92 110) (σ11 86 43)) u8551 := (hv8756).trans (hx28 u8551 (by omega) (by omega))
                            have hk8758r := qWf_r (bd := α31 111) hn12 hwt u8551
                            refine qr_aload_n 143 rfl (qm_gk g8713 (by decide) (Or.inl (by decide))) rfl ?_
                            refine qr_get 146 rfl rfl rfl (by decide) rfl ?_
                            refine qr_iload 148 rfl (qm_gk g8716 (by decide) (Or.inl (by decide))) rfl ?_
                            refine qr_iaload 149 rfl rfl (qrgi hf8724 (by decide) (by decide)) (by decide) rfl ?_
                            refine qr_topI (fun v8759 hv8759 => ?_)
                            have hs8760 : (-2147483648) ≤ v8759 ∧ v8759 ≤ 2147483647 := by rw [hv8759]; exact hI32.2.1 112 _ (show _ < 4096 from qrgt hf8724 (by decide) (by decide))
                            have hk8761 : v8759 = (qWf (α31 111) (qwC α31 92 110) (σ11 86 43)) u8717 := (hv8759).trans (hx28 u8717 (by omega) (by omega))
                            have hk8761r := qWf_r (bd := α31 111) hn12 hwt u8717
                            refine qr_icmp_le 160 152 rfl rfl rfl hs8757 hs8760 (fun h8762 => ?_) (fun h8762 => ?_)
                            · skip
                              refine qr_iload 162 rfl (qm_gk g8722 (by decide) (Or.inr rfl)) rfl ?_
                              refine qr_if_ne 169 165 rfl rfl rfl (qrg hf8726 (by decide) (by decide)) (fun h8763 => ?_) (fun h8763 => ?_)
                              · skip
                                refine qr_iload 171 rfl (qm_gk g8722 (by decide) (Or.inr rfl)) rfl ?_
                                refine qr_iconst 172 rfl rfl ?_
                                refine qr_isub 173 rfl rfl ?_
                                refine qr_iload 175 rfl (qm_gk g8721 (by decide) (Or.inl (by decide))) rfl ?_
                                refine qr_iand 176 rfl rfl ?_
                                refine qy_andlE (by omega) (fun v8764 hv8764 hev8764 => ?_)
                                refine qr_istore _ 178 rfl (by decide) rfl rfl ?_
                                refine qr_goto 76 rfl rfl ?_
                                exact ih8732 _ u8717 u8719 v8764 (by omega) (qm_gk (qm_gk g8713 (by decide) (Or.inl (by decide))) (by decide) (Or.inl (by decide))) (qm_gk (qm_gk g8714 (by decide) (Or.inl (by decide))) (by decide) (Or.inl (by decide))) (qm_gk (qm_gk g8715 (by decide) (Or.inl (by decide))) (by decide) (Or.inl (by decide))) (qm_gk (qm_gk g8716 (by decide) (Or.inl (by decide))) (by decide) (Or.inl (by decide))) (qm_gk (qm_gk g8718 (by decide) (Or.inl (by decide))) (by decide) (Or.inl (by decide))) (qm_gk (qm_gk g8720 (by decide) (Or.inl (by decide))) (by decide) (Or.inl (by decide))) (qm_gk (qm_gk g8721 (by decide) (Or.inl (by decide))) (by decide) (Or.inr rfl)) (qm_ge _ _ _) hf8724 hf8725 (by omega) (qin_nx (by omega) (by omega) (by omega) (by rcases hx8728 with hz | hz; (omega); (exact hz.2.2)) hev8764 (by omega) (qin_keep (t := u8723) hs8749 (by omega) hx8727)) (Or.inr ⟨by omega, by omega, by rw [hev8764]; exact qand_s⟩) (by omega) (Or.inl (by omega))
                              · skip
                                refine qr_iconst 166 rfl rfl ?_
                                refine qr_goto 176 rfl rfl ?_
                                refine qr_istore _ 178 rfl (by decide) rfl rfl ?_
                                refine qr_goto 76 rfl rfl ?_
                                exact ih8732 _ u8717 u8719 (-1) (by omega) (qm_gk (qm_gk g8713 (by decide) (Or.inl (by decide))) (by decide) (Or.inl (by decide))) (qm_gk (qm_gk g8714 (by decide) (Or.inl (by decide))) (by decide) (Or.inl (by decide))) (qm_gk (qm_gk g8715 (by decide) (Or.inl (by decide))) (by decide) (Or.inl (by decide))) (qm_gk (qm_gk g8716 (by decide) (Or.inl (by decide))) (by decide) (Or.inl (by decide))) (qm_gk (qm_gk g8718 (by decide) (Or.inl (by decide))) (by decide) (Or.inl (by decide))) (qm_gk (qm_gk g8720 (by decide) (Or.inl (by decide))) (by decide) (Or.inl (by decide))) (qm_gk (qm_gk g8721 (by decide) (Or.inl (by decide))) (by decide) (Or.inr rfl)) (qm_ge _ _ _) hf8724 hf8725 (by decide) (qin_z (by omega) (qin_keep (t := u8723) hs8749 (by omega) hx8727)) (Or.inl rfl) (by omega) (Or.inl (by omega))
                            · skip
                              refine qr_iload 154 rfl (qm_gk g8720 (by decide) (Or.inl (by decide))) rfl ?_
                              refine qr_istore _ 156 rfl (by decide) rfl rfl ?_
                              refine qr_iload 158 rfl (qm_gk (qm_ge _ _ _) (by decide) (Or.inl (by decide))) rfl ?_
                              refine qr_istore _ 160 rfl (by decide) rfl rfl ?_
                              refine qr_iload 162 rfl (qm_gk (qm_gk (qm_gk g8722 (by decide) (Or.inr rfl)) (by decide) (Or.inl (by decide))) (by decide) (Or.inl (by decide))) rfl ?_
                              refine qr_if_ne 169 165 rfl rfl rfl (qrg hf8726 (by decide) (by decide)) (fun h8765 => ?_) (fun h8765 => ?_)
                              · skip
                                refine qr_iload 171 rfl (qm_gk (qm_gk (qm_gk g8722 (by decide) (Or.inr rfl)) (by decide) (Or.inl (by decide))) (by decide) (Or.inl (by decide))) rfl ?_
                                refine qr_iconst 172 rfl rfl ?_
                                refine qr_isub 173 rfl rfl ?_
                                refine qr_iload 175 rfl (qm_gk (qm_gk (qm_gk g8721 (by decide) (Or.inl (by decide))) (by decide) (Or.inl (by decide))) (by decide) (Or.inl (by decide))) rfl ?_
                                refine qr_iand 176 rfl rfl ?_
                                refine qy_andlE (by omega) (fun v8766 hv8766 hev8766 => ?_)
                                refine qr_istore _ 178 rfl (by decide) rfl rfl ?_
                                refine qr_goto 76 rfl rfl ?_
                                exact ih8732 _ u8551 v8748 v8766 (by omega) (qm_gk (qm_gk (qm_gk (qm_gk g8713 (by decide) (Or.inl (by decide))) (by decide) (Or.inl (by decide))) (by decide) (Or.inl (by decide))) (by decide) (Or.inl (by decide))) (qm_gk (qm_gk (qm_gk (qm_gk g8714 (by decide) (Or.inl (by decide))) (by decide) (Or.inl (by decide))) (by decide) (Or.inl (by decide))) (by decide) (Or.inl (by decide))) (qm_gk (qm_gk (qm_gk (qm_gk g8715 (by decide) (Or.inl (by decide))) (by decide) (Or.inr rfl)) (by decide) (Or.inl (by decide))) (by decide) (Or.inl (by decide))) (qm_gk (qm_gk (qm_ge _ _ _) (by decide) (Or.inr rfl)) (by decide) (Or.inl (by decide))) (qm_gk (qm_ge _ _ _) (by decide) (Or.inl (by decide))) (qm_gk (qm_gk (qm_gk (qm_gk g8720 (by decide) (Or.inl (by decide))) (by decide) (Or.inl (by decide))) (by decide) (Or.inl (by decide))) (by decide) (Or.inl (by decide))) (qm_gk (qm_gk (qm_gk (qm_gk g8721 (by decide) (Or.inl (by decide))) (by decide) (Or.inl (by decide))) (by decide) (Or.inl (by decide))) (by decide) (Or.inr rfl)) (qm_ge _ _ _) (by omega) (by omega) (by omega) (qin_nx (by omega) (by omega) (by omega) (by rcases hx8728 with hz | hz; (omega); (exact hz.2.2)) hev8766 (by omega) (qin_new (t := u8723) (by omega) (by rcases hx8728 with hz | hz; (omega); (exact hz.2.2)) (by omega) hs8749 (by omega) hx8727)) (Or.inr ⟨by omega, by omega, by rw [hev8766]; exact qand_s⟩) (by omega) (Or.inl (by omega))
                              · skip
                                refine qr_iconst 166 rfl rfl ?_
                                refine qr_goto 176 rfl rfl ?_
                                refine qr_istore _ 178 rfl (by decide) rfl rfl ?_
                                refine qr_goto 76 rfl rfl ?_
                                exact ih8732 _ u8551 v8748 (-1) (by omega) (qm_gk (qm_gk (qm_gk (qm_gk g8713 (by decide) (Or.inl (by decide))) (by decide) (Or.inl (by decide))) (by decide) (Or.inl (by decide))) (by decide) (Or.inl (by decide))) (qm_gk (qm_gk (qm_gk (qm_gk g8714 (by decide) (Or.inl (by decide))) (by decide) (Or.inl (by decide))) (by decide) (Or.inl (by decide))) (by decide) (Or.inl (by decide))) (qm_gk (qm_gk (qm_gk (qm_gk g8715 (by decide) (Or.inl (by decide))) (by decide) (Or.inr rfl)) (by decide) (Or.inl (by decide))) (by decide) (Or.inl (by decide))) (qm_gk (qm_gk (qm_ge _ _ _) (by decide) (Or.inr rfl)) (by decide) (Or.inl (by decide))) (qm_gk (qm_ge _ _ _) (by decide) (Or.inl (by decide))) (qm_gk (qm_gk (qm_gk (qm_gk g8720 (by decide) (Or.inl (by decide))) (by decide) (Or.inl (by decide))) (by decide) (Or.inl (by decide))) (by decide) (Or.inl (by decide))) (qm_gk (qm_gk (qm_gk (qm_gk g8721 (by decide) (Or.inl (by decide))) (by decide) (Or.inl (by decide))) (by decide) (Or.inl (by decide))) (by decide) (Or.inr rfl)) (qm_ge _ _ _) (by omega) (by omega) (by decide) (qin_z (by omega) (qin_new (t := u8723) (by omega) (by rcases hx8728 with hz | hz; (omega); (exact hz.2.2)) (by omega) hs8749 (by omega) hx8727)) (Or.inl rfl) (by omega) (Or.inl (by omega))
                      · skip
                        refine qr_goto 160 rfl rfl ?_
                        refine qr_iload 162 rfl g8722 rfl ?_
                        refine qr_if_ne 169 165 rfl rfl rfl (qrg hf8726 (by decide) (by decide)) (fun h8767 => ?_) (fun h8767 => ?_)
                        · skip
                          refine qr_iload 171 rfl g8722 rfl ?_
                          refine qr_iconst 172 rfl rfl ?_
                          refine qr_isub 173 rfl rfl ?_
                          refine qr_iload 175 rfl g8721 rfl ?_
                          refine qr_iand 176 rfl rfl ?_
                          refine qy_andlE (by omega) (fun v8768 hv8768 hev8768 => ?_)
                          refine qr_istore _ 178 rfl (by decide) rfl rfl ?_
                          refine qr_goto 76 rfl rfl ?_
                          exact ih8732 _ u8717 u8719 v8768 (by omega) (qm_gk g8713 (by decide) (Or.inl (by decide))) (qm_gk g8714 (by decide) (Or.inl (by decide))) (qm_gk g8715 (by decide) (Or.inl (by decide))) (qm_gk g8716 (by decide) (Or.inl (by decide))) (qm_gk g8718 (by decide) (Or.inl (by decide))) (qm_gk g8720 (by decide) (Or.inl (by decide))) (qm_gk g8721 (by decide) (Or.inr rfl)) (qm_ge _ _ _) hf8724 hf8725 (by omega) (qin_nx (by omega) (by omega) (by omega) (by rcases hx8728 with hz | hz; (omega); (exact hz.2.2)) hev8768 (by omega) (qin_neg (t := u8723) (by omega) hx8727)) (Or.inr ⟨by omega, by omega, by rw [hev8768]; exact qand_s⟩) (by omega) (Or.inl (by omega))
                        · skip
                          refine qr_iconst 166 rfl rfl ?_
                          refine qr_goto 176 rfl rfl ?_
                          refine qr_istore _ 178 rfl (by decide) rfl rfl ?_
                          refine qr_goto 76 rfl rfl ?_
                          exact ih8732 _ u8717 u8719 (-1) (by omega) (qm_gk g8713 (by decide) (Or.inl (by decide))) (qm_gk g8714 (by decide) (Or.inl (by decide))) (qm_gk g8715 (by decide) (Or.inl (by decide))) (qm_gk g8716 (by decide) (Or.inl (by decide))) (qm_gk g8718 (by decide) (Or.inl (by decide))) (qm_gk g8720 (by decide) (Or.inl (by decide))) (qm_gk g8721 (by decide) (Or.inr rfl)) (qm_ge _ _ _) hf8724 hf8725 (by decide) (qin_z (by omega) (qin_neg (t := u8723) (by omega) hx8727)) (Or.inl rfl) (by omega) (Or.inl (by omega))
              exact hL8731 ((v8566 + 1 + 1 : Int)).toNat _ u8547 u8549 v8566 (by omega) (qm_gk (qm_gk g8543 (by decide) (Or.inl (by decide))) (by decide) (Or.inl (by decide))) (qm_gk (qm_gk g8544 (by decide) (Or.inl (by decide))) (by decide) (Or.inl (by decide))) (qm_gk (qm_gk g8545 (by decide) (Or.inl (by decide))) (by decide) (Or.inl (by decide))) (qm_gk (qm_gk g8546 (by decide) (Or.inl (by decide))) (by decide) (Or.inl (by decide))) (qm_gk (qm_gk g8548 (by decide) (Or.inl (by decide))) (by decide) (Or.inl (by decide))) (qm_gk (qm_gk g8550 (by decide) (Or.inr rfl)) (by decide) (Or.inl (by decide))) (qm_gk (qm_ge _ _ _) (by decide) (Or.inr rfl)) (qm_ge _ _ _) hf8552 hf8553 (by omega) (qin_0 (by omega) (by omega)) (Or.inr ⟨by omega, by omega, qand_ii (by omega)⟩) (by omega) (Or.inr ⟨rfl, rfl⟩)
        exact hL8557 ((4096 - 0 + 1 : Int)).toNat _ 0 0 0 (by omega) rfl rfl rfl rfl rfl rfl (by decide) (by decide) (by decide) (Or.inl ⟨rfl, rfl, rfl⟩) (by omega)
      · skip
        refine qr_ldc2 (-1) 31 rfl (by decide) rfl ?_
        refine qr_retL rfl rfl (by decide) (by decide) ?_
        exact ⟨_, _, rfl, hI13, hF15, (by have hw : σ11 86 41 = (σ 86 41) := (hG14.1 86 41 (by decide)).trans rfl; omega), (-1), rfl, (by decide), (Or.inl ⟨rfl, (fun hc => by obtain ⟨c1, c2, c3, c4, c5, c6, c7, c8⟩ := hc; first | omega | (rcases hx9 with hz | hz; (exact hz.2 ⟨c6, c7, c8⟩); (omega)))⟩)⟩

set_option maxHeartbeats 4000000 in
theorem ro_rooms {σ α σ1 α1 σ2 α2 : Nat → Nat → Int} {κ : Nat → Option Nat} {ρ : Nat} {x1 x2 x3 v1 v2 : Int} {f g : (Nat → Int) → Int} (hA0 : qAg f g) (hI1 : qI σ1 α1 κ ρ) (hI2 : qI σ2 α2 κ ρ) (hI : qI σ α κ ρ) (hR : qR σ α) (hK : qR2 σ α) (hF : qRF σ α) (hP : qRP σ α) (hH : qRH σ α) (hL : qRL σ α) (hN : qRN σ α) (hW : qRS σ α) (hG1 : qFr [(58, 11), (58, 12), (64, 2)] [53, 57, 59, 60, 61, 62, 63, 65, 66, 67, 85] σ α σ1 α1) (hG2 : qFr [(86, 15), (86, 23), (86, 30), (86, 35), (86, 36), (86, 37), (86, 38), (86, 39), (86, 41), (86, 43)] [96, 109, 110, 111, 112] σ1 α1 σ2 α2) (hx0 : ((v1 = -1 ∧ ¬ (qst x1 (σ 17 6) ∧ 0 ≤ x2 ∧ x2 / 10000 ≤ x2 % 10000 ∧ x2 % 10000 ≤ 2399 ∧ x2 % 10000 - x2 / 10000 < 48 ∧ (x3 = 0 ∨ x3 = 1) ∧ ¬ (ql_and x1 (ql_xor (σ 17 5) (-1))) = 0 ∧ qcn (ql_and x1 (ql_xor (σ 17 5) (-1))) 64 ≤ 12)) ∨ ((qst x1 (σ 17 6) ∧ 0 ≤ x2 ∧ x2 / 10000 ≤ x2 % 10000 ∧ x2 % 10000 ≤ 2399 ∧ x2 % 10000 - x2 / 10000 < 48 ∧ (x3 = 0 ∨ x3 = 1) ∧ ¬ (ql_and x1 (ql_xor (σ 17 5) (-1))) = 0 ∧ qcn (ql_and x1 (ql_xor (σ 17 5) (-1))) 64 ≤ 12) ∧ qLs (α1 65) (σ1 64 2) (qBr (fun k : Nat => qbit (ql_and x1 (ql_xor (σ 17 5) (-1))) (k : Int)) 32) ∧ qBR (qPF (fun a b : Int => qBaC σ α f (α1 65 (a : Int).toNat) (α1 65 (b : Int).toNat) (x2 / 10000) (x2 % 10000)) (σ1 64 2)) (α1 66) (σ1 64 2) ∧ qRoo (qWf (α1 66) (qwC α1 19 65) (σ1 64 2)) (qz_shl 1 (σ1 64 2)) (σ1 64 2) x3 v1 (α1 65)))) (hx1 : (∀ c : Nat, c < 496 → α1 61 c ≤ σ1 58 12)) (hx2 : (∀ c : Nat, c < 496 → α1 63 c ≤ σ1 58 12)) (hx3 : (0 ≤ σ1 58 12 ∧ σ1 58 12 ≤ σ 58 12 + 6912)) (hy0 : ((v2 = -1 ∧ ¬ (0 ≤ x2 ∧ x2 / 10000 ≤ x2 % 10000 ∧ x2 % 10000 ≤ 2399 ∧ x2 % 10000 - x2 / 10000 < 48 ∧ (x3 = 0 ∨ x3 = 1) ∧ qst x1 (σ1 86 6) ∧ 1 ≤ qsm (fun k : Nat => qbit (ql_and x1 (ql_xor (σ1 86 10) (-1))) (k : Int)) (σ1 86 6 : Int).toNat ∧ qsm (fun k : Nat => qbit (ql_and x1 (ql_xor (σ1 86 10) (-1))) (k : Int)) (σ1 86 6 : Int).toNat ≤ 12)) ∨ ((0 ≤ x2 ∧ x2 / 10000 ≤ x2 % 10000 ∧ x2 % 10000 ≤ 2399 ∧ x2 % 10000 - x2 / 10000 < 48 ∧ (x3 = 0 ∨ x3 = 1) ∧ qst x1 (σ1 86 6) ∧ 1 ≤ qsm (fun k : Nat => qbit (ql_and x1 (ql_xor (σ1 86 10) (-1))) (k : Int)) (σ1 86 6 : Int).toNat ∧ qsm (fun k : Nat => qbit (ql_and x1 (ql_xor (σ1 86 10) (-1))) (k : Int)) (σ1 86 6 : Int).toNat ≤ 12) ∧ qLs (α2 110) (σ2 86 43) (qBr (fun k : Nat => qbit (ql_and x1 (ql_xor (σ1 86 10) (-1))) (k : Int)) (σ1 86 6 : Int).toNat) ∧ qBR (qPF (fun a b : Int => qBaM σ1 α1 g (α2 110 (a : Int).toNat) (α2 110 (b : Int).toNat) (x2 / 10000) (x2 % 10000)) (σ2 86 43)) (α2 111) (σ2 86 43) ∧ qRoo (qWf (α2 111) (qwC α2 92 110) (σ2 86 43)) (qz_shl 1 (σ2 86 43)) (σ2 86 43) x3 v2 (α2 110))))  : v1 = v2 := by
  have b6 : 0 ≤ σ 86 6 ∧ σ 86 6 ≤ 32 := hI.1 86 6
  have b16 : 0 ≤ σ 86 16 ∧ σ 86 16 ≤ 40 := hI.1 86 16
  have b24 : 0 ≤ σ 86 24 ∧ σ 86 24 ≤ 60 := hI.1 86 24
  have e6 := hR.1
  have e16 := hR.2.1
  have e24 := hR.2.2.1
  have c6 : σ1 86 6 = σ 86 6 := hG1.1 86 6 (by decide)
  have c10 : σ1 86 10 = σ 86 10 := hG1.1 86 10 (by decide)
  have n5 := hN.1
  rw [e6, n5] at hx0
  rw [c6, c10, qBaM_f4 hG1 (by decide) (by decide) (hG1.1 86 41 (by decide))] at hy0
  have lr := ql_and_r x1 (ql_xor (σ 86 10) (-1))
  have nz := qgl_nz lr
  rcases hx0 with ⟨a1, a2⟩ | ⟨a1, a2, a3, a4⟩
  · rcases hy0 with ⟨b1, b2⟩ | ⟨b1, b2, b3, b4⟩
    · omega
    · obtain ⟨m1, m2, m3, m4, m5, m6, m7, m8⟩ := b1
      have ln := qgl_len (d := ql_xor (σ 86 10) (-1)) m6 b6
      exact absurd ⟨m6, m1, m2, m3, m4, m5, nz.mpr (by omega), by omega⟩ a2
  · obtain ⟨c1, c2, c3, c4, c5, c6', c7, c8⟩ := a1
    have ln := qgl_len (d := ql_xor (σ 86 10) (-1)) c1 b6
    have n1 := nz.mp c7
    rcases hy0 with ⟨b1, b2⟩ | ⟨b1, b2, b3, b4⟩
    · exact absurd ⟨c2, c3, c4, c5, c6', c1, by omega, by omega⟩ b2
    have hb6 : 0 ≤ σ 86 6 ∧ σ 86 6 ≤ 32 := b6
    rw [qgl_ls (d := ql_xor (σ 86 10) (-1)) c1 hb6] at a2
    have gl := qgr_ls a2 b2
    have hin := qgr_in a2
    have hsr := qSr_of hb6.1 b2
    have ge := gl.1
    rw [ge] at a2 a3 a4 gl hin
    have hnn : 0 ≤ σ2 86 43 ∧ σ2 86 43 ≤ 12 := by have := b2.1; have h1 := qBr_sm (Q := fun k : Nat => qbit (ql_and x1 (ql_xor (σ 86 10) (-1))) (k : Int)) (fun k => qbit_r _ _) (σ 86 6 : Int).toNat; omega
    have hbd := qBR_un (by omega) (fun a b ha hab hbn => by
      have ea := gl.2 (a : Int).toNat (by omega)
      have eb := gl.2 (b : Int).toNat (by omega)
      have ra := hsr.1 (a : Int).toNat (by omega)
      have rb := hsr.1 (b : Int).toNat (by omega)
      have rab := hsr.2 (a : Int).toNat (b : Int).toNat (by omega) (by omega)
      show qBaC σ α f (α1 65 (a : Int).toNat) (α1 65 (b : Int).toNat) (x2 / 10000) (x2 % 10000) ↔ qBaM σ α g (α2 110 (a : Int).toNat) (α2 110 (b : Int).toNat) (x2 / 10000) (x2 % 10000)
      rw [ea, eb]
      exact qrr_ba hI hR hK hF hP hH hL hN hW hA0 (by omega) (by omega) (by omega)) (fun k hk => hI1.2.1 66 k (show k < 12 by omega)) (fun k hk => hI2.2.1 111 k (show k < 12 by omega)) a3 b3
    have hwe : ∀ k : Nat, (k : Int) < σ2 86 43 → qwC α1 19 65 k = qwC α2 92 110 k := fun k hk => by
      unfold qwC
      rw [gl.2 k hk, hG1.2 19 (by decide), hG2.2 92 (by decide), hG1.2 92 (by decide), hR.2.2.2.2.1]
    refine qRoo_un (fun T => ?_) (fun k hk => gl.2 k (by omega)) a4 b4
    exact qwt_cg _ (fun k hk => ⟨hbd k (by omega), hwe k (by omega)⟩)
end
