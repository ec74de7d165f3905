/-! the most -/
def qNB (need : Int) (ls : Nat → Int) (t i : Int) : Prop := ∀ k : Int, 0 ≤ k → k < 32 → (qbi need k = 1 ↔ (k < i ∧ qbit t (ls k.toNat) = 1))
theorem qNB_0 (ls : Nat → Int) (t : Int) : qNB 0 ls t 0 := fun k h1 _ => by
  rw [qbi_0]
  exact ⟨fun z => absurd z (by decide), fun z => absurd z.1 (by omega)⟩
theorem qNB_n {need t i : Int} {ls : Nat → Int} (h : qNB need ls t i) (hb : ¬ qbit t (ls i.toNat) = 1) : qNB need ls t (i + 1) := fun k h1 h2 => by
  rw [h k h1 h2]
  constructor
  · rintro ⟨a, b⟩
    exact ⟨by omega, b⟩
  · rintro ⟨a, b⟩
    by_cases e : k = i
    · rw [e] at b
      exact absurd b hb
    · exact ⟨by omega, b⟩
theorem qNB_y {need t i v : Int} {ls : Nat → Int} (h : qNB need ls t i) (h0 : 0 ≤ i ∧ i < 32) (hb : qbit t (ls i.toNat) = 1) (hv : v = qz_or need (qz_shl 1 i)) : qNB v ls t (i + 1) := fun k h1 h2 => by
  have hk := h k h1 h2
  rw [hv, qbi_or, qbi_shl h0 h1]
  by_cases e : k = i
  · rw [if_pos e, if_pos (Or.inr rfl)]
    exact ⟨fun _ => ⟨by omega, by rw [e]; exact hb⟩, fun _ => rfl⟩
  · rw [if_neg e]
    by_cases c : qbi need k = 1
    · rw [if_pos (Or.inl c)]
      exact ⟨fun _ => ⟨by have := (hk.mp c).1; omega, (hk.mp c).2⟩, fun _ => rfl⟩
    · rw [if_neg (fun z => z.elim c (fun y => absurd y (by decide)))]
      exact ⟨fun z => absurd z (by decide), fun z => absurd (hk.mpr ⟨by omega, z.2⟩) c⟩
/-- a set of places has all of those of t -/
def qNd (ls : Nat → Int) (n t x : Int) : Prop := ∀ k : Int, 0 ≤ k → k < n → qbit t (ls k.toNat) = 1 → qbi x k = 1
theorem qNd_y {need t n x : Int} {ls : Nat → Int} (hB : qNB need ls t n) (hn : n ≤ 32) (hs : qz_and x need = need) : qNd ls n t x := fun k h1 h2 h3 => by
  have h4 := (hB k h1 (by omega)).mpr ⟨h2, h3⟩
  rw [← hs, qbi_and] at h4
  by_cases c : qbi x k = 1 ∧ qbi need k = 1
  · exact c.1
  · rw [if_neg c] at h4
    exact absurd h4 (by decide)
theorem qNd_n {need t n x : Int} {ls : Nat → Int} (hB : qNB need ls t n) (hr : -2147483648 ≤ need ∧ need ≤ 2147483647) (hs : ¬ qz_and x need = need) : ¬ qNd ls n t x := fun hd => hs (qbi_ext (qz_and_r _ _) hr (fun k h1 h2 => by
  rw [qbi_and]
  by_cases c : qbi need k = 1
  · have h3 := (hB k h1 h2).mp c
    rw [if_pos ⟨hd k h1 h3.1 h3.2, c⟩, c]
  · rw [if_neg (fun z => c z.2)]
    have := qbi_r need k
    omega))
theorem qNd_my {need t n x : Int} {ls : Nat → Int} (hB : qNB need ls t n) (hn : n ≤ 32) (hs : qz_and need (qz_xor x (-1)) = 0) : qNd ls n t x := fun k h1 h2 h3 => by
  have h4 := (hB k h1 (by omega)).mpr ⟨h2, h3⟩
  have h5 : qbi (qz_and need (qz_xor x (-1))) k = 0 := by rw [hs, qbi_0]
  rw [qbi_and, qbi_not x ⟨h1, by omega⟩] at h5
  have h6 := qbi_r x k
  by_cases c : qbi need k = 1 ∧ 1 - qbi x k = 1
  · rw [if_pos c] at h5
    exact absurd h5 (by decide)
  · omega
theorem qNd_mn {need t n x : Int} {ls : Nat → Int} (hB : qNB need ls t n) (hs : ¬ qz_and need (qz_xor x (-1)) = 0) : ¬ qNd ls n t x := fun hd => hs (qbi_ext (qz_and_r _ _) (by decide) (fun k h1 h2 => by
  rw [qbi_0, qbi_and, qbi_not x ⟨h1, h2⟩]
  refine if_neg (fun c => ?_)
  have h3 := (hB k h1 h2).mp c.1
  have h4 := hd k h1 h3.1 h3.2
  omega))
/-- the best of all below b: the greatest by c, of like ones the first; -1: none -/
def qmB (D : Int → Prop) (c : Int → Int) (b w : Int) : Prop := (w = -1 ∧ ∀ u : Int, 0 ≤ u → u < b → ¬ D u) ∨ ((0 ≤ w ∧ w < b) ∧ D w ∧ ∀ u : Int, 0 ≤ u → u < b → D u → c u ≤ c w ∧ (u < w → c u < c w))
theorem qmB_0 (D : Int → Prop) (c : Int → Int) : qmB D c 0 (-1) := Or.inl ⟨rfl, fun u a b => absurd b (by omega)⟩
theorem qmB_no {D : Int → Prop} {c : Int → Int} {b w : Int} (hn : ¬ D b) (h : qmB D c b w) : qmB D c (b + 1) w := by
  rcases h with ⟨h1, h2⟩ | ⟨h1, h2, h3⟩
  · refine Or.inl ⟨h1, fun u a k => ?_⟩
    by_cases e : u = b
    · rw [e]; exact hn
    · exact h2 u a (by omega)
  · refine Or.inr ⟨by omega, h2, fun u a k hd => ?_⟩
    by_cases e : u = b
    · rw [e] at hd; exact absurd hd hn
    · exact h3 u a (by omega) hd
theorem qmB_lo {D : Int → Prop} {c : Int → Int} {b w : Int} (hw : 0 ≤ w) (hc : c b ≤ c w) (h : qmB D c b w) : qmB D c (b + 1) w := by
  rcases h with ⟨h1, h2⟩ | ⟨h1, h2, h3⟩
  · omega
  · refine Or.inr ⟨by omega, h2, fun u a k hd => ?_⟩
    by_cases e : u = b
    · rw [e]; exact ⟨hc, fun z => by omega⟩
    · exact h3 u a (by omega) hd
theorem qmB_hi {D : Int → Prop} {c : Int → Int} {b w : Int} (hb : 0 ≤ b) (hD : D b) (hc : w = -1 ∨ c w < c b) (h : qmB D c b w) : qmB D c (b + 1) b := by
  refine Or.inr ⟨by omega, hD, fun u a k hd => ?_⟩
  by_cases e : u = b
  · rw [e]; exact ⟨Int.le_refl _, fun z => by omega⟩
  · rcases h with ⟨h1, h2⟩ | ⟨h1, h2, h3⟩
    · exact absurd hd (h2 u a (by omega))
    · have h4 := (h3 u a (by omega) hd).1
      rcases hc with hc | hc
      · omega
      · exact ⟨by omega, fun _ => by omega⟩
theorem qmB_un {D D' : Int → Prop} {c c' : Int → Int} {b w w' : Int} (e : ∀ u : Int, 0 ≤ u → u < b → (D u ↔ D' u)) (e2 : ∀ u : Int, 0 ≤ u → u < b → c u = c' u) (h : qmB D c b w) (g : qmB D' c' b w') : w = w' := by
  rcases h with ⟨h1, h2⟩ | ⟨h1, h2, h3⟩
  · rcases g with ⟨g1, g2⟩ | ⟨g1, g2, g3⟩
    · omega
    · exact absurd ((e w' g1.1 g1.2).mpr g2) (h2 w' g1.1 g1.2)
  · rcases g with ⟨g1, g2⟩ | ⟨g1, g2, g3⟩
    · exact absurd ((e w h1.1 h1.2).mp h2) (g2 w h1.1 h1.2)
    · have a := h3 w' g1.1 g1.2 ((e w' g1.1 g1.2).mpr g2)
      have b' := g3 w h1.1 h1.2 ((e w h1.1 h1.2).mp h2)
      rw [← e2 w h1.1 h1.2, ← e2 w' g1.1 g1.2] at b'
      by_cases x : w < w'
      · have := b'.2 x; omega
      · by_cases y : w' < w
        · have := a.2 y; omega
        · omega
def qMd (ls bd w : Nat → Int) (n t x : Int) : Prop := qNd ls n t x ∧ 0 ≤ qwt bd w x n.toNat
def qMc (bd w : Nat → Int) (n x : Int) : Int := qwt bd w x n.toNat * 16 + qpn x
def qMst (ls bd w : Nat → Int) (n t v : Int) : Prop := ∃ b : Int, qmB (qMd ls bd w n t) (qMc bd w n) (qz_shl 1 n) b ∧ ((b < 0 ∧ v = -2) ∨ (0 ≤ b ∧ v = qap ls b n.toNat))
/-- rows of bits: who bars whom -/
def qBR (P : Int → Int → Prop) (r : Nat → Int) (n : Int) : Prop := ∀ a b : Int, 0 ≤ a → a < n → 0 ≤ b → b < 32 → (qbi (r a.toNat) b = 1 ↔ P a b)
theorem qBR_cg {P P' : Int → Int → Prop} {r : Nat → Int} {n : Int} (h : qBR P r n) (e : ∀ a b : Int, 0 ≤ a → a < n → 0 ≤ b → b < 32 → (P a b ↔ P' a b)) : qBR P' r n := fun a b a0 an b0 b32 => (h a b a0 an b0 b32).trans (e a b a0 an b0 b32)
theorem qBR_u {P : Int → Int → Prop} {r r' : Nat → Int} {n I J v1 v2 : Int} (h : qBR P r n) (hI : 0 ≤ I ∧ I < 32) (hJ : 0 ≤ J ∧ J < 32) (hne : ¬ I = J) (e : r' = qzu (qzu r I.toNat v1) J.toNat v2) (e1 : v1 = qz_or (r I.toNat) (qz_shl 1 J)) (e2 : v2 = qz_or (r J.toNat) (qz_shl 1 I)) : qBR (fun a b => P a b ∨ (a = I ∧ b = J) ∨ (a = J ∧ b = I)) r' n := by
  intro a b a0 an b0 b32
  have h1 := h a b a0 an b0 b32
  have ea : r' a.toNat = if a.toNat = J.toNat then v2 else if a.toNat = I.toNat then v1 else r a.toNat := by
    rw [e]
    rfl
  show qbi (r' a.toNat) b = 1 ↔ (P a b ∨ (a = I ∧ b = J) ∨ (a = J ∧ b = I))
  rw [ea, ← h1]
  by_cases cJ : a = J
  · rw [if_pos (by rw [cJ]), e2, qbi_or, qbi_shl hI b0, cJ]
    by_cases cb : b = I
    · rw [if_pos cb, if_pos (Or.inr rfl)]
      exact ⟨fun _ => Or.inr (Or.inr ⟨rfl, cb⟩), fun _ => rfl⟩
    · rw [if_neg cb]
      by_cases d : qbi (r J.toNat) b = 1
      · rw [if_pos (Or.inl d)]
        exact ⟨fun _ => Or.inl d, fun _ => rfl⟩
      · rw [if_neg (fun z => z.elim d (fun y => absurd y (by decide)))]
        exact ⟨fun z => absurd z (by decide), fun z => z.elim (fun y => absurd y d) (fun y => y.elim (fun x => absurd x.1.symm hne) (fun x => absurd x.2 cb))⟩
  · rw [if_neg (by omega)]
    by_cases cI : a = I
    · rw [if_pos (by rw [cI]), e1, qbi_or, qbi_shl hJ b0, cI]
      by_cases cb : b = J
      · rw [if_pos cb, if_pos (Or.inr rfl)]
        exact ⟨fun _ => Or.inr (Or.inl ⟨rfl, cb⟩), fun _ => rfl⟩
      · rw [if_neg cb]
        by_cases d : qbi (r I.toNat) b = 1
        · rw [if_pos (Or.inl d)]
          exact ⟨fun _ => Or.inl d, fun _ => rfl⟩
        · rw [if_neg (fun z => z.elim d (fun y => absurd y (by decide)))]
          exact ⟨fun z => absurd z (by decide), fun z => z.elim (fun y => absurd y d) (fun y => y.elim (fun x => absurd x.2 cb) (fun x => absurd x.1 hne))⟩
    · rw [if_neg (by omega)]
      exact ⟨fun z => Or.inl z, fun z => z.elim id (fun y => y.elim (fun x => absurd x.1 cI) (fun x => absurd x.1 cJ))⟩
/-- at the end: all pairs -/
def qPF (B : Int → Int → Prop) (n a b : Int) : Prop := (a < b ∧ b < n ∧ B a b) ∨ (b < a ∧ a < n ∧ B b a)
/-- so far, as the class goes on: by the first of two, then the second -/
def qPC (B : Int → Int → Prop) (n I J a b : Int) : Prop := (a < b ∧ b < n ∧ (a < I ∨ (a = I ∧ b < J)) ∧ B a b) ∨ (b < a ∧ a < n ∧ (b < I ∨ (b = I ∧ a < J)) ∧ B b a)
theorem qPC_0 {B : Int → Int → Prop} {r : Nat → Int} {n m : Int} (h : ∀ j : Nat, (j : Int) < n → r j = 0) : qBR (qPC B m 0 0) r n := fun a b a0 an b0 b32 => by
  rw [h a.toNat (by omega), qbi_0]
  refine ⟨fun z => absurd z (by decide), fun z => ?_⟩
  rcases z with z | z <;> exact absurd z.2.2.1 (by omega)
theorem qPC_in {B : Int → Int → Prop} {r : Nat → Int} {n m I : Int} (h : qBR (qPC B m I 0) r n) : qBR (qPC B m I (I + 1)) r n := qBR_cg h (fun a b _ _ _ _ => by
  constructor
  · rintro (⟨h1, h2, h3, h4⟩ | ⟨h1, h2, h3, h4⟩)
    · exact Or.inl ⟨h1, h2, by omega, h4⟩
    · exact Or.inr ⟨h1, h2, by omega, h4⟩
  · rintro (⟨h1, h2, h3, h4⟩ | ⟨h1, h2, h3, h4⟩)
    · exact Or.inl ⟨h1, h2, by omega, h4⟩
    · exact Or.inr ⟨h1, h2, by omega, h4⟩)
theorem qPC_out {B : Int → Int → Prop} {r : Nat → Int} {n m I J : Int} (hJ : m ≤ J) (h : qBR (qPC B m I J) r n) : qBR (qPC B m (I + 1) 0) r n := qBR_cg h (fun a b a0 _ b0 _ => by
  constructor
  · rintro (⟨h1, h2, h3, h4⟩ | ⟨h1, h2, h3, h4⟩)
    · exact Or.inl ⟨h1, h2, by omega, h4⟩
    · exact Or.inr ⟨h1, h2, by omega, h4⟩
  · rintro (⟨h1, h2, h3, h4⟩ | ⟨h1, h2, h3, h4⟩)
    · exact Or.inl ⟨h1, h2, by omega, h4⟩
    · exact Or.inr ⟨h1, h2, by omega, h4⟩)
theorem qPC_no {B : Int → Int → Prop} {r : Nat → Int} {n m I J : Int} (hn : ¬ B I J) (h : qBR (qPC B m I J) r n) : qBR (qPC B m I (J + 1)) r n := qBR_cg h (fun a b _ _ _ _ => by
  constructor
  · rintro (⟨h1, h2, h3, h4⟩ | ⟨h1, h2, h3, h4⟩)
    · exact Or.inl ⟨h1, h2, by omega, h4⟩
    · exact Or.inr ⟨h1, h2, by omega, h4⟩
  · rintro (⟨h1, h2, h3, h4⟩ | ⟨h1, h2, h3, h4⟩)
    · by_cases c : a = I ∧ b = J
      · rw [c.1, c.2] at h4
        exact absurd h4 hn
      · exact Or.inl ⟨h1, h2, by omega, h4⟩
    · by_cases c : b = I ∧ a = J
      · rw [c.1, c.2] at h4
        exact absurd h4 hn
      · exact Or.inr ⟨h1, h2, by omega, h4⟩)
theorem qPC_y {B : Int → Int → Prop} {r r' : Nat → Int} {n m I J v1 v2 : Int} (hB : B I J) (hI : 0 ≤ I ∧ I < 32) (hJ : I < J ∧ J < 32 ∧ J < m) (e : r' = qzu (qzu r I.toNat v1) J.toNat v2) (e1 : v1 = qz_or (r I.toNat) (qz_shl 1 J)) (e2 : v2 = qz_or (r J.toNat) (qz_shl 1 I)) (h : qBR (qPC B m I J) r n) : qBR (qPC B m I (J + 1)) r' n := qBR_cg (qBR_u h hI (by omega) (by omega) e e1 e2) (fun a b _ _ _ _ => by
  constructor
  · rintro ((⟨h1, h2, h3, h4⟩ | ⟨h1, h2, h3, h4⟩) | ⟨h1, h2⟩ | ⟨h1, h2⟩)
    · exact Or.inl ⟨h1, h2, by omega, h4⟩
    · exact Or.inr ⟨h1, h2, by omega, h4⟩
    · rw [h1, h2]
      exact Or.inl ⟨hJ.1, hJ.2.2, Or.inr ⟨rfl, by omega⟩, hB⟩
    · rw [h1, h2]
      exact Or.inr ⟨hJ.1, hJ.2.2, Or.inr ⟨rfl, by omega⟩, hB⟩
  · rintro (⟨h1, h2, h3, h4⟩ | ⟨h1, h2, h3, h4⟩)
    · by_cases c : a = I ∧ b = J
      · exact Or.inr (Or.inl c)
      · exact Or.inl (Or.inl ⟨h1, h2, by omega, h4⟩)
    · by_cases c : b = I ∧ a = J
      · exact Or.inr (Or.inr ⟨c.2, c.1⟩)
      · exact Or.inl (Or.inr ⟨h1, h2, by omega, h4⟩))
theorem qPC_end {B : Int → Int → Prop} {r : Nat → Int} {n m I : Int} (hI : m ≤ I) (h : qBR (qPC B m I 0) r n) : qBR (qPF B m) r n := qBR_cg h (fun a b _ _ _ _ => by
  constructor
  · rintro (⟨h1, h2, h3, h4⟩ | ⟨h1, h2, h3, h4⟩)
    · exact Or.inl ⟨h1, h2, h4⟩
    · exact Or.inr ⟨h1, h2, h4⟩
  · rintro (⟨h1, h2, h4⟩ | ⟨h1, h2, h4⟩)
    · exact Or.inl ⟨h1, h2, by omega, h4⟩
    · exact Or.inr ⟨h1, h2, by omega, h4⟩)
/-- so far, as the reference goes on: by the second of two, then the first -/
def qPR (B : Int → Int → Prop) (I J a b : Int) : Prop := (a < b ∧ (b < I ∨ (b = I ∧ a < J)) ∧ B a b) ∨ (b < a ∧ (a < I ∨ (a = I ∧ b < J)) ∧ B b a)
theorem qPR_0 {B : Int → Int → Prop} {r : Nat → Int} {n : Int} (h : ∀ j : Nat, (j : Int) < n → r j = 0) : qBR (qPR B 0 0) r n := fun a b a0 an b0 b32 => by
  rw [h a.toNat (by omega), qbi_0]
  refine ⟨fun z => absurd z (by decide), fun z => ?_⟩
  rcases z with z | z <;> exact absurd z.2.1 (by omega)
theorem qPR_out {B : Int → Int → Prop} {r : Nat → Int} {n I J : Int} (hJ : I ≤ J) (h : qBR (qPR B I J) r n) : qBR (qPR B (I + 1) 0) r n := qBR_cg h (fun a b a0 _ b0 _ => by
  constructor
  · rintro (⟨h1, h3, h4⟩ | ⟨h1, h3, h4⟩)
    · exact Or.inl ⟨h1, by omega, h4⟩
    · exact Or.inr ⟨h1, by omega, h4⟩
  · rintro (⟨h1, h3, h4⟩ | ⟨h1, h3, h4⟩)
    · exact Or.inl ⟨h1, by omega, h4⟩
    · exact Or.inr ⟨h1, by omega, h4⟩)
theorem qPR_no {B : Int → Int → Prop} {r : Nat → Int} {n I J : Int} (hn : ¬ B J I) (h : qBR (qPR B I J) r n) : qBR (qPR B I (J + 1)) r n := qBR_cg h (fun a b _ _ _ _ => by
  constructor
  · rintro (⟨h1, h3, h4⟩ | ⟨h1, h3, h4⟩)
    · exact Or.inl ⟨h1, by omega, h4⟩
    · exact Or.inr ⟨h1, by omega, h4⟩
  · rintro (⟨h1, h3, h4⟩ | ⟨h1, h3, h4⟩)
    · by_cases c : b = I ∧ a = J
      · rw [c.1, c.2] at h4
        exact absurd h4 hn
      · exact Or.inl ⟨h1, by omega, h4⟩
    · by_cases c : a = I ∧ b = J
      · rw [c.1, c.2] at h4
        exact absurd h4 hn
      · exact Or.inr ⟨h1, by omega, h4⟩)
theorem qPR_y {B : Int → Int → Prop} {r r' : Nat → Int} {n I J v1 v2 : Int} (hB : B J I) (hJ : 0 ≤ J ∧ J < I ∧ I < 32) (e : r' = qzu (qzu r I.toNat v1) J.toNat v2) (e1 : v1 = qz_or (r I.toNat) (qz_shl 1 J)) (e2 : v2 = qz_or (r J.toNat) (qz_shl 1 I)) (h : qBR (qPR B I J) r n) : qBR (qPR B I (J + 1)) r' n := qBR_cg (qBR_u h (by omega) (by omega) (by omega) e e1 e2) (fun a b _ _ _ _ => by
  constructor
  · rintro ((⟨h1, h3, h4⟩ | ⟨h1, h3, h4⟩) | ⟨h1, h2⟩ | ⟨h1, h2⟩)
    · exact Or.inl ⟨h1, by omega, h4⟩
    · exact Or.inr ⟨h1, by omega, h4⟩
    · rw [h1, h2]
      exact Or.inr ⟨hJ.2.1, Or.inr ⟨rfl, by omega⟩, hB⟩
    · rw [h1, h2]
      exact Or.inl ⟨hJ.2.1, Or.inr ⟨rfl, by omega⟩, hB⟩
  · rintro (⟨h1, h3, h4⟩ | ⟨h1, h3, h4⟩)
    · by_cases c : b = I ∧ a = J
      · exact Or.inr (Or.inr ⟨c.2, c.1⟩)
      · exact Or.inl (Or.inl ⟨h1, by omega, h4⟩)
    · by_cases c : a = I ∧ b = J
      · exact Or.inr (Or.inl c)
      · exact Or.inl (Or.inr ⟨h1, by omega, h4⟩))
theorem qPR_end {B : Int → Int → Prop} {r : Nat → Int} {n I : Int} (hI : n ≤ I) (hI2 : I ≤ n) (h : qBR (qPR B I 0) r n) : qBR (qPF B n) r n := qBR_cg h (fun a b a0 an b0 _ => by
  constructor
  · rintro (⟨h1, h3, h4⟩ | ⟨h1, h3, h4⟩)
    · exact Or.inl ⟨h1, by omega, h4⟩
    · exact Or.inr ⟨h1, by omega, h4⟩
  · rintro (⟨h1, h2, h4⟩ | ⟨h1, h2, h4⟩)
    · exact Or.inl ⟨h1, by omega, h4⟩
    · exact Or.inr ⟨h1, by omega, h4⟩)
/-- two rows that say alike are alike -/
theorem qBR_un {B B' : Int → Int → Prop} {r r' : Nat → Int} {n : Int} (h32 : n ≤ 32) (e : ∀ a b : Int, 0 ≤ a → a < b → b < n → (B a b ↔ B' a b)) (hr : ∀ k : Nat, (k : Int) < n → -2147483648 ≤ r k ∧ r k ≤ 2147483647) (hr' : ∀ k : Nat, (k : Int) < n → -2147483648 ≤ r' k ∧ r' k ≤ 2147483647) (h : qBR (qPF B n) r n) (g : qBR (qPF B' n) r' n) : ∀ k : Nat, (k : Int) < n → r k = r' k := fun k hk => by
  refine qbi_ext (hr k hk) (hr' k hk) (fun i h0 h1 => ?_)
  have a1 := h (k : Int) i (by omega) hk h0 h1
  have a2 := g (k : Int) i (by omega) hk h0 h1
  rw [Int.toNat_natCast] at a1 a2
  have e1 : qPF B n (k : Int) i ↔ qPF B' n (k : Int) i := by
    constructor
    · rintro (⟨c1, c2, c3⟩ | ⟨c1, c2, c3⟩)
      · exact Or.inl ⟨c1, c2, (e _ _ (by omega) c1 c2).mp c3⟩
      · exact Or.inr ⟨c1, c2, (e _ _ h0 c1 c2).mp c3⟩
    · rintro (⟨c1, c2, c3⟩ | ⟨c1, c2, c3⟩)
      · exact Or.inl ⟨c1, c2, (e _ _ (by omega) c1 c2).mpr c3⟩
      · exact Or.inr ⟨c1, c2, (e _ _ h0 c1 c2).mpr c3⟩
  have b1 := qbi_r (r k) i
  have b2 := qbi_r (r' k) i
  have e2 : qbi (r k) i = 1 ↔ qbi (r' k) i = 1 := (a1.trans e1).trans a2.symm
  by_cases c : qbi (r k) i = 1
  · rw [c, e2.mp c]
  · have c2 : ¬ qbi (r' k) i = 1 := fun z => c (e2.mpr z)
    omega
theorem qBaC_fr {S : List (Nat × Nat)} {R : List Nat} {σ α σ' α' : Nat → Nat → Int} (hG : qFr S R σ α σ' α') (hs : [(17, 6), (27, 6), (27, 7), (34, 7)].all (fun x => !S.contains x) = true) (hr : [18, 20, 22, 24, 28, 29, 30, 31, 33, 35, 36, 37, 40, 41].all (fun x => !R.contains x) = true) : qBaC σ' α' = qBaC σ α := by
  have es : ∀ a k, (a, k) ∈ [(17, 6), (27, 6), (27, 7), (34, 7)] → σ' a k = σ a k := fun a k hm => hG.1 a k (fun hn => by
    have h1 := List.all_eq_true.mp hs (a, k) hm
    rw [List.contains_iff_mem.mpr hn] at h1
    exact absurd h1 (by decide))
  have er : ∀ a, a ∈ [18, 20, 22, 24, 28, 29, 30, 31, 33, 35, 36, 37, 40, 41] → α' a = α a := fun a hm => hG.2 a (fun hn => by
    have h1 := List.all_eq_true.mp hr a hm
    rw [List.contains_iff_mem.mpr hn] at h1
    exact absurd h1 (by decide))
  have e : ∀ h : Int, qNVc (qw_s σ' 58 11 h) α' = qNVc (qw_s σ 58 11 h) α := fun h => by
    have s1 : qw_s σ' 58 11 h 17 6 = qw_s σ 58 11 h 17 6 := es 17 6 (by decide)
    have s2 : qw_s σ' 58 11 h 27 6 = qw_s σ 58 11 h 27 6 := es 27 6 (by decide)
    have s3 : qw_s σ' 58 11 h 27 7 = qw_s σ 58 11 h 27 7 := es 27 7 (by decide)
    have s4 : qw_s σ' 58 11 h 34 7 = qw_s σ 58 11 h 34 7 := es 34 7 (by decide)
    have s5 : qw_s σ' 58 11 h 58 11 = qw_s σ 58 11 h 58 11 := rfl
    unfold qNVc
    rw [s1, s2, s3, s4, s5, er 18 (by decide), er 20 (by decide), er 22 (by decide), er 24 (by decide), er 28 (by decide), er 29 (by decide), er 30 (by decide), er 31 (by decide), er 33 (by decide), er 35 (by decide), er 36 (by decide), er 37 (by decide), er 40 (by decide), er 41 (by decide)]
  funext f p q a b
  unfold qBaC qMaC
  simp only [e]
theorem qNVr_f4 {S : List (Nat × Nat)} {R : List Nat} {σ α σ' α' : Nat → Nat → Int} (hG : qFr S R σ α σ' α') (hs : [(86, 6), (86, 11), (86, 16), (86, 22), (86, 24)].all (fun x => !S.contains x) = true) (hr : [87, 91, 94, 95, 97, 98, 99, 100, 102, 103, 104, 105].all (fun x => !R.contains x) = true) (h1 : σ' 86 41 = σ 86 41) : qNVr σ' α' = qNVr σ α := by
  have es : ∀ a k, (a, k) ∈ [(86, 6), (86, 11), (86, 16), (86, 22), (86, 24)] → σ' a k = σ a k := fun a k hm => hG.1 a k (fun hn => by
    have h1 := List.all_eq_true.mp hs (a, k) hm
    rw [List.contains_iff_mem.mpr hn] at h1
    exact absurd h1 (by decide))
  have er : ∀ a, a ∈ [87, 91, 94, 95, 97, 98, 99, 100, 102, 103, 104, 105] → α' a = α a := fun a hm => hG.2 a (fun hn => by
    have h1 := List.all_eq_true.mp hr a hm
    rw [List.contains_iff_mem.mpr hn] at h1
    exact absurd h1 (by decide))
  unfold qNVr
  rw [es 86 6 (by decide), es 86 11 (by decide), es 86 16 (by decide), es 86 22 (by decide), es 86 24 (by decide), er 87 (by decide), er 91 (by decide), er 94 (by decide), er 95 (by decide), er 97 (by decide), er 98 (by decide), er 99 (by decide), er 100 (by decide), er 102 (by decide), er 103 (by decide), er 104 (by decide), er 105 (by decide), h1]
theorem qBaM_f4 {S : List (Nat × Nat)} {R : List Nat} {σ α σ' α' : Nat → Nat → Int} (hG : qFr S R σ α σ' α') (hs : [(86, 6), (86, 11), (86, 16), (86, 22), (86, 24)].all (fun x => !S.contains x) = true) (hr : [87, 91, 94, 95, 97, 98, 99, 100, 102, 103, 104, 105].all (fun x => !R.contains x) = true) (h1 : σ' 86 41 = σ 86 41) : qBaM σ' α' = qBaM σ α := by
  funext g p q a b
  unfold qBaM qMaM
  rw [qNVr_f4 hG hs hr h1]
/-- a row of people: of m people, one behind the other -/
def qSr (r : Nat → Int) (n m : Int) : Prop := (∀ i : Nat, (i : Int) < n → 0 ≤ r i ∧ r i < m) ∧ ∀ i j : Nat, i < j → (j : Int) < n → r i < r j
theorem qBr_so {Q : Nat → Int} : ∀ (n : Nat), (∀ (i : Nat) (h : i < (qBr Q n).length), 0 ≤ (qBr Q n)[i] ∧ (qBr Q n)[i] < (n : Int)) ∧ ∀ (i j : Nat) (hij : i < j) (h : j < (qBr Q n).length), (qBr Q n)[i]'(by omega) < (qBr Q n)[j]
  | 0 => ⟨fun i h => absurd h (Nat.not_lt_zero i), fun i j _ h => absurd h (Nat.not_lt_zero j)⟩
  | n + 1 => by
    have ih := qBr_so (Q := Q) n
    by_cases c : Q n = 1
    · have e : qBr Q (n + 1) = qBr Q n ++ [(n : Int)] := if_pos c
      refine ⟨fun i h => ?_, fun i j hij h => ?_⟩
      · have h' : i < (qBr Q n ++ [(n : Int)]).length := by rw [← e]; exact h
        have e2 : (qBr Q (n + 1))[i] = (qBr Q n ++ [(n : Int)])[i]'h' := by simp only [e]
        rw [e2, List.getElem_append]
        split
        · next hl => have := ih.1 i hl; omega
        · next hl =>
          rw [List.getElem_singleton]
          omega
      · have h' : j < (qBr Q n ++ [(n : Int)]).length := by rw [← e]; exact h
        have e1 : (qBr Q (n + 1))[i]'(by omega) = (qBr Q n ++ [(n : Int)])[i]'(by omega) := by simp only [e]
        have e2 : (qBr Q (n + 1))[j] = (qBr Q n ++ [(n : Int)])[j]'h' := by simp only [e]
        rw [List.length_append] at h'
        have h1 : i < (qBr Q n).length := by
          have : ([(n : Int)] : List Int).length = 1 := rfl
          omega
        rw [e1, e2, List.getElem_append_left h1, List.getElem_append]
        split
        · next hl => exact ih.2 i j hij hl
        · next hl =>
          rw [List.getElem_singleton]
          exact (ih.1 i h1).2
    · have e : qBr Q (n + 1) = qBr Q n := if_neg c
      refine ⟨fun i h => ?_, fun i j hij h => ?_⟩
      · have h' : i < (qBr Q n).length := by rw [← e]; exact h
        have e2 : (qBr Q (n + 1))[i] = (qBr Q n)[i]'h' := by simp only [e]
        rw [e2]
        have := ih.1 i h'
        omega
      · have h' : j < (qBr Q n).length := by rw [← e]; exact h
        have e1 : (qBr Q (n + 1))[i]'(by omega) = (qBr Q n)[i]'(by omega) := by simp only [e]
        have e2 : (qBr Q (n + 1))[j] = (qBr Q n)[j]'h' := by simp only [e]
        rw [e1, e2]
        exact ih.2 i j hij h'
theorem qSr_of {r : Nat → Int} {n m : Int} {Q : Nat → Int} (hm : 0 ≤ m) (h : qLs r n (qBr Q m.toNat)) : qSr r n m := by
  have s := qBr_so (Q := Q) m.toNat
  have h1 := h.1
  refine ⟨fun i hi => ?_, fun i j hij hj => ?_⟩
  · rw [h.2 i (by omega)]
    have := s.1 i (by omega)
    omega
  · rw [h.2 i (by omega), h.2 j (by omega)]
    exact s.2 i j hij (by omega)
theorem qri_s {f f' : Nat → Int} {g : Int → Int} {i v : Int} (hi : 0 ≤ i) (h : ∀ u : Int, 0 ≤ u → u < i → f u.toNat = g u) (e : f' = qzu f i.toNat v) (hv : v = g i) : ∀ u : Int, 0 ≤ u → u < i + 1 → f' u.toNat = g u := fun u h0 h1 => by
  rw [e]
  show (if u.toNat = i.toNat then v else f u.toNat) = g u
  by_cases c : u = i
  · rw [if_pos (by rw [c]), c]
    exact hv
  · rw [if_neg (by omega)]
    exact h u h0 (by omega)
theorem qwC_e {α α' : Nat → Nat → Int} {a b : Nat} (h1 : α' a = α a) (h2 : α' b = α b) : qwC α' a b = qwC α a b := by
  funext i
  unfold qwC
  rw [h1, h2]
theorem qwt_e {bd w : Nat → Int} {x a n v : Int} (h0 : 0 ≤ a) (han : a ≤ n) (hv : v = qwt bd w x a.toNat) (he : n ≤ a ∨ v < 0) : v = qwt bd w x n.toNat := by
  by_cases c : a = n
  · rw [← c]; exact hv
  · have e := qwt_neg (bd := bd) (w := w) (x := x) (n := a.toNat) (by omega) (n.toNat - a.toNat)
    rw [show a.toNat + (n.toNat - a.toNat) = n.toNat by omega] at e
    rw [e]
    exact hv

set_option maxHeartbeats 4000000 in
set_option maxRecDepth 20000 in
/-- java/util/Arrays.fill -/
theorem sf_4_66x {L : Nat} {xs : Nat → Int} {vb : Bool} {d : Nat} {σ α : Nat → Nat → Int} {κ : Nat → Option Nat} {ρ : Nat} {x1 : Int} (hI : qI σ α κ ρ) (r1 : (-2147483648) ≤ x1 ∧ x1 ≤ 2147483647) : qm_T (qe L xs vb) (d + 1) 4 [.ref 66, .int (qz x1)] (qw σ α κ ρ) (fun r w' => ∃ α', w' = qw σ α' κ ρ ∧ qI σ α' κ ρ ∧ qFr [] [66] σ α σ α' ∧ r = none ∧ (∀ j : Nat, (j : Int) < 12 → α' 66 j = x1)) := by
  refine qr_start (d := d + 0) qv_e4 (Nat.le_of_ble_eq_true rfl) ?_
  show qr_W (qe L xs vb) (d + 0) qx_e4 _ (0, [(0, .ref 66), (1, .int (qz x1))], [], _, 0, 0)
  have hF0 := qFr_rf [] [66] σ α
  refine qr_iconst 1 rfl rfl ?_
  refine qr_istore_n _ 2 rfl (by decide) rfl rfl ?_
  refine qr_aload_n 3 rfl rfl rfl ?_
  refine qr_alen 4 rfl rfl (by first | exact Or.inl (by decide) | exact Or.inr (Or.inl rfl) | exact Or.inr (Or.inr (Or.inl rfl)) | exact Or.inr (Or.inr (Or.inr (Or.inl rfl)))) rfl ?_
  refine qy_v 12 rfl ?_
  refine qr_istore_n _ 5 rfl (by decide) rfl rfl ?_
  have hL100 : ∀ (n : Nat) (ls : qm_L) (u92 : Int) (α95 : Nat → Nat → Int), 12 - u92 < (n : Int) → qm_get ls 0 = some (.ref 66) → qm_get ls 1 = some (.int (qz x1)) → qm_get ls 2 = some (.int (qz u92)) → qm_get ls 3 = some (.int (qz 12)) → (0 ≤ u92 ∧ u92 ≤ 12) → qI σ α95 κ ρ → qFr [] [66] σ α σ α95 → (∀ j : Nat, (j : Int) < u92 → α95 66 j = x1) → qr_W (qe L xs vb) (d + 0) qx_e4 (fun r w' => ∃ α', w' = qw σ α' κ ρ ∧ qI σ α' κ ρ ∧ qFr [] [66] σ α σ α' ∧ r = none ∧ (∀ j : Nat, (j : Int) < 12 → α' 66 j = x1)) (5, ls, [], qw σ α95 κ ρ, 0, 0) := by
    intro n
    induction n with
    | zero => intro ls u92 α95 hm g89 g90 g91 g93 hf98 hI96 hF97 hx99; exact False.elim (by omega)
    | succ n ih101 =>
      intro ls u92 α95 hm g89 g90 g91 g93 hf98 hI96 hF97 hx99
      refine qr_iload_n 6 rfl g91 rfl ?_
      refine qr_iload_n 7 rfl g93 rfl ?_
      refine qr_icmp_ge 20 10 rfl rfl rfl (qrg hf98 (by decide) (by decide)) (by decide) (fun h102 => ?_) (fun h102 => ?_)
      · skip
        refine qr_retV rfl rfl (by decide) (by decide) ?_
        exact ⟨_, rfl, hI96, hF97, rfl, (fun j hj => hx99 j (by omega))⟩
      · skip
        refine qr_aload_n 11 rfl g89 rfl ?_
        refine qr_iload_n 12 rfl g91 rfl ?_
        refine qr_iload_n 13 rfl g90 rfl ?_
        refine qr_iastore 14 rfl (by decide) rfl (by omega) (by decide) rfl ?_
        refine qy_wA (qw_r α95 66 (qzu (α95 66) (u92 : Int).toNat x1)) rfl (fun α103 e104 => ?_)
        have hI105 : qI σ α103 κ ρ := by rw [e104]; exact qI_r hI96 66 _ rfl (show (-2147483648) ≤ x1 ∧ x1 ≤ 2147483647 by omega)
        have hF106 : qFr [] [66] σ α σ α103 := by rw [e104]; exact qFr_r hF97 66 _ (by decide)
        refine qr_iinc _ 17 rfl g91 (by decide) rfl rfl ?_
        refine qr_goto 5 rfl rfl ?_
        exact ih101 _ (u92 + 1) α103 (by omega) (qm_gk g89 (by decide) (Or.inl (by decide))) (qm_gk g90 (by decide) (Or.inr rfl)) (qm_ge _ _ _) (qm_gk g93 (by decide) (Or.inl (by decide))) (by omega) hI105 hF106 (qrw_s (g := fun _ => x1) (by omega) hx99 ((congrFun e104 66).trans (qw_r_eq.trans (congrArg (fun f => qzu f (u92 : Int).toNat x1) rfl))) rfl)
  exact hL100 ((12 - 0 + 1 : Int)).toNat _ 0 α (by omega) rfl rfl rfl rfl (by decide) hI hF0 (fun j hj => False.elim (by omega))

set_option maxHeartbeats 4000000 in
set_option maxRecDepth 20000 in
/-- OneRoof$Guests.learnBars -/
theorem sf_111_64x {L : Nat} {xs : Nat → Int} {vb : Bool} {d : Nat} {σ α : Nat → Nat → Int} {κ : Nat → Option Nat} {ρ : Nat} {x1 : Int} {x2 : Int} {f : (Nat → Int) → Int} (hI : qI σ α κ ρ) (r1 : 0 ≤ x1 ∧ x1 ≤ 9999) (r2 : 0 ≤ x2 ∧ x2 ≤ 9999) (p0 : x2 - x1 ≤ 47) (p1 : qPW σ α κ (0 : Int).toNat f) (p2 : qZp σ α) (p3 : σ 58 10 = 0) (p4 : ∀ c : Nat, c < 496 → α 61 c ≤ σ 58 12) (p5 : ∀ c : Nat, c < 496 → α 63 c ≤ σ 58 12) (p6 : 0 ≤ σ 58 12 ∧ σ 58 12 ≤ 1999990000) : qm_T (qe L xs vb) (d + 7) 111 [.ref 64, .int (qz x1), .int (qz x2)] (qw σ α κ ρ) (fun r w' => ∃ σ' α', w' = qw σ' α' κ ρ ∧ qI σ' α' κ ρ ∧ qFr [(58, 11), (58, 12)] [53, 57, 59, 60, 61, 62, 63, 66, 85] σ α σ' α' ∧ σ' 58 12 ≤ σ 58 12 + 6912 ∧ σ' 58 12 ≥ σ 58 12 ∧ r = none ∧ qBR (qPF (fun a b : Int => qBaC σ α f (α 65 (a : Int).toNat) (α 65 (b : Int).toNat) x1 x2) (σ 64 2)) (α' 66) (σ 64 2) ∧ (∀ c : Nat, c < 496 → α' 61 c ≤ σ' 58 12) ∧ (∀ c : Nat, c < 496 → α' 63 c ≤ σ' 58 12)) := by
  refine qr_start (d := d + 6) qv_e111 (Nat.le_of_ble_eq_true rfl) ?_
  show qr_W (qe L xs vb) (d + 6) qx_e111 _ (0, [(0, .ref 64), (1, .int (qz x1)), (2, .int (qz x2))], [], _, 0, 0)
  have hF0 := qFr_rf [(58, 11), (58, 12)] [53, 57, 59, 60, 61, 62, 63, 66, 85] σ α
  have hz58_10 : (-9223372036854775808) ≤ σ 58 10 ∧ σ 58 10 ≤ 9223372036854775807 := hI.1 58 10
  have hz58_12 : (-2147483648) ≤ σ 58 12 ∧ σ 58 12 ≤ 2147483647 := hI.1 58 12
  have hz17_5 : (-9223372036854775808) ≤ σ 17 5 ∧ σ 17 5 ≤ 9223372036854775807 := hI.1 17 5
  have hz17_6 : 0 ≤ σ 17 6 ∧ σ 17 6 ≤ 32 := hI.1 17 6
  have hz27_6 : (-9223372036854775808) ≤ σ 27 6 ∧ σ 27 6 ≤ 9223372036854775807 := hI.1 27 6
  have hz27_7 : 0 ≤ σ 27 7 ∧ σ 27 7 ≤ 40 := hI.1 27 7
  have hz34_7 : 0 ≤ σ 34 7 ∧ σ 34 7 ≤ 60 := hI.1 34 7
  have hz58_11 : (-2147483648) ≤ σ 58 11 ∧ σ 58 11 ≤ 2147483647 := hI.1 58 11
  have hz64_2 : 0 ≤ σ 64 2 ∧ σ 64 2 ≤ 12 := hI.1 64 2
  refine qr_aload_n 1 rfl rfl rfl ?_
  refine qr_get 4 rfl rfl rfl (by decide) rfl ?_
  refine qr_iconst 5 rfl rfl ?_
  refine qr_callN 8 rfl rfl rfl (sf_4_66x (d := d + 5) hI (by decide)) ?_
  rintro _ _ ⟨α2, rfl, hI3, hG4, rfl, hx1⟩
  have hF5 : qFr [(58, 11), (58, 12)] [53, 57, 59, 60, 61, 62, 63, 66, 85] σ α σ α2 := qFr_t hF0 hG4 (by decide) (by decide)
  show qr_W (qe L xs vb) (d + 6) qx_e111 _ (8, _, [], qw σ α2 κ ρ, 0, 0)
  refine qr_iconst 9 rfl rfl ?_
  refine qr_istore_n _ 10 rfl (by decide) rfl rfl ?_
  have hL4461 : ∀ (n : Nat) (ls : qm_L) (u4442 : Int) (σ4443 α4444 : Nat → Nat → Int), 12 - u4442 < (n : Int) → qm_get ls 0 = some (.ref 64) → qm_get ls 1 = some (.int (qz x1)) → qm_get ls 2 = some (.int (qz x2)) → qm_get ls 3 = some (.int (qz u4442)) → (0 ≤ u4442 ∧ u4442 ≤ 12) → qI σ4443 α4444 κ ρ → qFr [(58, 11), (58, 12)] [53, 57, 59, 60, 61, 62, 63, 66, 85] σ α σ4443 α4444 → σ4443 17 5 = (σ 17 5) → σ4443 17 6 = (σ 17 6) → σ4443 27 6 = (σ 27 6) → σ4443 27 7 = (σ 27 7) → σ4443 34 7 = (σ 34 7) → σ4443 58 10 = (σ 58 10) → σ4443 64 2 = (σ 64 2) → α4444 65 = (α 65) → qBR (qPC (fun a b : Int => qBaC σ α f (α 65 (a : Int).toNat) (α 65 (b : Int).toNat) x1 x2) (σ 64 2) u4442 0) (α4444 66) (σ 64 2) → (∀ c : Nat, c < 496 → α4444 61 c ≤ σ4443 58 12) → (∀ c : Nat, c < 496 → α4444 63 c ≤ σ4443 58 12) → σ4443 58 12 ≤ σ 58 12 + 576 * u4442 → σ 58 12 ≤ σ4443 58 12 → qr_W (qe L xs vb) (d + 6) qx_e111 (fun r w' => ∃ σ' α', w' = qw σ' α' κ ρ ∧ qI σ' α' κ ρ ∧ qFr [(58, 11), (58, 12)] [53, 57, 59, 60, 61, 62, 63, 66, 85] σ α σ' α' ∧ σ' 58 12 ≤ σ 58 12 + 6912 ∧ σ' 58 12 ≥ σ 58 12 ∧ r = none ∧ qBR (qPF (fun a b : Int => qBaC σ α f (α 65 (a : Int).toNat) (α 65 (b : Int).toNat) x1 x2) (σ 64 2)) (α' 66) (σ 64 2) ∧ (∀ c : Nat, c < 496 → α' 61 c ≤ σ' 58 12) ∧ (∀ c : Nat, c < 496 → α' 63 c ≤ σ' 58 12)) (10, ls, [], qw σ4443 α4444 κ ρ, 0, 0) := by
    intro n
    induction n with
    | zero => intro ls u4442 σ4443 α4444 hm g4438 g4439 g4440 g4441 hf4455 hI4445 hF4446 hk4447 hk4448 hk4449 hk4450 hk4451 hk4452 hk4453 hk4454 hx4456 hx4457 hx4458 hx4459 hx4460; exact False.elim (by omega)
    | succ n ih4462 =>
      intro ls u4442 σ4443 α4444 hm g4438 g4439 g4440 g4441 hf4455 hI4445 hF4446 hk4447 hk4448 hk4449 hk4450 hk4451 hk4452 hk4453 hk4454 hx4456 hx4457 hx4458 hx4459 hx4460
      have hs4463 : (-2147483648) ≤ σ4443 58 12 ∧ σ4443 58 12 ≤ 2147483647 := hI4445.1 58 12
      refine qr_iload_n 11 rfl g4441 rfl ?_
      refine qr_aload_n 12 rfl g4438 rfl ?_
      refine qr_get 15 rfl rfl rfl (by decide) rfl ?_
      refine qy_v (σ 64 2) ((hk4453).trans rfl) ?_
      refine qr_icmp_ge 98 18 rfl rfl rfl (qrg hf4455 (by decide) (by decide)) (qrg hz64_2 (by decide) (by decide)) (fun h4464 => ?_) (fun h4464 => ?_)
      · skip
        refine qr_retV rfl rfl (by decide) (by decide) ?_
        exact ⟨_, _, rfl, hI4445, hF4446, (by have hw : σ4443 58 12 = (σ4443 58 12) := rfl; omega), (by have hw : σ4443 58 12 = (σ4443 58 12) := rfl; omega), rfl, (qPC_end (by omega) hx4456), hx4457, hx4458⟩
      · skip
        refine qr_iload_n 19 rfl g4441 rfl ?_
        refine qr_iconst 20 rfl rfl ?_
        refine qr_iadd 21 rfl rfl ?_
        refine qr_istore _ 23 rfl (by decide) rfl rfl ?_
        have hL4690 : ∀ (n : Nat) (ls : qm_L) (u4670 : Int) (σ4671 α4672 : Nat → Nat → Int), 12 - u4670 < (n : Int) → qm_get ls 0 = some (.ref 64) → qm_get ls 1 = some (.int (qz x1)) → qm_get ls 2 = some (.int (qz x2)) → qm_get ls 3 = some (.int (qz u4442)) → qm_get ls 4 = some (.int (qz u4670)) → (1 ≤ u4670 ∧ u4670 ≤ 12) → qI σ4671 α4672 κ ρ → qFr [(58, 11), (58, 12)] [53, 57, 59, 60, 61, 62, 63, 66, 85] σ α σ4671 α4672 → σ4671 17 5 = (σ 17 5) → σ4671 17 6 = (σ 17 6) → σ4671 27 6 = (σ 27 6) → σ4671 27 7 = (σ 27 7) → σ4671 34 7 = (σ 34 7) → σ4671 58 10 = (σ 58 10) → σ4671 64 2 = (σ 64 2) → α4672 65 = (α 65) → qBR (qPC (fun a b : Int => qBaC σ α f (α 65 (a : Int).toNat) (α 65 (b : Int).toNat) x1 x2) (σ 64 2) u4442 u4670) (α4672 66) (σ 64 2) → (∀ c : Nat, c < 496 → α4672 61 c ≤ σ4671 58 12) → (∀ c : Nat, c < 496 → α4672 63 c ≤ σ4671 58 12) → σ4671 58 12 ≤ σ 58 12 + 576 * u4442 + 48 * u4670 → σ 58 12 ≤ σ4671 58 12 → (u4442 + 1) ≤ u4670 → qr_W (qe L xs vb) (d + 6) qx_e111 (fun r w' => ∃ σ' α', w' = qw σ' α' κ ρ ∧ qI σ' α' κ ρ ∧ qFr [(58, 11), (58, 12)] [53, 57, 59, 60, 61, 62, 63, 66, 85] σ α σ' α' ∧ σ' 58 12 ≤ σ 58 12 + 6912 ∧ σ' 58 12 ≥ σ 58 12 ∧ r = none ∧ qBR (qPF (fun a b : Int => qBaC σ α f (α 65 (a : Int).toNat) (α 65 (b : Int).toNat) x1 x2) (σ 64 2)) (α' 66) (σ 64 2) ∧ (∀ c : Nat, c < 496 → α' 61 c ≤ σ' 58 12) ∧ (∀ c : Nat, c < 496 → α' 63 c ≤ σ' 58 12)) (23, ls, [], qw σ4671 α4672 κ ρ, 0, 0) := by
          intro n
          induction n with
          | zero => intro ls u4670 σ4671 α4672 hm g4665 g4666 g4667 g4668 g4669 hf4683 hI4673 hF4674 hk4675 hk4676 hk4677 hk4678 hk4679 hk4680 hk4681 hk4682 hx4684 hx4685 hx4686 hx4687 hx4688 hx4689; exact False.elim (by omega)
          | succ n ih4691 =>
            intro ls u4670 σ4671 α4672 hm g4665 g4666 g4667 g4668 g4669 hf4683 hI4673 hF4674 hk4675 hk4676 hk4677 hk4678 hk4679 hk4680 hk4681 hk4682 hx4684 hx4685 hx4686 hx4687 hx4688 hx4689
            have hs4692 : (-2147483648) ≤ σ4671 58 12 ∧ σ4671 58 12 ≤ 2147483647 := hI4673.1 58 12
            refine qr_iload 25 rfl g4669 rfl ?_
            refine qr_aload_n 26 rfl g4665 rfl ?_
            refine qr_get 29 rfl rfl rfl (by decide) rfl ?_
            refine qy_v (σ 64 2) ((hk4681).trans rfl) ?_
            refine qr_icmp_ge 92 32 rfl rfl rfl (qrg hf4683 (by decide) (by decide)) (qrg hz64_2 (by decide) (by decide)) (fun h4693 => ?_) (fun h4693 => ?_)
            · skip
              refine qr_iinc _ 95 rfl g4668 (by decide) rfl rfl ?_
              refine qr_goto 10 rfl rfl ?_
              exact ih4462 _ (u4442 + 1) σ4671 α4672 (by omega) (qm_gk g4665 (by decide) (Or.inl (by decide))) (qm_gk g4666 (by decide) (Or.inl (by decide))) (qm_gk g4667 (by decide) (Or.inr rfl)) (qm_ge _ _ _) (by omega) hI4673 hF4674 ((hk4675).trans rfl) ((hk4676).trans rfl) ((hk4677).trans rfl) ((hk4678).trans rfl) ((hk4679).trans rfl) ((hk4680).trans rfl) ((hk4681).trans rfl) hk4682 (qPC_out (J := u4670) (by omega) hx4684) hx4685 hx4686 (by have hw : σ4671 58 12 = (σ4671 58 12) := rfl; omega) (by have hw : σ4671 58 12 = (σ4671 58 12) := rfl; omega)
            · skip
              refine qr_aload_n 33 rfl g4665 rfl ?_
              refine qr_get 36 rfl rfl rfl (by decide) rfl ?_
              refine qr_aload_n 37 rfl g4665 rfl ?_
              refine qr_get 40 rfl rfl rfl (by decide) rfl ?_
              refine qr_iload_n 41 rfl g4668 rfl ?_
              refine qr_iaload 42 rfl rfl (by omega) (by decide) rfl ?_
              refine qr_topI (fun v4694 hv4694 => ?_)
              have hs4695 : 0 ≤ v4694 ∧ v4694 ≤ 31 := by rw [hv4694]; exact hI4673.2.1 65 _ (show _ < 12 by omega)
              have hrv4694 : v4694 = (α 65) (u4442 : Int).toNat := hv4694.trans (congrFun hk4682 _)
              have hs4696 : σ4671 64 2 = (σ 64 2) := (hk4681).trans rfl
              refine qr_aload_n 43 rfl g4665 rfl ?_
              refine qr_get 46 rfl rfl rfl (by decide) rfl ?_
              refine qr_iload 48 rfl g4669 rfl ?_
              refine qr_iaload 49 rfl rfl (by omega) (by decide) rfl ?_
              refine qr_topI (fun v4697 hv4697 => ?_)
              have hs4698 : 0 ≤ v4697 ∧ v4697 ≤ 31 := by rw [hv4697]; exact hI4673.2.1 65 _ (show _ < 12 by omega)
              have hrv4697 : v4697 = (α 65) (u4670 : Int).toNat := hv4697.trans (congrFun hk4682 _)
              have hs4699 : σ4671 64 2 = (σ 64 2) := (hk4681).trans rfl
              have hs4700 := qI_li hI4673 (u4442) (u4670)
              refine qr_iload_n 50 rfl g4666 rfl ?_
              refine qr_iload_n 51 rfl g4667 rfl ?_
              have hs4701 : (-9223372036854775808) ≤ σ4671 58 10 ∧ σ4671 58 10 ≤ 9223372036854775807 := hI4673.1 58 10
              have hs4702 : σ4671 58 10 = (σ 58 10) := (hk4680).trans rfl
              have hs4703 : (-2147483648) ≤ σ4671 58 12 ∧ σ4671 58 12 ≤ 2147483647 := hI4673.1 58 12
              refine qr_callN 54 rfl rfl rfl (sf_106_58x (d := d + 0) hI4673 hs4695 hs4698 r1 r2 (by omega) (by omega) (qPW_fr hF4674 (by decide) (by decide) p1) (qZp_fr hF4674 (by decide) (by decide) p2) ((hF4674.1 58 10 (by decide)).trans p3) hx4685 hx4686 (by omega)) ?_
              rintro _ _ ⟨σ4710, α4711, rfl, hI4712, hG4713, hw4708, hw4709, v4704, rfl, hv4704, hx4705, hx4706, hx4707⟩
              have hF4714 : qFr [(58, 11), (58, 12)] [53, 57, 59, 60, 61, 62, 63, 66, 85] σ α σ4710 α4711 := qFr_t hF4674 hG4713 (by decide) (by decide)
              have hs4715 : (-2147483648) ≤ σ4710 58 12 ∧ σ4710 58 12 ≤ 2147483647 := hI4712.1 58 12
              show qr_W (qe L xs vb) (d + 6) qx_e111 _ (54, _, [.int (qz v4704)], qw σ4710 α4711 κ ρ, 0, 0)
              rw [qBaC_fr hF4674 (by decide) (by decide), hrv4694, hrv4697] at hx4705
              refine qr_if_ne 60 57 rfl rfl rfl (qrg hv4704 (by decide) (by decide)) (fun h4716 => ?_) (fun h4716 => ?_)
              · skip
                refine qr_aload_n 61 rfl g4665 rfl ?_
                refine qr_get 64 rfl rfl rfl (by decide) rfl ?_
                refine qr_iload_n 65 rfl g4668 rfl ?_
                refine qr_dup2 66 rfl rfl rfl rfl ?_
                refine qr_iaload 67 rfl rfl (by omega) (by decide) rfl ?_
                refine qr_topI (fun v4717 hv4717 => ?_)
                have hs4718 : (-2147483648) ≤ v4717 ∧ v4717 ≤ 2147483647 := by rw [hv4717]; exact hI4712.2.1 66 _ (show _ < 12 by omega)
                have hrv4717 : v4717 = (α4711 66) (u4442 : Int).toNat := hv4717
                refine qr_iconst 68 rfl rfl ?_
                refine qr_iload 70 rfl g4669 rfl ?_
                refine qr_ishl 71 rfl rfl ?_
                refine qy_shl1E (N := 11) (by omega) (fun v4719 hv4719 hev4719 => ?_)
                refine qr_ior 72 rfl rfl ?_
                refine qy_canE (fun v4720 hv4720 hev4720 => ?_)
                refine qr_iastore 73 rfl (by decide) rfl (by omega) (by decide) rfl ?_
                refine qy_wA (qw_r α4711 66 (qzu (α4711 66) (u4442 : Int).toNat v4720)) rfl (fun α4721 e4722 => ?_)
                have hI4723 : qI σ4710 α4721 κ ρ := by rw [e4722]; exact qI_r hI4712 66 _ rfl (show (-2147483648) ≤ v4720 ∧ v4720 ≤ 2147483647 by omega)
                have hF4724 : qFr [(58, 11), (58, 12)] [53, 57, 59, 60, 61, 62, 63, 66, 85] σ α σ4710 α4721 := by rw [e4722]; exact qFr_r hF4714 66 _ (by decide)
                refine qr_aload_n 74 rfl g4665 rfl ?_
                refine qr_get 77 rfl rfl rfl (by decide) rfl ?_
                refine qr_iload 79 rfl g4669 rfl ?_
                refine qr_dup2 80 rfl rfl rfl rfl ?_
                refine qr_iaload 81 rfl rfl (by omega) (by decide) rfl ?_
                refine qr_topI (fun v4725 hv4725 => ?_)
                have hs4726 : (-2147483648) ≤ v4725 ∧ v4725 ≤ 2147483647 := by rw [hv4725]; exact hI4723.2.1 66 _ (show _ < 12 by omega)
                have hrv4725 : v4725 = (qzu (α4711 66) (u4442 : Int).toNat v4720) (u4670 : Int).toNat := hv4725.trans (congrFun ((congrFun e4722 66).trans (qw_r_eq.trans (congrArg (fun f => qzu f (u4442 : Int).toNat v4720) rfl))) _)
                refine qr_iconst 82 rfl rfl ?_
                refine qr_iload_n 83 rfl g4668 rfl ?_
                refine qr_ishl 84 rfl rfl ?_
                refine qy_shl1E (N := 11) (by omega) (fun v4727 hv4727 hev4727 => ?_)
                refine qr_ior 85 rfl rfl ?_
                refine qy_canE (fun v4728 hv4728 hev4728 => ?_)
                refine qr_iastore 86 rfl (by decide) rfl (by omega) (by decide) rfl ?_
                refine qy_wA (qw_r α4721 66 (qzu (α4721 66) (u4670 : Int).toNat v4728)) rfl (fun α4729 e4730 => ?_)
                have hI4731 : qI σ4710 α4729 κ ρ := by rw [e4730]; exact qI_r hI4723 66 _ rfl (show (-2147483648) ≤ v4728 ∧ v4728 ≤ 2147483647 by omega)
                have hF4732 : qFr [(58, 11), (58, 12)] [53, 57, 59, 60, 61, 62, 63, 66, 85] σ α σ4710 α4729 := by rw [e4730]; exact qFr_r hF4724 66 _ (by decide)
                refine qr_iinc _ 89 rfl g4669 (by decide) rfl rfl ?_
                refine qr_goto 23 rfl rfl ?_
                exact ih4691 _ (u4670 + 1) σ4710 α4729 (by omega) (qm_gk g4665 (by decide) (Or.inl (by decide))) (qm_gk g4666 (by decide) (Or.inl (by decide))) (qm_gk g4667 (by decide) (Or.inl (by decide))) (qm_gk g4668 (by decide) (Or.inr rfl)) (qm_ge _ _ _) (by omega) hI4731 hF4732 ((hG4713.1 17 5 (by decide)).trans ((hk4675).trans rfl)) ((hG4713.1 17 6 (by decide)).trans ((hk4676).trans rfl)) ((hG4713.1 27 6 (by decide)).trans ((hk4677).trans rfl)) ((hG4713.1 27 7 (by decide)).trans ((hk4678).trans rfl)) ((hG4713.1 34 7 (by decide)).trans ((hk4679).trans rfl)) ((hG4713.1 58 10 (by decide)).trans ((hk4680).trans rfl)) ((hG4713.1 64 2 (by decide)).trans ((hk4681).trans rfl)) ((congrFun e4730 65).trans ((qw_r_ne (by decide)).trans ((congrFun e4722 65).trans ((qw_r_ne (by decide)).trans ((hG4713.2 65 (by decide)).trans hk4682))))) (qPC_y (r := (α4711 66)) (by rcases hx4705 with hz | hz; (exact hz.2); (omega)) (by omega) (by omega) (((congrFun e4730 66).trans (qw_r_eq.trans (congrArg (fun f => qzu f (u4670 : Int).toNat v4728) ((congrFun e4722 66).trans (qw_r_eq.trans (congrArg (fun f => qzu f (u4442 : Int).toNat v4720) rfl))))))) (by rw [qz_val hev4720 (by omega) (qz_or_r _ _), hev4719, show v4717 = (α4711 66) (u4442 : Int).toNat from hv4717]) (by rw [qz_val hev4728 (by omega) (qz_or_r _ _), hev4727, show v4725 = (α4711 66) (u4670 : Int).toNat from (by rw [show v4725 = _ from hv4725, show α4721 66 = _ from ((congrFun e4722 66).trans (qw_r_eq.trans (congrArg (fun f => qzu f (u4442 : Int).toNat v4720) rfl)))]; exact if_neg (by omega))]) (by rw [hG4713.2 66 (by decide)]; exact hx4684)) (fun c hc => by rw [show α4729 61 = α4711 61 from ((congrFun e4730 61).trans ((qw_r_ne (by decide)).trans ((congrFun e4722 61).trans ((qw_r_ne (by decide)).trans rfl))))]; exact hx4706 c hc) (fun c hc => by rw [show α4729 63 = α4711 63 from ((congrFun e4730 63).trans ((qw_r_ne (by decide)).trans ((congrFun e4722 63).trans ((qw_r_ne (by decide)).trans rfl))))]; exact hx4707 c hc) (by have hw : σ4710 58 12 = (σ4710 58 12) := rfl; omega) (by have hw : σ4710 58 12 = (σ4710 58 12) := rfl; omega) (by omega)
              · skip
                refine qr_goto 86 rfl rfl ?_
                refine qr_iinc _ 89 rfl g4669 (by decide) rfl rfl ?_
                refine qr_goto 23 rfl rfl ?_
                exact ih4691 _ (u4670 + 1) σ4710 α4711 (by omega) (qm_gk g4665 (by decide) (Or.inl (by decide))) (qm_gk g4666 (by decide) (Or.inl (by decide))) (qm_gk g4667 (by decide) (Or.inl (by decide))) (qm_gk g4668 (by decide) (Or.inr rfl)) (qm_ge _ _ _) (by omega) hI4712 hF4714 ((hG4713.1 17 5 (by decide)).trans ((hk4675).trans rfl)) ((hG4713.1 17 6 (by decide)).trans ((hk4676).trans rfl)) ((hG4713.1 27 6 (by decide)).trans ((hk4677).trans rfl)) ((hG4713.1 27 7 (by decide)).trans ((hk4678).trans rfl)) ((hG4713.1 34 7 (by decide)).trans ((hk4679).trans rfl)) ((hG4713.1 58 10 (by decide)).trans ((hk4680).trans rfl)) ((hG4713.1 64 2 (by decide)).trans ((hk4681).trans rfl)) ((hG4713.2 65 (by decide)).trans hk4682) (by rw [hG4713.2 66 (by decide)]; exact qPC_no (by rcases hx4705 with hz | hz; (omega); (exact hz.2)) hx4684) hx4706 hx4707 (by have hw : σ4710 58 12 = (σ4710 58 12) := rfl; omega) (by have hw : σ4710 58 12 = (σ4710 58 12) := rfl; omega) (by omega)
        exact hL4690 ((12 - (u4442 + 1) + 1 : Int)).toNat _ (u4442 + 1) σ4443 α4444 (by omega) (qm_gk g4438 (by decide) (Or.inl (by decide))) (qm_gk g4439 (by decide) (Or.inl (by decide))) (qm_gk g4440 (by decide) (Or.inl (by decide))) (qm_gk g4441 (by decide) (Or.inr rfl)) (qm_ge _ _ _) (by omega) hI4445 hF4446 ((hk4447).trans rfl) ((hk4448).trans rfl) ((hk4449).trans rfl) ((hk4450).trans rfl) ((hk4451).trans rfl) ((hk4452).trans rfl) ((hk4453).trans rfl) hk4454 (qPC_in hx4456) hx4457 hx4458 (by have hw : σ4443 58 12 = (σ4443 58 12) := rfl; omega) (by have hw : σ4443 58 12 = (σ4443 58 12) := rfl; omega) (by omega)
  exact hL4461 ((12 - 0 + 1 : Int)).toNat _ 0 σ α2 (by omega) rfl rfl rfl rfl (by decide) hI3 hF5 (rfl) (rfl) (rfl) (rfl) (rfl) (rfl) (rfl) ((hG4.2 65 (by decide)).trans rfl) (qPC_0 (fun j hj => hx1 j (by omega))) (fun c hc => by rw [hG4.2 61 (by decide)]; exact p4 c hc) (fun c hc => by rw [hG4.2 63 (by decide)]; exact p5 c hc) (by have hw : σ 58 12 = (σ 58 12) := rfl; omega) (by have hw : σ 58 12 = (σ 58 12) := rfl; omega)

set_option maxHeartbeats 4000000 in
set_option maxRecDepth 20000 in
/-- OneRoof$Guests.heaviest -/
theorem sf_112_64x {L : Nat} {xs : Nat → Int} {vb : Bool} {d : Nat} {σ α : Nat → Nat → Int} {κ : Nat → Option Nat} {ρ : Nat} {x1 : Int} (hI : qI σ α κ ρ) (r1 : (-9223372036854775808) ≤ x1 ∧ x1 ≤ 9223372036854775807) : qm_T (qe L xs vb) (d + 3) 112 [.ref 64, .long (ql x1)] (qw σ α κ ρ) (fun r w' => w' = qw σ α κ ρ ∧ ∃ v : Int, r = some (.long (ql v)) ∧ ((-9223372036854775808) ≤ v ∧ v ≤ 9223372036854775807) ∧ qMst (α 65) (α 66) (qwC α 19 65) (σ 64 2) x1 v) := by
  refine qr_start (d := d + 2) qv_e112 (Nat.le_of_ble_eq_true rfl) ?_
  show qr_W (qe L xs vb) (d + 2) qx_e112 _ (0, [(0, .ref 64), (1, .long (ql x1))], [], _, 0, 0)
  have hz64_2 : 0 ≤ σ 64 2 ∧ σ 64 2 ≤ 12 := hI.1 64 2
  have hsh := qshl_r (n := σ 64 2) (by omega)
  refine qr_iconst 1 rfl rfl ?_
  refine qr_istore_n _ 2 rfl (by decide) rfl rfl ?_
  refine qr_iconst 3 rfl rfl ?_
  refine qr_istore _ 5 rfl (by decide) rfl rfl ?_
  have hL4784 : ∀ (n : Nat) (ls : qm_L) (u4777 u4779 : Int), 12 - u4779 < (n : Int) → qm_get ls 0 = some (.ref 64) → qm_get ls 1 = some (.long (ql x1)) → qm_get ls 3 = some (.int (qz u4777)) → qm_get ls 4 = some (.int (qz u4779)) → ((-2147483648) ≤ u4777 ∧ u4777 ≤ 2147483647) → (0 ≤ u4779 ∧ u4779 ≤ 12) → qNB u4777 (α 65) x1 u4779 → u4779 ≤ σ 64 2 → qr_W (qe L xs vb) (d + 2) qx_e112 (fun r w' => w' = qw σ α κ ρ ∧ ∃ v : Int, r = some (.long (ql v)) ∧ ((-9223372036854775808) ≤ v ∧ v ≤ 9223372036854775807) ∧ qMst (α 65) (α 66) (qwC α 19 65) (σ 64 2) x1 v) (5, ls, [], qw σ α κ ρ, 0, 0) := by
    intro n
    induction n with
    | zero => intro ls u4777 u4779 hm g4774 g4775 g4776 g4778 hf4780 hf4781 hx4782 hx4783; exact False.elim (by omega)
    | succ n ih4785 =>
      intro ls u4777 u4779 hm g4774 g4775 g4776 g4778 hf4780 hf4781 hx4782 hx4783
      refine qr_iload 7 rfl g4778 rfl ?_
      refine qr_aload_n 8 rfl g4774 rfl ?_
      refine qr_get 11 rfl rfl rfl (by decide) rfl ?_
      refine qr_icmp_ge 41 14 rfl rfl rfl (qrg hf4781 (by decide) (by decide)) (qrg hz64_2 (by decide) (by decide)) (fun h4786 => ?_) (fun h4786 => ?_)
      · skip
        have hB4787 := hx4782
        rw [show u4779 = σ 64 2 by omega] at hB4787
        refine qr_iconst 42 rfl rfl ?_
        refine qr_istore _ 44 rfl (by decide) rfl rfl ?_
        refine qr_iconst 45 rfl rfl ?_
        refine qr_istore _ 47 rfl (by decide) rfl rfl ?_
        refine qr_iconst 48 rfl rfl ?_
        refine qr_istore _ 50 rfl (by decide) rfl rfl ?_
        have hL5440 : ∀ (n : Nat) (ls : qm_L) (u5429 u5431 u5433 : Int), 4096 - u5433 < (n : Int) → qm_get ls 0 = some (.ref 64) → qm_get ls 3 = some (.int (qz u4777)) → qm_get ls 4 = some (.int (qz u5429)) → qm_get ls 5 = some (.int (qz u5431)) → qm_get ls 6 = some (.int (qz u5433)) → ((-1) ≤ u5429 ∧ u5429 ≤ 4095) → ((-1) ≤ u5431 ∧ u5431 ≤ 2147483647) → (0 ≤ u5433 ∧ u5433 ≤ 4096) → qmB (qMd (α 65) (α 66) (qwC α 19 65) (σ 64 2) x1) (qMc (α 66) (qwC α 19 65) (σ 64 2)) u5433 u5429 → ((u5429 = -1 ∧ u5431 = -1) ∨ (0 ≤ u5429 ∧ u5429 < u5433 ∧ u5431 = qwt (α 66) (qwC α 19 65) u5429 (σ 64 2 : Int).toNat ∧ 0 ≤ u5431)) → u5433 ≤ qz_shl 1 (σ 64 2) → qr_W (qe L xs vb) (d + 2) qx_e112 (fun r w' => w' = qw σ α κ ρ ∧ ∃ v : Int, r = some (.long (ql v)) ∧ ((-9223372036854775808) ≤ v ∧ v ≤ 9223372036854775807) ∧ qMst (α 65) (α 66) (qwC α 19 65) (σ 64 2) x1 v) (50, ls, [], qw σ α κ ρ, 0, 0) := by
          intro n
          induction n with
          | zero => intro ls u5429 u5431 u5433 hm g5426 g5427 g5428 g5430 g5432 hf5434 hf5435 hf5436 hx5437 hx5438 hx5439; exact False.elim (by omega)
          | succ n ih5441 =>
            intro ls u5429 u5431 u5433 hm g5426 g5427 g5428 g5430 g5432 hf5434 hf5435 hf5436 hx5437 hx5438 hx5439
            refine qr_iload 52 rfl g5432 rfl ?_
            refine qr_iconst 53 rfl rfl ?_
            refine qr_aload_n 54 rfl g5426 rfl ?_
            refine qr_get 57 rfl rfl rfl (by decide) rfl ?_
            refine qr_ishl 58 rfl rfl ?_
            refine qy_shl1E (N := 12) (by omega) (fun v5442 hv5442 hev5442 => ?_)
            refine qr_icmp_ge 132 61 rfl rfl rfl (qrg hf5436 (by decide) (by decide)) (by omega) (fun h5443 => ?_) (fun h5443 => ?_)
            · skip
              refine qr_iload 134 rfl g5428 rfl ?_
              refine qr_if_ge 143 137 rfl rfl rfl (qrg hf5434 (by decide) (by decide)) (fun h5444 => ?_) (fun h5444 => ?_)
              · skip
                refine qr_aload_n 144 rfl g5426 rfl ?_
                refine qr_iload 146 rfl g5428 rfl ?_
                refine qr_callN 149 rfl rfl rfl (sf_116_64x (d := d + 0) hI (by omega)) ?_
                rintro _ _ ⟨rfl, v5445, rfl, hv5445, hx5446⟩
                show qr_W (qe L xs vb) (d + 2) qx_e112 _ (149, _, [.long (ql v5445)], qw σ α κ ρ, 0, 0)
                refine qr_retL rfl rfl (by decide) (by decide) ?_
                exact ⟨rfl, v5445, rfl, hv5445, ⟨u5429, (by have hz := hx5437; rw [show u5433 = qz_shl 1 (σ 64 2) by omega] at hz; exact hz), Or.inr ⟨by omega, hx5446⟩⟩⟩
              · skip
                refine qr_ldc2 (-2) 140 rfl (by decide) rfl ?_
                refine qr_goto 149 rfl rfl ?_
                refine qr_retL rfl rfl (by decide) (by decide) ?_
                exact ⟨rfl, (-2), rfl, (by decide), ⟨u5429, (by have hz := hx5437; rw [show u5433 = qz_shl 1 (σ 64 2) by omega] at hz; exact hz), Or.inl ⟨by omega, rfl⟩⟩⟩
            · skip
              refine qr_iload 63 rfl g5432 rfl ?_
              refine qr_iload_n 64 rfl g5427 rfl ?_
              refine qr_iand 65 rfl rfl ?_
              refine qy_andlE (by omega) (fun v5447 hv5447 hev5447 => ?_)
              refine qr_iload_n 66 rfl g5427 rfl ?_
              refine qr_icmp_eq 72 69 rfl rfl rfl (by omega) hf4780 (fun h5448 => ?_) (fun h5448 => ?_)
              · skip
                refine qr_aload_n 73 rfl g5426 rfl ?_
                refine qr_iload 75 rfl g5432 rfl ?_
                refine qr_callN 78 rfl rfl rfl (sf_113_64x (d := d + 0) hI (by omega)) ?_
                rintro _ _ ⟨rfl, v5449, rfl, hv5449, hx5450⟩
                show qr_W (qe L xs vb) (d + 2) qx_e112 _ (78, _, [.int (qz v5449)], qw σ α κ ρ, 0, 0)
                refine qr_istore _ 80 rfl (by decide) rfl rfl ?_
                refine qr_iload 82 rfl (qm_ge _ _ _) rfl ?_
                refine qr_if_lt 126 85 rfl rfl rfl hv5449 (fun h5451 => ?_) (fun h5451 => ?_)
                · skip
                  refine qr_iinc _ 129 rfl (qm_gk g5432 (by decide) (Or.inr rfl)) (by decide) rfl rfl ?_
                  refine qr_goto 50 rfl rfl ?_
                  exact ih5441 _ u5429 u5431 (u5433 + 1) (by omega) (qm_gk (qm_gk g5426 (by decide) (Or.inl (by decide))) (by decide) (Or.inl (by decide))) (qm_gk (qm_gk g5427 (by decide) (Or.inl (by decide))) (by decide) (Or.inl (by decide))) (qm_gk (qm_gk g5428 (by decide) (Or.inl (by decide))) (by decide) (Or.inl (by decide))) (qm_gk (qm_gk g5430 (by decide) (Or.inl (by decide))) (by decide) (Or.inr rfl)) (qm_ge _ _ _) hf5434 hf5435 (by omega) (qmB_no (fun hd => by have hz := hd.2; rw [← hx5450] at hz; omega) hx5437) (by omega) (by omega)
                · skip
                  refine qr_iload 87 rfl (qm_ge _ _ _) rfl ?_
                  refine qr_iload 89 rfl (qm_gk g5430 (by decide) (Or.inl (by decide))) rfl ?_
                  refine qr_icmp_ge 95 92 rfl rfl rfl hv5449 (qrg hf5435 (by decide) (by decide)) (fun h5452 => ?_) (fun h5452 => ?_)
                  · skip
                    refine qr_iload 97 rfl (qm_ge _ _ _) rfl ?_
                    refine qr_iload 99 rfl (qm_gk g5430 (by decide) (Or.inl (by decide))) rfl ?_
                    refine qr_icmp_ne 118 102 rfl rfl rfl hv5449 (qrg hf5435 (by decide) (by decide)) (fun h5453 => ?_) (fun h5453 => ?_)
                    · skip
                      refine qr_iload 120 rfl (qm_gk g5432 (by decide) (Or.inr rfl)) rfl ?_
                      refine qr_istore _ 122 rfl (by decide) rfl rfl ?_
                      refine qr_iload 124 rfl (qm_gk (qm_ge _ _ _) (by decide) (Or.inl (by decide))) rfl ?_
                      refine qr_istore _ 126 rfl (by decide) rfl rfl ?_
                      refine qr_iinc _ 129 rfl (qm_gk (qm_gk (qm_gk g5432 (by decide) (Or.inr rfl)) (by decide) (Or.inl (by decide))) (by decide) (Or.inl (by decide))) (by decide) rfl rfl ?_
                      refine qr_goto 50 rfl rfl ?_
                      exact ih5441 _ u5433 v5449 (u5433 + 1) (by omega) (qm_gk (qm_gk (qm_gk (qm_gk g5426 (by decide) (Or.inl (by decide))) (by decide) (Or.inl (by decide))) (by decide) (Or.inl (by decide))) (by decide) (Or.inl (by decide))) (qm_gk (qm_gk (qm_gk (qm_gk g5427 (by decide) (Or.inl (by decide))) (by decide) (Or.inr rfl)) (by decide) (Or.inl (by decide))) (by decide) (Or.inl (by decide))) (qm_gk (qm_gk (qm_ge _ _ _) (by decide) (Or.inr rfl)) (by decide) (Or.inl (by decide))) (qm_gk (qm_ge _ _ _) (by decide) (Or.inr rfl)) (qm_ge _ _ _) (by omega) (by omega) (by omega) (qmB_hi (by omega) ⟨qNd_y hB4787 (by omega) (by rw [← hev5447]; omega), by rw [← hx5450]; omega⟩ (by rcases hx5438 with hz | hz; (exact Or.inl hz.1); (refine Or.inr ?_; have ka : (qMc (α 66) (qwC α 19 65) (σ 64 2)) u5433 = qwt (α 66) (qwC α 19 65) u5433 (σ 64 2 : Int).toNat * 16 + qpn u5433 := rfl; have kb : (qMc (α 66) (qwC α 19 65) (σ 64 2)) u5429 = qwt (α 66) (qwC α 19 65) u5429 (σ 64 2 : Int).toNat * 16 + qpn u5429 := rfl; have kc := qpn_r (x := u5433) (by omega); have kd := qpn_r (x := u5429) (by omega); have kw := hx5450; omega)) hx5437) (Or.inr ⟨by omega, by omega, hx5450, by omega⟩) (by omega)
                    · skip
                      refine qr_iload 104 rfl (qm_gk g5432 (by decide) (Or.inr rfl)) rfl ?_
                      refine qr_callN 107 rfl rfl rfl (sf_115x (d := d + 1) hI (by omega)) ?_
                      rintro _ _ ⟨rfl, v5454, rfl, hv5454, hp5455⟩
                      show qr_W (qe L xs vb) (d + 2) qx_e112 _ (107, _, [.int (qz v5454)], qw σ α κ ρ, 0, 0)
                      refine qr_iload 109 rfl (qm_gk g5428 (by decide) (Or.inl (by decide))) rfl ?_
                      refine qr_callN 112 rfl rfl rfl (sf_115x (d := d + 1) hI (by omega)) ?_
                      rintro _ _ ⟨rfl, v5456, rfl, hv5456, hp5457⟩
                      show qr_W (qe L xs vb) (d + 2) qx_e112 _ (112, _, [.int (qz v5456), .int (qz v5454)], qw σ α κ ρ, 0, 0)
                      refine qr_icmp_gt 118 115 rfl rfl rfl (qrg hv5454 (by decide) (by decide)) (qrg hv5456 (by decide) (by decide)) (fun h5458 => ?_) (fun h5458 => ?_)
                      · skip
                        refine qr_iload 120 rfl (qm_gk g5432 (by decide) (Or.inr rfl)) rfl ?_
                        refine qr_istore _ 122 rfl (by decide) rfl rfl ?_
                        refine qr_iload 124 rfl (qm_gk (qm_ge _ _ _) (by decide) (Or.inl (by decide))) rfl ?_
                        refine qr_istore _ 126 rfl (by decide) rfl rfl ?_
                        refine qr_iinc _ 129 rfl (qm_gk (qm_gk (qm_gk g5432 (by decide) (Or.inr rfl)) (by decide) (Or.inl (by decide))) (by decide) (Or.inl (by decide))) (by decide) rfl rfl ?_
                        refine qr_goto 50 rfl rfl ?_
                        exact ih5441 _ u5433 v5449 (u5433 + 1) (by omega) (qm_gk (qm_gk (qm_gk (qm_gk g5426 (by decide) (Or.inl (by decide))) (by decide) (Or.inl (by decide))) (by decide) (Or.inl (by decide))) (by decide) (Or.inl (by decide))) (qm_gk (qm_gk (qm_gk (qm_gk g5427 (by decide) (Or.inl (by decide))) (by decide) (Or.inr rfl)) (by decide) (Or.inl (by decide))) (by decide) (Or.inl (by decide))) (qm_gk (qm_gk (qm_ge _ _ _) (by decide) (Or.inr rfl)) (by decide) (Or.inl (by decide))) (qm_gk (qm_ge _ _ _) (by decide) (Or.inr rfl)) (qm_ge _ _ _) (by omega) (by omega) (by omega) (qmB_hi (by omega) ⟨qNd_y hB4787 (by omega) (by rw [← hev5447]; omega), by rw [← hx5450]; omega⟩ (by rcases hx5438 with hz | hz; (exact Or.inl hz.1); (refine Or.inr ?_; have ka : (qMc (α 66) (qwC α 19 65) (σ 64 2)) u5433 = qwt (α 66) (qwC α 19 65) u5433 (σ 64 2 : Int).toNat * 16 + qpn u5433 := rfl; have kb : (qMc (α 66) (qwC α 19 65) (σ 64 2)) u5429 = qwt (α 66) (qwC α 19 65) u5429 (σ 64 2 : Int).toNat * 16 + qpn u5429 := rfl; have kc := qpn_r (x := u5433) (by omega); have kd := qpn_r (x := u5429) (by omega); have kw := hx5450; omega)) hx5437) (Or.inr ⟨by omega, by omega, hx5450, by omega⟩) (by omega)
                      · skip
                        refine qr_goto 126 rfl rfl ?_
                        refine qr_iinc _ 129 rfl (qm_gk g5432 (by decide) (Or.inr rfl)) (by decide) rfl rfl ?_
                        refine qr_goto 50 rfl rfl ?_
                        exact ih5441 _ u5429 u5431 (u5433 + 1) (by omega) (qm_gk (qm_gk g5426 (by decide) (Or.inl (by decide))) (by decide) (Or.inl (by decide))) (qm_gk (qm_gk g5427 (by decide) (Or.inl (by decide))) (by decide) (Or.inl (by decide))) (qm_gk (qm_gk g5428 (by decide) (Or.inl (by decide))) (by decide) (Or.inl (by decide))) (qm_gk (qm_gk g5430 (by decide) (Or.inl (by decide))) (by decide) (Or.inr rfl)) (qm_ge _ _ _) hf5434 hf5435 (by omega) (qmB_lo (by omega) (by have ka : (qMc (α 66) (qwC α 19 65) (σ 64 2)) u5433 = qwt (α 66) (qwC α 19 65) u5433 (σ 64 2 : Int).toNat * 16 + qpn u5433 := rfl; have kb : (qMc (α 66) (qwC α 19 65) (σ 64 2)) u5429 = qwt (α 66) (qwC α 19 65) u5429 (σ 64 2 : Int).toNat * 16 + qpn u5429 := rfl; have kc := qpn_r (x := u5433) (by omega); have kd := qpn_r (x := u5429) (by omega); have kw := hx5450; omega) hx5437) (by omega) (by omega)
                  · skip
                    refine qr_goto 126 rfl rfl ?_
                    refine qr_iinc _ 129 rfl (qm_gk g5432 (by decide) (Or.inr rfl)) (by decide) rfl rfl ?_
                    refine qr_goto 50 rfl rfl ?_
                    exact ih5441 _ u5429 u5431 (u5433 + 1) (by omega) (qm_gk (qm_gk g5426 (by decide) (Or.inl (by decide))) (by decide) (Or.inl (by decide))) (qm_gk (qm_gk g5427 (by decide) (Or.inl (by decide))) (by decide) (Or.inl (by decide))) (qm_gk (qm_gk g5428 (by decide) (Or.inl (by decide))) (by decide) (Or.inl (by decide))) (qm_gk (qm_gk g5430 (by decide) (Or.inl (by decide))) (by decide) (Or.inr rfl)) (qm_ge _ _ _) hf5434 hf5435 (by omega) (qmB_lo (by omega) (by have ka : (qMc (α 66) (qwC α 19 65) (σ 64 2)) u5433 = qwt (α 66) (qwC α 19 65) u5433 (σ 64 2 : Int).toNat * 16 + qpn u5433 := rfl; have kb : (qMc (α 66) (qwC α 19 65) (σ 64 2)) u5429 = qwt (α 66) (qwC α 19 65) u5429 (σ 64 2 : Int).toNat * 16 + qpn u5429 := rfl; have kc := qpn_r (x := u5433) (by omega); have kd := qpn_r (x := u5429) (by omega); have kw := hx5450; omega) hx5437) (by omega) (by omega)
              · skip
                refine qr_goto 126 rfl rfl ?_
                refine qr_iinc _ 129 rfl g5432 (by decide) rfl rfl ?_
                refine qr_goto 50 rfl rfl ?_
                exact ih5441 _ u5429 u5431 (u5433 + 1) (by omega) (qm_gk g5426 (by decide) (Or.inl (by decide))) (qm_gk g5427 (by decide) (Or.inl (by decide))) (qm_gk g5428 (by decide) (Or.inl (by decide))) (qm_gk g5430 (by decide) (Or.inr rfl)) (qm_ge _ _ _) hf5434 hf5435 (by omega) (qmB_no (fun hd => qNd_n hB4787 (by omega) (by rw [← hev5447]; omega) hd.1) hx5437) (by omega) (by omega)
        exact hL5440 ((4096 - 0 + 1 : Int)).toNat _ (-1) (-1) 0 (by omega) (qm_gk (qm_gk (qm_gk g4774 (by decide) (Or.inl (by decide))) (by decide) (Or.inl (by decide))) (by decide) (Or.inl (by decide))) (qm_gk (qm_gk (qm_gk g4776 (by decide) (Or.inr rfl)) (by decide) (Or.inl (by decide))) (by decide) (Or.inl (by decide))) (qm_gk (qm_gk (qm_ge _ _ _) (by decide) (Or.inr rfl)) (by decide) (Or.inl (by decide))) (qm_gk (qm_ge _ _ _) (by decide) (Or.inr rfl)) (qm_ge _ _ _) (by decide) (by decide) (by decide) (qmB_0 _ _) (Or.inl ⟨rfl, rfl⟩) (by omega)
      · skip
        refine qr_lload_n 15 rfl g4775 rfl ?_
        refine qr_aload_n 16 rfl g4774 rfl ?_
        refine qr_get 19 rfl rfl rfl (by decide) rfl ?_
        refine qr_iload 21 rfl g4778 rfl ?_
        refine qr_iaload 22 rfl rfl (by omega) (by decide) rfl ?_
        refine qr_topI (fun v5459 hv5459 => ?_)
        have hs5460 : 0 ≤ v5459 ∧ v5459 ≤ 31 := by rw [hv5459]; exact hI.2.1 65 _ (show _ < 12 by omega)
        refine qr_callN 25 rfl rfl rfl (sf_50b (d := d + 1) hI r1 (qrg hs5460 (by decide) (by decide))) ?_
        rintro _ _ ⟨rfl, v5461, rfl, hv5461, hp5462⟩
        show qr_W (qe L xs vb) (d + 2) qx_e112 _ (25, _, [.int (qz v5461)], qw σ α κ ρ, 0, 0)
        refine qr_if_eq 35 28 rfl rfl rfl (qrg hv5461 (by decide) (by decide)) (fun h5463 => ?_) (fun h5463 => ?_)
        · skip
          refine qr_iinc _ 38 rfl g4778 (by decide) rfl rfl ?_
          refine qr_goto 5 rfl rfl ?_
          exact ih4785 _ u4777 (u4779 + 1) (by omega) (qm_gk g4774 (by decide) (Or.inl (by decide))) (qm_gk g4775 (by decide) (Or.inl (by decide))) (qm_gk g4776 (by decide) (Or.inr rfl)) (qm_ge _ _ _) hf4780 (by omega) (qNB_n hx4782 (by rw [← hv5459]; omega)) (by omega)
        · skip
          refine qr_iload_n 29 rfl g4776 rfl ?_
          refine qr_iconst 30 rfl rfl ?_
          refine qr_iload 32 rfl g4778 rfl ?_
          refine qr_ishl 33 rfl rfl ?_
          refine qy_shl1E (N := 11) (by omega) (fun v5464 hv5464 hev5464 => ?_)
          refine qr_ior 34 rfl rfl ?_
          refine qy_canE (fun v5465 hv5465 hev5465 => ?_)
          refine qr_istore_n _ 35 rfl (by decide) rfl rfl ?_
          refine qr_iinc _ 38 rfl (qm_gk g4778 (by decide) (Or.inl (by decide))) (by decide) rfl rfl ?_
          refine qr_goto 5 rfl rfl ?_
          exact ih4785 _ v5465 (u4779 + 1) (by omega) (qm_gk (qm_gk g4774 (by decide) (Or.inl (by decide))) (by decide) (Or.inl (by decide))) (qm_gk (qm_gk g4775 (by decide) (Or.inl (by decide))) (by decide) (Or.inl (by decide))) (qm_gk (qm_ge _ _ _) (by decide) (Or.inr rfl)) (qm_ge _ _ _) hv5465 (by omega) (qNB_y hx4782 (by omega) (by rw [← hv5459]; omega) (by rw [qz_val hev5465 (by omega) (qz_or_r _ _), hev5464])) (by omega)
  exact hL4784 ((12 - 0 + 1 : Int)).toNat _ 0 0 (by omega) rfl rfl rfl rfl (by decide) (by decide) (qNB_0 _ _) (by omega)

set_option maxHeartbeats 4000000 in
set_option maxRecDepth 20000 in
/-- OneRoof.most -/
theorem sf_108_16x {L : Nat} {xs : Nat → Int} {vb : Bool} {d : Nat} {σ α : Nat → Nat → Int} {κ : Nat → Option Nat} {ρ : Nat} {x1 : Int} {x2 : Int} {x3 : Int} {f : (Nat → Int) → Int} (hI : qI σ α κ ρ) (r1 : (-9223372036854775808) ≤ x1 ∧ x1 ≤ 9223372036854775807) (r2 : (-9223372036854775808) ≤ x2 ∧ x2 ≤ 9223372036854775807) (r3 : (-2147483648) ≤ x3 ∧ x3 ≤ 2147483647) (p0 : qPW σ α κ (0 : Int).toNat f) (p1 : qZp σ α) (p2 : σ 58 10 = 0) (p3 : ∀ c : Nat, c < 496 → α 61 c ≤ σ 58 12) (p4 : ∀ c : Nat, c < 496 → α 63 c ≤ σ 58 12) (p5 : 0 ≤ σ 58 12 ∧ σ 58 12 ≤ 1900000000) : qm_T (qe L xs vb) (d + 8) 108 [.ref 16, .long (ql x1), .long (ql x2), .int (qz x3)] (qw σ α κ ρ) (fun r w' => ∃ σ' α', w' = qw σ' α' κ ρ ∧ qI σ' α' κ ρ ∧ qFr [(58, 11), (58, 12), (64, 2)] [53, 57, 59, 60, 61, 62, 63, 65, 66, 85] σ α σ' α' ∧ ∃ v : Int, r = some (.long (ql v)) ∧ ((-9223372036854775808) ≤ v ∧ v ≤ 9223372036854775807) ∧ ((v = -1 ∧ ¬ (qst x1 (σ 17 6) ∧ ql_and x2 (ql_xor x1 (-1)) = 0 ∧ 0 ≤ x3 ∧ x3 / 10000 ≤ x3 % 10000 ∧ x3 % 10000 ≤ 2399 ∧ x3 % 10000 - x3 / 10000 < 48 ∧ ¬ (ql_and x1 (ql_xor (σ 17 5) (-1))) = 0 ∧ qcn (ql_and x1 (ql_xor (σ 17 5) (-1))) 64 ≤ 12)) ∨ ((qst x1 (σ 17 6) ∧ ql_and x2 (ql_xor x1 (-1)) = 0 ∧ 0 ≤ x3 ∧ x3 / 10000 ≤ x3 % 10000 ∧ x3 % 10000 ≤ 2399 ∧ x3 % 10000 - x3 / 10000 < 48 ∧ ¬ (ql_and x1 (ql_xor (σ 17 5) (-1))) = 0 ∧ qcn (ql_and x1 (ql_xor (σ 17 5) (-1))) 64 ≤ 12) ∧ qLs (α' 65) (σ' 64 2) (qBr (fun k : Nat => qbit (ql_and x1 (ql_xor (σ 17 5) (-1))) (k : Int)) 32) ∧ qBR (qPF (fun a b : Int => qBaC σ α f (α' 65 (a : Int).toNat) (α' 65 (b : Int).toNat) (x3 / 10000) (x3 % 10000)) (σ' 64 2)) (α' 66) (σ' 64 2) ∧ qMst (α' 65) (α' 66) (qwC α' 19 65) (σ' 64 2) (ql_and x2 (ql_and x1 (ql_xor (σ 17 5) (-1)))) v)) ∧ (∀ c : Nat, c < 496 → α' 61 c ≤ σ' 58 12) ∧ (∀ c : Nat, c < 496 → α' 63 c ≤ σ' 58 12) ∧ (0 ≤ σ' 58 12 ∧ σ' 58 12 ≤ σ 58 12 + 6912)) := by
  refine qr_start (d := d + 7) qv_e108 (Nat.le_of_ble_eq_true rfl) ?_
  show qr_W (qe L xs vb) (d + 7) qx_e108 _ (0, [(0, .ref 16), (1, .long (ql x1)), (3, .long (ql x2)), (5, .int (qz x3))], [], _, 0, 0)
  have hF0 := qFr_rf [(58, 11), (58, 12), (64, 2)] [53, 57, 59, 60, 61, 62, 63, 65, 66, 85] σ α
  have hz58_10 : (-9223372036854775808) ≤ σ 58 10 ∧ σ 58 10 ≤ 9223372036854775807 := hI.1 58 10
  have hz58_12 : (-2147483648) ≤ σ 58 12 ∧ σ 58 12 ≤ 2147483647 := hI.1 58 12
  have hz17_5 : (-9223372036854775808) ≤ σ 17 5 ∧ σ 17 5 ≤ 9223372036854775807 := hI.1 17 5
  have hz17_6 : 0 ≤ σ 17 6 ∧ σ 17 6 ≤ 32 := hI.1 17 6
  have hz27_6 : (-9223372036854775808) ≤ σ 27 6 ∧ σ 27 6 ≤ 9223372036854775807 := hI.1 27 6
  have hz27_7 : 0 ≤ σ 27 7 ∧ σ 27 7 ≤ 40 := hI.1 27 7
  have hz34_7 : 0 ≤ σ 34 7 ∧ σ 34 7 ≤ 60 := hI.1 34 7
  have hz58_11 : (-2147483648) ≤ σ 58 11 ∧ σ 58 11 ≤ 2147483647 := hI.1 58 11
  have hz64_2 : 0 ≤ σ 64 2 ∧ σ 64 2 ≤ 12 := hI.1 64 2
  refine qr_aload_n 1 rfl rfl rfl ?_
  refine qr_get 4 rfl rfl rfl (by decide) rfl ?_
  refine qr_lload_n 5 rfl rfl rfl ?_
  refine qr_callN 8 rfl rfl rfl (sf_88_17x (d := d + 6) hI r1) ?_
  have hs3 : 0 ≤ σ 17 6 ∧ σ 17 6 ≤ 32 := hI.1 17 6
  rintro _ _ ⟨rfl, v1, rfl, hv1, hp2⟩
  show qr_W (qe L xs vb) (d + 7) qx_e108 _ (8, _, [.int (qz v1)], qw σ α κ ρ, 0, 0)
  refine qr_if_eq 31 11 rfl rfl rfl (qrg hv1 (by decide) (by decide)) (fun h4 => ?_) (fun h4 => ?_)
  · skip
    refine qr_ldc2 (-1) 34 rfl (by decide) rfl ?_
    refine qr_retL rfl rfl (by decide) (by decide) ?_
    exact ⟨_, _, rfl, hI, hF0, (-1), rfl, (by decide), (Or.inl ⟨rfl, (fun hc => by obtain ⟨c1, c2, c3, c4, c5, c6, c7, c8⟩ := hc; first | omega | (have hz := hp2; rcases hz with hz | hz; (omega); (exact hz.2 c1)))⟩), p3, p4, (by omega)⟩
  · skip
    refine qr_lload_n 12 rfl rfl rfl ?_
    refine qr_lload_n 13 rfl rfl rfl ?_
    refine qr_ldc2 (-1) 16 rfl (by decide) rfl ?_
    refine qr_lxor 17 rfl rfl ?_
    refine qy_canlE (fun v5 hv5 hev5 => ?_)
    refine qr_land 18 rfl rfl ?_
    refine qy_canlE (fun v6 hv6 hev6 => ?_)
    have hz7 : v6 = ql_and x2 (ql_xor x1 (-1)) := by rw [ql_val hev6 (by omega) (ql_and_r _ _), ql_val hev5 (by omega) (ql_xor_r _ _)]
    refine qr_lconst 19 rfl rfl ?_
    refine qy_vl 0 rfl ?_
    refine qr_lc_ne 31 23 rfl rfl rfl rfl hv6 (by decide) (fun h8 => ?_) (fun h8 => ?_)
    · skip
      refine qr_ldc2 (-1) 34 rfl (by decide) rfl ?_
      refine qr_retL rfl rfl (by decide) (by decide) ?_
      exact ⟨_, _, rfl, hI, hF0, (-1), rfl, (by decide), (Or.inl ⟨rfl, (fun hc => by obtain ⟨c1, c2, c3, c4, c5, c6, c7, c8⟩ := hc; first | omega | (have hz := hp2; rcases hz with hz | hz; (omega); (exact hz.2 c1)) | (rw [← hz7] at c2; omega))⟩), p3, p4, (by omega)⟩
    · skip
      refine qr_iload 25 rfl rfl rfl ?_
      refine qr_callN 28 rfl rfl rfl (sf_100 (d := d + 4) hI r3) ?_
      rintro _ _ ⟨rfl, v9, rfl, hv9, hp10⟩
      show qr_W (qe L xs vb) (d + 7) qx_e108 _ (28, _, [.int (qz v9)], qw σ α κ ρ, 0, 0)
      refine qr_if_ne 35 31 rfl rfl rfl (qrg hv9 (by decide) (by decide)) (fun h11 => ?_) (fun h11 => ?_)
      · skip
        refine qr_lload_n 36 rfl rfl rfl ?_
        refine qr_aload_n 37 rfl rfl rfl ?_
        refine qr_get 40 rfl rfl rfl (by decide) rfl ?_
        refine qr_get 43 rfl rfl rfl (by decide) rfl ?_
        refine qr_ldc2 (-1) 46 rfl (by decide) rfl ?_
        refine qr_lxor 47 rfl rfl ?_
        refine qy_canlE (fun v12 hv12 hev12 => ?_)
        refine qr_land 48 rfl rfl ?_
        refine qy_canlE (fun v13 hv13 hev13 => ?_)
        refine qr_lstore _ 50 rfl (by decide) rfl rfl ?_
        have hv14 : v13 = ql_and x1 (ql_xor (σ 17 5) (-1)) := by rw [ql_val hev13 (by omega) (ql_and_r _ _), ql_val hev12 (by omega) (ql_xor_r _ _)]
        refine qr_lload 52 rfl rfl rfl ?_
        refine qr_bipush 54 rfl (by decide) rfl ?_
        refine qr_callN 57 rfl rfl rfl (sf_109x (d := d + 5) hI hv13 (by decide)) ?_
        rintro _ _ ⟨rfl, v15, rfl, hv15, hp16⟩
        show qr_W (qe L xs vb) (d + 7) qx_e108 _ (57, _, [.int (qz v15)], qw σ α κ ρ, 0, 0)
        refine qr_if_ne 64 60 rfl rfl rfl (qrg hv15 (by decide) (by decide)) (fun h17 => ?_) (fun h17 => ?_)
        · skip
          refine qr_aload_n 65 rfl rfl rfl ?_
          refine qr_get 68 rfl rfl rfl (by decide) rfl ?_
          refine qr_lload 70 rfl rfl rfl ?_
          refine qr_callN 73 rfl rfl rfl (sf_110_64x (d := d + 5) hI hv13 (by omega)) ?_
          rintro _ _ ⟨σ19, α20, rfl, hI21, hG22, rfl, hx18⟩
          have hF23 : qFr [(58, 11), (58, 12), (64, 2)] [53, 57, 59, 60, 61, 62, 63, 65, 66, 85] σ α σ19 α20 := qFr_t hF0 hG22 (by decide) (by decide)
          show qr_W (qe L xs vb) (d + 7) qx_e108 _ (73, _, [], qw σ19 α20 κ ρ, 0, 0)
          rw [hv14] at hx18
          refine qr_aload_n 74 rfl rfl rfl ?_
          refine qr_get 77 rfl rfl rfl (by decide) rfl ?_
          refine qr_iload 79 rfl rfl rfl ?_
          refine qr_sipush 82 rfl (by decide) rfl ?_
          refine qr_idiv 83 rfl (by omega) (by decide) rfl ?_
          refine qr_iload 85 rfl rfl rfl ?_
          refine qr_sipush 88 rfl (by decide) rfl ?_
          refine qr_irem 89 rfl (by omega) (by decide) rfl ?_
          have hs24 : (-9223372036854775808) ≤ σ19 58 10 ∧ σ19 58 10 ≤ 9223372036854775807 := hI21.1 58 10
          have hs25 : σ19 58 10 = (σ 58 10) := (hG22.1 58 10 (by decide)).trans rfl
          have hs26 : (-2147483648) ≤ σ19 58 12 ∧ σ19 58 12 ≤ 2147483647 := hI21.1 58 12
          have hs27 : σ19 58 12 = (σ 58 12) := (hG22.1 58 12 (by decide)).trans rfl
          refine qr_callN 92 rfl rfl rfl (sf_111_64x (d := d + 0) hI21 (by omega) (by omega) (by omega) (qPW_fr hF23 (by decide) (by decide) p0) (qZp_fr hF23 (by decide) (by decide) p1) ((hF23.1 58 10 (by decide)).trans p2) (fun c hc => by rw [hG22.2 61 (by decide), hG22.1 58 12 (by decide)]; exact p3 c hc) (fun c hc => by rw [hG22.2 63 (by decide), hG22.1 58 12 (by decide)]; exact p4 c hc) (by omega)) ?_
          rintro _ _ ⟨σ33, α34, rfl, hI35, hG36, hw31, hw32, rfl, hx28, hx29, hx30⟩
          have hF37 : qFr [(58, 11), (58, 12), (64, 2)] [53, 57, 59, 60, 61, 62, 63, 65, 66, 85] σ α σ33 α34 := qFr_t hF23 hG36 (by decide) (by decide)
          have hs38 : (-2147483648) ≤ σ33 58 12 ∧ σ33 58 12 ≤ 2147483647 := hI35.1 58 12
          show qr_W (qe L xs vb) (d + 7) qx_e108 _ (92, _, [], qw σ33 α34 κ ρ, 0, 0)
          rw [qBaC_fr hF23 (by decide) (by decide)] at hx28
          refine qr_aload_n 93 rfl rfl rfl ?_
          refine qr_get 96 rfl rfl rfl (by decide) rfl ?_
          refine qr_lload_n 97 rfl rfl rfl ?_
          refine qr_lload 99 rfl rfl rfl ?_
          refine qr_land 100 rfl rfl ?_
          refine qy_canlE (fun v39 hv39 hev39 => ?_)
          have hn40 : v39 = ql_and x2 (ql_and x1 (ql_xor (σ 17 5) (-1))) := by rw [ql_val hev39 (by omega) (ql_and_r _ _), hv14]
          refine qr_callN 103 rfl rfl rfl (sf_112_64x (d := d + 4) hI35 hv39) ?_
          rintro _ _ ⟨rfl, v41, rfl, hv41, hx42⟩
          show qr_W (qe L xs vb) (d + 7) qx_e108 _ (103, _, [.long (ql v41)], qw σ33 α34 κ ρ, 0, 0)
          refine qr_retL rfl rfl (by decide) (by decide) ?_
          exact ⟨_, _, rfl, hI35, hF37, v41, rfl, hv41, (Or.inr ⟨⟨(by have hz := hp2; rcases hz with hz | hz; (exact hz.2); (exact absurd hz.1 (by omega))), by rw [← hz7]; omega, by omega, by omega, by omega, by omega, by rw [← hv14]; omega, by rw [← hv14]; omega⟩, (by rw [hG36.2 65 (by decide), hG36.1 64 2 (by decide)]; exact hx18), (by rw [hG36.2 65 (by decide), hG36.1 64 2 (by decide)]; exact hx28), (by have hz := hx42; rw [hn40] at hz; exact hz)⟩), hx29, hx30, (by have hw1 := hw31; have hw2 := hw32; have hw3 := hG22.1 58 12 (by decide); omega)⟩
        · skip
          refine qr_ldc2 (-1) 63 rfl (by decide) rfl ?_
          refine qr_retL rfl rfl (by decide) (by decide) ?_
          exact ⟨_, _, rfl, hI, hF0, (-1), rfl, (by decide), (Or.inl ⟨rfl, (fun hc => by obtain ⟨c1, c2, c3, c4, c5, c6, c7, c8⟩ := hc; first | omega | (have hz := hp2; rcases hz with hz | hz; (omega); (exact hz.2 c1)) | (rw [← hz7] at c2; omega) | (rw [← hv14] at c7 c8; omega))⟩), p3, p4, (by omega)⟩
      · skip
        refine qr_ldc2 (-1) 34 rfl (by decide) rfl ?_
        refine qr_retL rfl rfl (by decide) (by decide) ?_
        exact ⟨_, _, rfl, hI, hF0, (-1), rfl, (by decide), (Or.inl ⟨rfl, (fun hc => by obtain ⟨c1, c2, c3, c4, c5, c6, c7, c8⟩ := hc; first | omega | (have hz := hp2; rcases hz with hz | hz; (omega); (exact hz.2 c1)) | (rw [← hz7] at c2; omega))⟩), p3, p4, (by omega)⟩

set_option maxHeartbeats 4000000 in
set_option maxRecDepth 20000 in
/-- OneRoofModel.findSets -/
theorem sf_235_86x {L : Nat} {xs : Nat → Int} {vb : Bool} {d : Nat} {σ α : Nat → Nat → Int} {κ : Nat → Option Nat} {ρ : Nat} {x1 : Int} {g : (Nat → Int) → Int} (hI : qI σ α κ ρ) (r1 : 0 ≤ x1 ∧ x1 ≤ 23999999) (p0 : 1 ≤ σ 86 6) (p1 : σ 86 43 ≤ 12) (p2 : qPG σ α 0 g) (p3 : qZf σ α) (p4 : σ 86 41 = 0) (p5 : ∀ p : Nat, p < 32 → 0 ≤ α 92 p ∧ α 92 p ≤ 99) (p6 : qSr (α 110) (σ 86 43) (σ 86 6)) (p7 : qZk σ α) (p8 : σ 86 29 = 0) : qm_T (qe L xs vb) (d + 49) 235 [.ref 86, .int (qz x1)] (qw σ α κ ρ) (fun r w' => ∃ σ' α', w' = qw σ' α' κ ρ ∧ qI σ' α' κ ρ ∧ qFr [(86, 15), (86, 23), (86, 30), (86, 35), (86, 36), (86, 37), (86, 38), (86, 39), (86, 41)] [96, 109, 111, 112] σ α σ' α' ∧ σ' 86 41 = 0 ∧ r = none ∧ qBR (qPF (fun a b : Int => qBaM σ α g (α 110 (a : Int).toNat) (α 110 (b : Int).toNat) (x1 / 10000) (x1 % 10000)) (σ 86 43)) (α' 111) (σ 86 43) ∧ (∀ u : Int, 0 ≤ u → u < qz_shl 1 (σ 86 43) → α' 112 (u : Int).toNat = qwt (α' 111) (qwC α' 92 110) u (σ 86 43 : Int).toNat)) := by
  refine qr_start (d := d + 48) qv_e235 (Nat.le_of_ble_eq_true rfl) ?_
  show qr_W (qe L xs vb) (d + 48) qx_e235 _ (0, [(0, .ref 86), (1, .int (qz x1))], [], _, 0, 0)
  have hF0 := qFr_rf [(86, 15), (86, 23), (86, 30), (86, 35), (86, 36), (86, 37), (86, 38), (86, 39), (86, 41)] [96, 109, 111, 112] σ α
  have hz86_6 : 0 ≤ σ 86 6 ∧ σ 86 6 ≤ 32 := hI.1 86 6
  have hz86_43 : 0 ≤ σ 86 43 ∧ σ 86 43 ≤ 32 := hI.1 86 43
  have hz86_41 : 0 ≤ σ 86 41 ∧ σ 86 41 ≤ 1 := hI.1 86 41
  have hz86_29 : (-9223372036854775808) ≤ σ 86 29 ∧ σ 86 29 ≤ 9223372036854775807 := hI.1 86 29
  have hz86_10 : (-9223372036854775808) ≤ σ 86 10 ∧ σ 86 10 ≤ 9223372036854775807 := hI.1 86 10
  have hz86_24 : 0 ≤ σ 86 24 ∧ σ 86 24 ≤ 60 := hI.1 86 24
  refine qr_iconst 1 rfl rfl ?_
  refine qr_istore_n _ 2 rfl (by decide) rfl rfl ?_
  have hL621485 : ∀ (n : Nat) (ls : qm_L) (u621475 : Int) (α621477 : Nat → Nat → Int), 12 - u621475 < (n : Int) → qm_get ls 0 = some (.ref 86) → qm_get ls 1 = some (.int (qz x1)) → qm_get ls 2 = some (.int (qz u621475)) → (0 ≤ u621475 ∧ u621475 ≤ 12) → qI σ α621477 κ ρ → qFr [(86, 15), (86, 23), (86, 30), (86, 35), (86, 36), (86, 37), (86, 38), (86, 39), (86, 41)] [96, 109, 111, 112] σ α σ α621477 → α621477 92 = (α 92) → α621477 110 = (α 110) → α621477 112 = (α 112) → (∀ j : Nat, (j : Int) < u621475 → α621477 111 j = 0) → qr_W (qe L xs vb) (d + 48) qx_e235 (fun r w' => ∃ σ' α', w' = qw σ' α' κ ρ ∧ qI σ' α' κ ρ ∧ qFr [(86, 15), (86, 23), (86, 30), (86, 35), (86, 36), (86, 37), (86, 38), (86, 39), (86, 41)] [96, 109, 111, 112] σ α σ' α' ∧ σ' 86 41 = 0 ∧ r = none ∧ qBR (qPF (fun a b : Int => qBaM σ α g (α 110 (a : Int).toNat) (α 110 (b : Int).toNat) (x1 / 10000) (x1 % 10000)) (σ 86 43)) (α' 111) (σ 86 43) ∧ (∀ u : Int, 0 ≤ u → u < qz_shl 1 (σ 86 43) → α' 112 (u : Int).toNat = qwt (α' 111) (qwC α' 92 110) u (σ 86 43 : Int).toNat)) (2, ls, [], qw σ α621477 κ ρ, 0, 0) := by
    intro n
    induction n with
    | zero => intro ls u621475 α621477 hm g621472 g621473 g621474 hf621483 hI621478 hF621479 hk621480 hk621481 hk621482 hx621484; exact False.elim (by omega)
    | succ n ih621486 =>
      intro ls u621475 α621477 hm g621472 g621473 g621474 hf621483 hI621478 hF621479 hk621480 hk621481 hk621482 hx621484
      refine qr_iload_n 3 rfl g621474 rfl ?_
      refine qr_aload_n 4 rfl g621472 rfl ?_
      refine qr_get 7 rfl rfl rfl (by decide) rfl ?_
      refine qr_icmp_ge 23 10 rfl rfl rfl (qrg hf621483 (by decide) (by decide)) (qrg hz86_43 (by decide) (by decide)) (fun h621487 => ?_) (fun h621487 => ?_)
      · skip
        refine qr_iconst 24 rfl rfl ?_
        refine qr_istore_n _ 25 rfl (by decide) rfl rfl ?_
        have hL709708 : ∀ (n : Nat) (ls : qm_L) (u709692 : Int) (σ709693 α709694 : Nat → Nat → Int), 12 - u709692 < (n : Int) → qm_get ls 0 = some (.ref 86) → qm_get ls 1 = some (.int (qz x1)) → qm_get ls 2 = some (.int (qz u709692)) → (0 ≤ u709692 ∧ u709692 ≤ 12) → qI σ709693 α709694 κ ρ → qFr [(86, 15), (86, 23), (86, 30), (86, 35), (86, 36), (86, 37), (86, 38), (86, 39), (86, 41)] [96, 109, 111, 112] σ α σ709693 α709694 → σ709693 86 6 = (σ 86 6) → σ709693 86 10 = (σ 86 10) → σ709693 86 24 = (σ 86 24) → σ709693 86 29 = (σ 86 29) → σ709693 86 43 = (σ 86 43) → α709694 92 = (α 92) → α709694 110 = (α 110) → qBR (qPR (fun a b : Int => qBaM σ α g (α 110 (a : Int).toNat) (α 110 (b : Int).toNat) (x1 / 10000) (x1 % 10000)) u709692 0) (α709694 111) (σ 86 43) → σ709693 86 41 = 0 → u709692 ≤ σ 86 43 → qr_W (qe L xs vb) (d + 48) qx_e235 (fun r w' => ∃ σ' α', w' = qw σ' α' κ ρ ∧ qI σ' α' κ ρ ∧ qFr [(86, 15), (86, 23), (86, 30), (86, 35), (86, 36), (86, 37), (86, 38), (86, 39), (86, 41)] [96, 109, 111, 112] σ α σ' α' ∧ σ' 86 41 = 0 ∧ r = none ∧ qBR (qPF (fun a b : Int => qBaM σ α g (α 110 (a : Int).toNat) (α 110 (b : Int).toNat) (x1 / 10000) (x1 % 10000)) (σ 86 43)) (α' 111) (σ 86 43) ∧ (∀ u : Int, 0 ≤ u → u < qz_shl 1 (σ 86 43) → α' 112 (u : Int).toNat = qwt (α' 111) (qwC α' 92 110) u (σ 86 43 : Int).toNat)) (25, ls, [], qw σ709693 α709694 κ ρ, 0, 0) := by
          intro n
          induction n with
          | zero => intro ls u709692 σ709693 α709694 hm g709689 g709690 g709691 hf709704 hI709695 hF709696 hk709697 hk709698 hk709699 hk709700 hk709701 hk709702 hk709703 hx709705 hx709706 hx709707; exact False.elim (by omega)
          | succ n ih709709 =>
            intro ls u709692 σ709693 α709694 hm g709689 g709690 g709691 hf709704 hI709695 hF709696 hk709697 hk709698 hk709699 hk709700 hk709701 hk709702 hk709703 hx709705 hx709706 hx709707
            have hs709710 : 0 ≤ σ709693 86 41 ∧ σ709693 86 41 ≤ 1 := hI709695.1 86 41
            refine qr_iload_n 26 rfl g709691 rfl ?_
            refine qr_aload_n 27 rfl g709689 rfl ?_
            refine qr_get 30 rfl rfl rfl (by decide) rfl ?_
            refine qy_v (σ 86 43) ((hk709701).trans rfl) ?_
            refine qr_icmp_ge 96 33 rfl rfl rfl (qrg hf709704 (by decide) (by decide)) (qrg hz86_43 (by decide) (by decide)) (fun h709711 => ?_) (fun h709711 => ?_)
            · skip
              have hsh := qshl_r (n := σ 86 43) (by omega)
              refine qr_iconst 97 rfl rfl ?_
              refine qr_istore_n _ 98 rfl (by decide) rfl rfl ?_
              have hL722559 : ∀ (n : Nat) (ls : qm_L) (u722548 : Int) (α722550 : Nat → Nat → Int), 4096 - u722548 < (n : Int) → qm_get ls 0 = some (.ref 86) → qm_get ls 2 = some (.int (qz u722548)) → (0 ≤ u722548 ∧ u722548 ≤ 4096) → qI σ709693 α722550 κ ρ → qFr [(86, 15), (86, 23), (86, 30), (86, 35), (86, 36), (86, 37), (86, 38), (86, 39), (86, 41)] [96, 109, 111, 112] σ α σ709693 α722550 → α722550 92 = (α 92) → α722550 110 = (α 110) → α722550 111 = (α709694 111) → (∀ u : Int, 0 ≤ u → u < u722548 → α722550 112 (u : Int).toNat = qwt (α709694 111) (qwC α 92 110) u (σ 86 43 : Int).toNat) → u722548 ≤ qz_shl 1 (σ 86 43) → qr_W (qe L xs vb) (d + 48) qx_e235 (fun r w' => ∃ σ' α', w' = qw σ' α' κ ρ ∧ qI σ' α' κ ρ ∧ qFr [(86, 15), (86, 23), (86, 30), (86, 35), (86, 36), (86, 37), (86, 38), (86, 39), (86, 41)] [96, 109, 111, 112] σ α σ' α' ∧ σ' 86 41 = 0 ∧ r = none ∧ qBR (qPF (fun a b : Int => qBaM σ α g (α 110 (a : Int).toNat) (α 110 (b : Int).toNat) (x1 / 10000) (x1 % 10000)) (σ 86 43)) (α' 111) (σ 86 43) ∧ (∀ u : Int, 0 ≤ u → u < qz_shl 1 (σ 86 43) → α' 112 (u : Int).toNat = qwt (α' 111) (qwC α' 92 110) u (σ 86 43 : Int).toNat)) (98, ls, [], qw σ709693 α722550 κ ρ, 0, 0) := by
                intro n
                induction n with
                | zero => intro ls u722548 α722550 hm g722546 g722547 hf722556 hI722551 hF722552 hk722553 hk722554 hk722555 hx722557 hx722558; exact False.elim (by omega)
                | succ n ih722560 =>
                  intro ls u722548 α722550 hm g722546 g722547 hf722556 hI722551 hF722552 hk722553 hk722554 hk722555 hx722557 hx722558
                  refine qr_iload_n 99 rfl g722547 rfl ?_
                  refine qr_iconst 100 rfl rfl ?_
                  refine qr_aload_n 101 rfl g722546 rfl ?_
                  refine qr_get 104 rfl rfl rfl (by decide) rfl ?_
                  refine qy_v (σ 86 43) ((hk709701).trans rfl) ?_
                  refine qr_ishl 105 rfl rfl ?_
                  refine qy_shl1E (N := 12) (by omega) (fun v722561 hv722561 hev722561 => ?_)
                  refine qr_icmp_ge 186 108 rfl rfl rfl (qrg hf722556 (by decide) (by decide)) (by omega) (fun h722562 => ?_) (fun h722562 => ?_)
                  · skip
                    refine qr_retV rfl rfl (by decide) (by decide) ?_
                    exact ⟨_, _, rfl, hI722551, hF722552, (by have hw : σ709693 86 41 = (σ709693 86 41) := rfl; omega), rfl, (by rw [show α722550 111 = (α709694 111) from hk722555]; exact qPR_end (by omega) (by omega) hx709705), (by rw [show α722550 111 = (α709694 111) from hk722555, qwC_e (hF722552.2 92 (by decide)) (hF722552.2 110 (by decide))]; exact fun u h0 h1 => hx722557 u h0 (by omega))⟩
                  · skip
                    refine qr_iconst 109 rfl rfl ?_
                    refine qr_istore_n _ 110 rfl (by decide) rfl rfl ?_
                    refine qr_iconst 111 rfl rfl ?_
                    refine qr_istore _ 113 rfl (by decide) rfl rfl ?_
                    have hL722822 : ∀ (n : Nat) (ls : qm_L) (u722814 u722816 : Int), 12 - u722816 < (n : Int) → qm_get ls 0 = some (.ref 86) → qm_get ls 2 = some (.int (qz u722548)) → qm_get ls 3 = some (.int (qz u722814)) → qm_get ls 4 = some (.int (qz u722816)) → ((-2147483648) ≤ u722814 ∧ u722814 ≤ 2147483647) → (0 ≤ u722816 ∧ u722816 ≤ 12) → (∀ u : Int, 0 ≤ u → u < u722548 → α722550 112 (u : Int).toNat = qwt (α709694 111) (qwC α 92 110) u (σ 86 43 : Int).toNat) → (u722814 = qwt (α709694 111) (qwC α 92 110) u722548 (u722816 : Int).toNat ∧ -1 ≤ u722814 ∧ u722814 ≤ 99 * u722816) → u722816 ≤ σ 86 43 → qr_W (qe L xs vb) (d + 48) qx_e235 (fun r w' => ∃ σ' α', w' = qw σ' α' κ ρ ∧ qI σ' α' κ ρ ∧ qFr [(86, 15), (86, 23), (86, 30), (86, 35), (86, 36), (86, 37), (86, 38), (86, 39), (86, 41)] [96, 109, 111, 112] σ α σ' α' ∧ σ' 86 41 = 0 ∧ r = none ∧ qBR (qPF (fun a b : Int => qBaM σ α g (α 110 (a : Int).toNat) (α 110 (b : Int).toNat) (x1 / 10000) (x1 % 10000)) (σ 86 43)) (α' 111) (σ 86 43) ∧ (∀ u : Int, 0 ≤ u → u < qz_shl 1 (σ 86 43) → α' 112 (u : Int).toNat = qwt (α' 111) (qwC α' 92 110) u (σ 86 43 : Int).toNat)) (113, ls, [], qw σ709693 α722550 κ ρ, 0, 0) := by
                      intro n
                      induction n with
                      | zero => intro ls u722814 u722816 hm g722811 g722812 g722813 g722815 hf722817 hf722818 hx722819 hx722820 hx722821; exact False.elim (by omega)
                      | succ n ih722823 =>
                        intro ls u722814 u722816 hm g722811 g722812 g722813 g722815 hf722817 hf722818 hx722819 hx722820 hx722821
                        refine qr_iload 115 rfl g722815 rfl ?_
                        refine qr_aload_n 116 rfl g722811 rfl ?_
                        refine qr_get 119 rfl rfl rfl (by decide) rfl ?_
                        refine qy_v (σ 86 43) ((hk709701).trans rfl) ?_
                        refine qr_icmp_ge 173 122 rfl rfl rfl (qrg hf722818 (by decide) (by decide)) (qrg hz86_43 (by decide) (by decide)) (fun h722824 => ?_) (fun h722824 => ?_)
                        · skip
                          refine qr_aload_n 174 rfl g722811 rfl ?_
                          refine qr_get 177 rfl rfl rfl (by decide) rfl ?_
                          refine qr_iload_n 178 rfl g722812 rfl ?_
                          refine qr_iload_n 179 rfl g722813 rfl ?_
                          refine qr_iastore 180 rfl (by decide) rfl (by omega) (by decide) rfl ?_
                          refine qy_wA (qw_r α722550 112 (qzu (α722550 112) (u722548 : Int).toNat u722814)) rfl (fun α722825 e722826 => ?_)
                          have hI722827 : qI σ709693 α722825 κ ρ := by rw [e722826]; exact qI_r hI722551 112 _ rfl (show (-2147483648) ≤ u722814 ∧ u722814 ≤ 2147483647 by omega)
                          have hF722828 : qFr [(86, 15), (86, 23), (86, 30), (86, 35), (86, 36), (86, 37), (86, 38), (86, 39), (86, 41)] [96, 109, 111, 112] σ α σ709693 α722825 := by rw [e722826]; exact qFr_r hF722552 112 _ (by decide)
                          refine qr_iinc _ 183 rfl g722812 (by decide) rfl rfl ?_
                          refine qr_goto 98 rfl rfl ?_
                          exact ih722560 _ (u722548 + 1) α722825 (by omega) (qm_gk g722811 (by decide) (Or.inl (by decide))) (qm_ge _ _ _) (by omega) hI722827 hF722828 ((congrFun e722826 92).trans ((qw_r_ne (by decide)).trans hk722553)) ((congrFun e722826 110).trans ((qw_r_ne (by decide)).trans hk722554)) ((congrFun e722826 111).trans ((qw_r_ne (by decide)).trans hk722555)) (qri_s (g := fun u => qwt (α709694 111) (qwC α 92 110) u (σ 86 43 : Int).toNat) (by omega) hx722557 (((congrFun e722826 112).trans (qw_r_eq.trans (congrArg (fun f => qzu f (u722548 : Int).toNat u722814) rfl)))) (qwt_e (a := u722816) (by omega) (by omega) hx722820.1 (by omega))) (by omega)
                        · skip
                          refine qr_iload_n 123 rfl g722813 rfl ?_
                          refine qr_if_lt 173 126 rfl rfl rfl hf722817 (fun h722829 => ?_) (fun h722829 => ?_)
                          · skip
                            refine qr_aload_n 174 rfl g722811 rfl ?_
                            refine qr_get 177 rfl rfl rfl (by decide) rfl ?_
                            refine qr_iload_n 178 rfl g722812 rfl ?_
                            refine qr_iload_n 179 rfl g722813 rfl ?_
                            refine qr_iastore 180 rfl (by decide) rfl (by omega) (by decide) rfl ?_
                            refine qy_wA (qw_r α722550 112 (qzu (α722550 112) (u722548 : Int).toNat u722814)) rfl (fun α722830 e722831 => ?_)
                            have hI722832 : qI σ709693 α722830 κ ρ := by rw [e722831]; exact qI_r hI722551 112 _ rfl (show (-2147483648) ≤ u722814 ∧ u722814 ≤ 2147483647 by omega)
                            have hF722833 : qFr [(86, 15), (86, 23), (86, 30), (86, 35), (86, 36), (86, 37), (86, 38), (86, 39), (86, 41)] [96, 109, 111, 112] σ α σ709693 α722830 := by rw [e722831]; exact qFr_r hF722552 112 _ (by decide)
                            refine qr_iinc _ 183 rfl g722812 (by decide) rfl rfl ?_
                            refine qr_goto 98 rfl rfl ?_
                            exact ih722560 _ (u722548 + 1) α722830 (by omega) (qm_gk g722811 (by decide) (Or.inl (by decide))) (qm_ge _ _ _) (by omega) hI722832 hF722833 ((congrFun e722831 92).trans ((qw_r_ne (by decide)).trans hk722553)) ((congrFun e722831 110).trans ((qw_r_ne (by decide)).trans hk722554)) ((congrFun e722831 111).trans ((qw_r_ne (by decide)).trans hk722555)) (qri_s (g := fun u => qwt (α709694 111) (qwC α 92 110) u (σ 86 43 : Int).toNat) (by omega) hx722557 (((congrFun e722831 112).trans (qw_r_eq.trans (congrArg (fun f => qzu f (u722548 : Int).toNat u722814) rfl)))) (qwt_e (a := u722816) (by omega) (by omega) hx722820.1 (by omega))) (by omega)
                          · skip
                            refine qr_iload_n 127 rfl g722812 rfl ?_
                            refine qr_iload 129 rfl g722815 rfl ?_
                            refine qr_ishr 130 rfl rfl ?_
                            refine qy_canE (fun v722834 hv722834 hev722834 => ?_)
                            refine qr_iconst 131 rfl rfl ?_
                            refine qr_iand 132 rfl rfl ?_
                            refine qy_andrE (by omega) (fun v722835 hv722835 hev722835 => ?_)
                            refine qr_iconst 133 rfl rfl ?_
                            refine qr_icmp_ne 167 136 rfl rfl rfl (by omega) (by decide) (fun h722837 => ?_) (fun h722837 => ?_)
                            · skip
                              refine qr_iinc _ 170 rfl g722815 (by decide) rfl rfl ?_
                              refine qr_goto 113 rfl rfl ?_
                              exact ih722823 _ u722814 (u722816 + 1) (by omega) (qm_gk g722811 (by decide) (Or.inl (by decide))) (qm_gk g722812 (by decide) (Or.inl (by decide))) (qm_gk g722813 (by decide) (Or.inr rfl)) (qm_ge _ _ _) hf722817 (by omega) hx722557 (by have hq0 := hx722820; have hq1 := qwt_s (α709694 111) (qwC α 92 110) u722548 (i := u722816) (by omega) (by have hz := hx722820; omega); have hq2 := qbi_inS (t := u722548) (i := u722816) (by omega) hev722834 hev722835 (by omega); omega) (by omega)
                            · skip
                              refine qr_aload_n 137 rfl g722811 rfl ?_
                              refine qr_get 140 rfl rfl rfl (by decide) rfl ?_
                              refine qr_iload 142 rfl g722815 rfl ?_
                              refine qr_iaload 143 rfl rfl (by omega) (by decide) rfl ?_
                              refine qr_topI (fun v722838 hv722838 => ?_)
                              have hs722839 : (-2147483648) ≤ v722838 ∧ v722838 ≤ 2147483647 := by rw [hv722838]; exact hI722551.2.1 111 _ (show _ < 12 by omega)
                              have hrv722838 : v722838 = (α709694 111) (u722816 : Int).toNat := hv722838.trans (congrFun hk722555 _)
                              refine qr_iload_n 144 rfl g722812 rfl ?_
                              refine qr_iand 145 rfl rfl ?_
                              refine qy_andrE (by omega) (fun v722840 hv722840 hev722840 => ?_)
                              refine qr_if_eq 152 148 rfl rfl rfl (by omega) (fun h722841 => ?_) (fun h722841 => ?_)
                              · skip
                                refine qr_iload_n 153 rfl g722813 rfl ?_
                                refine qr_aload_n 154 rfl g722811 rfl ?_
                                refine qr_get 157 rfl rfl rfl (by decide) rfl ?_
                                refine qr_aload_n 158 rfl g722811 rfl ?_
                                refine qr_get 161 rfl rfl rfl (by decide) rfl ?_
                                refine qr_iload 163 rfl g722815 rfl ?_
                                refine qr_iaload 164 rfl rfl (qrgi hf722818 (by decide) (by decide)) (by decide) rfl ?_
                                refine qr_topI (fun v722842 hv722842 => ?_)
                                have hs722843 : 0 ≤ v722842 ∧ v722842 ≤ 31 := by rw [hv722842]; exact hI722551.2.1 110 _ (show _ < 32 from qrgt hf722818 (by decide) (by decide))
                                have hrv722842 : v722842 = (α 110) (u722816 : Int).toNat := hv722842.trans (congrFun hk722554 _)
                                refine qr_iaload 165 rfl rfl (qrgi hs722843 (by decide) (by decide)) (by decide) rfl ?_
                                refine qr_topI (fun v722844 hv722844 => ?_)
                                have hs722845 : (-2147483648) ≤ v722844 ∧ v722844 ≤ 2147483647 := by rw [hv722844]; exact hI722551.2.1 92 _ (show _ < 32 from qrgt hs722843 (by decide) (by decide))
                                have hrv722844 : v722844 = (α 92) (v722842 : Int).toNat := hv722844.trans (congrFun hk722553 _)
                                refine qr_iadd 166 rfl rfl ?_
                                refine qy_canE (fun v722846 hv722846 hev722846 => ?_)
                                refine qr_istore_n _ 167 rfl (by decide) rfl rfl ?_
                                refine qr_iinc _ 170 rfl (qm_gk g722815 (by decide) (Or.inl (by decide))) (by decide) rfl rfl ?_
                                refine qr_goto 113 rfl rfl ?_
                                exact ih722823 _ v722846 (u722816 + 1) (by omega) (qm_gk (qm_gk g722811 (by decide) (Or.inl (by decide))) (by decide) (Or.inl (by decide))) (qm_gk (qm_gk g722812 (by decide) (Or.inr rfl)) (by decide) (Or.inl (by decide))) (qm_gk (qm_ge _ _ _) (by decide) (Or.inr rfl)) (qm_ge _ _ _) hv722846 (by omega) hx722557 (by have hq0 := hx722820; have hq1 := qwt_s (α709694 111) (qwC α 92 110) u722548 (i := u722816) (by omega) (by have hz := hx722820; omega); have hq2 := qbi_inS (t := u722548) (i := u722816) (by omega) hev722834 hev722835 (by omega); have hq3 := (show qz_and ((α709694 111) (u722816 : Int).toNat) u722548 = v722840 by rw [← hrv722838]; exact hev722840.symm); have hq4 := (show (qwC α 92 110) (u722816 : Int).toNat = v722844 by unfold qwC; rw [← hrv722842]; exact (hrv722844).symm); have hq5 := p5 (v722842 : Int).toNat (by omega); have hq6 := hrv722844; have hq7 := qz_val hev722846 (by omega) (by omega); omega) (by omega)
                              · skip
                                refine qr_iconst 149 rfl rfl ?_
                                refine qr_goto 166 rfl rfl ?_
                                refine qr_istore_n _ 167 rfl (by decide) rfl rfl ?_
                                refine qr_iinc _ 170 rfl (qm_gk g722815 (by decide) (Or.inl (by decide))) (by decide) rfl rfl ?_
                                refine qr_goto 113 rfl rfl ?_
                                exact ih722823 _ (-1) (u722816 + 1) (by omega) (qm_gk (qm_gk g722811 (by decide) (Or.inl (by decide))) (by decide) (Or.inl (by decide))) (qm_gk (qm_gk g722812 (by decide) (Or.inr rfl)) (by decide) (Or.inl (by decide))) (qm_gk (qm_ge _ _ _) (by decide) (Or.inr rfl)) (qm_ge _ _ _) (by decide) (by omega) hx722557 (by have hq0 := hx722820; have hq1 := qwt_s (α709694 111) (qwC α 92 110) u722548 (i := u722816) (by omega) (by have hz := hx722820; omega); have hq2 := qbi_inS (t := u722548) (i := u722816) (by omega) hev722834 hev722835 (by omega); have hq3 := (show qz_and ((α709694 111) (u722816 : Int).toNat) u722548 = v722840 by rw [← hrv722838]; exact hev722840.symm); omega) (by omega)
                    exact hL722822 ((12 - 0 + 1 : Int)).toNat _ 0 0 (by omega) (qm_gk (qm_gk g722546 (by decide) (Or.inl (by decide))) (by decide) (Or.inl (by decide))) (qm_gk (qm_gk g722547 (by decide) (Or.inr rfl)) (by decide) (Or.inl (by decide))) (qm_gk (qm_ge _ _ _) (by decide) (Or.inr rfl)) (qm_ge _ _ _) (by decide) (by decide) hx722557 ⟨rfl, by omega, by omega⟩ (by omega)
              exact hL722559 ((4096 - 0 + 1 : Int)).toNat _ 0 α709694 (by omega) (qm_gk g709689 (by decide) (Or.inl (by decide))) (qm_ge _ _ _) (by decide) hI709695 hF709696 hk709702 hk709703 rfl (fun u h0 h1 => False.elim (by omega)) (by omega)
            · skip
              refine qr_iconst 34 rfl rfl ?_
              refine qr_istore_n _ 35 rfl (by decide) rfl rfl ?_
              have hL723316 : ∀ (n : Nat) (ls : qm_L) (u723301 : Int) (σ723302 α723303 : Nat → Nat → Int), 11 - u723301 < (n : Int) → qm_get ls 0 = some (.ref 86) → qm_get ls 1 = some (.int (qz x1)) → qm_get ls 2 = some (.int (qz u709692)) → qm_get ls 3 = some (.int (qz u723301)) → (0 ≤ u723301 ∧ u723301 ≤ 11) → qI σ723302 α723303 κ ρ → qFr [(86, 15), (86, 23), (86, 30), (86, 35), (86, 36), (86, 37), (86, 38), (86, 39), (86, 41)] [96, 109, 111, 112] σ α σ723302 α723303 → σ723302 86 6 = (σ 86 6) → σ723302 86 10 = (σ 86 10) → σ723302 86 24 = (σ 86 24) → σ723302 86 29 = (σ 86 29) → σ723302 86 43 = (σ 86 43) → α723303 92 = (α 92) → α723303 110 = (α 110) → qBR (qPR (fun a b : Int => qBaM σ α g (α 110 (a : Int).toNat) (α 110 (b : Int).toNat) (x1 / 10000) (x1 % 10000)) u709692 u723301) (α723303 111) (σ 86 43) → σ723302 86 41 = 0 → qr_W (qe L xs vb) (d + 48) qx_e235 (fun r w' => ∃ σ' α', w' = qw σ' α' κ ρ ∧ qI σ' α' κ ρ ∧ qFr [(86, 15), (86, 23), (86, 30), (86, 35), (86, 36), (86, 37), (86, 38), (86, 39), (86, 41)] [96, 109, 111, 112] σ α σ' α' ∧ σ' 86 41 = 0 ∧ r = none ∧ qBR (qPF (fun a b : Int => qBaM σ α g (α 110 (a : Int).toNat) (α 110 (b : Int).toNat) (x1 / 10000) (x1 % 10000)) (σ 86 43)) (α' 111) (σ 86 43) ∧ (∀ u : Int, 0 ≤ u → u < qz_shl 1 (σ 86 43) → α' 112 (u : Int).toNat = qwt (α' 111) (qwC α' 92 110) u (σ 86 43 : Int).toNat)) (35, ls, [], qw σ723302 α723303 κ ρ, 0, 0) := by
                intro n
                induction n with
                | zero => intro ls u723301 σ723302 α723303 hm g723297 g723298 g723299 g723300 hf723313 hI723304 hF723305 hk723306 hk723307 hk723308 hk723309 hk723310 hk723311 hk723312 hx723314 hx723315; exact False.elim (by omega)
                | succ n ih723317 =>
                  intro ls u723301 σ723302 α723303 hm g723297 g723298 g723299 g723300 hf723313 hI723304 hF723305 hk723306 hk723307 hk723308 hk723309 hk723310 hk723311 hk723312 hx723314 hx723315
                  have hs723318 : 0 ≤ σ723302 86 41 ∧ σ723302 86 41 ≤ 1 := hI723304.1 86 41
                  refine qr_iload_n 36 rfl g723300 rfl ?_
                  refine qr_iload_n 37 rfl g723299 rfl ?_
                  refine qr_icmp_ge 90 40 rfl rfl rfl (qrg hf723313 (by decide) (by decide)) (qrg hf709704 (by decide) (by decide)) (fun h723319 => ?_) (fun h723319 => ?_)
                  · skip
                    refine qr_iinc _ 93 rfl g723299 (by decide) rfl rfl ?_
                    refine qr_goto 25 rfl rfl ?_
                    exact ih709709 _ (u709692 + 1) σ723302 α723303 (by omega) (qm_gk g723297 (by decide) (Or.inl (by decide))) (qm_gk g723298 (by decide) (Or.inr rfl)) (qm_ge _ _ _) (by omega) hI723304 hF723305 ((hk723306).trans rfl) ((hk723307).trans rfl) ((hk723308).trans rfl) ((hk723309).trans rfl) ((hk723310).trans rfl) hk723311 hk723312 (qPR_out (J := u723301) (by omega) hx723314) ((rfl).trans hx723315) (by omega)
                  · skip
                    refine qr_aload_n 41 rfl g723297 rfl ?_
                    refine qr_aload_n 42 rfl g723297 rfl ?_
                    refine qr_get 45 rfl rfl rfl (by decide) rfl ?_
                    refine qr_iload_n 46 rfl g723300 rfl ?_
                    refine qr_iaload 47 rfl rfl (qrgi hf723313 (by decide) (by decide)) (by decide) rfl ?_
                    refine qr_topI (fun v723320 hv723320 => ?_)
                    have hs723321 : 0 ≤ v723320 ∧ v723320 ≤ 31 := by rw [hv723320]; exact hI723304.2.1 110 _ (show _ < 32 from qrgt hf723313 (by decide) (by decide))
                    have hrv723320 : v723320 = (α 110) (u723301 : Int).toNat := hv723320.trans (congrFun hk723312 _)
                    refine qr_aload_n 48 rfl g723297 rfl ?_
                    refine qr_get 51 rfl rfl rfl (by decide) rfl ?_
                    refine qr_iload_n 52 rfl g723299 rfl ?_
                    refine qr_iaload 53 rfl rfl (qrgi hf709704 (by decide) (by decide)) (by decide) rfl ?_
                    refine qr_topI (fun v723322 hv723322 => ?_)
                    have hs723323 : 0 ≤ v723322 ∧ v723322 ≤ 31 := by rw [hv723322]; exact hI723304.2.1 110 _ (show _ < 32 from qrgt hf709704 (by decide) (by decide))
                    have hrv723322 : v723322 = (α 110) (u709692 : Int).toNat := hv723322.trans (congrFun hk723312 _)
                    have hy1 := p6.1 (u723301 : Int).toNat (by omega)
                    have hy2 := p6.1 (u709692 : Int).toNat (by omega)
                    have hy3 := p6.2 (u723301 : Int).toNat (u709692 : Int).toNat (by omega) (by omega)
                    rw [← hrv723320] at hy1 hy3
                    rw [← hrv723322] at hy2 hy3
                    refine qr_iload_n 54 rfl g723298 rfl ?_
                    have hs723324 : (-9223372036854775808) ≤ σ723302 86 29 ∧ σ723302 86 29 ≤ 9223372036854775807 := hI723304.1 86 29
                    have hs723325 : σ723302 86 29 = (σ 86 29) := (hk723309).trans rfl
                    have hs723326 : 0 ≤ σ723302 86 41 ∧ σ723302 86 41 ≤ 1 := hI723304.1 86 41
                    have hs723327 : 0 ≤ σ723302 86 6 ∧ σ723302 86 6 ≤ 32 := hI723304.1 86 6
                    have hs723328 : σ723302 86 6 = (σ 86 6) := (hk723306).trans rfl
                    refine qr_callN 57 rfl rfl rfl (sf_232_86x (d := d + 0) hI723304 hs723321 hs723323 r1 (by omega) (qPG_fr hF723305 (by decide) (by decide) p2) (qZf_fr hF723305 (by decide) (by decide) p3) (qZk_fr hF723305 (by decide) (by decide) p7) ((hF723305.1 86 29 (by decide)).trans p8) ((rfl).trans hx723315) (by omega)) ?_
                    rintro _ _ ⟨σ723332, α723333, rfl, hI723334, hG723335, hw723331, v723329, rfl, hv723329, hx723330⟩
                    have hF723336 : qFr [(86, 15), (86, 23), (86, 30), (86, 35), (86, 36), (86, 37), (86, 38), (86, 39), (86, 41)] [96, 109, 111, 112] σ α σ723332 α723333 := qFr_t hF723305 hG723335 (by decide) (by decide)
                    have hs723337 : 0 ≤ σ723332 86 41 ∧ σ723332 86 41 ≤ 1 := hI723334.1 86 41
                    show qr_W (qe L xs vb) (d + 48) qx_e235 _ (57, _, [.int (qz v723329)], qw σ723332 α723333 κ ρ, 0, 0)
                    rw [qBaM_f4 hF723305 (by decide) (by decide) ((show σ723302 86 41 = σ 86 41 from (((rfl).trans hx723315)).trans p4.symm)), hrv723320, hrv723322] at hx723330
                    refine qr_if_eq 84 60 rfl rfl rfl (qrg hv723329 (by decide) (by decide)) (fun h723338 => ?_) (fun h723338 => ?_)
                    · skip
                      refine qr_iinc _ 87 rfl g723300 (by decide) rfl rfl ?_
                      refine qr_goto 35 rfl rfl ?_
                      exact ih723317 _ (u723301 + 1) σ723332 α723333 (by omega) (qm_gk g723297 (by decide) (Or.inl (by decide))) (qm_gk g723298 (by decide) (Or.inl (by decide))) (qm_gk g723299 (by decide) (Or.inr rfl)) (qm_ge _ _ _) (by omega) hI723334 hF723336 ((hG723335.1 86 6 (by decide)).trans ((hk723306).trans rfl)) ((hG723335.1 86 10 (by decide)).trans ((hk723307).trans rfl)) ((hG723335.1 86 24 (by decide)).trans ((hk723308).trans rfl)) ((hG723335.1 86 29 (by decide)).trans ((hk723309).trans rfl)) ((hG723335.1 86 43 (by decide)).trans ((hk723310).trans rfl)) ((hG723335.2 92 (by decide)).trans hk723311) ((hG723335.2 110 (by decide)).trans hk723312) (by rw [hG723335.2 111 (by decide)]; exact qPR_no (by rcases hx723330 with hz | hz; (omega); (exact hz.2)) hx723314) ((rfl).trans hw723331)
                    · skip
                      refine qr_aload_n 61 rfl g723297 rfl ?_
                      refine qr_get 64 rfl rfl rfl (by decide) rfl ?_
                      refine qr_iload_n 65 rfl g723299 rfl ?_
                      refine qr_dup2 66 rfl rfl rfl rfl ?_
                      refine qr_iaload 67 rfl rfl (by omega) (by decide) rfl ?_
                      refine qr_topI (fun v723339 hv723339 => ?_)
                      have hs723340 : (-2147483648) ≤ v723339 ∧ v723339 ≤ 2147483647 := by rw [hv723339]; exact hI723334.2.1 111 _ (show _ < 12 by omega)
                      have hrv723339 : v723339 = (α723333 111) (u709692 : Int).toNat := hv723339
                      refine qr_iconst 68 rfl rfl ?_
                      refine qr_iload_n 69 rfl g723300 rfl ?_
                      refine qr_ishl 70 rfl rfl ?_
                      refine qy_shl1E (N := 10) (by omega) (fun v723341 hv723341 hev723341 => ?_)
                      refine qr_ior 71 rfl rfl ?_
                      refine qy_canE (fun v723342 hv723342 hev723342 => ?_)
                      refine qr_iastore 72 rfl (by decide) rfl (by omega) (by decide) rfl ?_
                      refine qy_wA (qw_r α723333 111 (qzu (α723333 111) (u709692 : Int).toNat v723342)) rfl (fun α723343 e723344 => ?_)
                      have hI723345 : qI σ723332 α723343 κ ρ := by rw [e723344]; exact qI_r hI723334 111 _ rfl (show (-2147483648) ≤ v723342 ∧ v723342 ≤ 2147483647 by omega)
                      have hF723346 : qFr [(86, 15), (86, 23), (86, 30), (86, 35), (86, 36), (86, 37), (86, 38), (86, 39), (86, 41)] [96, 109, 111, 112] σ α σ723332 α723343 := by rw [e723344]; exact qFr_r hF723336 111 _ (by decide)
                      refine qr_aload_n 73 rfl g723297 rfl ?_
                      refine qr_get 76 rfl rfl rfl (by decide) rfl ?_
                      refine qr_iload_n 77 rfl g723300 rfl ?_
                      refine qr_dup2 78 rfl rfl rfl rfl ?_
                      refine qr_iaload 79 rfl rfl (qrgi hf723313 (by decide) (by decide)) (by decide) rfl ?_
                      refine qr_topI (fun v723347 hv723347 => ?_)
                      have hs723348 : (-2147483648) ≤ v723347 ∧ v723347 ≤ 2147483647 := by rw [hv723347]; exact hI723345.2.1 111 _ (show _ < 12 from qrgt hf723313 (by decide) (by decide))
                      have hrv723347 : v723347 = (qzu (α723333 111) (u709692 : Int).toNat v723342) (u723301 : Int).toNat := hv723347.trans (congrFun ((congrFun e723344 111).trans (qw_r_eq.trans (congrArg (fun f => qzu f (u709692 : Int).toNat v723342) rfl))) _)
                      refine qr_iconst 80 rfl rfl ?_
                      refine qr_iload_n 81 rfl g723299 rfl ?_
                      refine qr_ishl 82 rfl rfl ?_
                      refine qy_shl1E (N := 11) (by omega) (fun v723349 hv723349 hev723349 => ?_)
                      refine qr_ior 83 rfl rfl ?_
                      refine qy_canE (fun v723350 hv723350 hev723350 => ?_)
                      refine qr_iastore 84 rfl (by decide) rfl (qrgi hf723313 (by decide) (by decide)) (by decide) rfl ?_
                      refine qy_wA (qw_r α723343 111 (qzu (α723343 111) (u723301 : Int).toNat v723350)) rfl (fun α723351 e723352 => ?_)
                      have hI723353 : qI σ723332 α723351 κ ρ := by rw [e723352]; exact qI_r hI723345 111 _ rfl (show (-2147483648) ≤ v723350 ∧ v723350 ≤ 2147483647 by omega)
                      have hF723354 : qFr [(86, 15), (86, 23), (86, 30), (86, 35), (86, 36), (86, 37), (86, 38), (86, 39), (86, 41)] [96, 109, 111, 112] σ α σ723332 α723351 := by rw [e723352]; exact qFr_r hF723346 111 _ (by decide)
                      refine qr_iinc _ 87 rfl g723300 (by decide) rfl rfl ?_
                      refine qr_goto 35 rfl rfl ?_
                      exact ih723317 _ (u723301 + 1) σ723332 α723351 (by omega) (qm_gk g723297 (by decide) (Or.inl (by decide))) (qm_gk g723298 (by decide) (Or.inl (by decide))) (qm_gk g723299 (by decide) (Or.inr rfl)) (qm_ge _ _ _) (by omega) hI723353 hF723354 ((hG723335.1 86 6 (by decide)).trans ((hk723306).trans rfl)) ((hG723335.1 86 10 (by decide)).trans ((hk723307).trans rfl)) ((hG723335.1 86 24 (by decide)).trans ((hk723308).trans rfl)) ((hG723335.1 86 29 (by decide)).trans ((hk723309).trans rfl)) ((hG723335.1 86 43 (by decide)).trans ((hk723310).trans rfl)) ((congrFun e723352 92).trans ((qw_r_ne (by decide)).trans ((congrFun e723344 92).trans ((qw_r_ne (by decide)).trans ((hG723335.2 92 (by decide)).trans hk723311))))) ((congrFun e723352 110).trans ((qw_r_ne (by decide)).trans ((congrFun e723344 110).trans ((qw_r_ne (by decide)).trans ((hG723335.2 110 (by decide)).trans hk723312))))) (qPR_y (r := (α723333 111)) (by rcases hx723330 with hz | hz; (exact hz.2); (omega)) (by omega) (((congrFun e723352 111).trans (qw_r_eq.trans (congrArg (fun f => qzu f (u723301 : Int).toNat v723350) ((congrFun e723344 111).trans (qw_r_eq.trans (congrArg (fun f => qzu f (u709692 : Int).toNat v723342) rfl))))))) (by rw [qz_val hev723342 (by omega) (qz_or_r _ _), hev723341, show v723339 = (α723333 111) (u709692 : Int).toNat from hv723339]) (by rw [qz_val hev723350 (by omega) (qz_or_r _ _), hev723349, show v723347 = (α723333 111) (u723301 : Int).toNat from (by rw [show v723347 = _ from hv723347, show α723343 111 = _ from ((congrFun e723344 111).trans (qw_r_eq.trans (congrArg (fun f => qzu f (u709692 : Int).toNat v723342) rfl)))]; exact if_neg (by omega))]) (by rw [hG723335.2 111 (by decide)]; exact hx723314)) ((rfl).trans hw723331)
              exact hL723316 ((11 - 0 + 1 : Int)).toNat _ 0 σ709693 α709694 (by omega) (qm_gk g709689 (by decide) (Or.inl (by decide))) (qm_gk g709690 (by decide) (Or.inl (by decide))) (qm_gk g709691 (by decide) (Or.inr rfl)) (qm_ge _ _ _) (by decide) hI709695 hF709696 ((hk709697).trans rfl) ((hk709698).trans rfl) ((hk709699).trans rfl) ((hk709700).trans rfl) ((hk709701).trans rfl) hk709702 hk709703 hx709705 ((rfl).trans hx709706)
        exact hL709708 ((12 - 0 + 1 : Int)).toNat _ 0 σ α621477 (by omega) (qm_gk g621472 (by decide) (Or.inl (by decide))) (qm_gk g621473 (by decide) (Or.inr rfl)) (qm_ge _ _ _) (by decide) hI621478 hF621479 (rfl) (rfl) (rfl) (rfl) (rfl) hk621480 hk621481 (qPR_0 (fun j hj => hx621484 j (by omega))) ((rfl).trans p4) (by omega)
      · skip
        refine qr_aload_n 11 rfl g621472 rfl ?_
        refine qr_get 14 rfl rfl rfl (by decide) rfl ?_
        refine qr_iload_n 15 rfl g621474 rfl ?_
        refine qr_iconst 16 rfl rfl ?_
        refine qr_iastore 17 rfl (by decide) rfl (by omega) (by decide) rfl ?_
        refine qy_wA (qw_r α621477 111 (qzu (α621477 111) (u621475 : Int).toNat 0)) rfl (fun α723355 e723356 => ?_)
        have hI723357 : qI σ α723355 κ ρ := by rw [e723356]; exact qI_r hI621478 111 _ rfl (show (-2147483648) ≤ 0 ∧ 0 ≤ 2147483647 by omega)
        have hF723358 : qFr [(86, 15), (86, 23), (86, 30), (86, 35), (86, 36), (86, 37), (86, 38), (86, 39), (86, 41)] [96, 109, 111, 112] σ α σ α723355 := by rw [e723356]; exact qFr_r hF621479 111 _ (by decide)
        refine qr_iinc _ 20 rfl g621474 (by decide) rfl rfl ?_
        refine qr_goto 2 rfl rfl ?_
        exact ih621486 _ (u621475 + 1) α723355 (by omega) (qm_gk g621472 (by decide) (Or.inl (by decide))) (qm_gk g621473 (by decide) (Or.inr rfl)) (qm_ge _ _ _) (by omega) hI723357 hF723358 ((congrFun e723356 92).trans ((qw_r_ne (by decide)).trans hk621480)) ((congrFun e723356 110).trans ((qw_r_ne (by decide)).trans hk621481)) ((congrFun e723356 112).trans ((qw_r_ne (by decide)).trans hk621482)) (qrw_s (g := fun _ => 0) (by omega) hx621484 ((congrFun e723356 111).trans (qw_r_eq.trans (congrArg (fun f => qzu f (u621475 : Int).toNat 0) rfl))) rfl)
  exact hL621485 ((12 - 0 + 1 : Int)).toNat _ 0 α (by omega) rfl rfl rfl (by decide) hI hF0 rfl rfl rfl (fun j hj => False.elim (by omega))

set_option maxHeartbeats 4000000 in
set_option maxRecDepth 20000 in
/-- OneRoofModel.most -/
theorem sf_233_86x {L : Nat} {xs : Nat → Int} {vb : Bool} {d : Nat} {σ α : Nat → Nat → Int} {κ : Nat → Option Nat} {ρ : Nat} {x1 : Int} {x2 : Int} {x3 : Int} {g : (Nat → Int) → Int} (hI : qI σ α κ ρ) (r1 : (-9223372036854775808) ≤ x1 ∧ x1 ≤ 9223372036854775807) (r2 : (-9223372036854775808) ≤ x2 ∧ x2 ≤ 9223372036854775807) (r3 : (-2147483648) ≤ x3 ∧ x3 ≤ 2147483647) (p0 : qPG σ α 0 g) (p1 : qZf σ α) (p2 : qZk σ α) (p3 : σ 86 29 = 0) (p4 : ∀ p : Nat, p < 32 → 0 ≤ α 92 p ∧ α 92 p ≤ 99) (p5 : σ 86 41 = 0) : qm_T (qe L xs vb) (d + 50) 233 [.ref 86, .long (ql x1), .long (ql x2), .int (qz x3)] (qw σ α κ ρ) (fun r w' => ∃ σ' α', w' = qw σ' α' κ ρ ∧ qI σ' α' κ ρ ∧ qFr [(86, 15), (86, 23), (86, 30), (86, 35), (86, 36), (86, 37), (86, 38), (86, 39), (86, 41), (86, 43)] [96, 109, 110, 111, 112] σ α σ' α' ∧ σ' 86 41 = 0 ∧ ∃ v : Int, r = some (.long (ql v)) ∧ ((-9223372036854775808) ≤ v ∧ v ≤ 9223372036854775807) ∧ ((v = -1 ∧ ¬ (0 ≤ x3 ∧ x3 / 10000 ≤ x3 % 10000 ∧ x3 % 10000 ≤ 2399 ∧ x3 % 10000 - x3 / 10000 < 48 ∧ qst x2 (σ 86 6) ∧ ql_and x2 (ql_xor x1 (-1)) = 0 ∧ qst x1 (σ 86 6) ∧ 1 ≤ qsm (fun k : Nat => qbit (ql_and x1 (ql_xor (σ 86 10) (-1))) (k : Int)) (σ 86 6 : Int).toNat ∧ qsm (fun k : Nat => qbit (ql_and x1 (ql_xor (σ 86 10) (-1))) (k : Int)) (σ 86 6 : Int).toNat ≤ 12)) ∨ ((0 ≤ x3 ∧ x3 / 10000 ≤ x3 % 10000 ∧ x3 % 10000 ≤ 2399 ∧ x3 % 10000 - x3 / 10000 < 48 ∧ qst x2 (σ 86 6) ∧ ql_and x2 (ql_xor x1 (-1)) = 0 ∧ qst x1 (σ 86 6) ∧ 1 ≤ qsm (fun k : Nat => qbit (ql_and x1 (ql_xor (σ 86 10) (-1))) (k : Int)) (σ 86 6 : Int).toNat ∧ qsm (fun k : Nat => qbit (ql_and x1 (ql_xor (σ 86 10) (-1))) (k : Int)) (σ 86 6 : Int).toNat ≤ 12) ∧ qLs (α' 110) (σ' 86 43) (qBr (fun k : Nat => qbit (ql_and x1 (ql_xor (σ 86 10) (-1))) (k : Int)) (σ 86 6 : Int).toNat) ∧ qBR (qPF (fun a b : Int => qBaM σ α g (α' 110 (a : Int).toNat) (α' 110 (b : Int).toNat) (x3 / 10000) (x3 % 10000)) (σ' 86 43)) (α' 111) (σ' 86 43) ∧ qMst (α' 110) (α' 111) (qwC α' 92 110) (σ' 86 43) x2 v))) := by
  refine qr_start (d := d + 49) qv_e233 (Nat.le_of_ble_eq_true rfl) ?_
  show qr_W (qe L xs vb) (d + 49) qx_e233 _ (0, [(0, .ref 86), (1, .long (ql x1)), (3, .long (ql x2)), (5, .int (qz x3))], [], _, 0, 0)
  have hF0 := qFr_rf [(86, 15), (86, 23), (86, 30), (86, 35), (86, 36), (86, 37), (86, 38), (86, 39), (86, 41), (86, 43)] [96, 109, 110, 111, 112] σ α
  have hz86_29 : (-9223372036854775808) ≤ σ 86 29 ∧ σ 86 29 ≤ 9223372036854775807 := hI.1 86 29
  have hz86_41 : 0 ≤ σ 86 41 ∧ σ 86 41 ≤ 1 := hI.1 86 41
  have hz86_6 : 0 ≤ σ 86 6 ∧ σ 86 6 ≤ 32 := hI.1 86 6
  have hz86_10 : (-9223372036854775808) ≤ σ 86 10 ∧ σ 86 10 ≤ 9223372036854775807 := hI.1 86 10
  have hz86_24 : 0 ≤ σ 86 24 ∧ σ 86 24 ≤ 60 := hI.1 86 24
  have hz86_43 : 0 ≤ σ 86 43 ∧ σ 86 43 ≤ 32 := hI.1 86 43
  refine qr_iload 2 rfl rfl rfl ?_
  refine qr_callN 5 rfl rfl rfl (sf_230 (d := d + 46) hI r3) ?_
  rintro _ _ ⟨rfl, v1, rfl, hv1, hp2⟩
  show qr_W (qe L xs vb) (d + 49) qx_e233 _ (5, _, [.int (qz v1)], qw σ α κ ρ, 0, 0)
  refine qr_if_eq 38 8 rfl rfl rfl (qrg hv1 (by decide) (by decide)) (fun h3 => ?_) (fun h3 => ?_)
  · skip
    refine qr_ldc2 (-1) 41 rfl (by decide) rfl ?_
    refine qr_retL rfl rfl (by decide) (by decide) ?_
    exact ⟨_, _, rfl, hI, hF0, (by have hw : σ 86 41 = (σ 86 41) := rfl; omega), (-1), rfl, (by decide), (Or.inl ⟨rfl, (fun hc => by obtain ⟨c1, c2, c3, c4, c5, c6, c7, c8, c9⟩ := hc; first | omega)⟩)⟩
  · skip
    refine qr_aload_n 9 rfl rfl rfl ?_
    refine qr_lload_n 10 rfl rfl rfl ?_
    refine qr_callN 13 rfl rfl rfl (sf_225_86x (d := d + 48) hI r2) ?_
    have hs6 : 0 ≤ σ 86 6 ∧ σ 86 6 ≤ 32 := hI.1 86 6
    rintro _ _ ⟨rfl, v4, rfl, hv4, hp5⟩
    show qr_W (qe L xs vb) (d + 49) qx_e233 _ (13, _, [.int (qz v4)], qw σ α κ ρ, 0, 0)
    refine qr_if_eq 38 16 rfl rfl rfl (qrg hv4 (by decide) (by decide)) (fun h7 => ?_) (fun h7 => ?_)
    · skip
      refine qr_ldc2 (-1) 41 rfl (by decide) rfl ?_
      refine qr_retL rfl rfl (by decide) (by decide) ?_
      exact ⟨_, _, rfl, hI, hF0, (by have hw : σ 86 41 = (σ 86 41) := rfl; omega), (-1), rfl, (by decide), (Or.inl ⟨rfl, (fun hc => by obtain ⟨c1, c2, c3, c4, c5, c6, c7, c8, c9⟩ := hc; first | omega | (have hz := hp5; rcases hz with hz | hz; (omega); (exact hz.2 c5)))⟩)⟩
    · skip
      refine qr_lload_n 17 rfl rfl rfl ?_
      refine qr_lload_n 18 rfl rfl rfl ?_
      refine qr_ldc2 (-1) 21 rfl (by decide) rfl ?_
      refine qr_lxor 22 rfl rfl ?_
      refine qy_canlE (fun v8 hv8 hev8 => ?_)
      refine qr_land 23 rfl rfl ?_
      refine qy_canlE (fun v9 hv9 hev9 => ?_)
      have hz10 : v9 = ql_and x2 (ql_xor x1 (-1)) := by rw [ql_val hev9 (by omega) (ql_and_r _ _), ql_val hev8 (by omega) (ql_xor_r _ _)]
      refine qr_lconst 24 rfl rfl ?_
      refine qy_vl 0 rfl ?_
      refine qr_lc_ne 38 28 rfl rfl rfl rfl hv9 (by decide) (fun h11 => ?_) (fun h11 => ?_)
      · skip
        refine qr_ldc2 (-1) 41 rfl (by decide) rfl ?_
        refine qr_retL rfl rfl (by decide) (by decide) ?_
        exact ⟨_, _, rfl, hI, hF0, (by have hw : σ 86 41 = (σ 86 41) := rfl; omega), (-1), rfl, (by decide), (Or.inl ⟨rfl, (fun hc => by obtain ⟨c1, c2, c3, c4, c5, c6, c7, c8, c9⟩ := hc; first | omega | (have hz := hp5; rcases hz with hz | hz; (omega); (exact hz.2 c5)) | (rw [← hz10] at c6; omega))⟩)⟩
      · skip
        refine qr_aload_n 29 rfl rfl rfl ?_
        refine qr_lload_n 30 rfl rfl rfl ?_
        refine qr_bipush 32 rfl (by decide) rfl ?_
        refine qr_callN 35 rfl rfl rfl (sf_234_86x (d := d + 47) hI r1 (by decide)) ?_
        have hs15 : 0 ≤ σ 86 6 ∧ σ 86 6 ≤ 32 := hI.1 86 6
        rintro _ _ ⟨σ16, α17, rfl, hI18, hG19, v12, rfl, hv12, hp13, hx14⟩
        have hF20 : qFr [(86, 15), (86, 23), (86, 30), (86, 35), (86, 36), (86, 37), (86, 38), (86, 39), (86, 41), (86, 43)] [96, 109, 110, 111, 112] σ α σ16 α17 := qFr_t hF0 hG19 (by decide) (by decide)
        have hs21 : 0 ≤ σ16 86 43 ∧ σ16 86 43 ≤ 32 := hI18.1 86 43
        show qr_W (qe L xs vb) (d + 49) qx_e233 _ (35, _, [.int (qz v12)], qw σ16 α17 κ ρ, 0, 0)
        refine qr_if_ne 42 38 rfl rfl rfl (qrg hv12 (by decide) (by decide)) (fun h22 => ?_) (fun h22 => ?_)
        · skip
          rcases id hx14 with hq | ⟨_, hc23, hc24⟩
          · exact absurd hq.1 (by omega)
          have hc24_ := qSr_of (by omega) hc24
          refine qr_aload_n 43 rfl rfl rfl ?_
          refine qr_iload 45 rfl rfl rfl ?_
          have hs25 : (-9223372036854775808) ≤ σ16 86 29 ∧ σ16 86 29 ≤ 9223372036854775807 := hI18.1 86 29
          have hs26 : σ16 86 29 = (σ 86 29) := (hG19.1 86 29 (by decide)).trans rfl
          have hs27 : 0 ≤ σ16 86 41 ∧ σ16 86 41 ≤ 1 := hI18.1 86 41
          have hs28 : σ16 86 41 = (σ 86 41) := (hG19.1 86 41 (by decide)).trans rfl
          have hs29 : 0 ≤ σ16 86 43 ∧ σ16 86 43 ≤ 32 := hI18.1 86 43
          have hs30 : 0 ≤ σ16 86 6 ∧ σ16 86 6 ≤ 32 := hI18.1 86 6
          have hs31 : σ16 86 6 = (σ 86 6) := (hG19.1 86 6 (by decide)).trans rfl
          refine qr_callN 48 rfl rfl rfl (sf_235_86x (d := d + 0) hI18 (by omega) (by omega) (by omega) (qPG_fr hF20 (by decide) (by decide) p0) (qZf_fr hF20 (by decide) (by decide) p1) ((hG19.1 86 41 (by decide)).trans p5) (fun p hp => by rw [hF20.2 92 (by decide)]; exact p4 p hp) (by rw [show σ16 86 6 = σ 86 6 from hG19.1 86 6 (by decide)]; exact hc24_) (qZk_fr hF20 (by decide) (by decide) p2) ((hF20.1 86 29 (by decide)).trans p3)) ?_
          rintro _ _ ⟨σ35, α36, rfl, hI37, hG38, hw34, rfl, hx32, hx33⟩
          have hF39 : qFr [(86, 15), (86, 23), (86, 30), (86, 35), (86, 36), (86, 37), (86, 38), (86, 39), (86, 41), (86, 43)] [96, 109, 110, 111, 112] σ α σ35 α36 := qFr_t hF20 hG38 (by decide) (by decide)
          have hs40 : 0 ≤ σ35 86 41 ∧ σ35 86 41 ≤ 1 := hI37.1 86 41
          show qr_W (qe L xs vb) (d + 49) qx_e233 _ (48, _, [], qw σ35 α36 κ ρ, 0, 0)
          rw [qBaM_f4 hF20 (by decide) (by decide) (show σ16 86 41 = σ 86 41 from (((hG19.1 86 41 (by decide)).trans p5)).trans p5.symm)] at hx32
          have hsh := qshl_r (n := σ16 86 43) (by omega)
          refine qr_iconst 49 rfl rfl ?_
          refine qr_istore _ 51 rfl (by decide) rfl rfl ?_
          refine qr_iconst 52 rfl rfl ?_
          refine qr_istore _ 54 rfl (by decide) rfl rfl ?_
          have hL8297 : ∀ (n : Nat) (ls : qm_L) (u8290 u8292 : Int), 12 - u8292 < (n : Int) → qm_get ls 0 = some (.ref 86) → qm_get ls 3 = some (.long (ql x2)) → qm_get ls 6 = some (.int (qz u8290)) → qm_get ls 7 = some (.int (qz u8292)) → ((-2147483648) ≤ u8290 ∧ u8290 ≤ 2147483647) → (0 ≤ u8292 ∧ u8292 ≤ 12) → qNB u8290 (α17 110) x2 u8292 → u8292 ≤ σ16 86 43 → qr_W (qe L xs vb) (d + 49) qx_e233 (fun r w' => ∃ σ' α', w' = qw σ' α' κ ρ ∧ qI σ' α' κ ρ ∧ qFr [(86, 15), (86, 23), (86, 30), (86, 35), (86, 36), (86, 37), (86, 38), (86, 39), (86, 41), (86, 43)] [96, 109, 110, 111, 112] σ α σ' α' ∧ σ' 86 41 = 0 ∧ ∃ v : Int, r = some (.long (ql v)) ∧ ((-9223372036854775808) ≤ v ∧ v ≤ 9223372036854775807) ∧ ((v = -1 ∧ ¬ (0 ≤ x3 ∧ x3 / 10000 ≤ x3 % 10000 ∧ x3 % 10000 ≤ 2399 ∧ x3 % 10000 - x3 / 10000 < 48 ∧ qst x2 (σ 86 6) ∧ ql_and x2 (ql_xor x1 (-1)) = 0 ∧ qst x1 (σ 86 6) ∧ 1 ≤ qsm (fun k : Nat => qbit (ql_and x1 (ql_xor (σ 86 10) (-1))) (k : Int)) (σ 86 6 : Int).toNat ∧ qsm (fun k : Nat => qbit (ql_and x1 (ql_xor (σ 86 10) (-1))) (k : Int)) (σ 86 6 : Int).toNat ≤ 12)) ∨ ((0 ≤ x3 ∧ x3 / 10000 ≤ x3 % 10000 ∧ x3 % 10000 ≤ 2399 ∧ x3 % 10000 - x3 / 10000 < 48 ∧ qst x2 (σ 86 6) ∧ ql_and x2 (ql_xor x1 (-1)) = 0 ∧ qst x1 (σ 86 6) ∧ 1 ≤ qsm (fun k : Nat => qbit (ql_and x1 (ql_xor (σ 86 10) (-1))) (k : Int)) (σ 86 6 : Int).toNat ∧ qsm (fun k : Nat => qbit (ql_and x1 (ql_xor (σ 86 10) (-1))) (k : Int)) (σ 86 6 : Int).toNat ≤ 12) ∧ qLs (α' 110) (σ' 86 43) (qBr (fun k : Nat => qbit (ql_and x1 (ql_xor (σ 86 10) (-1))) (k : Int)) (σ 86 6 : Int).toNat) ∧ qBR (qPF (fun a b : Int => qBaM σ α g (α' 110 (a : Int).toNat) (α' 110 (b : Int).toNat) (x3 / 10000) (x3 % 10000)) (σ' 86 43)) (α' 111) (σ' 86 43) ∧ qMst (α' 110) (α' 111) (qwC α' 92 110) (σ' 86 43) x2 v))) (54, ls, [], qw σ35 α36 κ ρ, 0, 0) := by
            intro n
            induction n with
            | zero => intro ls u8290 u8292 hm g8287 g8288 g8289 g8291 hf8293 hf8294 hx8295 hx8296; exact False.elim (by omega)
            | succ n ih8298 =>
              intro ls u8290 u8292 hm g8287 g8288 g8289 g8291 hf8293 hf8294 hx8295 hx8296
              refine qr_iload 56 rfl g8291 rfl ?_
              refine qr_aload_n 57 rfl g8287 rfl ?_
              refine qr_get 60 rfl rfl rfl (by decide) rfl ?_
              refine qy_v (σ16 86 43) ((hG38.1 86 43 (by decide)).trans rfl) ?_
              refine qr_icmp_ge 96 63 rfl rfl rfl (qrg hf8294 (by decide) (by decide)) (by omega) (fun h8299 => ?_) (fun h8299 => ?_)
              · skip
                have hB8300 : qNB u8290 (α36 110) x2 (σ16 86 43) := (by have hz := hx8295; rw [show u8292 = σ16 86 43 by omega, ← show α36 110 = α17 110 from hG38.2 110 (by decide)] at hz; exact hz)
                refine qr_iconst 97 rfl rfl ?_
                refine qr_istore _ 99 rfl (by decide) rfl rfl ?_
                refine qr_iconst 100 rfl rfl ?_
                refine qr_istore _ 102 rfl (by decide) rfl rfl ?_
                have hL9446 : ∀ (n : Nat) (ls : qm_L) (u9438 u9440 : Int), 4096 - u9440 < (n : Int) → qm_get ls 0 = some (.ref 86) → qm_get ls 6 = some (.int (qz u8290)) → qm_get ls 7 = some (.int (qz u9438)) → qm_get ls 8 = some (.int (qz u9440)) → ((-1) ≤ u9438 ∧ u9438 ≤ 4095) → (0 ≤ u9440 ∧ u9440 ≤ 4096) → qmB (qMd (α36 110) (α36 111) (qwC α36 92 110) (σ16 86 43) x2) (qMc (α36 111) (qwC α36 92 110) (σ16 86 43)) u9440 u9438 → (u9438 = -1 ∨ (0 ≤ u9438 ∧ u9438 < u9440)) → u9440 ≤ qz_shl 1 (σ16 86 43) → qr_W (qe L xs vb) (d + 49) qx_e233 (fun r w' => ∃ σ' α', w' = qw σ' α' κ ρ ∧ qI σ' α' κ ρ ∧ qFr [(86, 15), (86, 23), (86, 30), (86, 35), (86, 36), (86, 37), (86, 38), (86, 39), (86, 41), (86, 43)] [96, 109, 110, 111, 112] σ α σ' α' ∧ σ' 86 41 = 0 ∧ ∃ v : Int, r = some (.long (ql v)) ∧ ((-9223372036854775808) ≤ v ∧ v ≤ 9223372036854775807) ∧ ((v = -1 ∧ ¬ (0 ≤ x3 ∧ x3 / 10000 ≤ x3 % 10000 ∧ x3 % 10000 ≤ 2399 ∧ x3 % 10000 - x3 / 10000 < 48 ∧ qst x2 (σ 86 6) ∧ ql_and x2 (ql_xor x1 (-1)) = 0 ∧ qst x1 (σ 86 6) ∧ 1 ≤ qsm (fun k : Nat => qbit (ql_and x1 (ql_xor (σ 86 10) (-1))) (k : Int)) (σ 86 6 : Int).toNat ∧ qsm (fun k : Nat => qbit (ql_and x1 (ql_xor (σ 86 10) (-1))) (k : Int)) (σ 86 6 : Int).toNat ≤ 12)) ∨ ((0 ≤ x3 ∧ x3 / 10000 ≤ x3 % 10000 ∧ x3 % 10000 ≤ 2399 ∧ x3 % 10000 - x3 / 10000 < 48 ∧ qst x2 (σ 86 6) ∧ ql_and x2 (ql_xor x1 (-1)) = 0 ∧ qst x1 (σ 86 6) ∧ 1 ≤ qsm (fun k : Nat => qbit (ql_and x1 (ql_xor (σ 86 10) (-1))) (k : Int)) (σ 86 6 : Int).toNat ∧ qsm (fun k : Nat => qbit (ql_and x1 (ql_xor (σ 86 10) (-1))) (k : Int)) (σ 86 6 : Int).toNat ≤ 12) ∧ qLs (α' 110) (σ' 86 43) (qBr (fun k : Nat => qbit (ql_and x1 (ql_xor (σ 86 10) (-1))) (k : Int)) (σ 86 6 : Int).toNat) ∧ qBR (qPF (fun a b : Int => qBaM σ α g (α' 110 (a : Int).toNat) (α' 110 (b : Int).toNat) (x3 / 10000) (x3 % 10000)) (σ' 86 43)) (α' 111) (σ' 86 43) ∧ qMst (α' 110) (α' 111) (qwC α' 92 110) (σ' 86 43) x2 v))) (102, ls, [], qw σ35 α36 κ ρ, 0, 0) := by
                  intro n
                  induction n with
                  | zero => intro ls u9438 u9440 hm g9435 g9436 g9437 g9439 hf9441 hf9442 hx9443 hx9444 hx9445; exact False.elim (by omega)
                  | succ n ih9447 =>
                    intro ls u9438 u9440 hm g9435 g9436 g9437 g9439 hf9441 hf9442 hx9443 hx9444 hx9445
                    refine qr_iload 104 rfl g9439 rfl ?_
                    refine qr_iconst 105 rfl rfl ?_
                    refine qr_aload_n 106 rfl g9435 rfl ?_
                    refine qr_get 109 rfl rfl rfl (by decide) rfl ?_
                    refine qy_v (σ16 86 43) ((hG38.1 86 43 (by decide)).trans rfl) ?_
                    refine qr_ishl 110 rfl rfl ?_
                    refine qy_shl1E (N := 12) (by omega) (fun v9448 hv9448 hev9448 => ?_)
                    refine qr_icmp_ge 215 113 rfl rfl rfl (qrg hf9442 (by decide) (by decide)) (by omega) (fun h9449 => ?_) (fun h9449 => ?_)
                    · skip
                      refine qr_iload 217 rfl g9437 rfl ?_
                      refine qr_if_ge 226 220 rfl rfl rfl (qrg hf9441 (by decide) (by decide)) (fun h9450 => ?_) (fun h9450 => ?_)
                      · skip
                        refine qr_aload_n 227 rfl g9435 rfl ?_
                        refine qr_iload 229 rfl g9437 rfl ?_
                        have hs9451 : 0 ≤ σ35 86 43 ∧ σ35 86 43 ≤ 32 := hI37.1 86 43
                        have hs9452 : σ35 86 43 = (σ16 86 43) := (hG38.1 86 43 (by decide)).trans rfl
                        refine qr_callN 232 rfl rfl rfl (sf_237_86x (d := d + 48) hI37 (by omega) (by omega)) ?_
                        rintro _ _ ⟨rfl, v9453, rfl, hv9453, hx9454⟩
                        show qr_W (qe L xs vb) (d + 49) qx_e233 _ (232, _, [.long (ql v9453)], qw σ35 α36 κ ρ, 0, 0)
                        refine qr_retL rfl rfl (by decide) (by decide) ?_
                        exact ⟨_, _, rfl, hI37, hF39, (by have hw : σ35 86 41 = (σ35 86 41) := rfl; omega), v9453, rfl, hv9453, (Or.inr ⟨⟨by omega, by omega, by omega, by omega, (by have hz := hp5; rcases hz with hz | hz; (exact hz.2); (exact absurd hz.1 (by omega))), by rw [← hz10]; omega, hc23⟩, (by rw [hG38.2 110 (by decide), hG38.1 86 43 (by decide)]; exact hc24), (by rw [hG38.2 110 (by decide), hG38.1 86 43 (by decide)]; exact hx32), ⟨u9438, (by rw [show σ35 86 43 = σ16 86 43 from hG38.1 86 43 (by decide)]; have hz := hx9443; rw [show u9440 = qz_shl 1 (σ16 86 43) by omega] at hz; exact hz), Or.inr ⟨by omega, hx9454⟩⟩⟩)⟩
                      · skip
                        refine qr_ldc2 (-2) 223 rfl (by decide) rfl ?_
                        refine qr_goto 232 rfl rfl ?_
                        refine qr_retL rfl rfl (by decide) (by decide) ?_
                        exact ⟨_, _, rfl, hI37, hF39, (by have hw : σ35 86 41 = (σ35 86 41) := rfl; omega), (-2), rfl, (by decide), (Or.inr ⟨⟨by omega, by omega, by omega, by omega, (by have hz := hp5; rcases hz with hz | hz; (exact hz.2); (exact absurd hz.1 (by omega))), by rw [← hz10]; omega, hc23⟩, (by rw [hG38.2 110 (by decide), hG38.1 86 43 (by decide)]; exact hc24), (by rw [hG38.2 110 (by decide), hG38.1 86 43 (by decide)]; exact hx32), ⟨u9438, (by rw [show σ35 86 43 = σ16 86 43 from hG38.1 86 43 (by decide)]; have hz := hx9443; rw [show u9440 = qz_shl 1 (σ16 86 43) by omega] at hz; exact hz), Or.inl ⟨by omega, rfl⟩⟩⟩)⟩
                    · skip
                      refine qr_aload_n 114 rfl g9435 rfl ?_
                      refine qr_get 117 rfl rfl rfl (by decide) rfl ?_
                      refine qr_iload 119 rfl g9439 rfl ?_
                      refine qr_iaload 120 rfl rfl (by omega) (by decide) rfl ?_
                      refine qr_topI (fun v9455 hv9455 => ?_)
                      have hs9456 : (-2147483648) ≤ v9455 ∧ v9455 ≤ 2147483647 := by rw [hv9455]; exact hI37.2.1 112 _ (show _ < 4096 by omega)
                      refine qr_if_lt 209 123 rfl rfl rfl hs9456 (fun h9457 => ?_) (fun h9457 => ?_)
                      · skip
                        refine qr_iinc _ 212 rfl g9439 (by decide) rfl rfl ?_
                        refine qr_goto 102 rfl rfl ?_
                        exact ih9447 _ u9438 (u9440 + 1) (by omega) (qm_gk g9435 (by decide) (Or.inl (by decide))) (qm_gk g9436 (by decide) (Or.inl (by decide))) (qm_gk g9437 (by decide) (Or.inr rfl)) (qm_ge _ _ _) hf9441 (by omega) (qmB_no (fun hd => by have hz := hd.2; have kw0 := (hv9455).trans (hx33 u9440 (by omega) (by omega)); omega) hx9443) (by omega) (by omega)
                      · skip
                        refine qr_iload 125 rfl g9436 rfl ?_
                        refine qr_iload 127 rfl g9439 rfl ?_
                        refine qr_iconst 128 rfl rfl ?_
                        refine qr_ixor 129 rfl rfl ?_
                        refine qy_canE (fun v9458 hv9458 hev9458 => ?_)
                        refine qr_iand 130 rfl rfl ?_
                        refine qy_canE (fun v9459 hv9459 hev9459 => ?_)
                        refine qr_if_eq 136 133 rfl rfl rfl hv9459 (fun h9460 => ?_) (fun h9460 => ?_)
                        · skip
                          refine qr_iload 138 rfl g9437 rfl ?_
                          refine qr_if_lt 188 141 rfl rfl rfl (qrg hf9441 (by decide) (by decide)) (fun h9461 => ?_) (fun h9461 => ?_)
                          · skip
                            refine qr_iconst 189 rfl rfl ?_
                            refine qr_goto 193 rfl rfl ?_
                            refine qr_istore _ 195 rfl (by decide) rfl rfl ?_
                            refine qr_iload 197 rfl (qm_ge _ _ _) rfl ?_
                            refine qr_if_eq 205 200 rfl rfl rfl (by decide) (fun h => False.elim (by omega)) (fun h9462 => ?_)
                            refine qr_iload 202 rfl (qm_gk g9439 (by decide) (Or.inr rfl)) rfl ?_
                            refine qr_goto 207 rfl rfl ?_
                            refine qr_istore _ 209 rfl (by decide) rfl rfl ?_
                            refine qr_iinc _ 212 rfl (qm_gk (qm_gk g9439 (by decide) (Or.inr rfl)) (by decide) (Or.inl (by decide))) (by decide) rfl rfl ?_
                            refine qr_goto 102 rfl rfl ?_
                            exact ih9447 _ u9440 (u9440 + 1) (by omega) (qm_gk (qm_gk (qm_gk g9435 (by decide) (Or.inl (by decide))) (by decide) (Or.inl (by decide))) (by decide) (Or.inl (by decide))) (qm_gk (qm_gk (qm_gk g9436 (by decide) (Or.inl (by decide))) (by decide) (Or.inr rfl)) (by decide) (Or.inl (by decide))) (qm_gk (qm_ge _ _ _) (by decide) (Or.inr rfl)) (qm_ge _ _ _) (by omega) (by omega) (qmB_hi (by omega) ⟨qNd_my hB8300 (by omega) (by rw [← qz_val hev9458 (by omega) (qz_xor_r _ _), ← qz_val hev9459 (by omega) (qz_and_r _ _)]; omega), by have kw0 := (hv9455).trans (hx33 u9440 (by omega) (by omega)); omega⟩ (Or.inl (by omega)) hx9443) (by omega) (by omega)
                          · skip
                            refine qr_aload_n 142 rfl g9435 rfl ?_
                            refine qr_get 145 rfl rfl rfl (by decide) rfl ?_
                            refine qr_iload 147 rfl g9439 rfl ?_
                            refine qr_iaload 148 rfl rfl (by omega) (by decide) rfl ?_
                            refine qr_topI (fun v9463 hv9463 => ?_)
                            have hs9464 : (-2147483648) ≤ v9463 ∧ v9463 ≤ 2147483647 := by rw [hv9463]; exact hI37.2.1 112 _ (show _ < 4096 by omega)
                            refine qr_aload_n 149 rfl g9435 rfl ?_
                            refine qr_get 152 rfl rfl rfl (by decide) rfl ?_
                            refine qr_iload 154 rfl g9437 rfl ?_
                            refine qr_iaload 155 rfl rfl (by omega) (by decide) rfl ?_
                            refine qr_topI (fun v9465 hv9465 => ?_)
                            have hs9466 : (-2147483648) ≤ v9465 ∧ v9465 ≤ 2147483647 := by rw [hv9465]; exact hI37.2.1 112 _ (show _ < 4096 from qrgt hf9441 (by decide) (by decide))
                            refine qr_icmp_gt 188 158 rfl rfl rfl hs9464 hs9466 (fun h9467 => ?_) (fun h9467 => ?_)
                            · skip
                              refine qr_iconst 189 rfl rfl ?_
                              refine qr_goto 193 rfl rfl ?_
                              refine qr_istore _ 195 rfl (by decide) rfl rfl ?_
                              refine qr_iload 197 rfl (qm_ge _ _ _) rfl ?_
                              refine qr_if_eq 205 200 rfl rfl rfl (by decide) (fun h => False.elim (by omega)) (fun h9468 => ?_)
                              refine qr_iload 202 rfl (qm_gk g9439 (by decide) (Or.inr rfl)) rfl ?_
                              refine qr_goto 207 rfl rfl ?_
                              refine qr_istore _ 209 rfl (by decide) rfl rfl ?_
                              refine qr_iinc _ 212 rfl (qm_gk (qm_gk g9439 (by decide) (Or.inr rfl)) (by decide) (Or.inl (by decide))) (by decide) rfl rfl ?_
                              refine qr_goto 102 rfl rfl ?_
                              exact ih9447 _ u9440 (u9440 + 1) (by omega) (qm_gk (qm_gk (qm_gk g9435 (by decide) (Or.inl (by decide))) (by decide) (Or.inl (by decide))) (by decide) (Or.inl (by decide))) (qm_gk (qm_gk (qm_gk g9436 (by decide) (Or.inl (by decide))) (by decide) (Or.inr rfl)) (by decide) (Or.inl (by decide))) (qm_gk (qm_ge _ _ _) (by decide) (Or.inr rfl)) (qm_ge _ _ _) (by omega) (by omega) (qmB_hi (by omega) ⟨qNd_my hB8300 (by omega) (by rw [← qz_val hev9458 (by omega) (qz_xor_r _ _), ← qz_val hev9459 (by omega) (qz_and_r _ _)]; omega), by have kw0 := (hv9455).trans (hx33 u9440 (by omega) (by omega)); have kw1 := (hv9463).trans (hx33 u9440 (by omega) (by omega)); have kw2 := (hv9465).trans (hx33 u9438 (by omega) (by omega)); omega⟩ (Or.inr (by have ka : (qMc (α36 111) (qwC α36 92 110) (σ16 86 43)) u9440 = qwt (α36 111) (qwC α36 92 110) u9440 (σ16 86 43 : Int).toNat * 16 + qpn u9440 := rfl; have kb : (qMc (α36 111) (qwC α36 92 110) (σ16 86 43)) u9438 = qwt (α36 111) (qwC α36 92 110) u9438 (σ16 86 43 : Int).toNat * 16 + qpn u9438 := rfl; have kc := qpn_r (x := u9440) (by omega); have kd := qpn_r (x := u9438) (by omega); have kw0 := (hv9455).trans (hx33 u9440 (by omega) (by omega)); have kw1 := (hv9463).trans (hx33 u9440 (by omega) (by omega)); have kw2 := (hv9465).trans (hx33 u9438 (by omega) (by omega)); omega)) hx9443) (by omega) (by omega)
                            · skip
                              refine qr_aload_n 159 rfl g9435 rfl ?_
                              refine qr_get 162 rfl rfl rfl (by decide) rfl ?_
                              refine qr_iload 164 rfl g9439 rfl ?_
                              refine qr_iaload 165 rfl rfl (by omega) (by decide) rfl ?_
                              refine qr_topI (fun v9469 hv9469 => ?_)
                              have hs9470 : (-2147483648) ≤ v9469 ∧ v9469 ≤ 2147483647 := by rw [hv9469]; exact hI37.2.1 112 _ (show _ < 4096 by omega)
                              refine qr_aload_n 166 rfl g9435 rfl ?_
                              refine qr_get 169 rfl rfl rfl (by decide) rfl ?_
                              refine qr_iload 171 rfl g9437 rfl ?_
                              refine qr_iaload 172 rfl rfl (by omega) (by decide) rfl ?_
                              refine qr_topI (fun v9471 hv9471 => ?_)
                              have hs9472 : (-2147483648) ≤ v9471 ∧ v9471 ≤ 2147483647 := by rw [hv9471]; exact hI37.2.1 112 _ (show _ < 4096 from qrgt hf9441 (by decide) (by decide))
                              refine qr_icmp_ne 192 175 rfl rfl rfl hs9470 hs9472 (fun h9473 => ?_) (fun h9473 => ?_)
                              · skip
                                refine qr_iconst 193 rfl rfl ?_
                                refine qr_istore _ 195 rfl (by decide) rfl rfl ?_
                                refine qr_iload 197 rfl (qm_ge _ _ _) rfl ?_
                                refine qr_if_eq 205 200 rfl rfl rfl (by decide) (fun h9474 => ?_) (fun h => False.elim (by omega))
                                refine qr_iload 207 rfl (qm_gk g9437 (by decide) (Or.inl (by decide))) rfl ?_
                                refine qr_istore _ 209 rfl (by decide) rfl rfl ?_
                                refine qr_iinc _ 212 rfl (qm_gk (qm_gk g9439 (by decide) (Or.inr rfl)) (by decide) (Or.inl (by decide))) (by decide) rfl rfl ?_
                                refine qr_goto 102 rfl rfl ?_
                                exact ih9447 _ u9438 (u9440 + 1) (by omega) (qm_gk (qm_gk (qm_gk g9435 (by decide) (Or.inl (by decide))) (by decide) (Or.inl (by decide))) (by decide) (Or.inl (by decide))) (qm_gk (qm_gk (qm_gk g9436 (by decide) (Or.inl (by decide))) (by decide) (Or.inr rfl)) (by decide) (Or.inl (by decide))) (qm_gk (qm_ge _ _ _) (by decide) (Or.inr rfl)) (qm_ge _ _ _) hf9441 (by omega) (qmB_lo (by omega) (by have ka : (qMc (α36 111) (qwC α36 92 110) (σ16 86 43)) u9440 = qwt (α36 111) (qwC α36 92 110) u9440 (σ16 86 43 : Int).toNat * 16 + qpn u9440 := rfl; have kb : (qMc (α36 111) (qwC α36 92 110) (σ16 86 43)) u9438 = qwt (α36 111) (qwC α36 92 110) u9438 (σ16 86 43 : Int).toNat * 16 + qpn u9438 := rfl; have kc := qpn_r (x := u9440) (by omega); have kd := qpn_r (x := u9438) (by omega); have kw0 := (hv9455).trans (hx33 u9440 (by omega) (by omega)); have kw1 := (hv9463).trans (hx33 u9440 (by omega) (by omega)); have kw2 := (hv9465).trans (hx33 u9438 (by omega) (by omega)); have kw3 := (hv9469).trans (hx33 u9440 (by omega) (by omega)); have kw4 := (hv9471).trans (hx33 u9438 (by omega) (by omega)); omega) hx9443) (by omega) (by omega)
                              · skip
                                refine qr_iload 177 rfl g9439 rfl ?_
                                refine qr_callN 180 rfl rfl rfl (sf_236x (d := d + 48) hI37 (by omega)) ?_
                                rintro _ _ ⟨rfl, v9475, rfl, hv9475, hp9476⟩
                                show qr_W (qe L xs vb) (d + 49) qx_e233 _ (180, _, [.int (qz v9475)], qw σ35 α36 κ ρ, 0, 0)
                                refine qr_iload 182 rfl g9437 rfl ?_
                                refine qr_callN 185 rfl rfl rfl (sf_236x (d := d + 48) hI37 (by omega)) ?_
                                rintro _ _ ⟨rfl, v9477, rfl, hv9477, hp9478⟩
                                show qr_W (qe L xs vb) (d + 49) qx_e233 _ (185, _, [.int (qz v9477), .int (qz v9475)], qw σ35 α36 κ ρ, 0, 0)
                                refine qr_icmp_le 192 188 rfl rfl rfl hv9475 hv9477 (fun h9479 => ?_) (fun h9479 => ?_)
                                · skip
                                  refine qr_iconst 193 rfl rfl ?_
                                  refine qr_istore _ 195 rfl (by decide) rfl rfl ?_
                                  refine qr_iload 197 rfl (qm_ge _ _ _) rfl ?_
                                  refine qr_if_eq 205 200 rfl rfl rfl (by decide) (fun h9480 => ?_) (fun h => False.elim (by omega))
                                  refine qr_iload 207 rfl (qm_gk g9437 (by decide) (Or.inl (by decide))) rfl ?_
                                  refine qr_istore _ 209 rfl (by decide) rfl rfl ?_
                                  refine qr_iinc _ 212 rfl (qm_gk (qm_gk g9439 (by decide) (Or.inr rfl)) (by decide) (Or.inl (by decide))) (by decide) rfl rfl ?_
                                  refine qr_goto 102 rfl rfl ?_
                                  exact ih9447 _ u9438 (u9440 + 1) (by omega) (qm_gk (qm_gk (qm_gk g9435 (by decide) (Or.inl (by decide))) (by decide) (Or.inl (by decide))) (by decide) (Or.inl (by decide))) (qm_gk (qm_gk (qm_gk g9436 (by decide) (Or.inl (by decide))) (by decide) (Or.inr rfl)) (by decide) (Or.inl (by decide))) (qm_gk (qm_ge _ _ _) (by decide) (Or.inr rfl)) (qm_ge _ _ _) hf9441 (by omega) (qmB_lo (by omega) (by have ka : (qMc (α36 111) (qwC α36 92 110) (σ16 86 43)) u9440 = qwt (α36 111) (qwC α36 92 110) u9440 (σ16 86 43 : Int).toNat * 16 + qpn u9440 := rfl; have kb : (qMc (α36 111) (qwC α36 92 110) (σ16 86 43)) u9438 = qwt (α36 111) (qwC α36 92 110) u9438 (σ16 86 43 : Int).toNat * 16 + qpn u9438 := rfl; have kc := qpn_r (x := u9440) (by omega); have kd := qpn_r (x := u9438) (by omega); have kw0 := (hv9455).trans (hx33 u9440 (by omega) (by omega)); have kw1 := (hv9463).trans (hx33 u9440 (by omega) (by omega)); have kw2 := (hv9465).trans (hx33 u9438 (by omega) (by omega)); have kw3 := (hv9469).trans (hx33 u9440 (by omega) (by omega)); have kw4 := (hv9471).trans (hx33 u9438 (by omega) (by omega)); omega) hx9443) (by omega) (by omega)
                                · skip
                                  refine qr_iconst 189 rfl rfl ?_
                                  refine qr_goto 193 rfl rfl ?_
                                  refine qr_istore _ 195 rfl (by decide) rfl rfl ?_
                                  refine qr_iload 197 rfl (qm_ge _ _ _) rfl ?_
                                  refine qr_if_eq 205 200 rfl rfl rfl (by decide) (fun h => False.elim (by omega)) (fun h9481 => ?_)
                                  refine qr_iload 202 rfl (qm_gk g9439 (by decide) (Or.inr rfl)) rfl ?_
                                  refine qr_goto 207 rfl rfl ?_
                                  refine qr_istore _ 209 rfl (by decide) rfl rfl ?_
                                  as_aux_lemma =>
                                    refine qr_iinc _ 212 rfl (qm_gk (qm_gk g9439 (by decide) (Or.inr rfl)) (by decide) (Or.inl (by decide))) (by decide) rfl rfl ?_
                                    refine qr_goto 102 rfl rfl ?_
                                    exact ih9447 _ u9440 (u9440 + 1) (by omega) (qm_gk (qm_gk (qm_gk g9435 (by decide) (Or.inl (by decide))) (by decide) (Or.inl (by decide))) (by decide) (Or.inl (by decide))) (qm_gk (qm_gk (qm_gk g9436 (by decide) (Or.inl (by decide))) (by decide) (Or.inr rfl)) (by decide) (Or.inl (by decide))) (qm_gk (qm_ge _ _ _) (by decide) (Or.inr rfl)) (qm_ge _ _ _) (by omega) (by omega) (qmB_hi (by omega) ⟨qNd_my hB8300 (by omega) (by rw [← qz_val hev9458 (by omega) (qz_xor_r _ _), ← qz_val hev9459 (by omega) (qz_and_r _ _)]; omega), by have kw0 := (hv9455).trans (hx33 u9440 (by omega) (by omega)); have kw1 := (hv9463).trans (hx33 u9440 (by omega) (by omega)); have kw2 := (hv9465).trans (hx33 u9438 (by omega) (by omega)); have kw3 := (hv9469).trans (hx33 u9440 (by omega) (by omega)); have kw4 := (hv9471).trans (hx33 u9438 (by omega) (by omega)); omega⟩ (Or.inr (by have ka : (qMc (α36 111) (qwC α36 92 110) (σ16 86 43)) u9440 = qwt (α36 111) (qwC α36 92 110) u9440 (σ16 86 43 : Int).toNat * 16 + qpn u9440 := rfl; have kb : (qMc (α36 111) (qwC α36 92 110) (σ16 86 43)) u9438 = qwt (α36 111) (qwC α36 92 110) u9438 (σ16 86 43 : Int).toNat * 16 + qpn u9438 := rfl; have kc := qpn_r (x := u9440) (by omega); have kd := qpn_r (x := u9438) (by omega); have kw0 := (hv9455).trans (hx33 u9440 (by omega) (by omega)); have kw1 := (hv9463).trans (hx33 u9440 (by omega) (by omega)); have kw2 := (hv9465).trans (hx33 u9438 (by omega) (by omega)); have kw3 := (hv9469).trans (hx33 u9440 (by omega) (by omega)); have kw4 := (hv9471).trans (hx33 u9438 (by omega) (by omega)); omega)) hx9443) (by omega) (by omega)
                        · skip
                          refine qr_goto 209 rfl rfl ?_
                          refine qr_iinc _ 212 rfl g9439 (by decide) rfl rfl ?_
                          refine qr_goto 102 rfl rfl ?_
                          exact ih9447 _ u9438 (u9440 + 1) (by omega) (qm_gk g9435 (by decide) (Or.inl (by decide))) (qm_gk g9436 (by decide) (Or.inl (by decide))) (qm_gk g9437 (by decide) (Or.inr rfl)) (qm_ge _ _ _) hf9441 (by omega) (qmB_no (fun hd => qNd_mn hB8300 (by rw [← qz_val hev9458 (by omega) (qz_xor_r _ _), ← qz_val hev9459 (by omega) (qz_and_r _ _)]; omega) hd.1) hx9443) (by omega) (by omega)
                exact hL9446 ((4096 - 0 + 1 : Int)).toNat _ (-1) 0 (by omega) (qm_gk (qm_gk g8287 (by decide) (Or.inl (by decide))) (by decide) (Or.inl (by decide))) (qm_gk (qm_gk g8289 (by decide) (Or.inr rfl)) (by decide) (Or.inl (by decide))) (qm_gk (qm_ge _ _ _) (by decide) (Or.inr rfl)) (qm_ge _ _ _) (by decide) (by decide) (qmB_0 _ _) (by omega) (by omega)
              · skip
                refine qr_iload 65 rfl g8289 rfl ?_
                refine qr_lload_n 66 rfl g8288 rfl ?_
                refine qr_aload_n 67 rfl g8287 rfl ?_
                refine qr_get 70 rfl rfl rfl (by decide) rfl ?_
                refine qr_iload 72 rfl g8291 rfl ?_
                refine qr_iaload 73 rfl rfl (qrgi hf8294 (by decide) (by decide)) (by decide) rfl ?_
                refine qr_topI (fun v9482 hv9482 => ?_)
                have hs9483 : 0 ≤ v9482 ∧ v9482 ≤ 31 := by rw [hv9482]; exact hI37.2.1 110 _ (show _ < 32 from qrgt hf8294 (by decide) (by decide))
                have hrv9482 : v9482 = (α17 110) (u8292 : Int).toNat := hv9482.trans (congrFun ((hG38.2 110 (by decide)).trans rfl) _)
                refine qr_callN 76 rfl rfl rfl (sf_226x (d := d + 48) hI37 r2 hs9483) ?_
                rintro _ _ ⟨rfl, v9484, rfl, hv9484, hp9485⟩
                show qr_W (qe L xs vb) (d + 49) qx_e233 _ (76, _, [.int (qz v9484), .int (qz u8290)], qw σ35 α36 κ ρ, 0, 0)
                refine qr_if_eq 86 79 rfl rfl rfl (qrg hv9484 (by decide) (by decide)) (fun h9486 => ?_) (fun h9486 => ?_)
                · skip
                  refine qr_iconst 87 rfl rfl ?_
                  refine qr_ior 88 rfl rfl ?_
                  refine qy_canE (fun v9487 hv9487 hev9487 => ?_)
                  refine qr_istore _ 90 rfl (by decide) rfl rfl ?_
                  refine qr_iinc _ 93 rfl (qm_gk g8291 (by decide) (Or.inl (by decide))) (by decide) rfl rfl ?_
                  refine qr_goto 54 rfl rfl ?_
                  exact ih8298 _ v9487 (u8292 + 1) (by omega) (qm_gk (qm_gk g8287 (by decide) (Or.inl (by decide))) (by decide) (Or.inl (by decide))) (qm_gk (qm_gk g8288 (by decide) (Or.inl (by decide))) (by decide) (Or.inl (by decide))) (qm_gk (qm_ge _ _ _) (by decide) (Or.inr rfl)) (qm_ge _ _ _) hv9487 (by omega) (by rw [qz_val hev9487 (by omega) (qz_or_r _ _), qz_or_0 (by omega)]; exact qNB_n hx8295 (by rw [← hrv9482]; omega)) (by omega)
                · skip
                  refine qr_iconst 80 rfl rfl ?_
                  refine qr_iload 82 rfl g8291 rfl ?_
                  refine qr_ishl 83 rfl rfl ?_
                  refine qy_shl1E (N := 11) (by omega) (fun v9488 hv9488 hev9488 => ?_)
                  refine qr_goto 87 rfl rfl ?_
                  refine qr_ior 88 rfl rfl ?_
                  refine qy_canE (fun v9489 hv9489 hev9489 => ?_)
                  refine qr_istore _ 90 rfl (by decide) rfl rfl ?_
                  refine qr_iinc _ 93 rfl (qm_gk g8291 (by decide) (Or.inl (by decide))) (by decide) rfl rfl ?_
                  refine qr_goto 54 rfl rfl ?_
                  exact ih8298 _ v9489 (u8292 + 1) (by omega) (qm_gk (qm_gk g8287 (by decide) (Or.inl (by decide))) (by decide) (Or.inl (by decide))) (qm_gk (qm_gk g8288 (by decide) (Or.inl (by decide))) (by decide) (Or.inl (by decide))) (qm_gk (qm_ge _ _ _) (by decide) (Or.inr rfl)) (qm_ge _ _ _) hv9489 (by omega) (qNB_y hx8295 (by omega) (by rw [← hrv9482]; omega) (by rw [qz_val hev9489 (by omega) (qz_or_r _ _), hev9488])) (by omega)
          exact hL8297 ((12 - 0 + 1 : Int)).toNat _ 0 0 (by omega) rfl rfl rfl rfl (by decide) (by decide) (qNB_0 _ _) (by omega)
        · skip
          refine qr_ldc2 (-1) 41 rfl (by decide) rfl ?_
          refine qr_retL rfl rfl (by decide) (by decide) ?_
          exact ⟨_, _, rfl, hI18, hF20, (by have hw : σ16 86 41 = (σ 86 41) := (hG19.1 86 41 (by decide)).trans rfl; omega), (-1), rfl, (by decide), (Or.inl ⟨rfl, (fun hc => by obtain ⟨c1, c2, c3, c4, c5, c6, c7, c8, c9⟩ := hc; first | omega | (have hz := hp5; rcases hz with hz | hz; (omega); (exact hz.2 c5)) | (rw [← hz10] at c6; omega) | (rcases hx14 with hz | hz; (exact hz.2 ⟨c7, c8, c9⟩); (omega)))⟩)⟩

/-! told people on both sides -/
theorem qst_sub {x y n : Int} (hx : qst x n) (hn : 0 ≤ n ∧ n ≤ 32) (hr : -9223372036854775808 ≤ y ∧ y ≤ 9223372036854775807) (h : ql_and y (ql_xor x (-1)) = 0) : qst y n := by
  have hb : ∀ i : Int, 0 ≤ i → i < 64 → qbit y i = 1 → qbit x i = 1 := fun i h0 h1 hy => by
    have c := qband_c y (ql_xor x (-1)) i
    rw [h, qbit_0, qbit_not x ⟨h0, h1⟩] at c
    have := qbit_r x i
    omega
  have ht : ∀ i : Nat, n.toNat ≤ i → (qlu y).testBit i = false := fun i hi => by
    by_cases h64 : i < 64
    · have h1 := qst_bit hx (by omega) (i := (i : Int)) (by omega)
      by_cases c : (qlu y).testBit i = true
      · have h2 : qbit y (i : Int) = 1 := by rw [qbit_if, Int.toNat_natCast, if_pos c]
        have h3 := hb (i : Int) (by omega) (by omega) h2
        omega
      · exact Bool.eq_false_iff.mpr c
    · exact Nat.testBit_lt_two_pow (Nat.lt_of_lt_of_le (show qlu y < 2 ^ 64 from qlu_lt y) (Nat.pow_le_pow_right (by decide) (by omega)))
  have hlt : qlu y < 2 ^ n.toNat := Nat.lt_pow_two_of_testBit _ (fun i hi => ht i hi)
  have h32 : 2 ^ n.toNat ≤ 2 ^ 32 := Nat.pow_le_pow_right (by decide) (by omega)
  have h33 : (2 : Nat) ^ 32 = 4294967296 := by decide
  have hs := qlu_sm hr (by omega)
  exact ⟨by omega, Nat.div_eq_of_lt hlt⟩
theorem qgl_0 {x d n : Int} (h : qst x n) (hn : 0 ≤ n ∧ n ≤ 32) : ∀ k : Nat, n.toNat ≤ k → qbit (ql_and x d) (k : Int) = 0 := fun k hk => by
  have h1 := qst_bit h (by omega) (i := (k : Int)) (by omega)
  have h2 := qband_c x d (k : Int)
  omega
theorem qgl_len {x d n : Int} (h : qst x n) (hn : 0 ≤ n ∧ n ≤ 32) : qcn (ql_and x d) 64 = qsm (fun k : Nat => qbit (ql_and x d) (k : Int)) n.toNat := by
  have h1 := qcn_sm (ql_and x d) 64
  have h2 : qcn (ql_and x d) ((64 : Nat) : Int) = qcn (ql_and x d) 64 := rfl
  have h3 := qsm_z (f := fun k : Nat => qbit (ql_and x d) (k : Int)) (n := n.toNat) (qgl_0 h hn) (64 - n.toNat)
  rw [show n.toNat + (64 - n.toNat) = 64 by omega] at h3
  omega
theorem qgl_ls {x d n : Int} (h : qst x n) (hn : 0 ≤ n ∧ n ≤ 32) : qBr (fun k : Nat => qbit (ql_and x d) (k : Int)) 32 = qBr (fun k : Nat => qbit (ql_and x d) (k : Int)) n.toNat := by
  have h3 := qBr_stop (Q := fun k : Nat => qbit (ql_and x d) (k : Int)) (n := n.toNat) (fun k hk => by
    have := qgl_0 (d := d) h hn k hk
    omega) (32 - n.toNat)
  rw [show n.toNat + (32 - n.toNat) = 32 by omega] at h3
  exact h3
theorem qgl_nz {L : Int} (hr : -9223372036854775808 ≤ L ∧ L ≤ 9223372036854775807) : ¬ L = 0 ↔ 1 ≤ qcn L 64 := by
  constructor
  · intro h
    by_cases c : ∃ i : Int, (0 ≤ i ∧ i < 64) ∧ qbit L i = 1
    · obtain ⟨i, hi, hb⟩ := c
      exact qcn_1 hi hb
    · exact absurd (qbit_ext hr (by decide) (fun i h0 h1 => by
        rw [qbit_0]
        have hb := qbit_r L i
        have hn : ¬ qbit L i = 1 := fun z => c ⟨i, ⟨h0, h1⟩, z⟩
        omega)) h
  · intro h e
    rw [e, qcn_z] at h
    omega
/-- the rows of those told are alike -/
theorem qgr_ls {r r' : Nat → Int} {n m : Int} {l : List Int} (h : qLs r n l) (g : qLs r' m l) : n = m ∧ ∀ k : Nat, (k : Int) < n → r k = r' k := by
  have h1 := h.1
  have g1 := g.1
  refine ⟨by omega, fun k hk => ?_⟩
  rw [h.2 k (by omega), g.2 k (by omega)]
theorem qgr_in {r : Nat → Int} {n m : Int} {L : Int} (h : qLs r n (qBr (fun k : Nat => qbit L (k : Int)) m.toNat)) : ∀ k : Nat, (k : Int) < n → qbit L (r k) = 1 := fun k hk => by
  have h1 := h.1
  have h2 := h.2 k (by omega)
  have h3 := (qBr_mem (P := fun k : Nat => qbit L (k : Int)) m.toNat (r k)).mp (by rw [h2]; exact List.getElem_mem _)
  have h4 : qbit L (((r k).toNat : Nat) : Int) = 1 := h3.2
  rw [show (((r k).toNat : Nat) : Int) = r k by have := h3.1; omega] at h4
  exact h4
theorem qMst_un {ls ls' bd bd' w w' : Nat → Int} {n t t' v v' : Int} (hn : 0 ≤ n ∧ n ≤ 12) (e : ∀ k : Nat, (k : Int) < n → ls k = ls' k ∧ bd k = bd' k ∧ w k = w' k) (et : ∀ k : Nat, (k : Int) < n → (qbit t (ls k) = 1 ↔ qbit t' (ls k) = 1)) (h : qMst ls bd w n t v) (g : qMst ls' bd' w' n t' v') : v = v' := by
  have ew : ∀ x : Int, qwt bd w x n.toNat = qwt bd' w' x n.toNat := fun x => qwt_cg n.toNat (fun k hk => (e k (by omega)).2)
  have ed : ∀ x : Int, qMd ls bd w n t x ↔ qMd ls' bd' w' n t' x := fun x => by
    unfold qMd qNd
    rw [ew x]
    have h1 : (∀ k : Int, 0 ≤ k → k < n → qbit t (ls k.toNat) = 1 → qbi x k = 1) ↔ (∀ k : Int, 0 ≤ k → k < n → qbit t' (ls' k.toNat) = 1 → qbi x k = 1) := by
      constructor
      · intro hh k h0 h1 h2
        rw [← (e k.toNat (by omega)).1] at h2
        exact hh k h0 h1 ((et k.toNat (by omega)).mpr h2)
      · intro hh k h0 h1 h2
        have h3 := (et k.toNat (by omega)).mp h2
        rw [(e k.toNat (by omega)).1] at h3
        exact hh k h0 h1 h3
    rw [h1]
  have ec : ∀ x : Int, qMc bd w n x = qMc bd' w' n x := fun x => by
    unfold qMc
    rw [ew x]
  obtain ⟨b, h1, h2⟩ := h
  obtain ⟨b', g1, g2⟩ := g
  have eb : b = b' := qmB_un (fun u _ _ => ed u) (fun u _ _ => ec u) h1 g1
  subst eb
  rcases h2 with ⟨h2, h3⟩ | ⟨h2, h3⟩
  · rcases g2 with ⟨g2, g3⟩ | ⟨g2, g3⟩
    · rw [h3, g3]
    · omega
  · rcases g2 with ⟨g2, g3⟩ | ⟨g2, g3⟩
    · omega
    · rw [h3, g3]
      exact qap_cg n.toNat (fun k hk => (e k (by omega)).1)
theorem qrr_w {σ α : Nat → Nat → Int} {κ : Nat → Option Nat} {ρ : Nat} (hI : qI σ α κ ρ) (hR : qR σ α) : ∀ p : Nat, p < 32 → 0 ≤ α 92 p ∧ α 92 p ≤ 99 := fun p hp => by
  rw [← hR.2.2.2.2.1]
  exact hI.2.1 19 p hp

set_option maxHeartbeats 4000000 in
theorem ro_most {σ α σ1 α1 σ2 α2 : Nat → Nat → Int} {κ : Nat → Option Nat} {ρ : Nat} {x1 x2 x3 v1 v2 : Int} {f g : (Nat → Int) → Int} (hA0 : qAg f g) (hI1 : qI σ1 α1 κ ρ) (hI2 : qI σ2 α2 κ ρ) (hr2 : -9223372036854775808 ≤ x2 ∧ x2 ≤ 9223372036854775807) (hI : qI σ α κ ρ) (hR : qR σ α) (hK : qR2 σ α) (hF : qRF σ α) (hP : qRP σ α) (hH : qRH σ α) (hL : qRL σ α) (hN : qRN σ α) (hW : qRS σ α) (hG1 : qFr [(58, 11), (58, 12), (64, 2)] [53, 57, 59, 60, 61, 62, 63, 65, 66, 85] σ α σ1 α1) (hG2 : qFr [(86, 15), (86, 23), (86, 30), (86, 35), (86, 36), (86, 37), (86, 38), (86, 39), (86, 41), (86, 43)] [96, 109, 110, 111, 112] σ1 α1 σ2 α2) (hx0 : ((v1 = -1 ∧ ¬ (qst x1 (σ 17 6) ∧ ql_and x2 (ql_xor x1 (-1)) = 0 ∧ 0 ≤ x3 ∧ x3 / 10000 ≤ x3 % 10000 ∧ x3 % 10000 ≤ 2399 ∧ x3 % 10000 - x3 / 10000 < 48 ∧ ¬ (ql_and x1 (ql_xor (σ 17 5) (-1))) = 0 ∧ qcn (ql_and x1 (ql_xor (σ 17 5) (-1))) 64 ≤ 12)) ∨ ((qst x1 (σ 17 6) ∧ ql_and x2 (ql_xor x1 (-1)) = 0 ∧ 0 ≤ x3 ∧ x3 / 10000 ≤ x3 % 10000 ∧ x3 % 10000 ≤ 2399 ∧ x3 % 10000 - x3 / 10000 < 48 ∧ ¬ (ql_and x1 (ql_xor (σ 17 5) (-1))) = 0 ∧ qcn (ql_and x1 (ql_xor (σ 17 5) (-1))) 64 ≤ 12) ∧ qLs (α1 65) (σ1 64 2) (qBr (fun k : Nat => qbit (ql_and x1 (ql_xor (σ 17 5) (-1))) (k : Int)) 32) ∧ qBR (qPF (fun a b : Int => qBaC σ α f (α1 65 (a : Int).toNat) (α1 65 (b : Int).toNat) (x3 / 10000) (x3 % 10000)) (σ1 64 2)) (α1 66) (σ1 64 2) ∧ qMst (α1 65) (α1 66) (qwC α1 19 65) (σ1 64 2) (ql_and x2 (ql_and x1 (ql_xor (σ 17 5) (-1)))) v1))) (hx1 : (∀ c : Nat, c < 496 → α1 61 c ≤ σ1 58 12)) (hx2 : (∀ c : Nat, c < 496 → α1 63 c ≤ σ1 58 12)) (hx3 : (0 ≤ σ1 58 12 ∧ σ1 58 12 ≤ σ 58 12 + 6912)) (hy0 : ((v2 = -1 ∧ ¬ (0 ≤ x3 ∧ x3 / 10000 ≤ x3 % 10000 ∧ x3 % 10000 ≤ 2399 ∧ x3 % 10000 - x3 / 10000 < 48 ∧ qst x2 (σ1 86 6) ∧ ql_and x2 (ql_xor x1 (-1)) = 0 ∧ qst x1 (σ1 86 6) ∧ 1 ≤ qsm (fun k : Nat => qbit (ql_and x1 (ql_xor (σ1 86 10) (-1))) (k : Int)) (σ1 86 6 : Int).toNat ∧ qsm (fun k : Nat => qbit (ql_and x1 (ql_xor (σ1 86 10) (-1))) (k : Int)) (σ1 86 6 : Int).toNat ≤ 12)) ∨ ((0 ≤ x3 ∧ x3 / 10000 ≤ x3 % 10000 ∧ x3 % 10000 ≤ 2399 ∧ x3 % 10000 - x3 / 10000 < 48 ∧ qst x2 (σ1 86 6) ∧ ql_and x2 (ql_xor x1 (-1)) = 0 ∧ qst x1 (σ1 86 6) ∧ 1 ≤ qsm (fun k : Nat => qbit (ql_and x1 (ql_xor (σ1 86 10) (-1))) (k : Int)) (σ1 86 6 : Int).toNat ∧ qsm (fun k : Nat => qbit (ql_and x1 (ql_xor (σ1 86 10) (-1))) (k : Int)) (σ1 86 6 : Int).toNat ≤ 12) ∧ qLs (α2 110) (σ2 86 43) (qBr (fun k : Nat => qbit (ql_and x1 (ql_xor (σ1 86 10) (-1))) (k : Int)) (σ1 86 6 : Int).toNat) ∧ qBR (qPF (fun a b : Int => qBaM σ1 α1 g (α2 110 (a : Int).toNat) (α2 110 (b : Int).toNat) (x3 / 10000) (x3 % 10000)) (σ2 86 43)) (α2 111) (σ2 86 43) ∧ qMst (α2 110) (α2 111) (qwC α2 92 110) (σ2 86 43) x2 v2)))  : v1 = v2 := by
  have b6 : 0 ≤ σ 86 6 ∧ σ 86 6 ≤ 32 := hI.1 86 6
  have b16 : 0 ≤ σ 86 16 ∧ σ 86 16 ≤ 40 := hI.1 86 16
  have b24 : 0 ≤ σ 86 24 ∧ σ 86 24 ≤ 60 := hI.1 86 24
  have e6 := hR.1
  have e16 := hR.2.1
  have e24 := hR.2.2.1
  have c6 : σ1 86 6 = σ 86 6 := hG1.1 86 6 (by decide)
  have c10 : σ1 86 10 = σ 86 10 := hG1.1 86 10 (by decide)
  have n5 := hN.1
  rw [e6, n5] at hx0
  rw [c6, c10, qBaM_f4 hG1 (by decide) (by decide) (hG1.1 86 41 (by decide))] at hy0
  have lr := ql_and_r x1 (ql_xor (σ 86 10) (-1))
  have nz := qgl_nz lr
  rcases hx0 with ⟨a1, a2⟩ | ⟨a1, a2, a3, a4⟩
  · rcases hy0 with ⟨b1, b2⟩ | ⟨b1, b2, b3, b4⟩
    · omega
    · obtain ⟨m1, m2, m3, m4, m5, m6, m7, m8, m9⟩ := b1
      have ln := qgl_len (d := ql_xor (σ 86 10) (-1)) m7 b6
      exact absurd ⟨m7, m6, m1, m2, m3, m4, nz.mpr (by omega), by omega⟩ a2
  · obtain ⟨c1, c2, c3, c4, c5, c6', c7, c8⟩ := a1
    have ln := qgl_len (d := ql_xor (σ 86 10) (-1)) c1 b6
    have n1 := nz.mp c7
    rcases hy0 with ⟨b1, b2⟩ | ⟨b1, b2, b3, b4⟩
    · exact absurd ⟨c3, c4, c5, c6', qst_sub c1 b6 hr2 c2, c2, c1, by omega, by omega⟩ b2
    have hb6 : 0 ≤ σ 86 6 ∧ σ 86 6 ≤ 32 := b6
    rw [qgl_ls (d := ql_xor (σ 86 10) (-1)) c1 hb6] at a2
    have gl := qgr_ls a2 b2
    have hin := qgr_in a2
    have hsr := qSr_of hb6.1 b2
    have ge := gl.1
    rw [ge] at a2 a3 a4 gl hin
    have hnn : 0 ≤ σ2 86 43 ∧ σ2 86 43 ≤ 12 := by have := b2.1; have h1 := qBr_sm (Q := fun k : Nat => qbit (ql_and x1 (ql_xor (σ 86 10) (-1))) (k : Int)) (fun k => qbit_r _ _) (σ 86 6 : Int).toNat; omega
    have hbd := qBR_un (by omega) (fun a b ha hab hbn => by
      have ea := gl.2 (a : Int).toNat (by omega)
      have eb := gl.2 (b : Int).toNat (by omega)
      have ra := hsr.1 (a : Int).toNat (by omega)
      have rb := hsr.1 (b : Int).toNat (by omega)
      have rab := hsr.2 (a : Int).toNat (b : Int).toNat (by omega) (by omega)
      show qBaC σ α f (α1 65 (a : Int).toNat) (α1 65 (b : Int).toNat) (x3 / 10000) (x3 % 10000) ↔ qBaM σ α g (α2 110 (a : Int).toNat) (α2 110 (b : Int).toNat) (x3 / 10000) (x3 % 10000)
      rw [ea, eb]
      exact qrr_ba hI hR hK hF hP hH hL hN hW hA0 (by omega) (by omega) (by omega)) (fun k hk => hI1.2.1 66 k (show k < 12 by omega)) (fun k hk => hI2.2.1 111 k (show k < 12 by omega)) a3 b3
    have hwe : ∀ k : Nat, (k : Int) < σ2 86 43 → qwC α1 19 65 k = qwC α2 92 110 k := fun k hk => by
      unfold qwC
      rw [gl.2 k hk, hG1.2 19 (by decide), hG2.2 92 (by decide), hG1.2 92 (by decide), hR.2.2.2.2.1]
    refine qMst_un hnn (fun k hk => ⟨gl.2 k hk, hbd k hk, hwe k hk⟩) (fun k hk => ?_) a4 b4
    have h1 := hin k hk
    have h2 := qband_c x2 (ql_and x1 (ql_xor (σ 86 10) (-1))) (α1 65 k)
    omega
