/-! buy: sets of feuds -/
def qbuS (X Y : Int) : Prop := ∀ k : Int, 0 ≤ k → k < 64 → qbit X k = 1 → qbit Y k = 1
theorem qbuS_tr {X Y Z : Int} (h : qbuS X Y) (g : qbuS Y Z) : qbuS X Z := fun k h0 h1 hb => g k h0 h1 (h k h0 h1 hb)
theorem qbuS_0 (Y : Int) : qbuS 0 Y := fun k _ _ hb => by
  rw [qbit_0] at hb
  exact absurd hb (by decide)
theorem qbuS_or {X Y Z : Int} (h : qbuS X Z) (g : qbuS Y Z) : qbuS (ql_or X Y) Z := fun k h0 h1 hb => by
  rw [qbit_or] at hb
  by_cases c : qbit X k = 1 ∨ qbit Y k = 1
  · exact c.elim (h k h0 h1) (g k h0 h1)
  · rw [if_neg c] at hb
    exact absurd hb (by decide)
theorem qbuS_an {X Y : Int} (h : ql_and X (ql_xor Y (-1)) = 0) : qbuS X Y := fun k h0 h1 hb => by
  have c := qband_c X (ql_xor Y (-1)) k
  rw [h, qbit_0, qbit_not Y ⟨h0, h1⟩] at c
  have := qbit_r Y k
  omega
theorem qbuS_na {X Y : Int} (h : qbuS X Y) : ql_and X (ql_xor Y (-1)) = 0 := qbit_ext (ql_and_r _ _) (by decide) (fun k h0 h1 => by
  have c := qband_c X (ql_xor Y (-1)) k
  rw [qbit_not Y ⟨h0, h1⟩] at c
  rw [qbit_0]
  rcases c with ⟨c1, c2, c3⟩ | ⟨c1, c2⟩
  · have := h k h0 h1 c2
    omega
  · exact c1)
theorem qbuS_eq {X Y : Int} (hX : -9223372036854775808 ≤ X ∧ X ≤ 9223372036854775807) (hY : -9223372036854775808 ≤ Y ∧ Y ≤ 9223372036854775807) (h : qbuS X Y) (g : qbuS Y X) : X = Y := qbit_ext hX hY (fun k h0 h1 => by
  have a := h k h0 h1
  have b := g k h0 h1
  have r1 := qbit_r X k
  have r2 := qbit_r Y k
  by_cases c : qbit X k = 1
  · have := a c
    omega
  · by_cases d : qbit Y k = 1
    · exact absurd (b d) c
    · omega)
theorem qbu_sm {f g : Nat → Int} : ∀ n : Nat, (∀ k, k < n → f k ≤ g k) → qsm f n ≤ qsm g n
  | 0, _ => Int.le_refl _
  | n + 1, h => by
    have ih := qbu_sm n (fun k hk => h k (by omega))
    have h1 := h n (by omega)
    show qsm f n + f n ≤ qsm g n + g n
    omega
theorem qbu_sl {f g : Nat → Int} {l : Nat} : ∀ n : Nat, (∀ k, k < n → f k ≤ g k) → l < n → f l + 1 ≤ g l → qsm f n + 1 ≤ qsm g n
  | 0, _, hl, _ => absurd hl (Nat.not_lt_zero l)
  | n + 1, h, hl, h1 => by
    show qsm f n + f n + 1 ≤ qsm g n + g n
    by_cases e : l = n
    · have h2 := qbu_sm n (fun k hk => h k (by omega))
      rw [e] at h1
      omega
    · have ih := qbu_sl n (fun k hk => h k (by omega)) (by omega) h1
      have h2 := h n (by omega)
      omega
theorem qbu_c64 (t : Int) : qcn t 64 = qsm (fun k : Nat => qbit t (k : Int)) 64 := qcn_sm t 64
theorem qbuS_c {X Y : Int} (h : qbuS X Y) : qcn X 64 ≤ qcn Y 64 := by
  rw [qbu_c64, qbu_c64]
  refine qbu_sm 64 (fun k hk => ?_)
  have h1 := h (k : Int) (by omega) (by omega)
  have r1 := qbit_r X (k : Int)
  have r2 := qbit_r Y (k : Int)
  show qbit X (k : Int) ≤ qbit Y (k : Int)
  by_cases c : qbit X (k : Int) = 1
  · have := h1 c
    omega
  · omega
theorem qbuS_l {X Y l : Int} (h : qbuS X Y) (hl : 0 ≤ l ∧ l < 64) (h1 : ¬ qbit X l = 1) (h2 : qbit Y l = 1) : qcn X 64 + 1 ≤ qcn Y 64 := by
  rw [qbu_c64, qbu_c64]
  refine qbu_sl (l := l.toNat) 64 (fun k hk => ?_) (by omega) ?_
  · have h1 := h (k : Int) (by omega) (by omega)
    have r1 := qbit_r X (k : Int)
    have r2 := qbit_r Y (k : Int)
    show qbit X (k : Int) ≤ qbit Y (k : Int)
    by_cases c : qbit X (k : Int) = 1
    · have := h1 c
      omega
    · omega
  · show qbit X ((l.toNat : Nat) : Int) + 1 ≤ qbit Y ((l.toNat : Nat) : Int)
    rw [show ((l.toNat : Nat) : Int) = l by omega]
    have r1 := qbit_r X l
    omega
/-! the nearest, when some are paid -/
theorem qbu_up {o c : Nat → Int} : ∀ n : Nat, qnk o c n ≤ 576
  | 0 => Int.le_refl _
  | n + 1 => by
    have ih := qbu_up (o := o) (c := c) n
    show (if o n = 1 ∧ c n * 64 + (n : Int) < qnk o c n then c n * 64 + (n : Int) else qnk o c n) ≤ 576
    by_cases e : o n = 1 ∧ c n * 64 + (n : Int) < qnk o c n
    · rw [if_pos e]; omega
    · rw [if_neg e]; exact ih
theorem qbu_ub {o c : Nat → Int} {f : Nat} (ho : o f = 1) : ∀ n : Nat, f < n → qnk o c n ≤ c f * 64 + (f : Int)
  | 0, h => absurd h (Nat.not_lt_zero f)
  | n + 1, h => by
    show (if o n = 1 ∧ c n * 64 + (n : Int) < qnk o c n then c n * 64 + (n : Int) else qnk o c n) ≤ c f * 64 + (f : Int)
    by_cases e : o n = 1 ∧ c n * 64 + (n : Int) < qnk o c n
    · rw [if_pos e]
      by_cases d : f = n
      · rw [d]; exact Int.le_refl _
      · have ih := qbu_ub (c := c) ho n (by omega)
        omega
    · rw [if_neg e]
      by_cases d : f = n
      · rw [d] at ho ⊢
        by_cases g : c n * 64 + (n : Int) < qnk o c n
        · exact absurd ⟨ho, g⟩ e
        · omega
      · exact qbu_ub ho n (by omega)
theorem qbu_at {o c : Nat → Int} : ∀ n : Nat, qnk o c n = 576 ∨ ∃ f : Nat, f < n ∧ o f = 1 ∧ qnk o c n = c f * 64 + (f : Int)
  | 0 => Or.inl rfl
  | n + 1 => by
    have ih := qbu_at (o := o) (c := c) n
    have e0 : qnk o c (n + 1) = if o n = 1 ∧ c n * 64 + (n : Int) < qnk o c n then c n * 64 + (n : Int) else qnk o c n := rfl
    by_cases e : o n = 1 ∧ c n * 64 + (n : Int) < qnk o c n
    · rw [if_pos e] at e0
      exact Or.inr ⟨n, by omega, e.1, e0⟩
    · rw [if_neg e] at e0
      rcases ih with ih | ⟨f, h1, h2, h3⟩
      · exact Or.inl (e0.trans ih)
      · exact Or.inr ⟨f, by omega, h2, e0.trans h3⟩
theorem qbu_oF {sn pd : Nat → Int} {X h : Int} {f : Nat} : qoF sn pd X h f = 1 ↔ (sn f ≤ h ∧ (pd f = 2400 ∨ h < pd f)) ∧ ¬ qbit X (f : Int) = 1 := by
  have c := qop_c (sn f) (pd f) (qbit X (f : Int)) h
  have r := qbit_r X (f : Int)
  show qop (sn f) (pd f) (qbit X (f : Int)) h = 1 ↔ _
  rcases c with ⟨c1, c2, c3, c4⟩ | ⟨c1, c2⟩
  · exact ⟨fun _ => ⟨⟨c2, c3⟩, by omega⟩, fun _ => c1⟩
  · exact ⟨fun z => by omega, fun z => absurd ⟨z.1.1, z.1.2, by omega⟩ c2⟩
/-- who makes them as near as they are, as bits; all bits, if none does -/
def qbuN (o c : Nat → Int) (n : Nat) (v : Int) : Prop := (qnk o c n < 576 ∧ ∀ f : Int, 0 ≤ f → f < 64 → (qbit v f = 1 ↔ f < (n : Int) ∧ o f.toNat = 1 ∧ c f.toNat = qnk o c n / 64)) ∨ (576 ≤ qnk o c n ∧ v = -1)
/-- the nearest ones that are not paid: each of a good set -/
theorem qbu_gr {sn pd c : Nat → Int} {X Y h : Int} {n : Nat} {V : Int → Prop} (hn : n ≤ 64) (hV : ∀ k k' : Int, k / 64 = k' / 64 → (V k ↔ V k')) (hs : qbuS X Y) (hX : V (qnk (qoF sn pd X h) c n)) (hY : ¬ V (qnk (qoF sn pd Y h) c n)) : qnk (qoF sn pd X h) c n < 576 ∧ ∀ f : Nat, f < n → qoF sn pd X h f = 1 → c f = qnk (qoF sn pd X h) c n / 64 → qbit Y (f : Int) = 1 := by
  have m : qnk (qoF sn pd X h) c n ≤ qnk (qoF sn pd Y h) c n := by
    rcases qbu_at (o := qoF sn pd Y h) (c := c) n with e | ⟨f, h1, h2, h3⟩
    · rw [e]; exact qbu_up n
    · rw [h3]
      have h4 := qbu_oF.mp h2
      exact qbu_ub (qbu_oF.mpr ⟨h4.1, fun z => h4.2 (hs (f : Int) (by omega) (by omega) z)⟩) n h1
  have u := qbu_up (o := qoF sn pd Y h) (c := c) n
  have ne : ¬ qnk (qoF sn pd X h) c n / 64 = qnk (qoF sn pd Y h) c n / 64 := fun z => hY ((hV _ _ z).mp hX)
  refine ⟨by omega, fun f hf ho hc => ?_⟩
  by_cases d : qbit Y (f : Int) = 1
  · exact d
  · have h4 := qbu_oF.mp ho
    have h5 := qbu_ub (c := c) (qbu_oF.mpr ⟨h4.1, d⟩) n hf
    omega
/-- a custom by how near two are -/
def qbuR (N : Nat → Int) (k : Int) : Nat → Int := fun j => if j = 0 then qnF1 k else if j = 1 then k / 64 else N j
theorem qbuR_cg {N : Nat → Int} {k k' : Int} (h : k / 64 = k' / 64) : qbuR N k = qbuR N k' := by
  have e : qnF1 k = qnF1 k' := by
    unfold qnF1
    by_cases c : k < 576
    · rw [if_pos c, if_pos (by omega)]
    · rw [if_neg c, if_neg (by omega)]
  funext j
  unfold qbuR
  rw [e, h]
theorem qbuR_v (a0 a1 k a2 a3 a4 a5 a6 a7 a8 : Int) : qnv (qnF1 k) (k / 64) a2 a3 a4 a5 a6 a7 a8 = qbuR (qnv a0 a1 a2 a3 a4 a5 a6 a7 a8) k := by
  funext j
  unfold qbuR qnv
  by_cases c : j = 0
  · rw [if_pos c, if_pos c]
  · rw [if_neg c, if_neg c, if_neg c]
    by_cases d : j = 1
    · rw [if_pos d, if_pos d]
    · rw [if_neg d, if_neg d, if_neg d]
def qbuC (σ α : Nat → Nat → Int) (X p q h : Int) : Int := qnF (qTb (α 24)) (α 28) (α 29) (α 31) (α 30) (α 33) X (σ 27 7) p q h
noncomputable def qbuM (σ α : Nat → Nat → Int) (X p q h : Int) : Int := qnF (qd9 (α 94) (α 95) (σ 86 11)) (α 97) (α 98) (α 100) (α 99) (qsh (α 87) 32) X (σ 86 16) p q h
noncomputable def qbuVC (σ α : Nat → Nat → Int) (p q h : Int) : Nat → Int := qNVc (qw_s σ 58 11 h) α 0 p q (-1) (ql_or (ql_shl 1 p) (ql_shl 1 q))
noncomputable def qbuVM (σ α : Nat → Nat → Int) (p q h : Int) : Nat → Int := qNVr σ α 0 0 p q (-1) (ql_or (ql_shl 1 p) (ql_shl 1 q)) h
theorem qbuC_X (σ α : Nat → Nat → Int) (X p q h : Int) : qNVc (qw_s (qw_s σ 27 6 X) 58 11 h) α 0 p q (-1) (ql_or (ql_shl 1 p) (ql_shl 1 q)) = qbuR (qbuVC σ α p q h) (qbuC σ α X p q h) := by
  unfold qbuVC
  unfold qNVc
  exact qbuR_v _ _ _ _ _ _ _ _ _ _
theorem qbuM_X (σ α : Nat → Nat → Int) (X p q h : Int) : qNVr (qw_s σ 86 22 X) α 0 0 p q (-1) (ql_or (ql_shl 1 p) (ql_shl 1 q)) h = qbuR (qbuVM σ α p q h) (qbuM σ α X p q h) := by
  unfold qbuVM
  unfold qNVr
  exact qbuR_v _ _ _ _ _ _ _ _ _ _
theorem qbuC_k {σ α : Nat → Nat → Int} {κ : Nat → Option Nat} {ρ : Nat} (hI : qI σ α κ ρ) (hR : qR σ α) (h2 : qR2 σ α) (hF : qRF σ α) (hH : qRH σ α) {X p q h : Int} (hp : 0 ≤ p ∧ p < 32) (hq : 0 ≤ q ∧ q < 32) : qbuC σ α X p q h = qbuM σ α X p q h := by
  have b16 : 0 ≤ σ 86 16 ∧ σ 86 16 ≤ 40 := hI.1 86 16
  obtain ⟨f1, f2, f3, f4, f5, f6⟩ := hF
  have r31 : ∀ k : Nat, k < 40 → 0 ≤ α 100 k ∧ α 100 k ≤ 3 := fun k hk => by
    have h3 : 0 ≤ α 31 k ∧ α 31 k ≤ 3 := hI.2.1 31 k hk
    rw [f4] at h3
    exact h3
  unfold qbuC qbuM
  rw [hR.2.1, f1, f2, f3, f4]
  unfold qnF
  refine qnk_eq _ (fun k hk => ⟨?_, ?_⟩)
  · have e : α 33 k = qsh (α 87) 32 k := hH.1.1.1.2.1 k (by omega)
    unfold qoF
    rw [e]
  · have a1 : 0 ≤ α 97 k ∧ α 97 k ≤ 31 := hI.2.1 97 k (show k < 40 by omega)
    have a2 : 0 ≤ α 98 k ∧ α 98 k ≤ 31 := hI.2.1 98 k (show k < 40 by omega)
    have a3 := r31 k (by omega)
    have d1 := qrr_d h2 (x := p) (y := α 97 k) hp (by omega)
    have d2 := qrr_d h2 (x := q) (y := α 98 k) hq (by omega)
    have d3 := qrr_d h2 (x := q) (y := α 97 k) hq (by omega)
    have d4 := qrr_d h2 (x := p) (y := α 98 k) hp (by omega)
    have c1 := qcl_c (qTb (α 24) p (α 97 k)) (qTb (α 24) q (α 98 k)) (qTb (α 24) q (α 97 k)) (qTb (α 24) p (α 98 k)) (α 100 k)
    have c2 := qcl_c (qd9 (α 94) (α 95) (σ 86 11) p (α 97 k)) (qd9 (α 94) (α 95) (σ 86 11) q (α 98 k)) (qd9 (α 94) (α 95) (σ 86 11) q (α 97 k)) (qd9 (α 94) (α 95) (σ 86 11) p (α 98 k)) (α 100 k)
    show qcl (qTb (α 24) p (α 97 k)) (qTb (α 24) q (α 98 k)) (qTb (α 24) q (α 97 k)) (qTb (α 24) p (α 98 k)) (α 100 k) = qcl (qd9 (α 94) (α 95) (σ 86 11) p (α 97 k)) (qd9 (α 94) (α 95) (σ 86 11) q (α 98 k)) (qd9 (α 94) (α 95) (σ 86 11) q (α 97 k)) (qd9 (α 94) (α 95) (σ 86 11) p (α 98 k)) (α 100 k)
    omega
/-- whether one must strike another one, when some feuds are paid: both sides alike -/
theorem qbu_ma {σ α : Nat → Nat → Int} {κ : Nat → Option Nat} {ρ : Nat} (hI : qI σ α κ ρ) (hR : qR σ α) (h2 : qR2 σ α) (hF : qRF σ α) (hP : qRP σ α) (hH : qRH σ α) (hL : qRL σ α) (hN : qRN σ α) (hW : qRS σ α) {f g : (Nat → Int) → Int} (hA : qAg f g) {X p q h : Int} (hp : 0 ≤ p ∧ p < σ 86 6) (hq : 0 ≤ q ∧ q < σ 86 6) (hpq : ¬ p = q) : qMaC (qw_s σ 27 6 X) α f h p q ↔ qMaM (qw_s σ 86 22 X) α g (ql_or (ql_shl 1 p) (ql_shl 1 q)) h p q := by
  have b6 : 0 ≤ σ 86 6 ∧ σ 86 6 ≤ 32 := hI.1 86 6
  have hn := qrr_n hI hR h2 hF hP hH hL hN (h := h) (b := 0) (t := ql_or (ql_shl 1 p) (ql_shl 1 q)) hp hq hpq (Or.inl rfl)
  have hk := qbuC_k hI hR h2 hF hH (X := X) (p := p) (q := q) (h := h) (by omega) (by omega)
  have e : qbuVC σ α p q h = qbuVM σ α p q h := hn
  have ef : f (qbuR (qbuVC σ α p q h) (qbuC σ α X p q h)) = g (qbuR (qbuVM σ α p q h) (qbuM σ α X p q h)) := by
    rw [← e, ← hk]
    refine hA _ ?_ ?_
    · show 0 ≤ qnF1 (qbuC σ α X p q h) ∧ qnF1 (qbuC σ α X p q h) ≤ 1
      unfold qnF1
      split <;> omega
    · show 0 ≤ α 20 (p : Int).toNat ∧ α 20 (p : Int).toNat ≤ 1
      have e1 : α 20 (p : Int).toNat = α 87 (p : Int).toNat := hH.1.1.1.1 _ (by omega)
      rw [e1]
      exact hW.1 (p : Int).toNat (by omega)
  unfold qMaC qMaM
  rw [qbuC_X, qbuM_X, ef]
theorem qbu_V {σ α : Nat → Nat → Int} {f : (Nat → Int) → Int} {X p q h : Int} : qMaC (qw_s σ 27 6 X) α f h p q ↔ ¬ f (qbuR (qbuVC σ α p q h) (qbuC σ α X p q h)) = 0 := by
  unfold qMaC
  rw [qbuC_X]
/-- nobody of those told must strike -/
def qbuG (B : Int → Int → Int → Prop) (ls : Nat → Int) (n a b : Int) : Prop := ∀ h i j : Int, a ≤ h → h ≤ b → 0 ≤ i → i < n → 0 ≤ j → j < n → ¬ i = j → ¬ B h (ls i.toNat) (ls j.toNat)
/-- a pair that must, and what must be paid for it -/
def qbuP (B : Int → Int → Int → Prop) (No : Int → Int → Int → Int → Prop) (ls : Nat → Int) (n a b v : Int) : Prop := ∃ h i j : Int, (a ≤ h ∧ h ≤ b) ∧ (0 ≤ i ∧ i < n) ∧ (0 ≤ j ∧ j < n) ∧ ¬ i = j ∧ B h (ls i.toNat) (ls j.toNat) ∧ No h (ls i.toNat) (ls j.toNat) v
def qbuI (o c : Nat → Int) (near i v : Int) : Prop := ∀ f : Int, 0 ≤ f → f < 64 → (qbit v f = 1 ↔ f < i ∧ o f.toNat = 1 ∧ c f.toNat = near)
theorem qbuI_0 {o c : Nat → Int} {near : Int} : qbuI o c near 0 0 := fun f h0 _ => by
  rw [qbit_0]
  exact ⟨fun z => absurd z (by decide), fun z => absurd z.1 (by omega)⟩
theorem qbuI_n {o c : Nat → Int} {near i v : Int} (hn : ¬ (o i.toNat = 1 ∧ c i.toNat = near)) (h : qbuI o c near i v) : qbuI o c near (i + 1) v := fun f h0 h1 => by
  rw [h f h0 h1]
  constructor
  · rintro ⟨a, b⟩
    exact ⟨by omega, b⟩
  · rintro ⟨a, b⟩
    by_cases e : f = i
    · rw [e] at b
      exact absurd b hn
    · exact ⟨by omega, b⟩
theorem qbuI_y {o c : Nat → Int} {near i v w : Int} (hi : 0 ≤ i ∧ i < 64) (ho : o i.toNat = 1) (hc : c i.toNat = near) (hw : w = ql_or v (ql_shl 1 i)) (h : qbuI o c near i v) : qbuI o c near (i + 1) w := fun f h0 h1 => by
  have hk := h f h0 h1
  rw [hw, qbit_or, qbit_shl hi h0]
  by_cases e : f = i
  · rw [if_pos e, if_pos (Or.inr rfl)]
    exact ⟨fun _ => ⟨by omega, by rw [e]; exact ho, by rw [e]; exact hc⟩, fun _ => rfl⟩
  · rw [if_neg e]
    by_cases d : qbit v f = 1
    · rw [if_pos (Or.inl d)]
      exact ⟨fun _ => ⟨by have := (hk.mp d).1; omega, (hk.mp d).2⟩, fun _ => rfl⟩
    · rw [if_neg (fun z => z.elim d (fun y => absurd y (by decide)))]
      exact ⟨fun z => absurd z (by decide), fun z => absurd (hk.mpr ⟨by omega, z.2⟩) d⟩
theorem qbuN_of {o c : Nat → Int} {n near i v : Int} (hi : i = n) (hn : 0 ≤ n) (hK : near = qnk o c n.toNat / 64) (h9 : near < 9) (h : qbuI o c near i v) : qbuN o c n.toNat v := by
  refine Or.inl ⟨by omega, fun f h0 h1 => ?_⟩
  rw [← hK, show ((n.toNat : Nat) : Int) = i by omega]
  exact h f h0 h1
theorem qbuN_m {o c : Nat → Int} {n near v : Int} (hK : near = qnk o c n.toNat / 64) (h9 : 9 ≤ near) (hv : v = -1) : qbuN o c n.toNat v := Or.inr ⟨by omega, hv⟩
/-! which feuds may be paid -/
def qbuL (L : List Int) (v : Int) : Prop := ∀ f : Int, 0 ≤ f → f < 64 → (qbit v f = 1 ↔ f ∈ L)
def qbuQ (pd : Nat → Int) (h : Int) : Nat → Int := fun k => if h < pd k then 1 else 0
def qbuO (pd : Nat → Int) (h i v : Int) : Prop := qbuL ((qBr (qbuQ pd h) i.toNat).take 10) v ∧ qcn v 64 = (((qBr (qbuQ pd h) i.toNat).take 10).length : Int)
theorem qbuO_0 {pd : Nat → Int} {h : Int} : qbuO pd h 0 0 := ⟨fun f _ _ => by
  rw [qbit_0]
  exact ⟨fun z => absurd z (by decide), fun z => absurd z (List.not_mem_nil)⟩, qcn_z⟩
theorem qbuO_n {pd : Nat → Int} {h i v : Int} (hi : 0 ≤ i) (hp : ¬ h < pd i.toNat) (g : qbuO pd h i v) : qbuO pd h (i + 1) v := by
  have e : qBr (qbuQ pd h) (i + 1).toNat = qBr (qbuQ pd h) i.toNat := by
    rw [show (i + 1).toNat = i.toNat + 1 by omega]
    exact if_neg (show ¬ qbuQ pd h i.toNat = 1 by unfold qbuQ; rw [if_neg hp]; decide)
  unfold qbuO
  rw [e]
  exact g
theorem qbuO_y {pd : Nat → Int} {h i v w : Int} (hi : 0 ≤ i ∧ i < 64) (hp : h < pd i.toNat) (hc : qcn v 64 < 10) (hw : w = ql_or v (ql_shl 1 i)) (g : qbuO pd h i v) : qbuO pd h (i + 1) w := by
  have e : qBr (qbuQ pd h) (i + 1).toNat = qBr (qbuQ pd h) i.toNat ++ [i] := by
    rw [show (i + 1).toNat = i.toNat + 1 by omega]
    have e1 : qBr (qbuQ pd h) (i.toNat + 1) = qBr (qbuQ pd h) i.toNat ++ [((i.toNat : Nat) : Int)] := if_pos (show qbuQ pd h i.toNat = 1 by unfold qbuQ; exact if_pos hp)
    rw [e1, show ((i.toNat : Nat) : Int) = i by omega]
  have hl : (qBr (qbuQ pd h) i.toNat).length < 10 := by
    have h1 := g.2
    rw [List.length_take] at h1
    omega
  have t1 : (qBr (qbuQ pd h) i.toNat).take 10 = qBr (qbuQ pd h) i.toNat := List.take_of_length_le (by omega)
  have t2 : (qBr (qbuQ pd h) i.toNat ++ [i]).take 10 = qBr (qbuQ pd h) i.toNat ++ [i] := List.take_of_length_le (by rw [List.length_append]; show _ + 1 ≤ 10; omega)
  obtain ⟨g1, g2⟩ := g
  rw [t1] at g1 g2
  have hni : ¬ qbit v i = 1 := fun z => by
    have h2 := ((qBr_mem i.toNat i).mp ((g1 i hi.1 hi.2).mp z)).1.2
    omega
  have hs : qbuS v w := fun k h0 h1 hb => by
    rw [hw, qbit_or]
    exact if_pos (Or.inl hb)
  have hwi : qbit w i = 1 := by
    rw [hw, qbit_or, qbit_shl hi hi.1, if_pos rfl]
    exact if_pos (Or.inr rfl)
  unfold qbuO
  rw [e, t2]
  refine ⟨fun f h0 h1 => ?_, ?_⟩
  · rw [hw, qbit_or, qbit_shl hi h0, List.mem_append, List.mem_singleton, ← g1 f h0 h1]
    by_cases c : f = i
    · rw [if_pos c, if_pos (Or.inr rfl)]
      exact ⟨fun _ => Or.inr c, fun _ => rfl⟩
    · rw [if_neg c]
      by_cases d : qbit v f = 1
      · rw [if_pos (Or.inl d)]
        exact ⟨fun _ => Or.inl d, fun _ => rfl⟩
      · rw [if_neg (fun z => z.elim d (fun y => absurd y (by decide)))]
        exact ⟨fun z => absurd z (by decide), fun z => z.elim (fun y => absurd y d) (fun y => absurd y c)⟩
  · rw [List.length_append]
    show qcn w 64 = (((qBr (qbuQ pd h) i.toNat).length + 1 : Nat) : Int)
    have h3 : qcn w 64 = qcn v 64 + 1 := by
      rw [qbu_c64, qbu_c64]
      refine qsm_1 (l := i.toNat) ?_ (fun k hk => ?_) 64 (by omega)
      · show qbit w ((i.toNat : Nat) : Int) = qbit v ((i.toNat : Nat) : Int) + 1
        rw [show ((i.toNat : Nat) : Int) = i by omega, hwi]
        have := qbit_r v i
        omega
      · show qbit w (k : Int) = qbit v (k : Int)
        rw [hw, qbit_or, qbit_shl hi (by omega), if_neg (show ¬ (k : Int) = i by omega)]
        have := qbit_r v (k : Int)
        by_cases d : qbit v (k : Int) = 1
        · rw [if_pos (Or.inl d), d]
        · rw [if_neg (fun z => z.elim d (fun y => absurd y (by decide)))]
          omega
    rw [h3, g2]
    omega
theorem qbu_br {Q : Nat → Int} {n : Nat} : ∀ m : Nat, ∃ R : List Int, qBr Q (n + m) = qBr Q n ++ R
  | 0 => ⟨[], by rw [List.append_nil]; rfl⟩
  | m + 1 => by
    obtain ⟨R, hR⟩ := qbu_br (Q := Q) (n := n) m
    by_cases c : Q (n + m) = 1
    · have e : qBr Q (n + (m + 1)) = qBr Q (n + m) ++ [((n + m : Nat) : Int)] := if_pos c
      exact ⟨R ++ [((n + m : Nat) : Int)], by rw [e, hR, List.append_assoc]⟩
    · have e : qBr Q (n + (m + 1)) = qBr Q (n + m) := if_neg c
      exact ⟨R, by rw [e, hR]⟩
theorem qbuO_e {pd : Nat → Int} {h i n v : Int} (h0 : 0 ≤ i) (hi : i ≤ n) (he : n ≤ i ∨ 10 ≤ qcn v 64) (g : qbuO pd h i v) : qbuO pd h n v := by
  by_cases c : i = n
  · rw [← c]; exact g
  · obtain ⟨R, hR⟩ := qbu_br (Q := qbuQ pd h) (n := i.toNat) (n - i).toNat
    rw [show i.toNat + (n - i).toNat = n.toNat by omega] at hR
    have hl : 10 ≤ (qBr (qbuQ pd h) i.toNat).length := by
      have h1 := g.2
      rw [List.length_take] at h1
      omega
    unfold qbuO
    rw [hR, List.take_append_of_le_length hl]
    exact g
/-- as a row -/
theorem qbu_lr {pd w1 rw2 : Nat → Int} {h i m m2 : Int} (hi : 0 ≤ i) (hm : m < 10) (hp : h < pd i.toNat) (e : rw2 = qzu w1 m.toNat i) (em : m2 = m + 1) (g : qLs w1 m ((qBr (qbuQ pd h) i.toNat).take 10)) : qLs rw2 m2 ((qBr (qbuQ pd h) (i + 1).toNat).take 10) := by
  have hl : (qBr (qbuQ pd h) i.toNat).length < 10 := by
    have h1 := g.1
    rw [List.length_take] at h1
    omega
  have e0 : qBr (qbuQ pd h) (i + 1).toNat = qBr (qbuQ pd h) i.toNat ++ [i] := by
    rw [show (i + 1).toNat = i.toNat + 1 by omega]
    have e1 : qBr (qbuQ pd h) (i.toNat + 1) = qBr (qbuQ pd h) i.toNat ++ [((i.toNat : Nat) : Int)] := if_pos (show qbuQ pd h i.toNat = 1 by unfold qbuQ; exact if_pos hp)
    rw [e1, show ((i.toNat : Nat) : Int) = i by omega]
  have t1 : (qBr (qbuQ pd h) i.toNat).take 10 = qBr (qbuQ pd h) i.toNat := List.take_of_length_le (by omega)
  have t2 : (qBr (qbuQ pd h) i.toNat ++ [i]).take 10 = qBr (qbuQ pd h) i.toNat ++ [i] := List.take_of_length_le (by rw [List.length_append]; show _ + 1 ≤ 10; omega)
  rw [e0, t2, e, em]
  rw [t1] at g
  exact qLs_app g
theorem qbu_ln {pd w1 : Nat → Int} {h i m : Int} (hi : 0 ≤ i) (hp : ¬ h < pd i.toNat) (g : qLs w1 m ((qBr (qbuQ pd h) i.toNat).take 10)) : qLs w1 m ((qBr (qbuQ pd h) (i + 1).toNat).take 10) := by
  have e : qBr (qbuQ pd h) (i + 1).toNat = qBr (qbuQ pd h) i.toNat := by
    rw [show (i + 1).toNat = i.toNat + 1 by omega]
    exact if_neg (show ¬ qbuQ pd h i.toNat = 1 by unfold qbuQ; rw [if_neg hp]; decide)
  rw [e]
  exact g
theorem qbu_le {pd w1 : Nat → Int} {h i n m : Int} (h0 : 0 ≤ i) (hi : i ≤ n) (he : n ≤ i ∨ 10 ≤ m) (g : qLs w1 m ((qBr (qbuQ pd h) i.toNat).take 10)) : qLs w1 m ((qBr (qbuQ pd h) n.toNat).take 10) := by
  by_cases c : i = n
  · rw [← c]; exact g
  · obtain ⟨R, hR⟩ := qbu_br (Q := qbuQ pd h) (n := i.toNat) (n - i).toNat
    rw [show i.toNat + (n - i).toNat = n.toNat by omega] at hR
    have hl : 10 ≤ (qBr (qbuQ pd h) i.toNat).length := by
      have h1 := g.1
      rw [List.length_take] at h1
      omega
    rw [hR, List.take_append_of_le_length hl]
    exact g
/-! what it costs -/
def qbuW (pr : Nat → Int) (X : Int) (n : Nat) : Int := qsm (fun f : Nat => if qbit X (f : Int) = 1 then pr f else 0) n
theorem qbuW_s (pr : Nat → Int) (X : Int) {i : Int} (h : 0 ≤ i) : (qbit X i = 1 ∧ qbuW pr X (i + 1).toNat = qbuW pr X i.toNat + pr i.toNat) ∨ (¬ qbit X i = 1 ∧ qbuW pr X (i + 1).toNat = qbuW pr X i.toNat) := by
  obtain ⟨m, rfl⟩ : ∃ m : Nat, i = m := ⟨i.toNat, by omega⟩
  rw [show ((m : Int) + 1).toNat = m + 1 by omega, Int.toNat_natCast]
  have e : qbuW pr X (m + 1) = qbuW pr X m + (if qbit X (m : Int) = 1 then pr m else 0) := rfl
  by_cases c : qbit X (m : Int) = 1
  · rw [if_pos c] at e
    exact Or.inl ⟨c, e⟩
  · rw [if_neg c] at e
    exact Or.inr ⟨c, by omega⟩
theorem qbuW_mo {pr : Nat → Int} {X Y : Int} {n : Nat} (hn : n ≤ 64) (hp : ∀ k : Nat, k < n → 0 ≤ pr k) (h : qbuS X Y) : qbuW pr X n ≤ qbuW pr Y n := qbu_sm n (fun k hk => by
  have h1 := hp k hk
  have h2 := h (k : Int) (by omega) (by omega)
  show (if qbit X (k : Int) = 1 then pr k else 0) ≤ (if qbit Y (k : Int) = 1 then pr k else 0)
  by_cases c : qbit X (k : Int) = 1
  · rw [if_pos c, if_pos (h2 c)]
    exact Int.le_refl _
  · rw [if_neg c]
    split <;> omega)
theorem qbuW_cg {pr pr' : Nat → Int} {X : Int} {n : Nat} (h : ∀ k : Nat, k < n → pr k = pr' k) : qbuW pr X n = qbuW pr' X n := qsm_eq n (fun k hk => by
  show (if qbit X (k : Int) = 1 then pr k else 0) = (if qbit X (k : Int) = 1 then pr' k else 0)
  rw [h k hk])
/-! the class: paying what presses -/
def qbuBC (σ α : Nat → Nat → Int) (f : (Nat → Int) → Int) (X : Int) : Int → Int → Int → Prop := fun h p q => qMaC (qw_s σ 27 6 X) α f h p q
def qbuNC (σ α : Nat → Nat → Int) (X : Int) : Int → Int → Int → Int → Prop := fun h p q v => qbuN (qoF (α 30) (α 33) X h) (qcF (qTb (α 24)) (α 28) (α 29) (α 31) p q) (σ 27 7 : Int).toNat v
def qbuGC (σ α : Nat → Nat → Int) (f : (Nat → Int) → Int) (ls : Nat → Int) (n a b X : Int) : Prop := qbuG (qbuBC σ α f X) ls n a b
def qbuPC (σ α : Nat → Nat → Int) (f : (Nat → Int) → Int) (ls : Nat → Int) (n a b X v : Int) : Prop := qbuP (qbuBC σ α f X) (qbuNC σ α X) ls n a b v
theorem qbu_sub {σ α : Nat → Nat → Int} {f : (Nat → Int) → Int} {ls : Nat → Int} {n a b X Y v : Int} (h7 : 0 ≤ σ 27 7 ∧ σ 27 7 ≤ 40) (h : qbuPC σ α f ls n a b X v) (hs : qbuS X Y) (hY : qbuGC σ α f ls n a b Y) : qbuS v Y := by
  obtain ⟨t, i, j, ht, hi, hj, hij, hb, hn⟩ := h
  have g := hY t i j ht.1 ht.2 hi.1 hi.2 hj.1 hj.2 hij
  have b1 := qbu_V.mp hb
  have g1 := fun z => g (qbu_V.mpr z)
  have k := qbu_gr (sn := α 30) (pd := α 33) (c := qcF (qTb (α 24)) (α 28) (α 29) (α 31) (ls i.toNat) (ls j.toNat)) (h := t) (n := (σ 27 7 : Int).toNat) (V := fun k => ¬ f (qbuR (qbuVC σ α (ls i.toNat) (ls j.toNat) t) k) = 0) (by omega) (fun k k' e => by
    show (¬ f (qbuR (qbuVC σ α (ls i.toNat) (ls j.toNat) t) k) = 0) ↔ (¬ f (qbuR (qbuVC σ α (ls i.toNat) (ls j.toNat) t) k') = 0)
    rw [qbuR_cg e]) hs b1 g1
  rcases hn with ⟨h1, h2⟩ | ⟨h1, h2⟩
  · intro u u0 u1 hu
    have h3 := (h2 u u0 u1).mp hu
    have h4 := k.2 u.toNat (by omega) h3.2.1 h3.2.2
    rw [show ((u.toNat : Nat) : Int) = u by omega] at h4
    exact h4
  · omega
theorem qbu_new {σ α : Nat → Nat → Int} {f : (Nat → Int) → Int} {ls : Nat → Int} {n a b X v : Int} (h7 : 0 ≤ σ 27 7 ∧ σ 27 7 ≤ 40) (h : qbuPC σ α f ls n a b X v) : v = -1 ∨ ∃ l : Int, (0 ≤ l ∧ l < 64) ∧ ¬ qbit X l = 1 ∧ qbit v l = 1 := by
  obtain ⟨t, i, j, ht, hi, hj, hij, hb, hn⟩ := h
  rcases hn with ⟨h1, h2⟩ | ⟨h1, h2⟩
  · rcases qbu_at (o := qoF (α 30) (α 33) X t) (c := qcF (qTb (α 24)) (α 28) (α 29) (α 31) (ls i.toNat) (ls j.toNat)) (σ 27 7 : Int).toNat with e | ⟨u, h3, h4, h5⟩
    · omega
    · exact Or.inr ⟨(u : Int), by omega, (qbu_oF.mp h4).2, (h2 (u : Int) (by omega) (by omega)).mpr ⟨by omega, by rw [Int.toNat_natCast]; exact h4, by rw [Int.toNat_natCast]; omega⟩⟩
  · exact Or.inl h2
theorem qbu_pnz {σ α : Nat → Nat → Int} {f : (Nat → Int) → Int} {ls : Nat → Int} {n a b X v : Int} (h7 : 0 ≤ σ 27 7 ∧ σ 27 7 ≤ 40) (h : qbuPC σ α f ls n a b X v) : ¬ v = 0 := fun z => by
  rcases qbu_new h7 h with e | ⟨l, _, _, h3⟩
  · omega
  · rw [z, qbit_0] at h3
    exact absurd h3 (by decide)
def qbuV (Gd : Int → Prop) (P r X : Int) : Prop := qbuS X P ∧ r ≤ qcn X 64 ∧ ∀ Y : Int, qbuS Y P → Gd Y → qbuS X Y
theorem qbuV_0 {Gd : Int → Prop} {P : Int} : qbuV Gd P 0 0 := ⟨qbuS_0 P, by rw [qcn_z]; exact Int.le_refl _, fun Y _ _ => qbuS_0 Y⟩
theorem qbuV_add {σ α : Nat → Nat → Int} {f : (Nat → Int) → Int} {ls : Nat → Int} {n a b P r X v w : Int} (h7 : 0 ≤ σ 27 7 ∧ σ 27 7 ≤ 40) (hP : qcn P 64 ≤ 10) (hp : qbuPC σ α f ls n a b X v) (hs : ql_and v (ql_xor P (-1)) = 0) (hw : w = ql_or X v) (h : qbuV (qbuGC σ α f ls n a b) P r X) : qbuV (qbuGC σ α f ls n a b) P (r + 1) w := by
  obtain ⟨h1, h2, h3⟩ := h
  have hv := qbuS_an hs
  rw [hw]
  refine ⟨qbuS_or h1 hv, ?_, fun Y hY gY => qbuS_or (h3 Y hY gY) (qbu_sub h7 hp (h3 Y hY gY) gY)⟩
  rcases qbu_new h7 hp with e | ⟨l, h4, h5, h6⟩
  · have h8 := qbuS_c hv
    rw [e] at h8
    have h9 : qcn (-1) 64 = 64 := by decide +kernel
    omega
  · have h8 := qbuS_l (X := X) (Y := ql_or X v) (fun k _ _ hb => by rw [qbit_or]; exact if_pos (Or.inl hb)) h4 h5 (by rw [qbit_or]; exact if_pos (Or.inr h6))
    omega
theorem qbuV_no {σ α : Nat → Nat → Int} {f : (Nat → Int) → Int} {ls : Nat → Int} {n a b P r X v : Int} (h7 : 0 ≤ σ 27 7 ∧ σ 27 7 ≤ 40) (hp : qbuPC σ α f ls n a b X v) (hs : ¬ ql_and v (ql_xor P (-1)) = 0) (h : qbuV (qbuGC σ α f ls n a b) P r X) : ∀ Y : Int, qbuS Y P → ¬ qbuGC σ α f ls n a b Y := fun Y hY gY => hs (qbuS_na (qbuS_tr (qbu_sub h7 hp (h.2.2 Y hY gY) gY) hY))
def qbuA (Gd : Int → Prop) (P : Int) (pr : Nat → Int) (n what v : Int) : Prop := (v = -2 ∧ ∀ Y : Int, qbuS Y P → ¬ Gd Y) ∨ ∃ X : Int, (-9223372036854775808 ≤ X ∧ X ≤ 9223372036854775807) ∧ qbuS X P ∧ Gd X ∧ (∀ Y : Int, qbuS Y P → Gd Y → qbuS X Y) ∧ ((what = 0 ∧ v = qbuW pr X n.toNat) ∨ (¬ what = 0 ∧ v = X))
/-! the reference: all sets -/
theorem qbu_ab {ls : Nat → Int} {s : Int} : ∀ n : Nat, (∀ k, k < n → 0 ≤ ls k ∧ ls k < 64) → ∀ f : Int, 0 ≤ f → f < 64 → (qbit (qap ls s n) f = 1 ↔ ∃ i : Nat, i < n ∧ qbi s (i : Int) = 1 ∧ ls i = f)
  | 0, _, f, _, _ => by
    show qbit 0 f = 1 ↔ _
    rw [qbit_0]
    exact ⟨fun z => absurd z (by decide), fun ⟨i, hi, _⟩ => absurd hi (Nat.not_lt_zero i)⟩
  | n + 1, hl, f, h0, h1 => by
    have ih := qbu_ab (s := s) n (fun k hk => hl k (by omega)) f h0 h1
    have hn := hl n (by omega)
    have e : qap ls s (n + 1) = if qbi s (n : Int) = 1 then ql_or (qap ls s n) (ql_shl 1 (ls n)) else qap ls s n := rfl
    by_cases c : qbi s (n : Int) = 1
    · rw [e, if_pos c, qbit_or, qbit_shl hn h0]
      constructor
      · intro z
        by_cases d : qbit (qap ls s n) f = 1
        · obtain ⟨i, hi, h2⟩ := ih.mp d
          exact ⟨i, by omega, h2⟩
        · by_cases g : f = ls n
          · exact ⟨n, by omega, c, g.symm⟩
          · rw [if_neg g, if_neg (fun y => y.elim d (fun x => absurd x (by decide)))] at z
            exact absurd z (by decide)
      · rintro ⟨i, hi, h2, h3⟩
        by_cases d : i = n
        · rw [d] at h3
          rw [if_pos h3.symm]
          exact if_pos (Or.inr rfl)
        · exact if_pos (Or.inl (ih.mpr ⟨i, by omega, h2, h3⟩))
    · rw [e, if_neg c, ih]
      constructor
      · rintro ⟨i, hi, h2⟩
        exact ⟨i, by omega, h2⟩
      · rintro ⟨i, hi, h2, h3⟩
        by_cases d : i = n
        · rw [d] at h2
          exact absurd h2 c
        · exact ⟨i, by omega, h2, h3⟩
theorem qbu_ar {ls : Nat → Int} {s : Int} : ∀ n : Nat, -9223372036854775808 ≤ qap ls s n ∧ qap ls s n ≤ 9223372036854775807
  | 0 => by
    show (-9223372036854775808 : Int) ≤ 0 ∧ (0 : Int) ≤ 9223372036854775807
    decide
  | n + 1 => by
    have ih := qbu_ar (ls := ls) (s := s) n
    have e : qap ls s (n + 1) = if qbi s (n : Int) = 1 then ql_or (qap ls s n) (ql_shl 1 (ls n)) else qap ls s n := rfl
    by_cases c : qbi s (n : Int) = 1
    · rw [e, if_pos c]
      exact ql_or_r _ _
    · rw [e, if_neg c]
      exact ih
/-- the set of places of a set of feuds -/
noncomputable def qbuX (X : Int) (ls : Nat → Int) : Nat → Int
  | 0 => 0
  | n + 1 => if qbit X (ls n) = 1 then qz_or (qbuX X ls n) (qz_shl 1 (n : Int)) else qbuX X ls n
theorem qbuX_b {X : Int} {ls : Nat → Int} : ∀ n : Nat, n ≤ 12 → qNB (qbuX X ls n) ls X (n : Int)
  | 0, _ => qNB_0 ls X
  | n + 1, h => by
    have ih := qbuX_b (X := X) (ls := ls) n (by omega)
    have e : qbuX X ls (n + 1) = if qbit X (ls n) = 1 then qz_or (qbuX X ls n) (qz_shl 1 (n : Int)) else qbuX X ls n := rfl
    by_cases c : qbit X (ls n) = 1
    · rw [if_pos c] at e
      exact qNB_y ih (by omega) (by rw [Int.toNat_natCast]; exact c) e
    · rw [if_neg c] at e
      rw [e]
      exact qNB_n ih (by rw [Int.toNat_natCast]; exact c)
theorem qbuX_r {X : Int} {ls : Nat → Int} : ∀ n : Nat, -2147483648 ≤ qbuX X ls n ∧ qbuX X ls n ≤ 2147483647
  | 0 => by
    show (-2147483648 : Int) ≤ 0 ∧ (0 : Int) ≤ 2147483647
    decide
  | n + 1 => by
    have ih := qbuX_r (X := X) (ls := ls) n
    have e : qbuX X ls (n + 1) = if qbit X (ls n) = 1 then qz_or (qbuX X ls n) (qz_shl 1 (n : Int)) else qbuX X ls n := rfl
    by_cases c : qbit X (ls n) = 1
    · rw [e, if_pos c]
      exact qz_or_r _ _
    · rw [e, if_neg c]
      exact ih
theorem qbu_pn {x : Int} (h : 0 ≤ x ∧ x ≤ 4095) : qpn x = qsm (fun k : Nat => qbi x (k : Int)) 12 := by
  have key : ∀ k : Nat, ((qbN x.toNat k : Nat) : Int) = qsm (fun k : Nat => qbi x (k : Int)) k := fun k => by
    induction k with
    | zero => rfl
    | succ k ih =>
      show ((qbN x.toNat k + x.toNat / 2 ^ k % 2 : Nat) : Int) = qsm (fun k : Nat => qbi x (k : Int)) k + qbi x (k : Int)
      rw [← ih]
      unfold qbi
      rw [qlz_nt (x := x) (by omega), Int.toNat_natCast]
      exact Int.natCast_add _ _
  exact key 12
theorem qbu_sb {s b : Int} (hs : 0 ≤ s ∧ s ≤ 4095) (hb : 0 ≤ b ∧ b ≤ 4095) (h : qsub s b) (hc : qpn b ≤ qpn s) : s = b := by
  rw [qbu_pn hs, qbu_pn hb] at hc
  have h12 : qz_shl 1 12 = 4096 := by decide
  refine qbi_ext (by omega) (by omega) (fun k k0 k32 => ?_)
  have r1 := qbi_r s k
  have r2 := qbi_r b k
  by_cases c : qbi s k = 1
  · rw [c, h k k0 k32 c]
  · by_cases d : qbi b k = 1
    · exfalso
      have k12 : k < 12 := by
        by_cases e : k < 12
        · exact e
        · have := qbi_hin (x := b) (n := 12) (by decide) (by omega) (k := k) (by omega)
          omega
      have h1 := qbu_sl (f := fun k : Nat => qbi s (k : Int)) (g := fun k : Nat => qbi b (k : Int)) (l := k.toNat) 12 (fun j hj => by
        have h2 := h (j : Int) (by omega) (by omega)
        have q1 := qbi_r s (j : Int)
        have q2 := qbi_r b (j : Int)
        show qbi s (j : Int) ≤ qbi b (j : Int)
        by_cases e : qbi s (j : Int) = 1
        · have := h2 e
          omega
        · omega) (by omega) (by
        show qbi s ((k.toNat : Nat) : Int) + 1 ≤ qbi b ((k.toNat : Nat) : Int)
        rw [show ((k.toNat : Nat) : Int) = k by omega]
        omega)
      omega
    · omega
/-- what a set of places costs -/
def qbuT (pr ls : Nat → Int) (s : Int) (m : Nat) : Int := qsm (fun i : Nat => if qbi s (i : Int) = 1 then pr (ls i : Int).toNat else 0) m
theorem qbuT_s (pr ls : Nat → Int) (s : Int) {i : Int} (h : 0 ≤ i) : (qbi s i = 1 ∧ qbuT pr ls s (i + 1).toNat = qbuT pr ls s i.toNat + pr (ls i.toNat : Int).toNat) ∨ (¬ qbi s i = 1 ∧ qbuT pr ls s (i + 1).toNat = qbuT pr ls s i.toNat) := by
  obtain ⟨m, rfl⟩ : ∃ m : Nat, i = m := ⟨i.toNat, by omega⟩
  rw [show ((m : Int) + 1).toNat = m + 1 by omega, Int.toNat_natCast]
  have e : qbuT pr ls s (m + 1) = qbuT pr ls s m + (if qbi s (m : Int) = 1 then pr (ls m : Int).toNat else 0) := rfl
  by_cases c : qbi s (m : Int) = 1
  · rw [if_pos c] at e
    exact Or.inl ⟨c, e⟩
  · rw [if_neg c] at e
    exact Or.inr ⟨c, by omega⟩
theorem qbuT_W {pr ls : Nat → Int} {s n : Int} (hn : 0 ≤ n ∧ n ≤ 64) : ∀ m : Nat, qSr ls (m : Int) n → qbuT pr ls s m = qbuW pr (qap ls s m) n.toNat
  | 0, _ => by
    have key : ∀ N : Nat, qbuW pr 0 N = 0 := fun N => by
      induction N with
      | zero => rfl
      | succ N ih =>
        show qbuW pr 0 N + (if qbit 0 (N : Int) = 1 then pr N else 0) = 0
        rw [ih, qbit_0]
        rfl
    exact (key _).symm
  | m + 1, hs => by
    have hl := hs.1 m (by omega)
    have ih := qbuT_W (pr := pr) (s := s) hn m ⟨fun i hi => hs.1 i (by omega), fun i j hij hj => hs.2 i j hij (by omega)⟩
    have e : qbuT pr ls s (m + 1) = qbuT pr ls s m + (if qbi s (m : Int) = 1 then pr (ls m : Int).toNat else 0) := rfl
    have e2 : qap ls s (m + 1) = if qbi s (m : Int) = 1 then ql_or (qap ls s m) (ql_shl 1 (ls m)) else qap ls s m := rfl
    by_cases c : qbi s (m : Int) = 1
    · rw [if_pos c] at e e2
      rw [e, ih, e2]
      have nb : ¬ qbit (qap ls s m) (ls m) = 1 := fun z => by
        obtain ⟨i, hi, _, h3⟩ := (qbu_ab (ls := ls) (s := s) m (fun k hk => by have := hs.1 k (by omega); omega) (ls m) (by omega) (by omega)).mp z
        have := hs.2 i m hi (by omega)
        omega
      refine (qsm_1 (l := (ls m : Int).toNat) ?_ (fun k hk => ?_) n.toNat (by omega)).symm
      · show (if qbit (ql_or (qap ls s m) (ql_shl 1 (ls m))) (((ls m : Int).toNat : Nat) : Int) = 1 then pr (ls m : Int).toNat else 0) = (if qbit (qap ls s m) (((ls m : Int).toNat : Nat) : Int) = 1 then pr (ls m : Int).toNat else 0) + pr (ls m : Int).toNat
        rw [show (((ls m : Int).toNat : Nat) : Int) = ls m by omega, if_neg nb, qbit_or, qbit_shl (by omega) hl.1, if_pos rfl, if_pos (if_pos (Or.inr rfl))]
        omega
      · show (if qbit (ql_or (qap ls s m) (ql_shl 1 (ls m))) (k : Int) = 1 then pr k else 0) = (if qbit (qap ls s m) (k : Int) = 1 then pr k else 0)
        rw [qbit_or, qbit_shl (by omega) (by omega), if_neg (show ¬ (k : Int) = ls m by omega)]
        by_cases d : qbit (qap ls s m) (k : Int) = 1
        · rw [if_pos (if_pos (Or.inl d)), if_pos d]
        · rw [if_neg (fun z => by rw [if_neg (fun y => y.elim d (fun x => absurd x (by decide)))] at z; exact absurd z (by decide)), if_neg d]
    · rw [if_neg c] at e e2
      rw [e, e2, ih]
      omega
def qbuD (Gd : Int → Prop) (ls : Nat → Int) (M : Nat) (s : Int) : Prop := Gd (qap ls s M)
def qbuK (pr ls : Nat → Int) (M : Nat) (s : Int) : Int := -(qbuT pr ls s M * 16 + qpn s)
def qbuB (Gd : Int → Prop) (ls pr : Nat → Int) (m what v : Int) : Prop := ∃ b : Int, qmB (qbuD Gd ls m.toNat) (qbuK pr ls m.toNat) (qz_shl 1 m) b ∧ ((b < 0 ∧ v = -2) ∨ (0 ≤ b ∧ ((what = 0 ∧ v = qbuT pr ls b m.toNat) ∨ (¬ what = 0 ∧ v = qap ls b m.toNat))))
theorem qbu_sr {r : Nat → Int} {n m : Int} {Q : Nat → Int} (hm : 0 ≤ m) (h : qLs r n ((qBr Q m.toNat).take 10)) : qSr r n m := by
  have s := qBr_so (Q := Q) m.toNat
  have h1 := h.1
  rw [List.length_take] at h1
  refine ⟨fun i hi => ?_, fun i j hij hj => ?_⟩
  · rw [h.2 i (by rw [List.length_take]; omega), List.getElem_take]
    have := s.1 i (by omega)
    omega
  · rw [h.2 i (by rw [List.length_take]; omega), h.2 j (by rw [List.length_take]; omega), List.getElem_take, List.getElem_take]
    exact s.2 i j hij (by omega)
theorem qbu_un {Gc Gm : Int → Prop} {P n m what v v' : Int} {pr pr' ls : Nat → Int} {L : List Int} (hn : 0 ≤ n ∧ n ≤ 64) (hm : 0 ≤ m ∧ m ≤ 12) (hL : qLs ls m L) (hP : qbuL L P) (hS : qSr ls m n) (hpr : ∀ k : Nat, (k : Int) < n → pr k = pr' k ∧ 0 ≤ pr k) (hG : ∀ X, Gc X ↔ Gm X) (h : qbuA Gc P pr n what v) (g : qbuB Gm ls pr' m what v') : v = v' := by
  have hsh := qshl_r (n := m) hm
  have hl64 : ∀ k : Nat, k < m.toNat → 0 ≤ ls k ∧ ls k < 64 := fun k hk => by
    have := hS.1 k (by omega)
    omega
  have mem : ∀ f : Int, f ∈ L ↔ ∃ i : Nat, i < m.toNat ∧ ls i = f := fun f => by
    have h1 := hL.1
    constructor
    · intro hf
      obtain ⟨i, hi, he⟩ := List.getElem_of_mem hf
      exact ⟨i, by omega, by rw [hL.2 i hi, he]⟩
    · rintro ⟨i, hi, he⟩
      rw [← he, hL.2 i (by omega)]
      exact List.getElem_mem _
  have hsubP : ∀ s : Int, qbuS (qap ls s m.toNat) P := fun s k k0 k1 hk => by
    obtain ⟨i, hi, _, h3⟩ := (qbu_ab m.toNat hl64 k k0 k1).mp hk
    exact (hP k k0 k1).mpr ((mem k).mpr ⟨i, hi, h3⟩)
  have hT : ∀ s : Int, qbuT pr' ls s m.toNat = qbuW pr (qap ls s m.toNat) n.toNat := fun s => by
    rw [qbuT_W (pr := pr') (ls := ls) (s := s) hn m.toNat (by rw [show ((m.toNat : Nat) : Int) = m by omega]; exact hS)]
    exact qbuW_cg (fun k hk => ((hpr k (by omega)).1).symm)
  obtain ⟨b, g1, g2⟩ := g
  rcases h with ⟨h1, h2⟩ | ⟨X, hXr, h1, h2, h3, h4⟩
  · rcases g2 with ⟨g2, g3⟩ | ⟨g2, g3⟩
    · rw [h1, g3]
    · rcases g1 with ⟨k1, _⟩ | ⟨k1, k2, _⟩
      · omega
      · exact absurd ((hG _).mpr k2) (h2 _ (hsubP b))
  · have nb := qbuX_b (X := X) (ls := ls) m.toNat (by omega)
    have xr := qbuX_r (X := X) (ls := ls) m.toNat
    have xl := qbi_lt (x := qbuX X ls m.toNat) hm xr (fun k kn k32 => by
      have r := qbi_r (qbuX X ls m.toNat) k
      by_cases c : qbi (qbuX X ls m.toNat) k = 1
      · have := ((nb k (by omega) k32).mp c).1
        omega
      · omega)
    have hBt : qap ls (qbuX X ls m.toNat) m.toNat = X := by
      refine qbuS_eq (qbu_ar _) hXr (fun k k0 k1 hk => ?_) (fun k k0 k1 hk => ?_)
      · obtain ⟨i, hi, e1, e2⟩ := (qbu_ab m.toNat hl64 k k0 k1).mp hk
        have e3 := ((nb (i : Int) (by omega) (by omega)).mp e1).2
        rw [Int.toNat_natCast, e2] at e3
        exact e3
      · obtain ⟨i, hi, e1⟩ := (mem k).mp ((hP k k0 k1).mp (h1 k k0 k1 hk))
        exact (qbu_ab m.toNat hl64 k k0 k1).mpr ⟨i, hi, (nb (i : Int) (by omega) (by omega)).mpr ⟨by omega, by rw [Int.toNat_natCast, e1]; exact hk⟩, e1⟩
    have hD : Gm (qap ls (qbuX X ls m.toNat) m.toNat) := by
      rw [hBt]
      exact (hG X).mp h2
    rcases g1 with ⟨k1, k2⟩ | ⟨k1, k2, k3⟩
    · exact absurd hD (k2 _ xl.1 xl.2)
    · have hXb := h3 _ (hsubP b) ((hG _).mpr k2)
      have hle := (k3 _ xl.1 xl.2 hD).1
      have hle2 : -(qbuT pr' ls (qbuX X ls m.toNat) m.toNat * 16 + qpn (qbuX X ls m.toNat)) ≤ -(qbuT pr' ls b m.toNat * 16 + qpn b) := hle
      rw [hT, hT, hBt] at hle2
      have hmo := qbuW_mo (pr := pr) (n := n.toNat) (by omega) (fun k hk => (hpr k (by omega)).2) hXb
      have p1 := qpn_r (x := qbuX X ls m.toNat) (by omega)
      have p2 := qpn_r (x := b) (by omega)
      have hsb : qsub (qbuX X ls m.toNat) b := fun k k0 k32 hk => by
        have e1 := (nb k k0 k32).mp hk
        have l1 := hl64 k.toNat (by omega)
        obtain ⟨i, hi, e2, e3⟩ := (qbu_ab m.toNat hl64 (ls k.toNat) l1.1 l1.2).mp (hXb _ l1.1 l1.2 e1.2)
        have e4 : i = k.toNat := by
          by_cases c : i < k.toNat
          · have := hS.2 i k.toNat c (by omega)
            omega
          · by_cases d : k.toNat < i
            · have := hS.2 k.toNat i d (by omega)
              omega
            · omega
        rw [e4, show ((k.toNat : Nat) : Int) = k by omega] at e2
        exact e2
      have hb := qbu_sb (by omega) (by omega) hsb (by omega)
      rcases g2 with ⟨g2, g3⟩ | ⟨g2, g3⟩
      · omega
      · rw [← hb, hBt] at g3
        rw [hT, hBt] at g3
        rcases h4 with ⟨c1, c2⟩ | ⟨c1, c2⟩
        · rcases g3 with ⟨d1, d2⟩ | ⟨d1, d2⟩
          · rw [c2, d2]
          · exact absurd c1 d1
        · rcases g3 with ⟨d1, d2⟩ | ⟨d1, d2⟩
          · exact absurd d1 c1
          · rw [c2, d2]
def qbuGM (σ α : Nat → Nat → Int) (g : (Nat → Int) → Int) (ls : Nat → Int) (n a b X : Int) : Prop := ∀ i j : Int, 0 ≤ i → i < j → j < n → ¬ qBaM (qw_s σ 86 22 X) α g (ls i.toNat) (ls j.toNat) a b
theorem qbu_gg {σ α : Nat → Nat → Int} {κ : Nat → Option Nat} {ρ : Nat} (hI : qI σ α κ ρ) (hR : qR σ α) (h2 : qR2 σ α) (hF : qRF σ α) (hP : qRP σ α) (hH : qRH σ α) (hL : qRL σ α) (hN : qRN σ α) (hW : qRS σ α) {f g : (Nat → Int) → Int} (hA : qAg f g) {ls ls' : Nat → Int} {n a b : Int} (hS : qSr ls' n (σ 86 6)) (he : ∀ k : Nat, (k : Int) < n → ls k = ls' k) (X : Int) : qbuGC σ α f ls n a b X ↔ qbuGM σ α g ls' n a b X := by
  constructor
  · rintro h i j i0 hij jn ⟨t, ht, hm⟩
    have ei := he i.toNat (by omega)
    have ej := he j.toNat (by omega)
    have ri := hS.1 i.toNat (by omega)
    have rj := hS.1 j.toNat (by omega)
    have rij := hS.2 i.toNat j.toNat (by omega) (by omega)
    rcases hm with hm | hm
    · have k1 := h t i j ht.1 ht.2 i0 (by omega) (by omega) jn (by omega)
      rw [ei, ej] at k1
      exact k1 ((qbu_ma hI hR h2 hF hP hH hL hN hW hA ri rj (by omega)).mpr hm)
    · have k1 := h t j i ht.1 ht.2 (by omega) jn i0 (by omega) (by omega)
      rw [ei, ej] at k1
      rw [ql_or_c] at hm
      exact k1 ((qbu_ma hI hR h2 hF hP hH hL hN hW hA rj ri (by omega)).mpr hm)
  · intro h t i j ta tb i0 i_n j0 jn hij
    have ei := he i.toNat (by omega)
    have ej := he j.toNat (by omega)
    have ri := hS.1 i.toNat (by omega)
    have rj := hS.1 j.toNat (by omega)
    rw [ei, ej]
    intro hm
    by_cases c : i < j
    · have rij := hS.2 i.toNat j.toNat (by omega) (by omega)
      exact h i j i0 c jn ⟨t, ⟨ta, tb⟩, Or.inl ((qbu_ma hI hR h2 hF hP hH hL hN hW hA ri rj (by omega)).mp hm)⟩
    · have rij := hS.2 j.toNat i.toNat (by omega) (by omega)
      have k1 := (qbu_ma hI hR h2 hF hP hH hL hN hW hA ri rj (by omega)).mp hm
      rw [ql_or_c] at k1
      exact h j i j0 (by omega) i_n ⟨t, ⟨ta, tb⟩, Or.inr k1⟩
/-! looking for who presses -/
def qbuE (B : Int → Int → Int → Prop) (ls : Nat → Int) (n h : Int) : Prop := ∃ i j : Int, (0 ≤ i ∧ i < n) ∧ (0 ≤ j ∧ j < n) ∧ ¬ i = j ∧ B h (ls i.toNat) (ls j.toNat)
def qbuC2 (B : Int → Int → Int → Prop) (ls : Nat → Int) (h i j : Int) : Prop := ¬ i = j ∧ B h (ls i.toNat) (ls j.toNat)
def qbuRw (C : Int → Int → Prop) (n i : Int) : Prop := ∀ a b : Int, 0 ≤ a → a < i → 0 ≤ b → b < n → ¬ C a b
def qbuCl (C : Int → Int → Prop) (i j : Int) : Prop := ∀ b : Int, 0 ≤ b → b < j → ¬ C i b
theorem qbuRw_0 {C : Int → Int → Prop} {n : Int} : qbuRw C n 0 := fun _ _ h0 h1 => False.elim (by omega)
theorem qbuCl_0 {C : Int → Int → Prop} {i : Int} : qbuCl C i 0 := fun _ h0 h1 => False.elim (by omega)
theorem qbuCl_s {C : Int → Int → Prop} {i j : Int} (g : ¬ C i j) (h : qbuCl C i j) : qbuCl C i (j + 1) := fun b h0 h1 hc => by
  by_cases e : b = j
  · rw [e] at hc
    exact g hc
  · exact h b h0 (by omega) hc
theorem qbuRw_s {C : Int → Int → Prop} {n i j : Int} (hj : n ≤ j) (g : qbuCl C i j) (h : qbuRw C n i) : qbuRw C n (i + 1) := fun a b a0 a1 b0 b1 hc => by
  by_cases e : a = i
  · rw [e] at hc
    exact g b b0 (by omega) hc
  · exact h a b a0 (by omega) b0 b1 hc
theorem qbuE_no {B : Int → Int → Int → Prop} {ls : Nat → Int} {n h i : Int} (hi : n ≤ i) (g : qbuRw (qbuC2 B ls h) n i) : ¬ qbuE B ls n h := fun ⟨a, b, ha, hb, hab, hm⟩ => g a b ha.1 (by omega) hb.1 hb.2 ⟨hab, hm⟩
theorem qbuG_of {B : Int → Int → Int → Prop} {ls : Nat → Int} {n a b x : Int} (hx : b < x) (h : ∀ t : Int, a ≤ t → t < x → ¬ qbuE B ls n t) : qbuG B ls n a b := fun t i j t0 t1 i0 i1 j0 j1 hij hm => h t t0 (by omega) ⟨i, j, ⟨i0, i1⟩, ⟨j0, j1⟩, hij, hm⟩
theorem qw_self (σ : Nat → Nat → Int) (a k : Nat) : qw_s σ a k (σ a k) = σ := by
  funext b j
  unfold qw_s
  by_cases c : b = a
  · by_cases d : j = k
    · rw [if_pos c, if_pos d, c, d]
    · rw [if_pos c, if_neg d]
  · rw [if_neg c]
theorem qbuE_sk {σ α : Nat → Nat → Int} {f : (Nat → Int) → Int} {ls : Nat → Int} {n h : Int} (hf : ∀ i : Nat, (i : Int) < σ 27 7 → ¬ (α 30 i = h ∨ α 33 i = h)) (hp : ∀ i : Nat, (i : Int) < σ 34 7 → ¬ (α 37 i = h ∨ α 40 i + 1 = h)) (hm : qbuE (fun h p q => qMaC σ α f h p q) ls n h) : qbuE (fun h p q => qMaC σ α f h p q) ls n (h - 1) := by
  obtain ⟨i, j, hi, hj, hij, hb⟩ := hm
  refine ⟨i, j, hi, hj, hij, ?_⟩
  show qMaC σ α f (h - 1) (ls i.toNat) (ls j.toNat)
  have hb2 : qMaC σ α f h (ls i.toNat) (ls j.toNat) := hb
  unfold qMaC at hb2 ⊢
  rw [← qNVc_sk hf hp]
  exact hb2
theorem qbuGC_s {σ α : Nat → Nat → Int} {f : (Nat → Int) → Int} {ls : Nat → Int} {n a b : Int} (h : qbuG (fun h p q => qMaC σ α f h p q) ls n a b) : qbuGC σ α f ls n a b (σ 27 6) := by
  unfold qbuGC qbuBC
  rw [qw_self]
  exact h
theorem qbuPC_s {σ α : Nat → Nat → Int} {f : (Nat → Int) → Int} {ls : Nat → Int} {n a b v : Int} (h : qbuP (fun h p q => qMaC σ α f h p q) (qbuNC σ α (σ 27 6)) ls n a b v) : qbuPC σ α f ls n a b (σ 27 6) v := by
  unfold qbuPC qbuBC
  rw [qw_self]
  exact h
theorem qbuBC_fr {S : List (Nat × Nat)} {R : List Nat} {σ α σ' α' : Nat → Nat → Int} (hG : qFr S R σ α σ' α') (hs : [(17, 6), (27, 7), (34, 7)].all (fun x => !S.contains x) = true) (hr : [18, 20, 22, 24, 28, 29, 30, 31, 33, 35, 36, 37, 40, 41].all (fun x => !R.contains x) = true) : qbuBC σ' α' = qbuBC σ α := by
  have es : ∀ a k, (a, k) ∈ [(17, 6), (27, 7), (34, 7)] → σ' a k = σ a k := fun a k hm => hG.1 a k (fun hn => by
    have h1 := List.all_eq_true.mp hs (a, k) hm
    rw [List.contains_iff_mem.mpr hn] at h1
    exact absurd h1 (by decide))
  have er : ∀ a, a ∈ [18, 20, 22, 24, 28, 29, 30, 31, 33, 35, 36, 37, 40, 41] → α' a = α a := fun a hm => hG.2 a (fun hn => by
    have h1 := List.all_eq_true.mp hr a hm
    rw [List.contains_iff_mem.mpr hn] at h1
    exact absurd h1 (by decide))
  have e : ∀ X h : Int, qNVc (qw_s (qw_s σ' 27 6 X) 58 11 h) α' = qNVc (qw_s (qw_s σ 27 6 X) 58 11 h) α := fun X h => by
    have s1 : qw_s (qw_s σ' 27 6 X) 58 11 h 17 6 = qw_s (qw_s σ 27 6 X) 58 11 h 17 6 := es 17 6 (by decide)
    have s2 : qw_s (qw_s σ' 27 6 X) 58 11 h 27 6 = qw_s (qw_s σ 27 6 X) 58 11 h 27 6 := rfl
    have s3 : qw_s (qw_s σ' 27 6 X) 58 11 h 27 7 = qw_s (qw_s σ 27 6 X) 58 11 h 27 7 := es 27 7 (by decide)
    have s4 : qw_s (qw_s σ' 27 6 X) 58 11 h 34 7 = qw_s (qw_s σ 27 6 X) 58 11 h 34 7 := es 34 7 (by decide)
    have s5 : qw_s (qw_s σ' 27 6 X) 58 11 h 58 11 = qw_s (qw_s σ 27 6 X) 58 11 h 58 11 := rfl
    unfold qNVc
    rw [s1, s2, s3, s4, s5, er 18 (by decide), er 20 (by decide), er 22 (by decide), er 24 (by decide), er 28 (by decide), er 29 (by decide), er 30 (by decide), er 31 (by decide), er 33 (by decide), er 35 (by decide), er 36 (by decide), er 37 (by decide), er 40 (by decide), er 41 (by decide)]
  funext f X h p q
  unfold qbuBC qMaC
  simp only [e]
theorem qbuNC_fr {S : List (Nat × Nat)} {R : List Nat} {σ α σ' α' : Nat → Nat → Int} (hG : qFr S R σ α σ' α') (hs : [(27, 7)].all (fun x => !S.contains x) = true) (hr : [24, 28, 29, 30, 31, 33].all (fun x => !R.contains x) = true) : qbuNC σ' α' = qbuNC σ α := by
  have es : σ' 27 7 = σ 27 7 := hG.1 27 7 (fun hn => by
    have h1 := List.all_eq_true.mp hs (27, 7) (by decide)
    rw [List.contains_iff_mem.mpr hn] at h1
    exact absurd h1 (by decide))
  have er : ∀ a, a ∈ [24, 28, 29, 30, 31, 33] → α' a = α a := fun a hm => hG.2 a (fun hn => by
    have h1 := List.all_eq_true.mp hr a hm
    rw [List.contains_iff_mem.mpr hn] at h1
    exact absurd h1 (by decide))
  funext X h p q v
  unfold qbuNC
  rw [es, er 24 (by decide), er 28 (by decide), er 29 (by decide), er 30 (by decide), er 31 (by decide), er 33 (by decide)]
def qbuRes (σ α : Nat → Nat → Int) (f : (Nat → Int) → Int) (ls : Nat → Int) (n a b what v : Int) : Prop := ∃ P : Int, qbuO (α 33) a (σ 27 7) P ∧ qbuA (qbuGC σ α f ls n a b) P (α 32) (σ 27 7) what v
theorem qbuGC_fr {S : List (Nat × Nat)} {R : List Nat} {σ α σ' α' : Nat → Nat → Int} (hG : qFr S R σ α σ' α') (hs : [(17, 6), (27, 7), (34, 7)].all (fun x => !S.contains x) = true) (hr : [18, 20, 22, 24, 28, 29, 30, 31, 33, 35, 36, 37, 40, 41].all (fun x => !R.contains x) = true) : qbuGC σ' α' = qbuGC σ α := by
  funext f ls n a b X
  unfold qbuGC
  rw [qbuBC_fr hG hs hr]
theorem qbuPC_fr {S : List (Nat × Nat)} {R : List Nat} {σ α σ' α' : Nat → Nat → Int} (hG : qFr S R σ α σ' α') (hs : [(17, 6), (27, 7), (34, 7)].all (fun x => !S.contains x) = true) (hs2 : [(27, 7)].all (fun x => !S.contains x) = true) (hr : [18, 20, 22, 24, 28, 29, 30, 31, 33, 35, 36, 37, 40, 41].all (fun x => !R.contains x) = true) (hr2 : [24, 28, 29, 30, 31, 33].all (fun x => !R.contains x) = true) : qbuPC σ' α' = qbuPC σ α := by
  funext f ls n a b X v
  unfold qbuPC
  rw [qbuBC_fr hG hs hr, qbuNC_fr hG hs2 hr2]
theorem qbuRes_fr {S : List (Nat × Nat)} {R : List Nat} {σ α σ' α' : Nat → Nat → Int} (hG : qFr S R σ α σ' α') (hs : [(17, 6), (27, 7), (34, 7)].all (fun x => !S.contains x) = true) (hr : [18, 20, 22, 24, 28, 29, 30, 31, 33, 35, 36, 37, 40, 41].all (fun x => !R.contains x) = true) (e27 : σ' 27 7 = σ 27 7) (e32 : α' 32 = α 32) (e33 : α' 33 = α 33) : qbuRes σ' α' = qbuRes σ α := by
  funext f ls n a b what v
  unfold qbuRes
  rw [qbuGC_fr hG hs hr, e27, e32, e33]
theorem qbuO_c {pd : Nat → Int} {h n P : Int} (g : qbuO pd h n P) : qcn P 64 ≤ 10 := by
  have h1 := g.2
  rw [List.length_take] at h1
  omega
/-! pairs, as the reference goes on -/
def qbuTr (C : Int → Int → Prop) (i : Int) : Prop := ∀ a b : Int, 0 ≤ a → a < i → 0 ≤ b → b < a → ¬ C a b
theorem qbuTr_0 {C : Int → Int → Prop} : qbuTr C 0 := fun _ _ h0 h1 => False.elim (by omega)
theorem qbuTr_s {C : Int → Int → Prop} {i j : Int} (hj : i ≤ j) (g : qbuCl C i j) (h : qbuTr C i) : qbuTr C (i + 1) := fun a b a0 a1 b0 b1 hc => by
  by_cases e : a = i
  · rw [e] at hc b1
    exact g b b0 (by omega) hc
  · exact h a b a0 (by omega) b0 b1 hc
/-! the reference, when some feuds are paid -/
def qbuGt (σ α : Nat → Nat → Int) (g : (Nat → Int) → Int) (ls : Nat → Int) (x y : Int) : Int → Int → Prop := fun a b => qBaM σ α g (ls b.toNat) (ls a.toNat) x y
theorem qbuGM_tr {σ α : Nat → Nat → Int} {g : (Nat → Int) → Int} {ls : Nat → Int} {n x y X : Int} : qbuTr (qbuGt (qw_s σ 86 22 X) α g ls x y) n ↔ qbuGM σ α g ls n x y X := ⟨fun h i j i0 hij jn => h j i (by omega) jn i0 hij, fun h a b a0 an b0 ba => h b a b0 ba an⟩
theorem qbuM_fr {S : List (Nat × Nat)} {R : List Nat} {σ α σ' α' : Nat → Nat → Int} {X : Int} (hG : qFr S R σ α σ' α') (hs : [(86, 6), (86, 11), (86, 16), (86, 24)].all (fun x => !S.contains x) = true) (hr : [87, 91, 94, 95, 97, 98, 99, 100, 102, 103, 104, 105].all (fun x => !R.contains x) = true) (h41 : σ' 86 41 = σ 86 41) (h22 : σ' 86 22 = X) : qBaM σ' α' = qBaM (qw_s σ 86 22 X) α := by
  have es : ∀ a k, (a, k) ∈ [(86, 6), (86, 11), (86, 16), (86, 24)] → σ' a k = σ a k := fun a k hm => hG.1 a k (fun hn => by
    have h1 := List.all_eq_true.mp hs (a, k) hm
    rw [List.contains_iff_mem.mpr hn] at h1
    exact absurd h1 (by decide))
  have er : ∀ a, a ∈ [87, 91, 94, 95, 97, 98, 99, 100, 102, 103, 104, 105] → α' a = α a := fun a hm => hG.2 a (fun hn => by
    have h1 := List.all_eq_true.mp hr a hm
    rw [List.contains_iff_mem.mpr hn] at h1
    exact absurd h1 (by decide))
  have s6 : σ' 86 6 = qw_s σ 86 22 X 86 6 := es 86 6 (by decide)
  have s11 : σ' 86 11 = qw_s σ 86 22 X 86 11 := es 86 11 (by decide)
  have s16 : σ' 86 16 = qw_s σ 86 22 X 86 16 := es 86 16 (by decide)
  have s24 : σ' 86 24 = qw_s σ 86 22 X 86 24 := es 86 24 (by decide)
  have s41 : σ' 86 41 = qw_s σ 86 22 X 86 41 := h41
  have s22 : σ' 86 22 = qw_s σ 86 22 X 86 22 := h22
  have e : qNVr σ' α' = qNVr (qw_s σ 86 22 X) α := by
    unfold qNVr
    rw [s6, s11, s16, s24, s41, s22, er 87 (by decide), er 91 (by decide), er 94 (by decide), er 95 (by decide), er 97 (by decide), er 98 (by decide), er 99 (by decide), er 100 (by decide), er 102 (by decide), er 103 (by decide), er 104 (by decide), er 105 (by decide)]
  funext g p q a b
  unfold qBaM qMaM
  rw [e]
def qbuRm (σ α : Nat → Nat → Int) (g : (Nat → Int) → Int) (ls os : Nat → Int) (n a b what v : Int) : Prop := ∃ m : Int, (0 ≤ m ∧ m ≤ 10) ∧ qLs os m ((qBr (qbuQ (qsh (α 87) 32) a) (σ 86 16 : Int).toNat).take 10) ∧ qbuB (qbuGM σ α g ls n a b) os (α 101) m what v
theorem qbu_hi {D : Int → Prop} {c : Int → Int} {b w : Int} (hb : 0 ≤ b) (hD : D b) (hc : w = -1 ∨ c w < c b) (h : qmB D c b w) : qmB D c (b + 1) b := qmB_hi hb hD hc h
theorem qbuGt_fr {S : List (Nat × Nat)} {R : List Nat} {σ α σ' α' : Nat → Nat → Int} {X : Int} (hG : qFr S R σ α σ' α') (hs : [(86, 6), (86, 11), (86, 16), (86, 24)].all (fun x => !S.contains x) = true) (hr : [87, 91, 94, 95, 97, 98, 99, 100, 102, 103, 104, 105].all (fun x => !R.contains x) = true) (h41 : σ' 86 41 = σ 86 41) (h22 : σ' 86 22 = X) : qbuGt σ' α' = qbuGt (qw_s σ 86 22 X) α := by
  funext g ls x y a b
  unfold qbuGt
  rw [qbuM_fr hG hs hr h41 h22]
theorem qbuGM_fr {S : List (Nat × Nat)} {R : List Nat} {σ α σ' α' : Nat → Nat → Int} (hG : qFr S R σ α σ' α') (hs : [(86, 6), (86, 11), (86, 16), (86, 24), (86, 41)].all (fun x => !S.contains x) = true) (hr : [87, 91, 94, 95, 97, 98, 99, 100, 102, 103, 104, 105].all (fun x => !R.contains x) = true) : qbuGM σ' α' = qbuGM σ α := by
  have es : ∀ a k, (a, k) ∈ [(86, 6), (86, 11), (86, 16), (86, 24), (86, 41)] → σ' a k = σ a k := fun a k hm => hG.1 a k (fun hn => by
    have h1 := List.all_eq_true.mp hs (a, k) hm
    rw [List.contains_iff_mem.mpr hn] at h1
    exact absurd h1 (by decide))
  have er : ∀ a, a ∈ [87, 91, 94, 95, 97, 98, 99, 100, 102, 103, 104, 105] → α' a = α a := fun a hm => hG.2 a (fun hn => by
    have h1 := List.all_eq_true.mp hr a hm
    rw [List.contains_iff_mem.mpr hn] at h1
    exact absurd h1 (by decide))
  have e : ∀ X : Int, qNVr (qw_s σ' 86 22 X) α' = qNVr (qw_s σ 86 22 X) α := fun X => by
    have s6 : qw_s σ' 86 22 X 86 6 = qw_s σ 86 22 X 86 6 := es 86 6 (by decide)
    have s11 : qw_s σ' 86 22 X 86 11 = qw_s σ 86 22 X 86 11 := es 86 11 (by decide)
    have s16 : qw_s σ' 86 22 X 86 16 = qw_s σ 86 22 X 86 16 := es 86 16 (by decide)
    have s24 : qw_s σ' 86 22 X 86 24 = qw_s σ 86 22 X 86 24 := es 86 24 (by decide)
    have s41 : qw_s σ' 86 22 X 86 41 = qw_s σ 86 22 X 86 41 := es 86 41 (by decide)
    have s22 : qw_s σ' 86 22 X 86 22 = qw_s σ 86 22 X 86 22 := rfl
    unfold qNVr
    rw [s6, s11, s16, s24, s41, s22, er 87 (by decide), er 91 (by decide), er 94 (by decide), er 95 (by decide), er 97 (by decide), er 98 (by decide), er 99 (by decide), er 100 (by decide), er 102 (by decide), er 103 (by decide), er 104 (by decide), er 105 (by decide)]
  funext g ls n a b X
  unfold qbuGM qBaM qMaM
  simp only [e]
theorem qbuRm_fr {S : List (Nat × Nat)} {R : List Nat} {σ α σ' α' : Nat → Nat → Int} (hG : qFr S R σ α σ' α') (hs : [(86, 6), (86, 11), (86, 16), (86, 24), (86, 41)].all (fun x => !S.contains x) = true) (hr : [87, 91, 94, 95, 97, 98, 99, 100, 102, 103, 104, 105].all (fun x => !R.contains x) = true) (e101 : α' 101 = α 101) : qbuRm σ' α' = qbuRm σ α := by
  have e16 : σ' 86 16 = σ 86 16 := hG.1 86 16 (fun hn => by
    have h1 := List.all_eq_true.mp hs (86, 16) (by decide)
    rw [List.contains_iff_mem.mpr hn] at h1
    exact absurd h1 (by decide))
  have e87 : α' 87 = α 87 := hG.2 87 (fun hn => by
    have h1 := List.all_eq_true.mp hr 87 (by decide)
    rw [List.contains_iff_mem.mpr hn] at h1
    exact absurd h1 (by decide))
  funext g ls os n a b what v
  unfold qbuRm
  rw [qbuGM_fr hG hs hr, e16, e87, e101]
theorem qbu_bc {Q Q' : Nat → Int} : ∀ n : Nat, (∀ k, k < n → Q k = Q' k) → qBr Q n = qBr Q' n
  | 0, _ => rfl
  | n + 1, h => by
    show (if Q n = 1 then qBr Q n ++ [(n : Int)] else qBr Q n) = (if Q' n = 1 then qBr Q' n ++ [(n : Int)] else qBr Q' n)
    rw [qbu_bc n (fun k hk => h k (by omega)), h n (by omega)]

set_option maxHeartbeats 4000000 in
set_option maxRecDepth 20000 in
/-- OneRoof$Feuds.firstOpen -/
theorem sf_122_27x {L : Nat} {xs : Nat → Int} {vb : Bool} {d : Nat} {σ α : Nat → Nat → Int} {κ : Nat → Option Nat} {ρ : Nat} {x1 : Int} (hI : qI σ α κ ρ) (r1 : 0 ≤ x1 ∧ x1 ≤ 2399) : qm_T (qe L xs vb) (d + 2) 122 [.ref 27, .int (qz x1), .int (qz 10)] (qw σ α κ ρ) (fun r w' => w' = qw σ α κ ρ ∧ ∃ v : Int, r = some (.long (ql v)) ∧ ((-9223372036854775808) ≤ v ∧ v ≤ 9223372036854775807) ∧ qbuO (α 33) x1 (σ 27 7) v) := by
  refine qr_start (d := d + 1) qv_e122 (Nat.le_of_ble_eq_true rfl) ?_
  show qr_W (qe L xs vb) (d + 1) qx_e122 _ (0, [(0, .ref 27), (1, .int (qz x1)), (2, .int (qz 10))], [], _, 0, 0)
  have hz27_7 : 0 ≤ σ 27 7 ∧ σ 27 7 ≤ 40 := hI.1 27 7
  refine qr_lconst 1 rfl rfl ?_
  refine qy_vl 0 rfl ?_
  refine qr_lstore_n _ 2 rfl (by decide) rfl rfl ?_
  refine qr_iconst 3 rfl rfl ?_
  refine qr_istore _ 5 rfl (by decide) rfl rfl ?_
  have hL202 : ∀ (n : Nat) (ls : qm_L) (u195 u197 : Int), 40 - u197 < (n : Int) → qm_get ls 0 = some (.ref 27) → qm_get ls 1 = some (.int (qz x1)) → qm_get ls 2 = some (.int (qz 10)) → qm_get ls 3 = some (.long (ql u195)) → qm_get ls 5 = some (.int (qz u197)) → ((-9223372036854775808) ≤ u195 ∧ u195 ≤ 9223372036854775807) → (0 ≤ u197 ∧ u197 ≤ 40) → qbuO (α 33) x1 u197 u195 → u197 ≤ σ 27 7 → qr_W (qe L xs vb) (d + 1) qx_e122 (fun r w' => w' = qw σ α κ ρ ∧ ∃ v : Int, r = some (.long (ql v)) ∧ ((-9223372036854775808) ≤ v ∧ v ≤ 9223372036854775807) ∧ qbuO (α 33) x1 (σ 27 7) v) (5, ls, [], qw σ α κ ρ, 0, 0) := by
    intro n
    induction n with
    | zero => intro ls u195 u197 hm g191 g192 g193 g194 g196 hf198 hf199 hx200 hx201; exact False.elim (by omega)
    | succ n ih203 =>
      intro ls u195 u197 hm g191 g192 g193 g194 g196 hf198 hf199 hx200 hx201
      refine qr_iload 7 rfl g196 rfl ?_
      refine qr_aload_n 8 rfl g191 rfl ?_
      refine qr_get 11 rfl rfl rfl (by decide) rfl ?_
      refine qr_icmp_ge 46 14 rfl rfl rfl (qrg hf199 (by decide) (by decide)) (qrg hz27_7 (by decide) (by decide)) (fun h204 => ?_) (fun h204 => ?_)
      · skip
        refine qr_lload_n 47 rfl g194 rfl ?_
        refine qr_retL rfl rfl (by decide) (by decide) ?_
        exact ⟨rfl, u195, rfl, hf198, (qbuO_e (by omega) (by omega) (by omega) hx200)⟩
      · skip
        refine qr_lload_n 15 rfl g194 rfl ?_
        refine qr_callN 18 rfl rfl rfl (sf_74c (d := d + 0) hI hf198) ?_
        rintro _ _ ⟨rfl, v205, rfl, hv205, hp206⟩
        show qr_W (qe L xs vb) (d + 1) qx_e122 _ (18, _, [.int (qz v205)], qw σ α κ ρ, 0, 0)
        refine qr_iload_n 19 rfl g193 rfl ?_
        refine qr_icmp_ge 46 22 rfl rfl rfl (qrg hv205 (by decide) (by decide)) (by decide) (fun h207 => ?_) (fun h207 => ?_)
        · skip
          refine qr_lload_n 47 rfl g194 rfl ?_
          refine qr_retL rfl rfl (by decide) (by decide) ?_
          exact ⟨rfl, u195, rfl, hf198, (qbuO_e (by omega) (by omega) (by omega) hx200)⟩
        · skip
          refine qr_aload_n 23 rfl g191 rfl ?_
          refine qr_get 26 rfl rfl rfl (by decide) rfl ?_
          refine qr_iload 28 rfl g196 rfl ?_
          refine qr_iaload 29 rfl rfl (by omega) (by decide) rfl ?_
          refine qr_topI (fun v208 hv208 => ?_)
          have hs209 : (-2147483648) ≤ v208 ∧ v208 ≤ 2147483647 := by rw [hv208]; exact hI.2.1 33 _ (show _ < 40 by omega)
          refine qr_iload_n 30 rfl g192 rfl ?_
          refine qr_icmp_le 40 33 rfl rfl rfl hs209 (qrg r1 (by decide) (by decide)) (fun h210 => ?_) (fun h210 => ?_)
          · skip
            refine qr_iinc _ 43 rfl g196 (by decide) rfl rfl ?_
            refine qr_goto 5 rfl rfl ?_
            exact ih203 _ u195 (u197 + 1) (by omega) (qm_gk g191 (by decide) (Or.inl (by decide))) (qm_gk g192 (by decide) (Or.inl (by decide))) (qm_gk g193 (by decide) (Or.inl (by decide))) (qm_gk g194 (by decide) (Or.inl (by decide))) (qm_ge _ _ _) hf198 (by omega) (qbuO_n (by omega) (by rw [← hv208]; omega) hx200) (by omega)
          · skip
            refine qr_lload_n 34 rfl g194 rfl ?_
            refine qr_lconst 35 rfl rfl ?_
            refine qy_vl 1 rfl ?_
            refine qr_iload 37 rfl g196 rfl ?_
            refine qr_lshl 38 rfl rfl ?_
            refine qy_canlE (fun v211 hv211 hev211 => ?_)
            refine qr_lor 39 rfl rfl ?_
            refine qy_canlE (fun v212 hv212 hev212 => ?_)
            refine qr_lstore_n _ 40 rfl (by decide) rfl rfl ?_
            refine qr_iinc _ 43 rfl (qm_gk2 g196 (by decide) (by decide) (Or.inl (by decide))) (by decide) rfl rfl ?_
            refine qr_goto 5 rfl rfl ?_
            exact ih203 _ v212 (u197 + 1) (by omega) (qm_gk (qm_gk2 g191 (by decide) (by decide) (Or.inl (by decide))) (by decide) (Or.inl (by decide))) (qm_gk (qm_gk2 g192 (by decide) (by decide) (Or.inl (by decide))) (by decide) (Or.inl (by decide))) (qm_gk (qm_gk2 g193 (by decide) (by decide) (Or.inr rfl)) (by decide) (Or.inl (by decide))) (qm_gk (qm_ge2 _ _ _) (by decide) (Or.inl (by decide))) (qm_ge _ _ _) hv212 (by omega) (qbuO_y (by omega) (by rw [← hv208]; omega) (by rw [← hp206]; omega) (by rw [ql_val hev212 (by omega) (ql_or_r _ _), ql_val hev211 (by omega) (ql_shl_r _ _)]) hx200) (by omega)
  exact hL202 ((40 - 0 + 1 : Int)).toNat _ 0 0 (by omega) rfl rfl rfl rfl rfl (by decide) (by decide) qbuO_0 (by omega)

set_option maxHeartbeats 4000000 in
set_option maxRecDepth 20000 in
/-- OneRoof$Feuds.nearestOnes -/
theorem sf_124_27_23x {L : Nat} {xs : Nat → Int} {vb : Bool} {d : Nat} {σ α : Nat → Nat → Int} {κ : Nat → Option Nat} {ρ : Nat} {x1 : Int} {x2 : Int} {x3 : Int} (hI : qI σ α κ ρ) (r1 : 0 ≤ x1 ∧ x1 ≤ 31) (r2 : 0 ≤ x2 ∧ x2 ≤ 31) (r3 : (-2147483648) ≤ x3 ∧ x3 ≤ 2147483647) : qm_T (qe L xs vb) (d + 3) 124 [.ref 27, .int (qz x1), .int (qz x2), .int (qz x3), .ref 23] (qw σ α κ ρ) (fun r w' => w' = qw σ α κ ρ ∧ ∃ v : Int, r = some (.long (ql v)) ∧ ((-9223372036854775808) ≤ v ∧ v ≤ 9223372036854775807) ∧ qbuN (qoF (α 30) (α 33) (σ 27 6) x3) (qcF (qTb (α 24)) (α 28) (α 29) (α 31) x1 x2) (σ 27 7 : Int).toNat v) := by
  refine qr_start (d := d + 2) qv_e124 (Nat.le_of_ble_eq_true rfl) ?_
  show qr_W (qe L xs vb) (d + 2) qx_e124 _ (0, [(0, .ref 27), (1, .int (qz x1)), (2, .int (qz x2)), (3, .int (qz x3)), (4, .ref 23)], [], _, 0, 0)
  have hz27_6 : (-9223372036854775808) ≤ σ 27 6 ∧ σ 27 6 ≤ 9223372036854775807 := hI.1 27 6
  have hz27_7 : 0 ≤ σ 27 7 ∧ σ 27 7 ≤ 40 := hI.1 27 7
  refine qr_aload_n 1 rfl rfl rfl ?_
  refine qr_iload_n 2 rfl rfl rfl ?_
  refine qr_iload_n 3 rfl rfl rfl ?_
  refine qr_iload_n 4 rfl rfl rfl ?_
  refine qr_aload 6 rfl rfl rfl ?_
  refine qr_callN 9 rfl rfl rfl (sf_66_27_23x (d := d + 0) hI r1 r2 r3) ?_
  have hs3 : (-9223372036854775808) ≤ σ 27 6 ∧ σ 27 6 ≤ 9223372036854775807 := hI.1 27 6
  have hs4 : 0 ≤ σ 27 7 ∧ σ 27 7 ≤ 40 := hI.1 27 7
  rintro _ _ ⟨rfl, v1, rfl, hv1, hp2⟩
  show qr_W (qe L xs vb) (d + 2) qx_e124 _ (9, _, [.int (qz v1)], qw σ α κ ρ, 0, 0)
  refine qr_bipush 11 rfl (by decide) rfl ?_
  refine qr_idiv 12 rfl (qrg hv1 (by decide) (by decide)) (by decide) rfl ?_
  refine qr_istore _ 14 rfl (by decide) rfl rfl ?_
  refine qr_lconst 15 rfl rfl ?_
  refine qy_vl 0 rfl ?_
  refine qr_lstore _ 17 rfl (by decide) rfl rfl ?_
  refine qr_iconst 18 rfl rfl ?_
  refine qr_istore _ 20 rfl (by decide) rfl rfl ?_
  have hL228 : ∀ (n : Nat) (ls : qm_L) (u221 u223 : Int), 40 - u223 < (n : Int) → qm_get ls 0 = some (.ref 27) → qm_get ls 1 = some (.int (qz x1)) → qm_get ls 2 = some (.int (qz x2)) → qm_get ls 3 = some (.int (qz x3)) → qm_get ls 4 = some (.ref 23) → qm_get ls 5 = some (.int (qz (v1 / 64))) → qm_get ls 6 = some (.long (ql u221)) → qm_get ls 8 = some (.int (qz u223)) → ((-9223372036854775808) ≤ u221 ∧ u221 ≤ 9223372036854775807) → (0 ≤ u223 ∧ u223 ≤ 40) → qbuI (qoF (α 30) (α 33) (σ 27 6) x3) (qcF (qTb (α 24)) (α 28) (α 29) (α 31) x1 x2) (v1 / 64) u223 u221 → u223 ≤ σ 27 7 → qr_W (qe L xs vb) (d + 2) qx_e124 (fun r w' => w' = qw σ α κ ρ ∧ ∃ v : Int, r = some (.long (ql v)) ∧ ((-9223372036854775808) ≤ v ∧ v ≤ 9223372036854775807) ∧ qbuN (qoF (α 30) (α 33) (σ 27 6) x3) (qcF (qTb (α 24)) (α 28) (α 29) (α 31) x1 x2) (σ 27 7 : Int).toNat v) (20, ls, [], qw σ α κ ρ, 0, 0) := by
    intro n
    induction n with
    | zero => intro ls u221 u223 hm g214 g215 g216 g217 g218 g219 g220 g222 hf224 hf225 hx226 hx227; exact False.elim (by omega)
    | succ n ih229 =>
      intro ls u221 u223 hm g214 g215 g216 g217 g218 g219 g220 g222 hf224 hf225 hx226 hx227
      refine qr_iload 22 rfl g222 rfl ?_
      refine qr_aload_n 23 rfl g214 rfl ?_
      refine qr_get 26 rfl rfl rfl (by decide) rfl ?_
      refine qr_icmp_ge 69 29 rfl rfl rfl (qrg hf225 (by decide) (by decide)) (qrg hz27_7 (by decide) (by decide)) (fun h230 => ?_) (fun h230 => ?_)
      · skip
        refine qr_iload 71 rfl g219 rfl ?_
        refine qr_bipush 73 rfl (by decide) rfl ?_
        refine qr_icmp_ge 81 76 rfl rfl rfl (by omega) (by decide) (fun h231 => ?_) (fun h231 => ?_)
        · skip
          refine qr_ldc2 (-1) 84 rfl (by decide) rfl ?_
          refine qr_retL rfl rfl (by decide) (by decide) ?_
          exact ⟨rfl, (-1), rfl, (by decide), (qbuN_m (near := (v1 / 64)) (by have hz := hp2; unfold qnF at hz; omega) (by omega) rfl)⟩
        · skip
          refine qr_lload 78 rfl g220 rfl ?_
          refine qr_goto 84 rfl rfl ?_
          refine qr_retL rfl rfl (by decide) (by decide) ?_
          exact ⟨rfl, u221, rfl, hf224, (qbuN_of (i := u223) (near := (v1 / 64)) (by omega) (by omega) (by have hz := hp2; unfold qnF at hz; omega) (by omega) hx226)⟩
      · skip
        refine qr_aload_n 30 rfl g214 rfl ?_
        refine qr_iload 32 rfl g222 rfl ?_
        refine qr_iload_n 33 rfl g217 rfl ?_
        refine qr_callN 36 rfl rfl rfl (sf_67_27x (d := d + 1) hI (by omega) r3) ?_
        have hs234 : (-9223372036854775808) ≤ σ 27 6 ∧ σ 27 6 ≤ 9223372036854775807 := hI.1 27 6
        rintro _ _ ⟨rfl, v232, rfl, hv232, hp233⟩
        show qr_W (qe L xs vb) (d + 2) qx_e124 _ (36, _, [.int (qz v232)], qw σ α κ ρ, 0, 0)
        refine qr_if_eq 63 39 rfl rfl rfl (qrg hv232 (by decide) (by decide)) (fun h235 => ?_) (fun h235 => ?_)
        · skip
          refine qr_iinc _ 66 rfl g222 (by decide) rfl rfl ?_
          refine qr_goto 20 rfl rfl ?_
          exact ih229 _ u221 (u223 + 1) (by omega) (qm_gk g214 (by decide) (Or.inl (by decide))) (qm_gk g215 (by decide) (Or.inl (by decide))) (qm_gk g216 (by decide) (Or.inl (by decide))) (qm_gk g217 (by decide) (Or.inl (by decide))) (qm_gk g218 (by decide) (Or.inl (by decide))) (qm_gk g219 (by decide) (Or.inl (by decide))) (qm_gk g220 (by decide) (Or.inl (by decide))) (qm_ge _ _ _) hf224 (by omega) (qbuI_n (fun hc => by have k1 := qoF_a (α 30) (α 33) (σ 27 6) x3 (i := u223) (by omega); have k2 := hp233; have k5 := hc.1; omega) hx226) (by omega)
        · skip
          refine qr_aload_n 40 rfl g214 rfl ?_
          refine qr_iload 42 rfl g222 rfl ?_
          refine qr_iload_n 43 rfl g215 rfl ?_
          refine qr_iload_n 44 rfl g216 rfl ?_
          refine qr_aload 46 rfl g218 rfl ?_
          refine qr_callN 49 rfl rfl rfl (sf_68_27_23x (d := d + 1) hI (by omega) r1 r2) ?_
          rintro _ _ ⟨rfl, v236, rfl, hv236, hp237⟩
          show qr_W (qe L xs vb) (d + 2) qx_e124 _ (49, _, [.int (qz v236)], qw σ α κ ρ, 0, 0)
          refine qr_iload 51 rfl g219 rfl ?_
          refine qr_icmp_ne 63 54 rfl rfl rfl (qrg hv236 (by decide) (by decide)) (by omega) (fun h238 => ?_) (fun h238 => ?_)
          · skip
            refine qr_iinc _ 66 rfl g222 (by decide) rfl rfl ?_
            refine qr_goto 20 rfl rfl ?_
            exact ih229 _ u221 (u223 + 1) (by omega) (qm_gk g214 (by decide) (Or.inl (by decide))) (qm_gk g215 (by decide) (Or.inl (by decide))) (qm_gk g216 (by decide) (Or.inl (by decide))) (qm_gk g217 (by decide) (Or.inl (by decide))) (qm_gk g218 (by decide) (Or.inl (by decide))) (qm_gk g219 (by decide) (Or.inl (by decide))) (qm_gk g220 (by decide) (Or.inl (by decide))) (qm_ge _ _ _) hf224 (by omega) (qbuI_n (fun hc => by have k3 : (qcF (qTb (α 24)) (α 28) (α 29) (α 31) x1 x2) (u223 : Int).toNat = qcl _ _ _ _ _ := rfl; have k4 := hp237; have k5 := hc.2; omega) hx226) (by omega)
          · skip
            refine qr_lload 56 rfl g220 rfl ?_
            refine qr_lconst 57 rfl rfl ?_
            refine qy_vl 1 rfl ?_
            refine qr_iload 59 rfl g222 rfl ?_
            refine qr_lshl 60 rfl rfl ?_
            refine qy_canlE (fun v239 hv239 hev239 => ?_)
            refine qr_lor 61 rfl rfl ?_
            refine qy_canlE (fun v240 hv240 hev240 => ?_)
            refine qr_lstore _ 63 rfl (by decide) rfl rfl ?_
            refine qr_iinc _ 66 rfl (qm_gk2 g222 (by decide) (by decide) (Or.inl (by decide))) (by decide) rfl rfl ?_
            refine qr_goto 20 rfl rfl ?_
            exact ih229 _ v240 (u223 + 1) (by omega) (qm_gk (qm_gk2 g214 (by decide) (by decide) (Or.inl (by decide))) (by decide) (Or.inl (by decide))) (qm_gk (qm_gk2 g215 (by decide) (by decide) (Or.inl (by decide))) (by decide) (Or.inl (by decide))) (qm_gk (qm_gk2 g216 (by decide) (by decide) (Or.inl (by decide))) (by decide) (Or.inl (by decide))) (qm_gk (qm_gk2 g217 (by decide) (by decide) (Or.inl (by decide))) (by decide) (Or.inl (by decide))) (qm_gk (qm_gk2 g218 (by decide) (by decide) (Or.inl (by decide))) (by decide) (Or.inl (by decide))) (qm_gk (qm_gk2 g219 (by decide) (by decide) (Or.inr rfl)) (by decide) (Or.inl (by decide))) (qm_gk (qm_ge2 _ _ _) (by decide) (Or.inl (by decide))) (qm_ge _ _ _) hv240 (by omega) (qbuI_y (by omega) (by have k1 := qoF_a (α 30) (α 33) (σ 27 6) x3 (i := u223) (by omega); have k2 := hp233; omega) (by have k3 : (qcF (qTb (α 24)) (α 28) (α 29) (α 31) x1 x2) (u223 : Int).toNat = qcl _ _ _ _ _ := rfl; have k4 := hp237; omega) (by rw [ql_val hev240 (by omega) (ql_or_r _ _), ql_val hev239 (by omega) (ql_shl_r _ _)]) hx226) (by omega)
  exact hL228 ((40 - 0 + 1 : Int)).toNat _ 0 0 (by omega) rfl rfl rfl rfl rfl rfl rfl rfl (by decide) (by decide) qbuI_0 (by omega)

set_option maxHeartbeats 4000000 in
set_option maxRecDepth 20000 in
/-- OneRoof$Feuds.priceOf -/
theorem sf_125_27x {L : Nat} {xs : Nat → Int} {vb : Bool} {d : Nat} {σ α : Nat → Nat → Int} {κ : Nat → Option Nat} {ρ : Nat} {x1 : Int} (hI : qI σ α κ ρ) (r1 : (-9223372036854775808) ≤ x1 ∧ x1 ≤ 9223372036854775807) (p0 : ∀ f : Nat, (f : Int) < σ 27 7 → 0 ≤ α 32 f ∧ α 32 f ≤ 999) : qm_T (qe L xs vb) (d + 2) 125 [.ref 27, .long (ql x1)] (qw σ α κ ρ) (fun r w' => w' = qw σ α κ ρ ∧ ∃ v : Int, r = some (.int (qz v)) ∧ ((-2147483648) ≤ v ∧ v ≤ 2147483647) ∧ v = qbuW (α 32) x1 (σ 27 7 : Int).toNat) := by
  refine qr_start (d := d + 1) qv_e125 (Nat.le_of_ble_eq_true rfl) ?_
  show qr_W (qe L xs vb) (d + 1) qx_e125 _ (0, [(0, .ref 27), (1, .long (ql x1))], [], _, 0, 0)
  have hz27_7 : 0 ≤ σ 27 7 ∧ σ 27 7 ≤ 40 := hI.1 27 7
  refine qr_iconst 1 rfl rfl ?_
  refine qr_istore_n _ 2 rfl (by decide) rfl rfl ?_
  refine qr_iconst 3 rfl rfl ?_
  refine qr_istore _ 5 rfl (by decide) rfl rfl ?_
  have hL181 : ∀ (n : Nat) (ls : qm_L) (u174 u176 : Int), 40 - u176 < (n : Int) → qm_get ls 0 = some (.ref 27) → qm_get ls 1 = some (.long (ql x1)) → qm_get ls 3 = some (.int (qz u174)) → qm_get ls 4 = some (.int (qz u176)) → ((-2147483648) ≤ u174 ∧ u174 ≤ 2147483647) → (0 ≤ u176 ∧ u176 ≤ 40) → (u174 = qbuW (α 32) x1 (u176 : Int).toNat ∧ 0 ≤ u174 ∧ u174 ≤ 999 * u176) → u176 ≤ σ 27 7 → qr_W (qe L xs vb) (d + 1) qx_e125 (fun r w' => w' = qw σ α κ ρ ∧ ∃ v : Int, r = some (.int (qz v)) ∧ ((-2147483648) ≤ v ∧ v ≤ 2147483647) ∧ v = qbuW (α 32) x1 (σ 27 7 : Int).toNat) (5, ls, [], qw σ α κ ρ, 0, 0) := by
    intro n
    induction n with
    | zero => intro ls u174 u176 hm g171 g172 g173 g175 hf177 hf178 hx179 hx180; exact False.elim (by omega)
    | succ n ih182 =>
      intro ls u174 u176 hm g171 g172 g173 g175 hf177 hf178 hx179 hx180
      refine qr_iload 7 rfl g175 rfl ?_
      refine qr_aload_n 8 rfl g171 rfl ?_
      refine qr_get 11 rfl rfl rfl (by decide) rfl ?_
      refine qr_icmp_ge 39 14 rfl rfl rfl (qrg hf178 (by decide) (by decide)) (qrg hz27_7 (by decide) (by decide)) (fun h183 => ?_) (fun h183 => ?_)
      · skip
        refine qr_iload_n 40 rfl g173 rfl ?_
        refine qr_retI rfl rfl (by decide) (by decide) ?_
        exact ⟨rfl, u174, rfl, hf177, (by rw [show σ 27 7 = u176 by omega]; exact hx179.1)⟩
      · skip
        refine qr_lload_n 15 rfl g172 rfl ?_
        refine qr_iload 17 rfl g175 rfl ?_
        refine qr_callN 20 rfl rfl rfl (sf_50b (d := d + 0) hI r1 (qrg hf178 (by decide) (by decide))) ?_
        rintro _ _ ⟨rfl, v184, rfl, hv184, hp185⟩
        show qr_W (qe L xs vb) (d + 1) qx_e125 _ (20, _, [.int (qz v184)], qw σ α κ ρ, 0, 0)
        refine qr_if_eq 33 23 rfl rfl rfl (qrg hv184 (by decide) (by decide)) (fun h186 => ?_) (fun h186 => ?_)
        · skip
          refine qr_iinc _ 36 rfl g175 (by decide) rfl rfl ?_
          refine qr_goto 5 rfl rfl ?_
          exact ih182 _ u174 (u176 + 1) (by omega) (qm_gk g171 (by decide) (Or.inl (by decide))) (qm_gk g172 (by decide) (Or.inl (by decide))) (qm_gk g173 (by decide) (Or.inr rfl)) (qm_ge _ _ _) hf177 (by omega) (by have hq0 := hx179; have hq1 := qbuW_s (α 32) x1 (i := u176) (by omega); omega) (by omega)
        · skip
          refine qr_iload_n 24 rfl g173 rfl ?_
          refine qr_aload_n 25 rfl g171 rfl ?_
          refine qr_get 28 rfl rfl rfl (by decide) rfl ?_
          refine qr_iload 30 rfl g175 rfl ?_
          refine qr_iaload 31 rfl rfl (by omega) (by decide) rfl ?_
          refine qr_topI (fun v187 hv187 => ?_)
          have hs188 : (-2147483648) ≤ v187 ∧ v187 ≤ 2147483647 := by rw [hv187]; exact hI.2.1 32 _ (show _ < 40 by omega)
          refine qr_iadd 32 rfl rfl ?_
          refine qy_canE (fun v189 hv189 hev189 => ?_)
          refine qr_istore_n _ 33 rfl (by decide) rfl rfl ?_
          refine qr_iinc _ 36 rfl (qm_gk g175 (by decide) (Or.inl (by decide))) (by decide) rfl rfl ?_
          refine qr_goto 5 rfl rfl ?_
          exact ih182 _ v189 (u176 + 1) (by omega) (qm_gk (qm_gk g171 (by decide) (Or.inl (by decide))) (by decide) (Or.inl (by decide))) (qm_gk (qm_gk g172 (by decide) (Or.inl (by decide))) (by decide) (Or.inl (by decide))) (qm_gk (qm_ge _ _ _) (by decide) (Or.inr rfl)) (qm_ge _ _ _) hv189 (by omega) (by have hq0 := hx179; have hq1 := qbuW_s (α 32) x1 (i := u176) (by omega); have hq2 := p0 (u176 : Int).toNat (by omega); have hq3 := hv187; have hq4 := qz_val hev189 (by omega) (by omega); omega) (by omega)
  exact hL181 ((40 - 0 + 1 : Int)).toNat _ 0 0 (by omega) rfl rfl rfl rfl (by decide) (by decide) ⟨rfl, by omega, by omega⟩ (by omega)

set_option maxHeartbeats 4000000 in
set_option maxRecDepth 20000 in
/-- OneRoof$Guests.pressingFeuds -/
theorem sf_123_64x {L : Nat} {xs : Nat → Int} {vb : Bool} {d : Nat} {σ α : Nat → Nat → Int} {κ : Nat → Option Nat} {ρ : Nat} {x1 : Int} {x2 : Int} {f : (Nat → Int) → Int} (hI : qI σ α κ ρ) (r1 : 0 ≤ x1 ∧ x1 ≤ 2399) (r2 : 0 ≤ x2 ∧ x2 ≤ 2399) (p0 : x2 - x1 ≤ 47) (p1 : qPW σ α κ (0 : Int).toNat f) (p2 : qZp σ α) (p3 : σ 58 10 = 0) (p4 : ∀ c : Nat, c < 496 → α 61 c ≤ σ 58 12) (p5 : ∀ c : Nat, c < 496 → α 63 c ≤ σ 58 12) (p6 : 0 ≤ σ 58 12 ∧ σ 58 12 ≤ 1999999900) : qm_T (qe L xs vb) (d + 6) 123 [.ref 64, .int (qz x1), .int (qz x2)] (qw σ α κ ρ) (fun r w' => ∃ σ' α', w' = qw σ' α' κ ρ ∧ qI σ' α' κ ρ ∧ qFr [(58, 11), (58, 12)] [53, 57, 59, 60, 61, 62, 63, 85] σ α σ' α' ∧ σ' 58 12 ≤ σ 58 12 + 48 ∧ σ' 58 12 ≥ σ 58 12 ∧ ∃ v : Int, r = some (.long (ql v)) ∧ ((-9223372036854775808) ≤ v ∧ v ≤ 9223372036854775807) ∧ ((v = 0 ∧ qbuGC σ α f (α 65) (σ 64 2) x1 x2 (σ 27 6)) ∨ (¬ v = 0 ∧ qbuPC σ α f (α 65) (σ 64 2) x1 x2 (σ 27 6) v)) ∧ (∀ c : Nat, c < 496 → α' 61 c ≤ σ' 58 12) ∧ (∀ c : Nat, c < 496 → α' 63 c ≤ σ' 58 12)) := by
  refine qr_start (d := d + 5) qv_e123 (Nat.le_of_ble_eq_true rfl) ?_
  show qr_W (qe L xs vb) (d + 5) qx_e123 _ (0, [(0, .ref 64), (1, .int (qz x1)), (2, .int (qz x2))], [], _, 0, 0)
  have hF0 := qFr_rf [(58, 11), (58, 12)] [53, 57, 59, 60, 61, 62, 63, 85] σ α
  have hz58_10 : (-9223372036854775808) ≤ σ 58 10 ∧ σ 58 10 ≤ 9223372036854775807 := hI.1 58 10
  have hz58_12 : (-2147483648) ≤ σ 58 12 ∧ σ 58 12 ≤ 2147483647 := hI.1 58 12
  have hz17_5 : (-9223372036854775808) ≤ σ 17 5 ∧ σ 17 5 ≤ 9223372036854775807 := hI.1 17 5
  have hz17_6 : 0 ≤ σ 17 6 ∧ σ 17 6 ≤ 32 := hI.1 17 6
  have hz27_6 : (-9223372036854775808) ≤ σ 27 6 ∧ σ 27 6 ≤ 9223372036854775807 := hI.1 27 6
  have hz27_7 : 0 ≤ σ 27 7 ∧ σ 27 7 ≤ 40 := hI.1 27 7
  have hz34_7 : 0 ≤ σ 34 7 ∧ σ 34 7 ≤ 60 := hI.1 34 7
  have hz58_11 : (-2147483648) ≤ σ 58 11 ∧ σ 58 11 ≤ 2147483647 := hI.1 58 11
  have hz64_2 : 0 ≤ σ 64 2 ∧ σ 64 2 ≤ 12 := hI.1 64 2
  refine qr_iload_n 1 rfl rfl rfl ?_
  refine qr_istore_n _ 2 rfl (by decide) rfl rfl ?_
  have hL53746 : ∀ (n : Nat) (ls : qm_L) (u53725 : Int) (σ53726 α53727 : Nat → Nat → Int), 2400 - u53725 < (n : Int) → qm_get ls 0 = some (.ref 64) → qm_get ls 1 = some (.int (qz x1)) → qm_get ls 2 = some (.int (qz x2)) → qm_get ls 3 = some (.int (qz u53725)) → (0 ≤ u53725 ∧ u53725 ≤ 2400) → qI σ53726 α53727 κ ρ → qFr [(58, 11), (58, 12)] [53, 57, 59, 60, 61, 62, 63, 85] σ α σ53726 α53727 → σ53726 17 5 = (σ 17 5) → σ53726 17 6 = (σ 17 6) → σ53726 27 6 = (σ 27 6) → σ53726 27 7 = (σ 27 7) → σ53726 34 7 = (σ 34 7) → σ53726 58 10 = (σ 58 10) → σ53726 64 2 = (σ 64 2) → α53727 65 = (α 65) → (∀ t : Int, x1 ≤ t → t < u53725 → ¬ qbuE (fun h p q => qMaC σ α f h p q) (α 65) (σ 64 2) t) → (∀ c : Nat, c < 496 → α53727 61 c ≤ σ53726 58 12) → (∀ c : Nat, c < 496 → α53727 63 c ≤ σ53726 58 12) → σ53726 58 12 ≤ σ 58 12 + (u53725 - x1) → σ 58 12 ≤ σ53726 58 12 → (u53725 = x1 ∨ u53725 ≤ x2 + 1) → x1 ≤ u53725 → qr_W (qe L xs vb) (d + 5) qx_e123 (fun r w' => ∃ σ' α', w' = qw σ' α' κ ρ ∧ qI σ' α' κ ρ ∧ qFr [(58, 11), (58, 12)] [53, 57, 59, 60, 61, 62, 63, 85] σ α σ' α' ∧ σ' 58 12 ≤ σ 58 12 + 48 ∧ σ' 58 12 ≥ σ 58 12 ∧ ∃ v : Int, r = some (.long (ql v)) ∧ ((-9223372036854775808) ≤ v ∧ v ≤ 9223372036854775807) ∧ ((v = 0 ∧ qbuGC σ α f (α 65) (σ 64 2) x1 x2 (σ 27 6)) ∨ (¬ v = 0 ∧ qbuPC σ α f (α 65) (σ 64 2) x1 x2 (σ 27 6) v)) ∧ (∀ c : Nat, c < 496 → α' 61 c ≤ σ' 58 12) ∧ (∀ c : Nat, c < 496 → α' 63 c ≤ σ' 58 12)) (2, ls, [], qw σ53726 α53727 κ ρ, 0, 0) := by
    intro n
    induction n with
    | zero => intro ls u53725 σ53726 α53727 hm g53721 g53722 g53723 g53724 hf53738 hI53728 hF53729 hk53730 hk53731 hk53732 hk53733 hk53734 hk53735 hk53736 hk53737 hx53739 hx53740 hx53741 hx53742 hx53743 hx53744 hx53745; exact False.elim (by omega)
    | succ n ih53747 =>
      intro ls u53725 σ53726 α53727 hm g53721 g53722 g53723 g53724 hf53738 hI53728 hF53729 hk53730 hk53731 hk53732 hk53733 hk53734 hk53735 hk53736 hk53737 hx53739 hx53740 hx53741 hx53742 hx53743 hx53744 hx53745
      have hs53748 : (-2147483648) ≤ σ53726 58 12 ∧ σ53726 58 12 ≤ 2147483647 := hI53728.1 58 12
      refine qr_iload_n 3 rfl g53724 rfl ?_
      refine qr_iload_n 4 rfl g53723 rfl ?_
      refine qr_icmp_gt 140 7 rfl rfl rfl (qrg hf53738 (by decide) (by decide)) (qrg r2 (by decide) (by decide)) (fun h53749 => ?_) (fun h53749 => ?_)
      · skip
        refine qr_lconst 141 rfl rfl ?_
        refine qy_vl 0 rfl ?_
        refine qr_retL rfl rfl (by decide) (by decide) ?_
        exact ⟨_, _, rfl, hI53728, hF53729, (by have hw : σ53726 58 12 = (σ53726 58 12) := rfl; omega), (by have hw : σ53726 58 12 = (σ53726 58 12) := rfl; omega), 0, rfl, (by decide), (Or.inl ⟨rfl, qbuGC_s (qbuG_of (x := u53725) (by omega) hx53739)⟩), hx53740, hx53741⟩
      · skip
        refine qr_iload_n 8 rfl g53724 rfl ?_
        refine qr_iload_n 9 rfl g53722 rfl ?_
        refine qr_icmp_le 26 12 rfl rfl rfl (qrg hf53738 (by decide) (by decide)) (qrg r1 (by decide) (by decide)) (fun h53750 => ?_) (fun h53750 => ?_)
        · skip
          refine qr_aload_n 27 rfl g53721 rfl ?_
          refine qr_get 30 rfl rfl rfl (by decide) rfl ?_
          refine qr_iload_n 31 rfl g53724 rfl ?_
          have hs53751 : (-2147483648) ≤ σ53726 58 12 ∧ σ53726 58 12 ≤ 2147483647 := hI53728.1 58 12
          refine qr_callN 34 rfl rfl rfl (sf_89_58x (d := d + 4) hI53728 (qrg hf53738 (by decide) (by decide)) (by omega)) ?_
          rintro _ _ ⟨σ53754, rfl, hI53755, hG53756, hw53752, hw53753, rfl⟩
          have hF53757 : qFr [(58, 11), (58, 12)] [53, 57, 59, 60, 61, 62, 63, 85] σ α σ53754 α53727 := qFr_t hF53729 hG53756 (by decide) (by decide)
          have hs53758 : (-2147483648) ≤ σ53754 58 11 ∧ σ53754 58 11 ≤ 2147483647 := hI53755.1 58 11
          have hs53759 : (-2147483648) ≤ σ53754 58 12 ∧ σ53754 58 12 ≤ 2147483647 := hI53755.1 58 12
          show qr_W (qe L xs vb) (d + 5) qx_e123 _ (34, _, [], qw σ53754 α53727 κ ρ, 0, 0)
          refine qr_iconst 35 rfl rfl ?_
          refine qr_istore _ 37 rfl (by decide) rfl rfl ?_
          have hL58682 : ∀ (n : Nat) (ls : qm_L) (u58672 : Int) (α58674 : Nat → Nat → Int), 12 - u58672 < (n : Int) → qm_get ls 0 = some (.ref 64) → qm_get ls 1 = some (.int (qz x1)) → qm_get ls 2 = some (.int (qz x2)) → qm_get ls 3 = some (.int (qz u53725)) → qm_get ls 4 = some (.int (qz u58672)) → (0 ≤ u58672 ∧ u58672 ≤ 12) → qI σ53754 α58674 κ ρ → qFr [(58, 11), (58, 12)] [53, 57, 59, 60, 61, 62, 63, 85] σ α σ53754 α58674 → α58674 65 = (α 65) → qbuRw (qbuC2 (fun h p q => qMaC σ α f h p q) (α 65) u53725) (σ 64 2) u58672 → qCaN (α58674 60) (α58674 61) (σ53754 58 12) (fun p q => qnF (qTb (α 24)) (α 28) (α 29) (α 31) (α 30) (α 33) (σ 27 6) (σ 27 7) p q u53725) → qCaN (α58674 62) (α58674 63) (σ53754 58 12) (fun p q => qbs (qhF (α 35) (α 36) (α 37) (α 40) (qcv (α 41)) (qlw (α 22)) p q u53725) (σ 34 7 : Int).toNat) → qr_W (qe L xs vb) (d + 5) qx_e123 (fun r w' => ∃ σ' α', w' = qw σ' α' κ ρ ∧ qI σ' α' κ ρ ∧ qFr [(58, 11), (58, 12)] [53, 57, 59, 60, 61, 62, 63, 85] σ α σ' α' ∧ σ' 58 12 ≤ σ 58 12 + 48 ∧ σ' 58 12 ≥ σ 58 12 ∧ ∃ v : Int, r = some (.long (ql v)) ∧ ((-9223372036854775808) ≤ v ∧ v ≤ 9223372036854775807) ∧ ((v = 0 ∧ qbuGC σ α f (α 65) (σ 64 2) x1 x2 (σ 27 6)) ∨ (¬ v = 0 ∧ qbuPC σ α f (α 65) (σ 64 2) x1 x2 (σ 27 6) v)) ∧ (∀ c : Nat, c < 496 → α' 61 c ≤ σ' 58 12) ∧ (∀ c : Nat, c < 496 → α' 63 c ≤ σ' 58 12)) (37, ls, [], qw σ53754 α58674 κ ρ, 0, 0) := by
            intro n
            induction n with
            | zero => intro ls u58672 α58674 hm g58667 g58668 g58669 g58670 g58671 hf58678 hI58675 hF58676 hk58677 hx58679 hx58680 hx58681; exact False.elim (by omega)
            | succ n ih58683 =>
              intro ls u58672 α58674 hm g58667 g58668 g58669 g58670 g58671 hf58678 hI58675 hF58676 hk58677 hx58679 hx58680 hx58681
              refine qr_iload 39 rfl g58671 rfl ?_
              refine qr_aload_n 40 rfl g58667 rfl ?_
              refine qr_get 43 rfl rfl rfl (by decide) rfl ?_
              refine qy_v (σ 64 2) ((hG53756.1 64 2 (by decide)).trans ((hk53736).trans rfl)) ?_
              refine qr_icmp_ge 134 46 rfl rfl rfl (qrg hf58678 (by decide) (by decide)) (qrg hz64_2 (by decide) (by decide)) (fun h58684 => ?_) (fun h58684 => ?_)
              · skip
                refine qr_iinc _ 137 rfl g58670 (by decide) rfl rfl ?_
                refine qr_goto 2 rfl rfl ?_
                exact ih53747 _ (u53725 + 1) σ53754 α58674 (by omega) (qm_gk g58667 (by decide) (Or.inl (by decide))) (qm_gk g58668 (by decide) (Or.inl (by decide))) (qm_gk g58669 (by decide) (Or.inr rfl)) (qm_ge _ _ _) (by omega) hI58675 hF58676 ((hG53756.1 17 5 (by decide)).trans ((hk53730).trans rfl)) ((hG53756.1 17 6 (by decide)).trans ((hk53731).trans rfl)) ((hG53756.1 27 6 (by decide)).trans ((hk53732).trans rfl)) ((hG53756.1 27 7 (by decide)).trans ((hk53733).trans rfl)) ((hG53756.1 34 7 (by decide)).trans ((hk53734).trans rfl)) ((hG53756.1 58 10 (by decide)).trans ((hk53735).trans rfl)) ((hG53756.1 64 2 (by decide)).trans ((hk53736).trans rfl)) hk58677 (qhr_s (B := fun t => qbuE (fun h p q => qMaC σ α f h p q) (α 65) (σ 64 2) t) hx53739 (qbuE_no (i := u58672) (by omega) hx58679)) hx58680.1 hx58681.1 (by have hw : σ53754 58 12 = (σ53754 58 12) := rfl; omega) (by have hw : σ53754 58 12 = (σ53754 58 12) := rfl; omega) (by omega) (by omega)
              · skip
                refine qr_iconst 47 rfl rfl ?_
                refine qr_istore _ 49 rfl (by decide) rfl rfl ?_
                have hL59109 : ∀ (n : Nat) (ls : qm_L) (u59098 : Int) (α59100 : Nat → Nat → Int), 12 - u59098 < (n : Int) → qm_get ls 0 = some (.ref 64) → qm_get ls 1 = some (.int (qz x1)) → qm_get ls 2 = some (.int (qz x2)) → qm_get ls 3 = some (.int (qz u53725)) → qm_get ls 4 = some (.int (qz u58672)) → qm_get ls 5 = some (.int (qz u59098)) → (0 ≤ u59098 ∧ u59098 ≤ 12) → qI σ53754 α59100 κ ρ → qFr [(58, 11), (58, 12)] [53, 57, 59, 60, 61, 62, 63, 85] σ α σ53754 α59100 → α59100 65 = (α 65) → qbuRw (qbuC2 (fun h p q => qMaC σ α f h p q) (α 65) u53725) (σ 64 2) u58672 → qbuCl (qbuC2 (fun h p q => qMaC σ α f h p q) (α 65) u53725) u58672 u59098 → qCaN (α59100 60) (α59100 61) (σ53754 58 12) (fun p q => qnF (qTb (α 24)) (α 28) (α 29) (α 31) (α 30) (α 33) (σ 27 6) (σ 27 7) p q u53725) → qCaN (α59100 62) (α59100 63) (σ53754 58 12) (fun p q => qbs (qhF (α 35) (α 36) (α 37) (α 40) (qcv (α 41)) (qlw (α 22)) p q u53725) (σ 34 7 : Int).toNat) → qr_W (qe L xs vb) (d + 5) qx_e123 (fun r w' => ∃ σ' α', w' = qw σ' α' κ ρ ∧ qI σ' α' κ ρ ∧ qFr [(58, 11), (58, 12)] [53, 57, 59, 60, 61, 62, 63, 85] σ α σ' α' ∧ σ' 58 12 ≤ σ 58 12 + 48 ∧ σ' 58 12 ≥ σ 58 12 ∧ ∃ v : Int, r = some (.long (ql v)) ∧ ((-9223372036854775808) ≤ v ∧ v ≤ 9223372036854775807) ∧ ((v = 0 ∧ qbuGC σ α f (α 65) (σ 64 2) x1 x2 (σ 27 6)) ∨ (¬ v = 0 ∧ qbuPC σ α f (α 65) (σ 64 2) x1 x2 (σ 27 6) v)) ∧ (∀ c : Nat, c < 496 → α' 61 c ≤ σ' 58 12) ∧ (∀ c : Nat, c < 496 → α' 63 c ≤ σ' 58 12)) (49, ls, [], qw σ53754 α59100 κ ρ, 0, 0) := by
                  intro n
                  induction n with
                  | zero => intro ls u59098 α59100 hm g59092 g59093 g59094 g59095 g59096 g59097 hf59104 hI59101 hF59102 hk59103 hx59105 hx59106 hx59107 hx59108; exact False.elim (by omega)
                  | succ n ih59110 =>
                    intro ls u59098 α59100 hm g59092 g59093 g59094 g59095 g59096 g59097 hf59104 hI59101 hF59102 hk59103 hx59105 hx59106 hx59107 hx59108
                    refine qr_iload 51 rfl g59097 rfl ?_
                    refine qr_aload_n 52 rfl g59092 rfl ?_
                    refine qr_get 55 rfl rfl rfl (by decide) rfl ?_
                    refine qy_v (σ 64 2) ((hG53756.1 64 2 (by decide)).trans ((hk53736).trans rfl)) ?_
                    refine qr_icmp_ge 128 58 rfl rfl rfl (qrg hf59104 (by decide) (by decide)) (qrg hz64_2 (by decide) (by decide)) (fun h59111 => ?_) (fun h59111 => ?_)
                    · skip
                      refine qr_iinc _ 131 rfl g59096 (by decide) rfl rfl ?_
                      refine qr_goto 37 rfl rfl ?_
                      exact ih58683 _ (u58672 + 1) α59100 (by omega) (qm_gk g59092 (by decide) (Or.inl (by decide))) (qm_gk g59093 (by decide) (Or.inl (by decide))) (qm_gk g59094 (by decide) (Or.inl (by decide))) (qm_gk g59095 (by decide) (Or.inr rfl)) (qm_ge _ _ _) (by omega) hI59101 hF59102 hk59103 (qbuRw_s (j := u59098) (by omega) hx59106 hx58679) hx59107 hx59108
                    · skip
                      refine qr_iload 60 rfl g59096 rfl ?_
                      refine qr_iload 62 rfl g59097 rfl ?_
                      refine qr_icmp_eq 122 65 rfl rfl rfl (qrg hf58678 (by decide) (by decide)) (qrg hf59104 (by decide) (by decide)) (fun h59112 => ?_) (fun h59112 => ?_)
                      · skip
                        refine qr_iinc _ 125 rfl g59097 (by decide) rfl rfl ?_
                        refine qr_goto 49 rfl rfl ?_
                        exact ih59110 _ (u59098 + 1) α59100 (by omega) (qm_gk g59092 (by decide) (Or.inl (by decide))) (qm_gk g59093 (by decide) (Or.inl (by decide))) (qm_gk g59094 (by decide) (Or.inl (by decide))) (qm_gk g59095 (by decide) (Or.inl (by decide))) (qm_gk g59096 (by decide) (Or.inr rfl)) (qm_ge _ _ _) (by omega) hI59101 hF59102 hk59103 hx59105 (qbuCl_s (fun hc => hc.1 (by omega)) hx59106) hx59107 hx59108
                      · skip
                        refine qr_aload_n 66 rfl g59092 rfl ?_
                        refine qr_get 69 rfl rfl rfl (by decide) rfl ?_
                        refine qr_aload_n 70 rfl g59092 rfl ?_
                        refine qr_get 73 rfl rfl rfl (by decide) rfl ?_
                        refine qr_iload 75 rfl g59096 rfl ?_
                        refine qr_iaload 76 rfl rfl (by omega) (by decide) rfl ?_
                        refine qr_topI (fun v59113 hv59113 => ?_)
                        have hs59114 : 0 ≤ v59113 ∧ v59113 ≤ 31 := by rw [hv59113]; exact hI59101.2.1 65 _ (show _ < 12 by omega)
                        have hrv59113 : v59113 = (α 65) (u58672 : Int).toNat := hv59113.trans (congrFun hk59103 _)
                        have hs59115 : σ53754 64 2 = (σ 64 2) := (hG53756.1 64 2 (by decide)).trans ((hk53736).trans rfl)
                        refine qr_aload_n 77 rfl g59092 rfl ?_
                        refine qr_get 80 rfl rfl rfl (by decide) rfl ?_
                        refine qr_iload 82 rfl g59097 rfl ?_
                        refine qr_iaload 83 rfl rfl (by omega) (by decide) rfl ?_
                        refine qr_topI (fun v59116 hv59116 => ?_)
                        have hs59117 : 0 ≤ v59116 ∧ v59116 ≤ 31 := by rw [hv59116]; exact hI59101.2.1 65 _ (show _ < 12 by omega)
                        have hrv59116 : v59116 = (α 65) (u59098 : Int).toNat := hv59116.trans (congrFun hk59103 _)
                        have hs59118 : σ53754 64 2 = (σ 64 2) := (hG53756.1 64 2 (by decide)).trans ((hk53736).trans rfl)
                        have hs59119 := qI_li hI59101 (u58672) (u59098)
                        have hs59120 : (-9223372036854775808) ≤ σ53754 27 6 ∧ σ53754 27 6 ≤ 9223372036854775807 := hI59101.1 27 6
                        have hs59121 : σ53754 27 6 = (σ 27 6) := (hG53756.1 27 6 (by decide)).trans ((hk53732).trans rfl)
                        have hs59122 : 0 ≤ σ53754 27 7 ∧ σ53754 27 7 ≤ 40 := hI59101.1 27 7
                        have hs59123 : σ53754 27 7 = (σ 27 7) := (hG53756.1 27 7 (by decide)).trans ((hk53733).trans rfl)
                        have hs59124 : 0 ≤ σ53754 34 7 ∧ σ53754 34 7 ≤ 60 := hI59101.1 34 7
                        have hs59125 : σ53754 34 7 = (σ 34 7) := (hG53756.1 34 7 (by decide)).trans ((hk53734).trans rfl)
                        have hs59126 : (-2147483648) ≤ σ53754 58 11 ∧ σ53754 58 11 ≤ 2147483647 := hI59101.1 58 11
                        have hs59127 : (-2147483648) ≤ σ53754 58 12 ∧ σ53754 58 12 ≤ 2147483647 := hI59101.1 58 12
                        refine qr_callN 86 rfl rfl rfl (sf_107_58x (d := d + 0) hI59101 hs59114 hs59117 (by omega) (qPW_fr hF59102 (by decide) (by decide) p1) (by rw [hF59102.1 27 6 (by decide), hF59102.1 27 7 (by decide), hF59102.2 24 (by decide), hF59102.2 28 (by decide), hF59102.2 29 (by decide), hF59102.2 30 (by decide), hF59102.2 31 (by decide), hF59102.2 33 (by decide), (show σ53754 58 11 = _ from (rfl).trans hw53752)]; exact hx59107) (by rw [hF59102.1 34 7 (by decide), hF59102.2 22 (by decide), hF59102.2 35 (by decide), hF59102.2 36 (by decide), hF59102.2 37 (by decide), hF59102.2 40 (by decide), hF59102.2 41 (by decide), (show σ53754 58 11 = _ from (rfl).trans hw53752)]; exact hx59108) (qZp_fr hF59102 (by decide) (by decide) p2)) ?_
                        rintro _ _ ⟨α59132, rfl, hI59133, hG59134, v59128, rfl, hv59128, hx59129, hx59130, hx59131⟩
                        have hF59135 : qFr [(58, 11), (58, 12)] [53, 57, 59, 60, 61, 62, 63, 85] σ α σ53754 α59132 := qFr_t hF59102 hG59134 (by decide) (by decide)
                        rw [hF59102.1 58 10 (by decide)] at hx59129
                        rw [hF59102.2 24 (by decide), hF59102.2 28 (by decide), hF59102.2 29 (by decide), hF59102.2 30 (by decide), hF59102.2 31 (by decide), hF59102.2 33 (by decide), hF59102.1 27 6 (by decide), hF59102.1 27 7 (by decide)] at hx59130
                        rw [hF59102.2 22 (by decide), hF59102.2 35 (by decide), hF59102.2 36 (by decide), hF59102.2 37 (by decide), hF59102.2 40 (by decide), hF59102.2 41 (by decide), hF59102.1 34 7 (by decide)] at hx59131
                        show qr_W (qe L xs vb) (d + 5) qx_e123 _ (86, _, [.int (qz v59128)], qw σ53754 α59132 κ ρ, 0, 0)
                        rw [qNVc_hf hF59102 (by decide) (by decide) (show σ53754 58 11 = _ from (rfl).trans hw53752), p3, hrv59113, hrv59116] at hx59129
                        rw [hw53752] at hx59130
                        rw [hw53752] at hx59131
                        refine qr_if_eq 122 89 rfl rfl rfl (qrg hv59128 (by decide) (by decide)) (fun h59136 => ?_) (fun h59136 => ?_)
                        · skip
                          refine qr_iinc _ 125 rfl g59097 (by decide) rfl rfl ?_
                          refine qr_goto 49 rfl rfl ?_
                          exact ih59110 _ (u59098 + 1) α59132 (by omega) (qm_gk g59092 (by decide) (Or.inl (by decide))) (qm_gk g59093 (by decide) (Or.inl (by decide))) (qm_gk g59094 (by decide) (Or.inl (by decide))) (qm_gk g59095 (by decide) (Or.inl (by decide))) (qm_gk g59096 (by decide) (Or.inr rfl)) (qm_ge _ _ _) (by omega) hI59133 hF59135 ((hG59134.2 65 (by decide)).trans hk59103) hx59105 (qbuCl_s (fun hc => by rcases hx59129 with hz | hz; (omega); (exact hc.2 hz.2)) hx59106) hx59130 hx59131
                        · skip
                          refine qr_aload_n 90 rfl g59092 rfl ?_
                          refine qr_get 93 rfl rfl rfl (by decide) rfl ?_
                          refine qr_get 96 rfl rfl rfl (by decide) rfl ?_
                          refine qr_aload_n 97 rfl g59092 rfl ?_
                          refine qr_get 100 rfl rfl rfl (by decide) rfl ?_
                          refine qr_iload 102 rfl g59096 rfl ?_
                          refine qr_iaload 103 rfl rfl (by omega) (by decide) rfl ?_
                          refine qr_topI (fun v59137 hv59137 => ?_)
                          have hs59138 : 0 ≤ v59137 ∧ v59137 ≤ 31 := by rw [hv59137]; exact hI59133.2.1 65 _ (show _ < 12 by omega)
                          have hrv59137 : v59137 = (α 65) (u58672 : Int).toNat := hv59137.trans (congrFun ((hG59134.2 65 (by decide)).trans hk59103) _)
                          have hs59139 : σ53754 64 2 = (σ 64 2) := (hG53756.1 64 2 (by decide)).trans ((hk53736).trans rfl)
                          refine qr_aload_n 104 rfl g59092 rfl ?_
                          refine qr_get 107 rfl rfl rfl (by decide) rfl ?_
                          refine qr_iload 109 rfl g59097 rfl ?_
                          refine qr_iaload 110 rfl rfl (by omega) (by decide) rfl ?_
                          refine qr_topI (fun v59140 hv59140 => ?_)
                          have hs59141 : 0 ≤ v59140 ∧ v59140 ≤ 31 := by rw [hv59140]; exact hI59133.2.1 65 _ (show _ < 12 by omega)
                          have hrv59140 : v59140 = (α 65) (u59098 : Int).toNat := hv59140.trans (congrFun ((hG59134.2 65 (by decide)).trans hk59103) _)
                          have hs59142 : σ53754 64 2 = (σ 64 2) := (hG53756.1 64 2 (by decide)).trans ((hk53736).trans rfl)
                          have hs59143 := qI_li hI59133 (u58672) (u59098)
                          refine qr_iload_n 111 rfl g59095 rfl ?_
                          refine qr_aload_n 112 rfl g59092 rfl ?_
                          refine qr_get 115 rfl rfl rfl (by decide) rfl ?_
                          refine qr_get 118 rfl rfl rfl (by decide) rfl ?_
                          refine qr_callN 121 rfl rfl rfl (sf_124_27_23x (d := d + 2) hI59133 hs59138 hs59141 (qrg hf53738 (by decide) (by decide))) ?_
                          rintro _ _ ⟨rfl, v59144, rfl, hv59144, hx59145⟩
                          rw [hF59135.2 24 (by decide), hF59135.2 28 (by decide), hF59135.2 29 (by decide), hF59135.2 30 (by decide), hF59135.2 31 (by decide), hF59135.2 33 (by decide), hF59135.1 27 6 (by decide), hF59135.1 27 7 (by decide)] at hx59145
                          show qr_W (qe L xs vb) (d + 5) qx_e123 _ (121, _, [.long (ql v59144)], qw σ53754 α59132 κ ρ, 0, 0)
                          refine qr_retL rfl rfl (by decide) (by decide) ?_
                          exact ⟨_, _, rfl, hI59133, hF59135, (by have hw : σ53754 58 12 = (σ53754 58 12) := rfl; omega), (by have hw : σ53754 58 12 = (σ53754 58 12) := rfl; omega), v59144, rfl, hv59144, (Or.inr ⟨qbu_pnz (by omega) (qbuPC_s ⟨u53725, u58672, u59098, ⟨by omega, by omega⟩, ⟨by omega, by omega⟩, ⟨by omega, by omega⟩, by omega, (by rcases hx59129 with hz | hz; (exact hz.2); (omega)), (show qbuNC σ α (σ 27 6) u53725 (α 65 (u58672 : Int).toNat) (α 65 (u59098 : Int).toNat) v59144 by have hz := hx59145; rw [hrv59137, hrv59140] at hz; exact hz)⟩), (qbuPC_s ⟨u53725, u58672, u59098, ⟨by omega, by omega⟩, ⟨by omega, by omega⟩, ⟨by omega, by omega⟩, by omega, (by rcases hx59129 with hz | hz; (exact hz.2); (omega)), (show qbuNC σ α (σ 27 6) u53725 (α 65 (u58672 : Int).toNat) (α 65 (u59098 : Int).toNat) v59144 by have hz := hx59145; rw [hrv59137, hrv59140] at hz; exact hz)⟩)⟩), hx59130.1, hx59131.1⟩
                exact hL59109 ((12 - 0 + 1 : Int)).toNat _ 0 α58674 (by omega) (qm_gk g58667 (by decide) (Or.inl (by decide))) (qm_gk g58668 (by decide) (Or.inl (by decide))) (qm_gk g58669 (by decide) (Or.inl (by decide))) (qm_gk g58670 (by decide) (Or.inl (by decide))) (qm_gk g58671 (by decide) (Or.inr rfl)) (qm_ge _ _ _) (by decide) hI58675 hF58676 hk58677 hx58679 qbuCl_0 hx58680 hx58681
          exact hL58682 ((12 - 0 + 1 : Int)).toNat _ 0 α53727 (by omega) (qm_gk g53721 (by decide) (Or.inl (by decide))) (qm_gk g53722 (by decide) (Or.inl (by decide))) (qm_gk g53723 (by decide) (Or.inl (by decide))) (qm_gk g53724 (by decide) (Or.inr rfl)) (qm_ge _ _ _) (by decide) hI53755 hF53757 hk53737 qbuRw_0 (qCaN_v hx53740 hw53753) (qCaN_v hx53741 hw53753)
        · skip
          refine qr_aload_n 13 rfl g53721 rfl ?_
          refine qr_get 16 rfl rfl rfl (by decide) rfl ?_
          refine qr_iload_n 17 rfl g53724 rfl ?_
          refine qr_callN 20 rfl rfl rfl (sf_101_58x (d := d + 3) hI53728 (qrg hf53738 (by decide) (by decide))) ?_
          rintro _ _ ⟨rfl, v59146, rfl, hv59146, hx59147⟩
          rw [hF53729.2 30 (by decide), hF53729.2 33 (by decide), hF53729.2 37 (by decide), hF53729.2 40 (by decide), hF53729.1 27 7 (by decide), hF53729.1 34 7 (by decide)] at hx59147
          show qr_W (qe L xs vb) (d + 5) qx_e123 _ (20, _, [.int (qz v59146)], qw σ53726 α53727 κ ρ, 0, 0)
          refine qr_if_ne 26 23 rfl rfl rfl (qrg hv59146 (by decide) (by decide)) (fun h59148 => ?_) (fun h59148 => ?_)
          · skip
            refine qr_aload_n 27 rfl g53721 rfl ?_
            refine qr_get 30 rfl rfl rfl (by decide) rfl ?_
            refine qr_iload_n 31 rfl g53724 rfl ?_
            have hs59149 : (-2147483648) ≤ σ53726 58 12 ∧ σ53726 58 12 ≤ 2147483647 := hI53728.1 58 12
            refine qr_callN 34 rfl rfl rfl (sf_89_58x (d := d + 4) hI53728 (qrg hf53738 (by decide) (by decide)) (by omega)) ?_
            rintro _ _ ⟨σ59152, rfl, hI59153, hG59154, hw59150, hw59151, rfl⟩
            have hF59155 : qFr [(58, 11), (58, 12)] [53, 57, 59, 60, 61, 62, 63, 85] σ α σ59152 α53727 := qFr_t hF53729 hG59154 (by decide) (by decide)
            have hs59156 : (-2147483648) ≤ σ59152 58 11 ∧ σ59152 58 11 ≤ 2147483647 := hI59153.1 58 11
            have hs59157 : (-2147483648) ≤ σ59152 58 12 ∧ σ59152 58 12 ≤ 2147483647 := hI59153.1 58 12
            show qr_W (qe L xs vb) (d + 5) qx_e123 _ (34, _, [], qw σ59152 α53727 κ ρ, 0, 0)
            refine qr_iconst 35 rfl rfl ?_
            refine qr_istore _ 37 rfl (by decide) rfl rfl ?_
            have hL64080 : ∀ (n : Nat) (ls : qm_L) (u64070 : Int) (α64072 : Nat → Nat → Int), 12 - u64070 < (n : Int) → qm_get ls 0 = some (.ref 64) → qm_get ls 1 = some (.int (qz x1)) → qm_get ls 2 = some (.int (qz x2)) → qm_get ls 3 = some (.int (qz u53725)) → qm_get ls 4 = some (.int (qz u64070)) → (0 ≤ u64070 ∧ u64070 ≤ 12) → qI σ59152 α64072 κ ρ → qFr [(58, 11), (58, 12)] [53, 57, 59, 60, 61, 62, 63, 85] σ α σ59152 α64072 → α64072 65 = (α 65) → qbuRw (qbuC2 (fun h p q => qMaC σ α f h p q) (α 65) u53725) (σ 64 2) u64070 → qCaN (α64072 60) (α64072 61) (σ59152 58 12) (fun p q => qnF (qTb (α 24)) (α 28) (α 29) (α 31) (α 30) (α 33) (σ 27 6) (σ 27 7) p q u53725) → qCaN (α64072 62) (α64072 63) (σ59152 58 12) (fun p q => qbs (qhF (α 35) (α 36) (α 37) (α 40) (qcv (α 41)) (qlw (α 22)) p q u53725) (σ 34 7 : Int).toNat) → qr_W (qe L xs vb) (d + 5) qx_e123 (fun r w' => ∃ σ' α', w' = qw σ' α' κ ρ ∧ qI σ' α' κ ρ ∧ qFr [(58, 11), (58, 12)] [53, 57, 59, 60, 61, 62, 63, 85] σ α σ' α' ∧ σ' 58 12 ≤ σ 58 12 + 48 ∧ σ' 58 12 ≥ σ 58 12 ∧ ∃ v : Int, r = some (.long (ql v)) ∧ ((-9223372036854775808) ≤ v ∧ v ≤ 9223372036854775807) ∧ ((v = 0 ∧ qbuGC σ α f (α 65) (σ 64 2) x1 x2 (σ 27 6)) ∨ (¬ v = 0 ∧ qbuPC σ α f (α 65) (σ 64 2) x1 x2 (σ 27 6) v)) ∧ (∀ c : Nat, c < 496 → α' 61 c ≤ σ' 58 12) ∧ (∀ c : Nat, c < 496 → α' 63 c ≤ σ' 58 12)) (37, ls, [], qw σ59152 α64072 κ ρ, 0, 0) := by
              intro n
              induction n with
              | zero => intro ls u64070 α64072 hm g64065 g64066 g64067 g64068 g64069 hf64076 hI64073 hF64074 hk64075 hx64077 hx64078 hx64079; exact False.elim (by omega)
              | succ n ih64081 =>
                intro ls u64070 α64072 hm g64065 g64066 g64067 g64068 g64069 hf64076 hI64073 hF64074 hk64075 hx64077 hx64078 hx64079
                refine qr_iload 39 rfl g64069 rfl ?_
                refine qr_aload_n 40 rfl g64065 rfl ?_
                refine qr_get 43 rfl rfl rfl (by decide) rfl ?_
                refine qy_v (σ 64 2) ((hG59154.1 64 2 (by decide)).trans ((hk53736).trans rfl)) ?_
                refine qr_icmp_ge 134 46 rfl rfl rfl (qrg hf64076 (by decide) (by decide)) (qrg hz64_2 (by decide) (by decide)) (fun h64082 => ?_) (fun h64082 => ?_)
                · skip
                  refine qr_iinc _ 137 rfl g64068 (by decide) rfl rfl ?_
                  refine qr_goto 2 rfl rfl ?_
                  exact ih53747 _ (u53725 + 1) σ59152 α64072 (by omega) (qm_gk g64065 (by decide) (Or.inl (by decide))) (qm_gk g64066 (by decide) (Or.inl (by decide))) (qm_gk g64067 (by decide) (Or.inr rfl)) (qm_ge _ _ _) (by omega) hI64073 hF64074 ((hG59154.1 17 5 (by decide)).trans ((hk53730).trans rfl)) ((hG59154.1 17 6 (by decide)).trans ((hk53731).trans rfl)) ((hG59154.1 27 6 (by decide)).trans ((hk53732).trans rfl)) ((hG59154.1 27 7 (by decide)).trans ((hk53733).trans rfl)) ((hG59154.1 34 7 (by decide)).trans ((hk53734).trans rfl)) ((hG59154.1 58 10 (by decide)).trans ((hk53735).trans rfl)) ((hG59154.1 64 2 (by decide)).trans ((hk53736).trans rfl)) hk64075 (qhr_s (B := fun t => qbuE (fun h p q => qMaC σ α f h p q) (α 65) (σ 64 2) t) hx53739 (qbuE_no (i := u64070) (by omega) hx64077)) hx64078.1 hx64079.1 (by have hw : σ59152 58 12 = (σ59152 58 12) := rfl; omega) (by have hw : σ59152 58 12 = (σ59152 58 12) := rfl; omega) (by omega) (by omega)
                · skip
                  refine qr_iconst 47 rfl rfl ?_
                  refine qr_istore _ 49 rfl (by decide) rfl rfl ?_
                  have hL64507 : ∀ (n : Nat) (ls : qm_L) (u64496 : Int) (α64498 : Nat → Nat → Int), 12 - u64496 < (n : Int) → qm_get ls 0 = some (.ref 64) → qm_get ls 1 = some (.int (qz x1)) → qm_get ls 2 = some (.int (qz x2)) → qm_get ls 3 = some (.int (qz u53725)) → qm_get ls 4 = some (.int (qz u64070)) → qm_get ls 5 = some (.int (qz u64496)) → (0 ≤ u64496 ∧ u64496 ≤ 12) → qI σ59152 α64498 κ ρ → qFr [(58, 11), (58, 12)] [53, 57, 59, 60, 61, 62, 63, 85] σ α σ59152 α64498 → α64498 65 = (α 65) → qbuRw (qbuC2 (fun h p q => qMaC σ α f h p q) (α 65) u53725) (σ 64 2) u64070 → qbuCl (qbuC2 (fun h p q => qMaC σ α f h p q) (α 65) u53725) u64070 u64496 → qCaN (α64498 60) (α64498 61) (σ59152 58 12) (fun p q => qnF (qTb (α 24)) (α 28) (α 29) (α 31) (α 30) (α 33) (σ 27 6) (σ 27 7) p q u53725) → qCaN (α64498 62) (α64498 63) (σ59152 58 12) (fun p q => qbs (qhF (α 35) (α 36) (α 37) (α 40) (qcv (α 41)) (qlw (α 22)) p q u53725) (σ 34 7 : Int).toNat) → qr_W (qe L xs vb) (d + 5) qx_e123 (fun r w' => ∃ σ' α', w' = qw σ' α' κ ρ ∧ qI σ' α' κ ρ ∧ qFr [(58, 11), (58, 12)] [53, 57, 59, 60, 61, 62, 63, 85] σ α σ' α' ∧ σ' 58 12 ≤ σ 58 12 + 48 ∧ σ' 58 12 ≥ σ 58 12 ∧ ∃ v : Int, r = some (.long (ql v)) ∧ ((-9223372036854775808) ≤ v ∧ v ≤ 9223372036854775807) ∧ ((v = 0 ∧ qbuGC σ α f (α 65) (σ 64 2) x1 x2 (σ 27 6)) ∨ (¬ v = 0 ∧ qbuPC σ α f (α 65) (σ 64 2) x1 x2 (σ 27 6) v)) ∧ (∀ c : Nat, c < 496 → α' 61 c ≤ σ' 58 12) ∧ (∀ c : Nat, c < 496 → α' 63 c ≤ σ' 58 12)) (49, ls, [], qw σ59152 α64498 κ ρ, 0, 0) := by
                    intro n
                    induction n with
                    | zero => intro ls u64496 α64498 hm g64490 g64491 g64492 g64493 g64494 g64495 hf64502 hI64499 hF64500 hk64501 hx64503 hx64504 hx64505 hx64506; exact False.elim (by omega)
                    | succ n ih64508 =>
                      intro ls u64496 α64498 hm g64490 g64491 g64492 g64493 g64494 g64495 hf64502 hI64499 hF64500 hk64501 hx64503 hx64504 hx64505 hx64506
                      refine qr_iload 51 rfl g64495 rfl ?_
                      refine qr_aload_n 52 rfl g64490 rfl ?_
                      refine qr_get 55 rfl rfl rfl (by decide) rfl ?_
                      refine qy_v (σ 64 2) ((hG59154.1 64 2 (by decide)).trans ((hk53736).trans rfl)) ?_
                      refine qr_icmp_ge 128 58 rfl rfl rfl (qrg hf64502 (by decide) (by decide)) (qrg hz64_2 (by decide) (by decide)) (fun h64509 => ?_) (fun h64509 => ?_)
                      · skip
                        refine qr_iinc _ 131 rfl g64494 (by decide) rfl rfl ?_
                        refine qr_goto 37 rfl rfl ?_
                        exact ih64081 _ (u64070 + 1) α64498 (by omega) (qm_gk g64490 (by decide) (Or.inl (by decide))) (qm_gk g64491 (by decide) (Or.inl (by decide))) (qm_gk g64492 (by decide) (Or.inl (by decide))) (qm_gk g64493 (by decide) (Or.inr rfl)) (qm_ge _ _ _) (by omega) hI64499 hF64500 hk64501 (qbuRw_s (j := u64496) (by omega) hx64504 hx64077) hx64505 hx64506
                      · skip
                        refine qr_iload 60 rfl g64494 rfl ?_
                        refine qr_iload 62 rfl g64495 rfl ?_
                        refine qr_icmp_eq 122 65 rfl rfl rfl (qrg hf64076 (by decide) (by decide)) (qrg hf64502 (by decide) (by decide)) (fun h64510 => ?_) (fun h64510 => ?_)
                        · skip
                          refine qr_iinc _ 125 rfl g64495 (by decide) rfl rfl ?_
                          refine qr_goto 49 rfl rfl ?_
                          exact ih64508 _ (u64496 + 1) α64498 (by omega) (qm_gk g64490 (by decide) (Or.inl (by decide))) (qm_gk g64491 (by decide) (Or.inl (by decide))) (qm_gk g64492 (by decide) (Or.inl (by decide))) (qm_gk g64493 (by decide) (Or.inl (by decide))) (qm_gk g64494 (by decide) (Or.inr rfl)) (qm_ge _ _ _) (by omega) hI64499 hF64500 hk64501 hx64503 (qbuCl_s (fun hc => hc.1 (by omega)) hx64504) hx64505 hx64506
                        · skip
                          refine qr_aload_n 66 rfl g64490 rfl ?_
                          refine qr_get 69 rfl rfl rfl (by decide) rfl ?_
                          refine qr_aload_n 70 rfl g64490 rfl ?_
                          refine qr_get 73 rfl rfl rfl (by decide) rfl ?_
                          refine qr_iload 75 rfl g64494 rfl ?_
                          refine qr_iaload 76 rfl rfl (by omega) (by decide) rfl ?_
                          refine qr_topI (fun v64511 hv64511 => ?_)
                          have hs64512 : 0 ≤ v64511 ∧ v64511 ≤ 31 := by rw [hv64511]; exact hI64499.2.1 65 _ (show _ < 12 by omega)
                          have hrv64511 : v64511 = (α 65) (u64070 : Int).toNat := hv64511.trans (congrFun hk64501 _)
                          have hs64513 : σ59152 64 2 = (σ 64 2) := (hG59154.1 64 2 (by decide)).trans ((hk53736).trans rfl)
                          refine qr_aload_n 77 rfl g64490 rfl ?_
                          refine qr_get 80 rfl rfl rfl (by decide) rfl ?_
                          refine qr_iload 82 rfl g64495 rfl ?_
                          refine qr_iaload 83 rfl rfl (by omega) (by decide) rfl ?_
                          refine qr_topI (fun v64514 hv64514 => ?_)
                          have hs64515 : 0 ≤ v64514 ∧ v64514 ≤ 31 := by rw [hv64514]; exact hI64499.2.1 65 _ (show _ < 12 by omega)
                          have hrv64514 : v64514 = (α 65) (u64496 : Int).toNat := hv64514.trans (congrFun hk64501 _)
                          have hs64516 : σ59152 64 2 = (σ 64 2) := (hG59154.1 64 2 (by decide)).trans ((hk53736).trans rfl)
                          have hs64517 := qI_li hI64499 (u64070) (u64496)
                          have hs64518 : (-9223372036854775808) ≤ σ59152 27 6 ∧ σ59152 27 6 ≤ 9223372036854775807 := hI64499.1 27 6
                          have hs64519 : σ59152 27 6 = (σ 27 6) := (hG59154.1 27 6 (by decide)).trans ((hk53732).trans rfl)
                          have hs64520 : 0 ≤ σ59152 27 7 ∧ σ59152 27 7 ≤ 40 := hI64499.1 27 7
                          have hs64521 : σ59152 27 7 = (σ 27 7) := (hG59154.1 27 7 (by decide)).trans ((hk53733).trans rfl)
                          have hs64522 : 0 ≤ σ59152 34 7 ∧ σ59152 34 7 ≤ 60 := hI64499.1 34 7
                          have hs64523 : σ59152 34 7 = (σ 34 7) := (hG59154.1 34 7 (by decide)).trans ((hk53734).trans rfl)
                          have hs64524 : (-2147483648) ≤ σ59152 58 11 ∧ σ59152 58 11 ≤ 2147483647 := hI64499.1 58 11
                          have hs64525 : (-2147483648) ≤ σ59152 58 12 ∧ σ59152 58 12 ≤ 2147483647 := hI64499.1 58 12
                          refine qr_callN 86 rfl rfl rfl (sf_107_58x (d := d + 0) hI64499 hs64512 hs64515 (by omega) (qPW_fr hF64500 (by decide) (by decide) p1) (by rw [hF64500.1 27 6 (by decide), hF64500.1 27 7 (by decide), hF64500.2 24 (by decide), hF64500.2 28 (by decide), hF64500.2 29 (by decide), hF64500.2 30 (by decide), hF64500.2 31 (by decide), hF64500.2 33 (by decide), (show σ59152 58 11 = _ from (rfl).trans hw59150)]; exact hx64505) (by rw [hF64500.1 34 7 (by decide), hF64500.2 22 (by decide), hF64500.2 35 (by decide), hF64500.2 36 (by decide), hF64500.2 37 (by decide), hF64500.2 40 (by decide), hF64500.2 41 (by decide), (show σ59152 58 11 = _ from (rfl).trans hw59150)]; exact hx64506) (qZp_fr hF64500 (by decide) (by decide) p2)) ?_
                          rintro _ _ ⟨α64530, rfl, hI64531, hG64532, v64526, rfl, hv64526, hx64527, hx64528, hx64529⟩
                          have hF64533 : qFr [(58, 11), (58, 12)] [53, 57, 59, 60, 61, 62, 63, 85] σ α σ59152 α64530 := qFr_t hF64500 hG64532 (by decide) (by decide)
                          rw [hF64500.1 58 10 (by decide)] at hx64527
                          rw [hF64500.2 24 (by decide), hF64500.2 28 (by decide), hF64500.2 29 (by decide), hF64500.2 30 (by decide), hF64500.2 31 (by decide), hF64500.2 33 (by decide), hF64500.1 27 6 (by decide), hF64500.1 27 7 (by decide)] at hx64528
                          rw [hF64500.2 22 (by decide), hF64500.2 35 (by decide), hF64500.2 36 (by decide), hF64500.2 37 (by decide), hF64500.2 40 (by decide), hF64500.2 41 (by decide), hF64500.1 34 7 (by decide)] at hx64529
                          show qr_W (qe L xs vb) (d + 5) qx_e123 _ (86, _, [.int (qz v64526)], qw σ59152 α64530 κ ρ, 0, 0)
                          rw [qNVc_hf hF64500 (by decide) (by decide) (show σ59152 58 11 = _ from (rfl).trans hw59150), p3, hrv64511, hrv64514] at hx64527
                          rw [hw59150] at hx64528
                          rw [hw59150] at hx64529
                          refine qr_if_eq 122 89 rfl rfl rfl (qrg hv64526 (by decide) (by decide)) (fun h64534 => ?_) (fun h64534 => ?_)
                          · skip
                            refine qr_iinc _ 125 rfl g64495 (by decide) rfl rfl ?_
                            refine qr_goto 49 rfl rfl ?_
                            exact ih64508 _ (u64496 + 1) α64530 (by omega) (qm_gk g64490 (by decide) (Or.inl (by decide))) (qm_gk g64491 (by decide) (Or.inl (by decide))) (qm_gk g64492 (by decide) (Or.inl (by decide))) (qm_gk g64493 (by decide) (Or.inl (by decide))) (qm_gk g64494 (by decide) (Or.inr rfl)) (qm_ge _ _ _) (by omega) hI64531 hF64533 ((hG64532.2 65 (by decide)).trans hk64501) hx64503 (qbuCl_s (fun hc => by rcases hx64527 with hz | hz; (omega); (exact hc.2 hz.2)) hx64504) hx64528 hx64529
                          · skip
                            refine qr_aload_n 90 rfl g64490 rfl ?_
                            refine qr_get 93 rfl rfl rfl (by decide) rfl ?_
                            refine qr_get 96 rfl rfl rfl (by decide) rfl ?_
                            refine qr_aload_n 97 rfl g64490 rfl ?_
                            refine qr_get 100 rfl rfl rfl (by decide) rfl ?_
                            refine qr_iload 102 rfl g64494 rfl ?_
                            refine qr_iaload 103 rfl rfl (by omega) (by decide) rfl ?_
                            refine qr_topI (fun v64535 hv64535 => ?_)
                            have hs64536 : 0 ≤ v64535 ∧ v64535 ≤ 31 := by rw [hv64535]; exact hI64531.2.1 65 _ (show _ < 12 by omega)
                            have hrv64535 : v64535 = (α 65) (u64070 : Int).toNat := hv64535.trans (congrFun ((hG64532.2 65 (by decide)).trans hk64501) _)
                            have hs64537 : σ59152 64 2 = (σ 64 2) := (hG59154.1 64 2 (by decide)).trans ((hk53736).trans rfl)
                            refine qr_aload_n 104 rfl g64490 rfl ?_
                            refine qr_get 107 rfl rfl rfl (by decide) rfl ?_
                            refine qr_iload 109 rfl g64495 rfl ?_
                            refine qr_iaload 110 rfl rfl (by omega) (by decide) rfl ?_
                            refine qr_topI (fun v64538 hv64538 => ?_)
                            have hs64539 : 0 ≤ v64538 ∧ v64538 ≤ 31 := by rw [hv64538]; exact hI64531.2.1 65 _ (show _ < 12 by omega)
                            have hrv64538 : v64538 = (α 65) (u64496 : Int).toNat := hv64538.trans (congrFun ((hG64532.2 65 (by decide)).trans hk64501) _)
                            have hs64540 : σ59152 64 2 = (σ 64 2) := (hG59154.1 64 2 (by decide)).trans ((hk53736).trans rfl)
                            have hs64541 := qI_li hI64531 (u64070) (u64496)
                            refine qr_iload_n 111 rfl g64493 rfl ?_
                            refine qr_aload_n 112 rfl g64490 rfl ?_
                            refine qr_get 115 rfl rfl rfl (by decide) rfl ?_
                            refine qr_get 118 rfl rfl rfl (by decide) rfl ?_
                            refine qr_callN 121 rfl rfl rfl (sf_124_27_23x (d := d + 2) hI64531 hs64536 hs64539 (qrg hf53738 (by decide) (by decide))) ?_
                            rintro _ _ ⟨rfl, v64542, rfl, hv64542, hx64543⟩
                            rw [hF64533.2 24 (by decide), hF64533.2 28 (by decide), hF64533.2 29 (by decide), hF64533.2 30 (by decide), hF64533.2 31 (by decide), hF64533.2 33 (by decide), hF64533.1 27 6 (by decide), hF64533.1 27 7 (by decide)] at hx64543
                            show qr_W (qe L xs vb) (d + 5) qx_e123 _ (121, _, [.long (ql v64542)], qw σ59152 α64530 κ ρ, 0, 0)
                            refine qr_retL rfl rfl (by decide) (by decide) ?_
                            exact ⟨_, _, rfl, hI64531, hF64533, (by have hw : σ59152 58 12 = (σ59152 58 12) := rfl; omega), (by have hw : σ59152 58 12 = (σ59152 58 12) := rfl; omega), v64542, rfl, hv64542, (Or.inr ⟨qbu_pnz (by omega) (qbuPC_s ⟨u53725, u64070, u64496, ⟨by omega, by omega⟩, ⟨by omega, by omega⟩, ⟨by omega, by omega⟩, by omega, (by rcases hx64527 with hz | hz; (exact hz.2); (omega)), (show qbuNC σ α (σ 27 6) u53725 (α 65 (u64070 : Int).toNat) (α 65 (u64496 : Int).toNat) v64542 by have hz := hx64543; rw [hrv64535, hrv64538] at hz; exact hz)⟩), (qbuPC_s ⟨u53725, u64070, u64496, ⟨by omega, by omega⟩, ⟨by omega, by omega⟩, ⟨by omega, by omega⟩, by omega, (by rcases hx64527 with hz | hz; (exact hz.2); (omega)), (show qbuNC σ α (σ 27 6) u53725 (α 65 (u64070 : Int).toNat) (α 65 (u64496 : Int).toNat) v64542 by have hz := hx64543; rw [hrv64535, hrv64538] at hz; exact hz)⟩)⟩), hx64528.1, hx64529.1⟩
                  exact hL64507 ((12 - 0 + 1 : Int)).toNat _ 0 α64072 (by omega) (qm_gk g64065 (by decide) (Or.inl (by decide))) (qm_gk g64066 (by decide) (Or.inl (by decide))) (qm_gk g64067 (by decide) (Or.inl (by decide))) (qm_gk g64068 (by decide) (Or.inl (by decide))) (qm_gk g64069 (by decide) (Or.inr rfl)) (qm_ge _ _ _) (by decide) hI64073 hF64074 hk64075 hx64077 qbuCl_0 hx64078 hx64079
            exact hL64080 ((12 - 0 + 1 : Int)).toNat _ 0 α53727 (by omega) (qm_gk g53721 (by decide) (Or.inl (by decide))) (qm_gk g53722 (by decide) (Or.inl (by decide))) (qm_gk g53723 (by decide) (Or.inl (by decide))) (qm_gk g53724 (by decide) (Or.inr rfl)) (qm_ge _ _ _) (by decide) hI59153 hF59155 hk53737 qbuRw_0 (qCaN_v hx53740 hw59151) (qCaN_v hx53741 hw59151)
          · skip
            refine qr_goto 134 rfl rfl ?_
            refine qr_iinc _ 137 rfl g53724 (by decide) rfl rfl ?_
            refine qr_goto 2 rfl rfl ?_
            exact ih53747 _ (u53725 + 1) σ53726 α53727 (by omega) (qm_gk g53721 (by decide) (Or.inl (by decide))) (qm_gk g53722 (by decide) (Or.inl (by decide))) (qm_gk g53723 (by decide) (Or.inr rfl)) (qm_ge _ _ _) (by omega) hI53728 hF53729 ((hk53730).trans rfl) ((hk53731).trans rfl) ((hk53732).trans rfl) ((hk53733).trans rfl) ((hk53734).trans rfl) ((hk53735).trans rfl) ((hk53736).trans rfl) hk53737 (qhr_s (B := fun t => qbuE (fun h p q => qMaC σ α f h p q) (α 65) (σ 64 2) t) hx53739 (fun hc => hx53739 (u53725 - 1) (by omega) (by omega) (qbuE_sk (hx59147 (by omega)).1 (hx59147 (by omega)).2 hc))) hx53740 hx53741 (by have hw : σ53726 58 12 = (σ53726 58 12) := rfl; omega) (by have hw : σ53726 58 12 = (σ53726 58 12) := rfl; omega) (by omega) (by omega)
  exact hL53746 ((2400 - x1 + 1 : Int)).toNat _ x1 σ α (by omega) rfl rfl rfl rfl (qrg r1 (by decide) (by decide)) hI hF0 (rfl) (rfl) (rfl) (rfl) (rfl) (rfl) (rfl) rfl (qhr_0 (B := fun t => qbuE (fun h p q => qMaC σ α f h p q) (α 65) (σ 64 2) t)) p4 p5 (by have hw : σ 58 12 = (σ 58 12) := rfl; omega) (by have hw : σ 58 12 = (σ 58 12) := rfl; omega) (by omega) (by omega)

set_option maxHeartbeats 4000000 in
set_option maxRecDepth 20000 in
/-- OneRoof$Guests.payOff -/
theorem sf_121_64x {L : Nat} {xs : Nat → Int} {vb : Bool} {d : Nat} {σ α : Nat → Nat → Int} {κ : Nat → Option Nat} {ρ : Nat} {x1 : Int} {x2 : Int} {x3 : Int} {f : (Nat → Int) → Int} (hI : qI σ α κ ρ) (r1 : 0 ≤ x1 ∧ x1 ≤ 2399) (r2 : 0 ≤ x2 ∧ x2 ≤ 2399) (r3 : (-2147483648) ≤ x3 ∧ x3 ≤ 2147483647) (p0 : x2 - x1 ≤ 47) (p1 : qPW σ α κ (0 : Int).toNat f) (p2 : qZp σ α) (p3 : σ 58 10 = 0) (p4 : σ 27 6 = 0) (p5 : ∀ f : Nat, (f : Int) < σ 27 7 → 0 ≤ α 32 f ∧ α 32 f ≤ 999) (p6 : ∀ c : Nat, c < 496 → α 61 c ≤ σ 58 12) (p7 : ∀ c : Nat, c < 496 → α 63 c ≤ σ 58 12) (p8 : 0 ≤ σ 58 12 ∧ σ 58 12 ≤ 1999990000) : qm_T (qe L xs vb) (d + 7) 121 [.ref 64, .int (qz x1), .int (qz x2), .int (qz x3)] (qw σ α κ ρ) (fun r w' => ∃ σ' α', w' = qw σ' α' κ ρ ∧ qI σ' α' κ ρ ∧ qFr [(27, 6), (58, 11), (58, 12)] [53, 57, 59, 60, 61, 62, 63, 85] σ α σ' α' ∧ σ' 58 12 ≤ σ 58 12 + 528 ∧ σ' 58 12 ≥ σ 58 12 ∧ σ' 27 6 = 0 ∧ ∃ v : Int, r = some (.long (ql v)) ∧ ((-9223372036854775808) ≤ v ∧ v ≤ 9223372036854775807) ∧ qbuRes σ α f (α 65) (σ 64 2) x1 x2 x3 v ∧ (∀ c : Nat, c < 496 → α' 61 c ≤ σ' 58 12) ∧ (∀ c : Nat, c < 496 → α' 63 c ≤ σ' 58 12)) := by
  refine qr_start (d := d + 6) qv_e121 (Nat.le_of_ble_eq_true rfl) ?_
  show qr_W (qe L xs vb) (d + 6) qx_e121 _ (0, [(0, .ref 64), (1, .int (qz x1)), (2, .int (qz x2)), (3, .int (qz x3))], [], _, 0, 0)
  have hF0 := qFr_rf [(27, 6), (58, 11), (58, 12)] [53, 57, 59, 60, 61, 62, 63, 85] σ α
  have hz58_10 : (-9223372036854775808) ≤ σ 58 10 ∧ σ 58 10 ≤ 9223372036854775807 := hI.1 58 10
  have hz27_6 : (-9223372036854775808) ≤ σ 27 6 ∧ σ 27 6 ≤ 9223372036854775807 := hI.1 27 6
  have hz27_7 : 0 ≤ σ 27 7 ∧ σ 27 7 ≤ 40 := hI.1 27 7
  have hz58_12 : (-2147483648) ≤ σ 58 12 ∧ σ 58 12 ≤ 2147483647 := hI.1 58 12
  have hz17_5 : (-9223372036854775808) ≤ σ 17 5 ∧ σ 17 5 ≤ 9223372036854775807 := hI.1 17 5
  have hz17_6 : 0 ≤ σ 17 6 ∧ σ 17 6 ≤ 32 := hI.1 17 6
  have hz34_7 : 0 ≤ σ 34 7 ∧ σ 34 7 ≤ 60 := hI.1 34 7
  have hz58_11 : (-2147483648) ≤ σ 58 11 ∧ σ 58 11 ≤ 2147483647 := hI.1 58 11
  have hz64_2 : 0 ≤ σ 64 2 ∧ σ 64 2 ≤ 12 := hI.1 64 2
  refine qr_aload_n 1 rfl rfl rfl ?_
  refine qr_get 4 rfl rfl rfl (by decide) rfl ?_
  refine qr_get 7 rfl rfl rfl (by decide) rfl ?_
  refine qr_astore _ 9 rfl (by decide) rfl rfl ?_
  refine qr_aload 11 rfl rfl rfl ?_
  refine qr_iload_n 12 rfl rfl rfl ?_
  refine qr_bipush 14 rfl (by decide) rfl ?_
  refine qr_callN 17 rfl rfl rfl (sf_122_27x (d := d + 4) hI r1) ?_
  rintro _ _ ⟨rfl, v1, rfl, hv1, hx2⟩
  show qr_W (qe L xs vb) (d + 6) qx_e121 _ (17, _, [.long (ql v1)], qw σ α κ ρ, 0, 0)
  refine qr_lstore _ 19 rfl (by decide) rfl rfl ?_
  refine qr_lconst 20 rfl rfl ?_
  refine qy_vl 0 rfl ?_
  refine qr_lstore _ 22 rfl (by decide) rfl rfl ?_
  refine qr_iconst 23 rfl rfl ?_
  refine qr_istore _ 25 rfl (by decide) rfl rfl ?_
  have hL451 : ∀ (n : Nat) (ls : qm_L) (u430 u432 : Int) (σ433 α434 : Nat → Nat → Int), 11 - u432 < (n : Int) → qm_get ls 0 = some (.ref 64) → qm_get ls 1 = some (.int (qz x1)) → qm_get ls 2 = some (.int (qz x2)) → qm_get ls 3 = some (.int (qz x3)) → qm_get ls 4 = some (.ref 27) → qm_get ls 5 = some (.long (ql v1)) → qm_get ls 7 = some (.long (ql u430)) → qm_get ls 9 = some (.int (qz u432)) → ((-9223372036854775808) ≤ u430 ∧ u430 ≤ 9223372036854775807) → (0 ≤ u432 ∧ u432 ≤ 11) → qI σ433 α434 κ ρ → qFr [(27, 6), (58, 11), (58, 12)] [53, 57, 59, 60, 61, 62, 63, 85] σ α σ433 α434 → σ433 17 5 = (σ 17 5) → σ433 17 6 = (σ 17 6) → σ433 27 7 = (σ 27 7) → σ433 34 7 = (σ 34 7) → σ433 58 10 = (σ 58 10) → σ433 64 2 = (σ 64 2) → qbuV (qbuGC σ α f (α 65) (σ 64 2) x1 x2) v1 u432 u430 → σ433 27 6 = 0 → (∀ c : Nat, c < 496 → α434 61 c ≤ σ433 58 12) → (∀ c : Nat, c < 496 → α434 63 c ≤ σ433 58 12) → σ433 58 12 ≤ σ 58 12 + 48 * u432 → σ 58 12 ≤ σ433 58 12 → qr_W (qe L xs vb) (d + 6) qx_e121 (fun r w' => ∃ σ' α', w' = qw σ' α' κ ρ ∧ qI σ' α' κ ρ ∧ qFr [(27, 6), (58, 11), (58, 12)] [53, 57, 59, 60, 61, 62, 63, 85] σ α σ' α' ∧ σ' 58 12 ≤ σ 58 12 + 528 ∧ σ' 58 12 ≥ σ 58 12 ∧ σ' 27 6 = 0 ∧ ∃ v : Int, r = some (.long (ql v)) ∧ ((-9223372036854775808) ≤ v ∧ v ≤ 9223372036854775807) ∧ qbuRes σ α f (α 65) (σ 64 2) x1 x2 x3 v ∧ (∀ c : Nat, c < 496 → α' 61 c ≤ σ' 58 12) ∧ (∀ c : Nat, c < 496 → α' 63 c ≤ σ' 58 12)) (25, ls, [], qw σ433 α434 κ ρ, 0, 0) := by
    intro n
    induction n with
    | zero => intro ls u430 u432 σ433 α434 hm g423 g424 g425 g426 g427 g428 g429 g431 hf443 hf444 hI435 hF436 hk437 hk438 hk439 hk440 hk441 hk442 hx445 hx446 hx447 hx448 hx449 hx450; exact False.elim (by omega)
    | succ n ih452 =>
      intro ls u430 u432 σ433 α434 hm g423 g424 g425 g426 g427 g428 g429 g431 hf443 hf444 hI435 hF436 hk437 hk438 hk439 hk440 hk441 hk442 hx445 hx446 hx447 hx448 hx449 hx450
      have hs453 : (-2147483648) ≤ σ433 58 12 ∧ σ433 58 12 ≤ 2147483647 := hI435.1 58 12
      have hs454 : (-9223372036854775808) ≤ σ433 27 6 ∧ σ433 27 6 ≤ 9223372036854775807 := hI435.1 27 6
      refine qr_iload 27 rfl g431 rfl ?_
      refine qr_bipush 29 rfl (by decide) rfl ?_
      refine qr_icmp_gt 109 32 rfl rfl rfl (qrg hf444 (by decide) (by decide)) (by decide) (fun h455 => ?_) (fun h455 => ?_)
      · skip
        refine qr_ldc2 (-2) 112 rfl (by decide) rfl ?_
        refine qr_retL rfl rfl (by decide) (by decide) ?_
        exact ⟨_, _, rfl, hI435, hF436, (by have hw : σ433 58 12 = (σ433 58 12) := rfl; omega), (by have hw : σ433 58 12 = (σ433 58 12) := rfl; omega), (by have hw : σ433 27 6 = (σ433 27 6) := rfl; omega), (-2), rfl, (by decide), ⟨v1, hx2, Or.inl ⟨rfl, fun _ _ _ => by have h1 := hx445.2.1; have h2 := qbuS_c hx445.1; have h3 := qbuO_c hx2; omega⟩⟩, hx447, hx448⟩
      · skip
        refine qr_aload 34 rfl g427 rfl ?_
        refine qr_lload 36 rfl g429 rfl ?_
        refine qr_put 39 rfl (by decide) rfl (Nat.le_of_ble_eq_true rfl) (Nat.le_of_ble_eq_true rfl) (Or.inl rfl) (qr_fitL rfl _) rfl ?_
        refine qy_wS (qw_s σ433 27 6 u430) rfl (fun σ456 e457 => ?_)
        have hI458 : qI σ456 α434 κ ρ := by rw [e457]; exact qI_s hI435 27 6 rfl (show (-9223372036854775808) ≤ u430 ∧ u430 ≤ 9223372036854775807 by omega)
        have hF459 : qFr [(27, 6), (58, 11), (58, 12)] [53, 57, 59, 60, 61, 62, 63, 85] σ α σ456 α434 := by rw [e457]; exact qFr_s hF436 27 6 _ (by decide)
        refine qr_aload_n 40 rfl g423 rfl ?_
        refine qr_iload_n 41 rfl g424 rfl ?_
        refine qr_iload_n 42 rfl g425 rfl ?_
        have hs460 : (-9223372036854775808) ≤ σ456 58 10 ∧ σ456 58 10 ≤ 9223372036854775807 := hI458.1 58 10
        have hs461 : σ456 58 10 = (σ 58 10) := (congrFun (congrFun e457 58) 10).trans ((hk441).trans rfl)
        have hs462 : (-2147483648) ≤ σ456 58 12 ∧ σ456 58 12 ≤ 2147483647 := hI458.1 58 12
        have hs463 : σ456 58 12 = (σ433 58 12) := (congrFun (congrFun e457 58) 12).trans rfl
        refine qr_callN 45 rfl rfl rfl (sf_123_64x (d := d + 0) hI458 r1 r2 (by omega) (qPW_fr hF459 (by decide) (by decide) p1) (qZp_fr hF459 (by decide) (by decide) p2) ((hF459.1 58 10 (by decide)).trans p3) (fun c hc => by have hq := hx447 c hc; have hw : σ456 58 12 = (σ433 58 12) := (congrFun (congrFun e457 58) 12).trans rfl; omega) (fun c hc => by have hq := hx448 c hc; have hw : σ456 58 12 = (σ433 58 12) := (congrFun (congrFun e457 58) 12).trans rfl; omega) (by omega)) ?_
        rintro _ _ ⟨σ470, α471, rfl, hI472, hG473, hw468, hw469, v464, rfl, hv464, hx465, hx466, hx467⟩
        have hF474 : qFr [(27, 6), (58, 11), (58, 12)] [53, 57, 59, 60, 61, 62, 63, 85] σ α σ470 α471 := qFr_t hF459 hG473 (by decide) (by decide)
        have hs475 : (-2147483648) ≤ σ470 58 12 ∧ σ470 58 12 ≤ 2147483647 := hI472.1 58 12
        show qr_W (qe L xs vb) (d + 6) qx_e121 _ (45, _, [.long (ql v464)], qw σ470 α471 κ ρ, 0, 0)
        rw [qbuGC_fr hF459 (by decide) (by decide), qbuPC_fr hF459 (by decide) (by decide) (by decide) (by decide), hF459.2 65 (by decide), hF459.1 64 2 (by decide), show σ456 27 6 = u430 from ((congrFun (congrFun e457 27) 6).trans rfl)] at hx465
        refine qr_lstore _ 47 rfl (by decide) rfl rfl ?_
        refine qr_aload 49 rfl (qm_gk2 g427 (by decide) (by decide) (Or.inl (by decide))) rfl ?_
        refine qr_lconst 50 rfl rfl ?_
        refine qy_vl 0 rfl ?_
        refine qr_put 53 rfl (by decide) rfl (Nat.le_of_ble_eq_true rfl) (Nat.le_of_ble_eq_true rfl) (Or.inl rfl) (qr_fitL rfl _) rfl ?_
        refine qy_wS (qw_s σ470 27 6 0) rfl (fun σ476 e477 => ?_)
        have hI478 : qI σ476 α471 κ ρ := by rw [e477]; exact qI_s hI472 27 6 rfl (show (-9223372036854775808) ≤ 0 ∧ 0 ≤ 9223372036854775807 by omega)
        have hF479 : qFr [(27, 6), (58, 11), (58, 12)] [53, 57, 59, 60, 61, 62, 63, 85] σ α σ476 α471 := by rw [e477]; exact qFr_s hF474 27 6 _ (by decide)
        refine qr_lload 55 rfl (qm_ge2 _ _ _) rfl ?_
        refine qr_lconst 56 rfl rfl ?_
        refine qy_vl 0 rfl ?_
        refine qr_lc_ne 78 60 rfl rfl rfl rfl hv464 (by decide) (fun h480 => ?_) (fun h480 => ?_)
        · skip
          refine qr_lload 80 rfl (qm_ge2 _ _ _) rfl ?_
          refine qr_lload 82 rfl (qm_gk2 g428 (by decide) (by decide) (Or.inl (by decide))) rfl ?_
          refine qr_ldc2 (-1) 85 rfl (by decide) rfl ?_
          refine qr_lxor 86 rfl rfl ?_
          refine qy_canlE (fun v481 hv481 hev481 => ?_)
          refine qr_land 87 rfl rfl ?_
          refine qy_canlE (fun v482 hv482 hev482 => ?_)
          have hz483 : v482 = ql_and v464 (ql_xor v1 (-1)) := by rw [ql_val hev482 (by omega) (ql_and_r _ _), ql_val hev481 (by omega) (ql_xor_r _ _)]
          refine qr_lconst 88 rfl rfl ?_
          refine qy_vl 0 rfl ?_
          refine qr_lc_eq 96 92 rfl rfl rfl rfl hv482 (by decide) (fun h484 => ?_) (fun h484 => ?_)
          · skip
            refine qr_lload 98 rfl (qm_gk2 g429 (by decide) (by decide) (Or.inl (by decide))) rfl ?_
            refine qr_lload 100 rfl (qm_ge2 _ _ _) rfl ?_
            refine qr_lor 101 rfl rfl ?_
            refine qy_canlE (fun v485 hv485 hev485 => ?_)
            refine qr_lstore _ 103 rfl (by decide) rfl rfl ?_
            refine qr_iinc _ 106 rfl (qm_gk2 (qm_gk2 g431 (by decide) (by decide) (Or.inr rfl)) (by decide) (by decide) (Or.inl (by decide))) (by decide) rfl rfl ?_
            refine qr_goto 25 rfl rfl ?_
            exact ih452 _ v485 (u432 + 1) σ476 α471 (by omega) (qm_gk (qm_gk2 (qm_gk2 g423 (by decide) (by decide) (Or.inl (by decide))) (by decide) (by decide) (Or.inl (by decide))) (by decide) (Or.inl (by decide))) (qm_gk (qm_gk2 (qm_gk2 g424 (by decide) (by decide) (Or.inl (by decide))) (by decide) (by decide) (Or.inl (by decide))) (by decide) (Or.inl (by decide))) (qm_gk (qm_gk2 (qm_gk2 g425 (by decide) (by decide) (Or.inl (by decide))) (by decide) (by decide) (Or.inl (by decide))) (by decide) (Or.inl (by decide))) (qm_gk (qm_gk2 (qm_gk2 g426 (by decide) (by decide) (Or.inl (by decide))) (by decide) (by decide) (Or.inl (by decide))) (by decide) (Or.inl (by decide))) (qm_gk (qm_gk2 (qm_gk2 g427 (by decide) (by decide) (Or.inl (by decide))) (by decide) (by decide) (Or.inl (by decide))) (by decide) (Or.inl (by decide))) (qm_gk (qm_gk2 (qm_gk2 g428 (by decide) (by decide) (Or.inl (by decide))) (by decide) (by decide) (Or.inl (by decide))) (by decide) (Or.inl (by decide))) (qm_gk (qm_ge2 _ _ _) (by decide) (Or.inl (by decide))) (qm_ge _ _ _) hv485 (by omega) hI478 hF479 ((congrFun (congrFun e477 17) 5).trans ((hG473.1 17 5 (by decide)).trans ((congrFun (congrFun e457 17) 5).trans ((hk437).trans rfl)))) ((congrFun (congrFun e477 17) 6).trans ((hG473.1 17 6 (by decide)).trans ((congrFun (congrFun e457 17) 6).trans ((hk438).trans rfl)))) ((congrFun (congrFun e477 27) 7).trans ((hG473.1 27 7 (by decide)).trans ((congrFun (congrFun e457 27) 7).trans ((hk439).trans rfl)))) ((congrFun (congrFun e477 34) 7).trans ((hG473.1 34 7 (by decide)).trans ((congrFun (congrFun e457 34) 7).trans ((hk440).trans rfl)))) ((congrFun (congrFun e477 58) 10).trans ((hG473.1 58 10 (by decide)).trans ((congrFun (congrFun e457 58) 10).trans ((hk441).trans rfl)))) ((congrFun (congrFun e477 64) 2).trans ((hG473.1 64 2 (by decide)).trans ((congrFun (congrFun e457 64) 2).trans ((hk442).trans rfl)))) (qbuV_add (by omega) (qbuO_c hx2) (by rcases hx465 with hz | hz; (omega); (exact hz.2)) (by rw [← hz483]; omega) (ql_val hev485 (by omega) (ql_or_r _ _)) hx445) ((congrFun (congrFun e477 27) 6).trans rfl) (fun c hc => by have hq := hx466 c hc; have hw : σ476 58 12 = (σ470 58 12) := (congrFun (congrFun e477 58) 12).trans rfl; omega) (fun c hc => by have hq := hx467 c hc; have hw : σ476 58 12 = (σ470 58 12) := (congrFun (congrFun e477 58) 12).trans rfl; omega) (by have hw : σ476 58 12 = (σ470 58 12) := (congrFun (congrFun e477 58) 12).trans rfl; omega) (by have hw : σ476 58 12 = (σ470 58 12) := (congrFun (congrFun e477 58) 12).trans rfl; omega)
          · skip
            refine qr_ldc2 (-2) 95 rfl (by decide) rfl ?_
            refine qr_retL rfl rfl (by decide) (by decide) ?_
            exact ⟨_, _, rfl, hI478, hF479, (by have hw : σ476 58 12 = (σ470 58 12) := (congrFun (congrFun e477 58) 12).trans rfl; omega), (by have hw : σ476 58 12 = (σ470 58 12) := (congrFun (congrFun e477 58) 12).trans rfl; omega), (by have hw : σ476 27 6 = 0 := (congrFun (congrFun e477 27) 6).trans rfl; omega), (-2), rfl, (by decide), ⟨v1, hx2, Or.inl ⟨rfl, qbuV_no (by omega) (by rcases hx465 with hz | hz; (omega); (exact hz.2)) (by rw [← hz483]; omega) hx445⟩⟩, (fun c hc => by have hq := hx466 c hc; have hw : σ476 58 12 = (σ470 58 12) := (congrFun (congrFun e477 58) 12).trans rfl; omega), (fun c hc => by have hq := hx467 c hc; have hw : σ476 58 12 = (σ470 58 12) := (congrFun (congrFun e477 58) 12).trans rfl; omega)⟩
        · skip
          refine qr_iload_n 61 rfl (qm_gk2 g426 (by decide) (by decide) (Or.inl (by decide))) rfl ?_
          refine qr_if_ne 75 64 rfl rfl rfl r3 (fun h486 => ?_) (fun h486 => ?_)
          · skip
            refine qr_lload 77 rfl (qm_gk2 g429 (by decide) (by decide) (Or.inl (by decide))) rfl ?_
            refine qr_retL rfl rfl (by decide) (by decide) ?_
            exact ⟨_, _, rfl, hI478, hF479, (by have hw : σ476 58 12 = (σ470 58 12) := (congrFun (congrFun e477 58) 12).trans rfl; omega), (by have hw : σ476 58 12 = (σ470 58 12) := (congrFun (congrFun e477 58) 12).trans rfl; omega), (by have hw : σ476 27 6 = 0 := (congrFun (congrFun e477 27) 6).trans rfl; omega), u430, rfl, hf443, ⟨v1, hx2, Or.inr ⟨u430, by omega, hx445.1, (by rcases hx465 with hz | hz; (exact hz.2); (omega)), hx445.2.2, Or.inr ⟨by omega, rfl⟩⟩⟩, (fun c hc => by have hq := hx466 c hc; have hw : σ476 58 12 = (σ470 58 12) := (congrFun (congrFun e477 58) 12).trans rfl; omega), (fun c hc => by have hq := hx467 c hc; have hw : σ476 58 12 = (σ470 58 12) := (congrFun (congrFun e477 58) 12).trans rfl; omega)⟩
          · skip
            refine qr_aload 66 rfl (qm_gk2 g427 (by decide) (by decide) (Or.inl (by decide))) rfl ?_
            refine qr_lload 68 rfl (qm_gk2 g429 (by decide) (by decide) (Or.inl (by decide))) rfl ?_
            have hs487 : 0 ≤ σ476 27 7 ∧ σ476 27 7 ≤ 40 := hI478.1 27 7
            have hs488 : σ476 27 7 = (σ 27 7) := (congrFun (congrFun e477 27) 7).trans ((hG473.1 27 7 (by decide)).trans ((congrFun (congrFun e457 27) 7).trans ((hk439).trans rfl)))
            refine qr_callN 71 rfl rfl rfl (sf_125_27x (d := d + 4) hI478 hf443 (fun u hu => by rw [hF479.2 32 (by decide)]; exact p5 u (by have hw := hF479.1 27 7 (by decide); omega))) ?_
            rintro _ _ ⟨rfl, v489, rfl, hv489, hx490⟩
            show qr_W (qe L xs vb) (d + 6) qx_e121 _ (71, _, [.int (qz v489)], qw σ476 α471 κ ρ, 0, 0)
            refine qr_i2l 72 rfl hv489 rfl ?_
            refine qr_goto 77 rfl rfl ?_
            refine qr_retL rfl rfl (by decide) (by decide) ?_
            exact ⟨_, _, rfl, hI478, hF479, (by have hw : σ476 58 12 = (σ470 58 12) := (congrFun (congrFun e477 58) 12).trans rfl; omega), (by have hw : σ476 58 12 = (σ470 58 12) := (congrFun (congrFun e477 58) 12).trans rfl; omega), (by have hw : σ476 27 6 = 0 := (congrFun (congrFun e477 27) 6).trans rfl; omega), v489, rfl, (qrg hv489 (by decide) (by decide)), ⟨v1, hx2, Or.inr ⟨u430, by omega, hx445.1, (by rcases hx465 with hz | hz; (exact hz.2); (omega)), hx445.2.2, Or.inl ⟨by omega, (by have hz := hx490; rw [hF479.2 32 (by decide), hF479.1 27 7 (by decide)] at hz; exact hz)⟩⟩⟩, (fun c hc => by have hq := hx466 c hc; have hw : σ476 58 12 = (σ470 58 12) := (congrFun (congrFun e477 58) 12).trans rfl; omega), (fun c hc => by have hq := hx467 c hc; have hw : σ476 58 12 = (σ470 58 12) := (congrFun (congrFun e477 58) 12).trans rfl; omega)⟩
  exact hL451 ((11 - 0 + 1 : Int)).toNat _ 0 0 σ α (by omega) rfl rfl rfl rfl rfl rfl rfl rfl (by decide) (by decide) hI hF0 (rfl) (rfl) (rfl) (rfl) (rfl) (rfl) qbuV_0 ((rfl).trans p4) p6 p7 (by have hw : σ 58 12 = (σ 58 12) := rfl; omega) (by have hw : σ 58 12 = (σ 58 12) := rfl; omega)

set_option maxHeartbeats 4000000 in
set_option maxRecDepth 20000 in
/-- OneRoof.buy -/
theorem sf_120_16x {L : Nat} {xs : Nat → Int} {vb : Bool} {d : Nat} {σ α : Nat → Nat → Int} {κ : Nat → Option Nat} {ρ : Nat} {x1 : Int} {x2 : Int} {x3 : Int} {f : (Nat → Int) → Int} (hI : qI σ α κ ρ) (r1 : (-9223372036854775808) ≤ x1 ∧ x1 ≤ 9223372036854775807) (r2 : (-2147483648) ≤ x2 ∧ x2 ≤ 2147483647) (r3 : (-2147483648) ≤ x3 ∧ x3 ≤ 2147483647) (p0 : qPW σ α κ (0 : Int).toNat f) (p1 : qZp σ α) (p2 : σ 58 10 = 0) (p3 : σ 27 6 = 0) (p4 : ∀ f : Nat, (f : Int) < σ 27 7 → 0 ≤ α 32 f ∧ α 32 f ≤ 999) (p5 : ∀ c : Nat, c < 496 → α 61 c ≤ σ 58 12) (p6 : ∀ c : Nat, c < 496 → α 63 c ≤ σ 58 12) (p7 : 0 ≤ σ 58 12 ∧ σ 58 12 ≤ 1900000000) : qm_T (qe L xs vb) (d + 8) 120 [.ref 16, .long (ql x1), .int (qz x2), .int (qz x3)] (qw σ α κ ρ) (fun r w' => ∃ σ' α', w' = qw σ' α' κ ρ ∧ qI σ' α' κ ρ ∧ qFr [(27, 6), (58, 11), (58, 12), (64, 2)] [53, 57, 59, 60, 61, 62, 63, 65, 85] σ α σ' α' ∧ σ' 27 6 = 0 ∧ ∃ v : Int, r = some (.long (ql v)) ∧ ((-9223372036854775808) ≤ v ∧ v ≤ 9223372036854775807) ∧ ((v = -1 ∧ ¬ (qst x1 (σ 17 6) ∧ 0 ≤ x2 ∧ x2 / 10000 ≤ x2 % 10000 ∧ x2 % 10000 ≤ 2399 ∧ x2 % 10000 - x2 / 10000 < 48 ∧ (x3 = 0 ∨ x3 = 1) ∧ ¬ (ql_and x1 (ql_xor (σ 17 5) (-1))) = 0 ∧ qcn (ql_and x1 (ql_xor (σ 17 5) (-1))) 64 ≤ 12)) ∨ ((qst x1 (σ 17 6) ∧ 0 ≤ x2 ∧ x2 / 10000 ≤ x2 % 10000 ∧ x2 % 10000 ≤ 2399 ∧ x2 % 10000 - x2 / 10000 < 48 ∧ (x3 = 0 ∨ x3 = 1) ∧ ¬ (ql_and x1 (ql_xor (σ 17 5) (-1))) = 0 ∧ qcn (ql_and x1 (ql_xor (σ 17 5) (-1))) 64 ≤ 12) ∧ qLs (α' 65) (σ' 64 2) (qBr (fun k : Nat => qbit (ql_and x1 (ql_xor (σ 17 5) (-1))) (k : Int)) 32) ∧ qbuRes σ α f (α' 65) (σ' 64 2) (x2 / 10000) (x2 % 10000) x3 v)) ∧ (∀ c : Nat, c < 496 → α' 61 c ≤ σ' 58 12) ∧ (∀ c : Nat, c < 496 → α' 63 c ≤ σ' 58 12) ∧ (0 ≤ σ' 58 12 ∧ σ' 58 12 ≤ σ 58 12 + 528)) := by
  refine qr_start (d := d + 7) qv_e120 (Nat.le_of_ble_eq_true rfl) ?_
  show qr_W (qe L xs vb) (d + 7) qx_e120 _ (0, [(0, .ref 16), (1, .long (ql x1)), (3, .int (qz x2)), (4, .int (qz x3))], [], _, 0, 0)
  have hF0 := qFr_rf [(27, 6), (58, 11), (58, 12), (64, 2)] [53, 57, 59, 60, 61, 62, 63, 65, 85] σ α
  have hz58_10 : (-9223372036854775808) ≤ σ 58 10 ∧ σ 58 10 ≤ 9223372036854775807 := hI.1 58 10
  have hz27_6 : (-9223372036854775808) ≤ σ 27 6 ∧ σ 27 6 ≤ 9223372036854775807 := hI.1 27 6
  have hz27_7 : 0 ≤ σ 27 7 ∧ σ 27 7 ≤ 40 := hI.1 27 7
  have hz58_12 : (-2147483648) ≤ σ 58 12 ∧ σ 58 12 ≤ 2147483647 := hI.1 58 12
  have hz17_5 : (-9223372036854775808) ≤ σ 17 5 ∧ σ 17 5 ≤ 9223372036854775807 := hI.1 17 5
  have hz17_6 : 0 ≤ σ 17 6 ∧ σ 17 6 ≤ 32 := hI.1 17 6
  have hz34_7 : 0 ≤ σ 34 7 ∧ σ 34 7 ≤ 60 := hI.1 34 7
  have hz58_11 : (-2147483648) ≤ σ 58 11 ∧ σ 58 11 ≤ 2147483647 := hI.1 58 11
  have hz64_2 : 0 ≤ σ 64 2 ∧ σ 64 2 ≤ 12 := hI.1 64 2
  refine qr_aload_n 1 rfl rfl rfl ?_
  refine qr_get 4 rfl rfl rfl (by decide) rfl ?_
  refine qr_lload_n 5 rfl rfl rfl ?_
  refine qr_callN 8 rfl rfl rfl (sf_88_17x (d := d + 6) hI r1) ?_
  have hs3 : 0 ≤ σ 17 6 ∧ σ 17 6 ≤ 32 := hI.1 17 6
  rintro _ _ ⟨rfl, v1, rfl, hv1, hp2⟩
  show qr_W (qe L xs vb) (d + 7) qx_e120 _ (8, _, [.int (qz v1)], qw σ α κ ρ, 0, 0)
  refine qr_if_eq 26 11 rfl rfl rfl (qrg hv1 (by decide) (by decide)) (fun h4 => ?_) (fun h4 => ?_)
  · skip
    refine qr_ldc2 (-1) 29 rfl (by decide) rfl ?_
    refine qr_retL rfl rfl (by decide) (by decide) ?_
    exact ⟨_, _, rfl, hI, hF0, (by have hw : σ 27 6 = (σ 27 6) := rfl; omega), (-1), rfl, (by decide), (Or.inl ⟨rfl, (fun hc => by obtain ⟨c1, c2, c3, c4, c5, c6, c7, c8⟩ := hc; first | omega | (have hz := hp2; rcases hz with hz | hz; (omega); (exact hz.2 c1)))⟩), p5, p6, (by omega)⟩
  · skip
    refine qr_iload_n 12 rfl rfl rfl ?_
    refine qr_callN 15 rfl rfl rfl (sf_100 (d := d + 4) hI r2) ?_
    rintro _ _ ⟨rfl, v5, rfl, hv5, hp6⟩
    show qr_W (qe L xs vb) (d + 7) qx_e120 _ (15, _, [.int (qz v5)], qw σ α κ ρ, 0, 0)
    refine qr_if_eq 26 18 rfl rfl rfl (qrg hv5 (by decide) (by decide)) (fun h7 => ?_) (fun h7 => ?_)
    · skip
      refine qr_ldc2 (-1) 29 rfl (by decide) rfl ?_
      refine qr_retL rfl rfl (by decide) (by decide) ?_
      exact ⟨_, _, rfl, hI, hF0, (by have hw : σ 27 6 = (σ 27 6) := rfl; omega), (-1), rfl, (by decide), (Or.inl ⟨rfl, (fun hc => by obtain ⟨c1, c2, c3, c4, c5, c6, c7, c8⟩ := hc; first | omega | (have hz := hp2; rcases hz with hz | hz; (omega); (exact hz.2 c1)))⟩), p5, p6, (by omega)⟩
    · skip
      refine qr_iload 20 rfl rfl rfl ?_
      refine qr_callN 23 rfl rfl rfl (sf_41 (d := d + 6) hI r3) ?_
      rintro _ _ ⟨rfl, v8, rfl, hv8, hp9⟩
      show qr_W (qe L xs vb) (d + 7) qx_e120 _ (23, _, [.int (qz v8)], qw σ α κ ρ, 0, 0)
      refine qr_if_ne 30 26 rfl rfl rfl (qrg hv8 (by decide) (by decide)) (fun h10 => ?_) (fun h10 => ?_)
      · skip
        refine qr_lload_n 31 rfl rfl rfl ?_
        refine qr_aload_n 32 rfl rfl rfl ?_
        refine qr_get 35 rfl rfl rfl (by decide) rfl ?_
        refine qr_get 38 rfl rfl rfl (by decide) rfl ?_
        refine qr_ldc2 (-1) 41 rfl (by decide) rfl ?_
        refine qr_lxor 42 rfl rfl ?_
        refine qy_canlE (fun v11 hv11 hev11 => ?_)
        refine qr_land 43 rfl rfl ?_
        refine qy_canlE (fun v12 hv12 hev12 => ?_)
        refine qr_lstore _ 45 rfl (by decide) rfl rfl ?_
        have hv13 : v12 = ql_and x1 (ql_xor (σ 17 5) (-1)) := by rw [ql_val hev12 (by omega) (ql_and_r _ _), ql_val hev11 (by omega) (ql_xor_r _ _)]
        refine qr_lload 47 rfl rfl rfl ?_
        refine qr_bipush 49 rfl (by decide) rfl ?_
        refine qr_callN 52 rfl rfl rfl (sf_109x (d := d + 5) hI hv12 (by decide)) ?_
        rintro _ _ ⟨rfl, v14, rfl, hv14, hp15⟩
        show qr_W (qe L xs vb) (d + 7) qx_e120 _ (52, _, [.int (qz v14)], qw σ α κ ρ, 0, 0)
        refine qr_if_ne 59 55 rfl rfl rfl (qrg hv14 (by decide) (by decide)) (fun h16 => ?_) (fun h16 => ?_)
        · skip
          refine qr_aload_n 60 rfl rfl rfl ?_
          refine qr_get 63 rfl rfl rfl (by decide) rfl ?_
          refine qr_lload 65 rfl rfl rfl ?_
          refine qr_callN 68 rfl rfl rfl (sf_110_64x (d := d + 5) hI hv12 (by omega)) ?_
          rintro _ _ ⟨σ18, α19, rfl, hI20, hG21, rfl, hx17⟩
          have hF22 : qFr [(27, 6), (58, 11), (58, 12), (64, 2)] [53, 57, 59, 60, 61, 62, 63, 65, 85] σ α σ18 α19 := qFr_t hF0 hG21 (by decide) (by decide)
          show qr_W (qe L xs vb) (d + 7) qx_e120 _ (68, _, [], qw σ18 α19 κ ρ, 0, 0)
          rw [hv13] at hx17
          have hsg23 : 0 ≤ σ18 64 2 ∧ σ18 64 2 ≤ 12 := hI20.1 64 2
          refine qr_aload_n 69 rfl rfl rfl ?_
          refine qr_get 72 rfl rfl rfl (by decide) rfl ?_
          refine qr_iload_n 73 rfl rfl rfl ?_
          refine qr_sipush 76 rfl (by decide) rfl ?_
          refine qr_idiv 77 rfl (by omega) (by decide) rfl ?_
          refine qr_iload_n 78 rfl rfl rfl ?_
          refine qr_sipush 81 rfl (by decide) rfl ?_
          refine qr_irem 82 rfl (by omega) (by decide) rfl ?_
          refine qr_iload 84 rfl rfl rfl ?_
          have hs24 : (-9223372036854775808) ≤ σ18 27 6 ∧ σ18 27 6 ≤ 9223372036854775807 := hI20.1 27 6
          have hs25 : σ18 27 6 = (σ 27 6) := (hG21.1 27 6 (by decide)).trans rfl
          have hs26 : 0 ≤ σ18 27 7 ∧ σ18 27 7 ≤ 40 := hI20.1 27 7
          have hs27 : σ18 27 7 = (σ 27 7) := (hG21.1 27 7 (by decide)).trans rfl
          have hs28 : (-9223372036854775808) ≤ σ18 58 10 ∧ σ18 58 10 ≤ 9223372036854775807 := hI20.1 58 10
          have hs29 : σ18 58 10 = (σ 58 10) := (hG21.1 58 10 (by decide)).trans rfl
          have hs30 : (-2147483648) ≤ σ18 58 12 ∧ σ18 58 12 ≤ 2147483647 := hI20.1 58 12
          have hs31 : σ18 58 12 = (σ 58 12) := (hG21.1 58 12 (by decide)).trans rfl
          refine qr_callN 87 rfl rfl rfl (sf_121_64x (d := d + 0) hI20 (by omega) (by omega) r3 (by omega) (qPW_fr hF22 (by decide) (by decide) p0) (qZp_fr hF22 (by decide) (by decide) p1) ((hF22.1 58 10 (by decide)).trans p2) (((hG21.1 27 6 (by decide)).trans rfl).trans p3) (fun u hu => by rw [hF22.2 32 (by decide)]; exact p4 u (by have hw := hF22.1 27 7 (by decide); omega)) (fun c hc => by rw [hG21.2 61 (by decide), hG21.1 58 12 (by decide)]; exact p5 c hc) (fun c hc => by rw [hG21.2 63 (by decide), hG21.1 58 12 (by decide)]; exact p6 c hc) (by omega)) ?_
          rintro _ _ ⟨σ39, α40, rfl, hI41, hG42, hw36, hw37, hw38, v32, rfl, hv32, hx33, hx34, hx35⟩
          have hF43 : qFr [(27, 6), (58, 11), (58, 12), (64, 2)] [53, 57, 59, 60, 61, 62, 63, 65, 85] σ α σ39 α40 := qFr_t hF22 hG42 (by decide) (by decide)
          have hs44 : (-9223372036854775808) ≤ σ39 27 6 ∧ σ39 27 6 ≤ 9223372036854775807 := hI41.1 27 6
          have hs45 : (-2147483648) ≤ σ39 58 12 ∧ σ39 58 12 ≤ 2147483647 := hI41.1 58 12
          show qr_W (qe L xs vb) (d + 7) qx_e120 _ (87, _, [.long (ql v32)], qw σ39 α40 κ ρ, 0, 0)
          rw [qbuRes_fr hF22 (by decide) (by decide) (hF22.1 27 7 (by decide)) (hF22.2 32 (by decide)) (hF22.2 33 (by decide))] at hx33
          refine qr_retL rfl rfl (by decide) (by decide) ?_
          exact ⟨_, _, rfl, hI41, hF43, (by have hw : σ39 27 6 = (σ39 27 6) := rfl; omega), v32, rfl, hv32, (Or.inr ⟨⟨(by have hz := hp2; rcases hz with hz | hz; (exact hz.2); (exact absurd hz.1 (by omega))), by omega, by omega, by omega, by omega, by omega, by rw [← hv13]; omega, by rw [← hv13]; omega⟩, (by rw [hG42.2 65 (by decide), hG42.1 64 2 (by decide)]; exact hx17), (by rw [hG42.2 65 (by decide), hG42.1 64 2 (by decide)]; exact hx33)⟩), hx34, hx35, (by have hw1 := hw36; have hw2 := hw37; have hw3 := hG21.1 58 12 (by decide); omega)⟩
        · skip
          refine qr_ldc2 (-1) 58 rfl (by decide) rfl ?_
          refine qr_retL rfl rfl (by decide) (by decide) ?_
          exact ⟨_, _, rfl, hI, hF0, (by have hw : σ 27 6 = (σ 27 6) := rfl; omega), (-1), rfl, (by decide), (Or.inl ⟨rfl, (fun hc => by obtain ⟨c1, c2, c3, c4, c5, c6, c7, c8⟩ := hc; first | omega | (have hz := hp2; rcases hz with hz | hz; (omega); (exact hz.2 c1)) | (rw [← hv13] at c7 c8; omega))⟩), p5, p6, (by omega)⟩
      · skip
        refine qr_ldc2 (-1) 29 rfl (by decide) rfl ?_
        refine qr_retL rfl rfl (by decide) (by decide) ?_
        exact ⟨_, _, rfl, hI, hF0, (by have hw : σ 27 6 = (σ 27 6) := rfl; omega), (-1), rfl, (by decide), (Or.inl ⟨rfl, (fun hc => by obtain ⟨c1, c2, c3, c4, c5, c6, c7, c8⟩ := hc; first | omega | (have hz := hp2; rcases hz with hz | hz; (omega); (exact hz.2 c1)))⟩), p5, p6, (by omega)⟩

set_option maxHeartbeats 4000000 in
set_option maxRecDepth 20000 in
/-- OneRoofModel.barAny -/
theorem sf_240_86x {L : Nat} {xs : Nat → Int} {vb : Bool} {d : Nat} {σ α : Nat → Nat → Int} {κ : Nat → Option Nat} {ρ : Nat} {x1 : Int} {g : (Nat → Int) → Int} (hI : qI σ α κ ρ) (r1 : 0 ≤ x1 ∧ x1 ≤ 23999999) (p0 : 1 ≤ σ 86 6) (p1 : σ 86 43 ≤ 12) (p2 : qPG σ α 0 g) (p3 : qZf σ α) (p4 : σ 86 41 = 0) (p5 : ∀ p : Nat, p < 32 → 0 ≤ α 92 p ∧ α 92 p ≤ 99) (p6 : qSr (α 110) (σ 86 43) (σ 86 6)) (p7 : qZk σ α) (p8 : σ 86 29 = 0) : qm_T (qe L xs vb) (d + 49) 240 [.ref 86, .int (qz x1)] (qw σ α κ ρ) (fun r w' => ∃ σ' α', w' = qw σ' α' κ ρ ∧ qI σ' α' κ ρ ∧ qFr [(86, 15), (86, 23), (86, 30), (86, 35), (86, 36), (86, 37), (86, 38), (86, 39), (86, 41)] [96, 109] σ α σ' α' ∧ σ' 86 41 = 0 ∧ ∃ v : Int, r = some (.int (qz v)) ∧ (0 ≤ v ∧ v ≤ 1) ∧ ((v = 1 ∧ ¬ qbuTr (qbuGt σ α g (α 110) (x1 / 10000) (x1 % 10000)) (σ 86 43)) ∨ (v = 0 ∧ qbuTr (qbuGt σ α g (α 110) (x1 / 10000) (x1 % 10000)) (σ 86 43)))) := by
  refine qr_start (d := d + 48) qv_e240 (Nat.le_of_ble_eq_true rfl) ?_
  show qr_W (qe L xs vb) (d + 48) qx_e240 _ (0, [(0, .ref 86), (1, .int (qz x1))], [], _, 0, 0)
  have hF0 := qFr_rf [(86, 15), (86, 23), (86, 30), (86, 35), (86, 36), (86, 37), (86, 38), (86, 39), (86, 41)] [96, 109] σ α
  have hz86_6 : 0 ≤ σ 86 6 ∧ σ 86 6 ≤ 32 := hI.1 86 6
  have hz86_43 : 0 ≤ σ 86 43 ∧ σ 86 43 ≤ 32 := hI.1 86 43
  have hz86_41 : 0 ≤ σ 86 41 ∧ σ 86 41 ≤ 1 := hI.1 86 41
  have hz86_29 : (-9223372036854775808) ≤ σ 86 29 ∧ σ 86 29 ≤ 9223372036854775807 := hI.1 86 29
  have hz86_10 : (-9223372036854775808) ≤ σ 86 10 ∧ σ 86 10 ≤ 9223372036854775807 := hI.1 86 10
  have hz86_24 : 0 ≤ σ 86 24 ∧ σ 86 24 ≤ 60 := hI.1 86 24
  refine qr_iconst 1 rfl rfl ?_
  refine qr_istore_n _ 2 rfl (by decide) rfl rfl ?_
  have hL2839 : ∀ (n : Nat) (ls : qm_L) (u2824 : Int) (σ2825 α2826 : Nat → Nat → Int), 12 - u2824 < (n : Int) → qm_get ls 0 = some (.ref 86) → qm_get ls 1 = some (.int (qz x1)) → qm_get ls 2 = some (.int (qz u2824)) → (0 ≤ u2824 ∧ u2824 ≤ 12) → qI σ2825 α2826 κ ρ → qFr [(86, 15), (86, 23), (86, 30), (86, 35), (86, 36), (86, 37), (86, 38), (86, 39), (86, 41)] [96, 109] σ α σ2825 α2826 → σ2825 86 6 = (σ 86 6) → σ2825 86 10 = (σ 86 10) → σ2825 86 24 = (σ 86 24) → σ2825 86 29 = (σ 86 29) → σ2825 86 43 = (σ 86 43) → α2826 110 = (α 110) → qbuTr (qbuGt σ α g (α 110) (x1 / 10000) (x1 % 10000)) u2824 → σ2825 86 41 = 0 → u2824 ≤ σ 86 43 → qr_W (qe L xs vb) (d + 48) qx_e240 (fun r w' => ∃ σ' α', w' = qw σ' α' κ ρ ∧ qI σ' α' κ ρ ∧ qFr [(86, 15), (86, 23), (86, 30), (86, 35), (86, 36), (86, 37), (86, 38), (86, 39), (86, 41)] [96, 109] σ α σ' α' ∧ σ' 86 41 = 0 ∧ ∃ v : Int, r = some (.int (qz v)) ∧ (0 ≤ v ∧ v ≤ 1) ∧ ((v = 1 ∧ ¬ qbuTr (qbuGt σ α g (α 110) (x1 / 10000) (x1 % 10000)) (σ 86 43)) ∨ (v = 0 ∧ qbuTr (qbuGt σ α g (α 110) (x1 / 10000) (x1 % 10000)) (σ 86 43)))) (2, ls, [], qw σ2825 α2826 κ ρ, 0, 0) := by
    intro n
    induction n with
    | zero => intro ls u2824 σ2825 α2826 hm g2821 g2822 g2823 hf2835 hI2827 hF2828 hk2829 hk2830 hk2831 hk2832 hk2833 hk2834 hx2836 hx2837 hx2838; exact False.elim (by omega)
    | succ n ih2840 =>
      intro ls u2824 σ2825 α2826 hm g2821 g2822 g2823 hf2835 hI2827 hF2828 hk2829 hk2830 hk2831 hk2832 hk2833 hk2834 hx2836 hx2837 hx2838
      have hs2841 : 0 ≤ σ2825 86 41 ∧ σ2825 86 41 ≤ 1 := hI2827.1 86 41
      refine qr_iload_n 3 rfl g2823 rfl ?_
      refine qr_aload_n 4 rfl g2821 rfl ?_
      refine qr_get 7 rfl rfl rfl (by decide) rfl ?_
      refine qy_v (σ 86 43) ((hk2833).trans rfl) ?_
      refine qr_icmp_ge 51 10 rfl rfl rfl (qrg hf2835 (by decide) (by decide)) (qrg hz86_43 (by decide) (by decide)) (fun h2842 => ?_) (fun h2842 => ?_)
      · skip
        refine qr_iconst 52 rfl rfl ?_
        refine qr_retZ rfl rfl (Or.inl rfl) (by decide) (by decide) ?_
        exact ⟨_, _, rfl, hI2827, hF2828, (by have hw : σ2825 86 41 = (σ2825 86 41) := rfl; omega), 0, rfl, (by decide), (Or.inr ⟨rfl, (by have hz := hx2836; rw [show u2824 = σ 86 43 by omega] at hz; exact hz)⟩)⟩
      · skip
        refine qr_iconst 11 rfl rfl ?_
        refine qr_istore_n _ 12 rfl (by decide) rfl rfl ?_
        have hL3142 : ∀ (n : Nat) (ls : qm_L) (u3127 : Int) (σ3128 α3129 : Nat → Nat → Int), 11 - u3127 < (n : Int) → qm_get ls 0 = some (.ref 86) → qm_get ls 1 = some (.int (qz x1)) → qm_get ls 2 = some (.int (qz u2824)) → qm_get ls 3 = some (.int (qz u3127)) → (0 ≤ u3127 ∧ u3127 ≤ 11) → qI σ3128 α3129 κ ρ → qFr [(86, 15), (86, 23), (86, 30), (86, 35), (86, 36), (86, 37), (86, 38), (86, 39), (86, 41)] [96, 109] σ α σ3128 α3129 → σ3128 86 6 = (σ 86 6) → σ3128 86 10 = (σ 86 10) → σ3128 86 24 = (σ 86 24) → σ3128 86 29 = (σ 86 29) → σ3128 86 43 = (σ 86 43) → α3129 110 = (α 110) → qbuTr (qbuGt σ α g (α 110) (x1 / 10000) (x1 % 10000)) u2824 → qbuCl (qbuGt σ α g (α 110) (x1 / 10000) (x1 % 10000)) u2824 u3127 → σ3128 86 41 = 0 → qr_W (qe L xs vb) (d + 48) qx_e240 (fun r w' => ∃ σ' α', w' = qw σ' α' κ ρ ∧ qI σ' α' κ ρ ∧ qFr [(86, 15), (86, 23), (86, 30), (86, 35), (86, 36), (86, 37), (86, 38), (86, 39), (86, 41)] [96, 109] σ α σ' α' ∧ σ' 86 41 = 0 ∧ ∃ v : Int, r = some (.int (qz v)) ∧ (0 ≤ v ∧ v ≤ 1) ∧ ((v = 1 ∧ ¬ qbuTr (qbuGt σ α g (α 110) (x1 / 10000) (x1 % 10000)) (σ 86 43)) ∨ (v = 0 ∧ qbuTr (qbuGt σ α g (α 110) (x1 / 10000) (x1 % 10000)) (σ 86 43)))) (12, ls, [], qw σ3128 α3129 κ ρ, 0, 0) := by
          intro n
          induction n with
          | zero => intro ls u3127 σ3128 α3129 hm g3123 g3124 g3125 g3126 hf3138 hI3130 hF3131 hk3132 hk3133 hk3134 hk3135 hk3136 hk3137 hx3139 hx3140 hx3141; exact False.elim (by omega)
          | succ n ih3143 =>
            intro ls u3127 σ3128 α3129 hm g3123 g3124 g3125 g3126 hf3138 hI3130 hF3131 hk3132 hk3133 hk3134 hk3135 hk3136 hk3137 hx3139 hx3140 hx3141
            have hs3144 : 0 ≤ σ3128 86 41 ∧ σ3128 86 41 ≤ 1 := hI3130.1 86 41
            refine qr_iload_n 13 rfl g3126 rfl ?_
            refine qr_iload_n 14 rfl g3125 rfl ?_
            refine qr_icmp_ge 45 17 rfl rfl rfl (qrg hf3138 (by decide) (by decide)) (qrg hf2835 (by decide) (by decide)) (fun h3145 => ?_) (fun h3145 => ?_)
            · skip
              refine qr_iinc _ 48 rfl g3125 (by decide) rfl rfl ?_
              refine qr_goto 2 rfl rfl ?_
              exact ih2840 _ (u2824 + 1) σ3128 α3129 (by omega) (qm_gk g3123 (by decide) (Or.inl (by decide))) (qm_gk g3124 (by decide) (Or.inr rfl)) (qm_ge _ _ _) (by omega) hI3130 hF3131 ((hk3132).trans rfl) ((hk3133).trans rfl) ((hk3134).trans rfl) ((hk3135).trans rfl) ((hk3136).trans rfl) hk3137 (qbuTr_s (j := u3127) (by omega) hx3140 hx3139) ((rfl).trans hx3141) (by omega)
            · skip
              refine qr_aload_n 18 rfl g3123 rfl ?_
              refine qr_aload_n 19 rfl g3123 rfl ?_
              refine qr_get 22 rfl rfl rfl (by decide) rfl ?_
              refine qr_iload_n 23 rfl g3126 rfl ?_
              refine qr_iaload 24 rfl rfl (qrgi hf3138 (by decide) (by decide)) (by decide) rfl ?_
              refine qr_topI (fun v3146 hv3146 => ?_)
              have hs3147 : 0 ≤ v3146 ∧ v3146 ≤ 31 := by rw [hv3146]; exact hI3130.2.1 110 _ (show _ < 32 from qrgt hf3138 (by decide) (by decide))
              have hrv3146 : v3146 = (α 110) (u3127 : Int).toNat := hv3146.trans (congrFun hk3137 _)
              refine qr_aload_n 25 rfl g3123 rfl ?_
              refine qr_get 28 rfl rfl rfl (by decide) rfl ?_
              refine qr_iload_n 29 rfl g3125 rfl ?_
              refine qr_iaload 30 rfl rfl (qrgi hf2835 (by decide) (by decide)) (by decide) rfl ?_
              refine qr_topI (fun v3148 hv3148 => ?_)
              have hs3149 : 0 ≤ v3148 ∧ v3148 ≤ 31 := by rw [hv3148]; exact hI3130.2.1 110 _ (show _ < 32 from qrgt hf2835 (by decide) (by decide))
              have hrv3148 : v3148 = (α 110) (u2824 : Int).toNat := hv3148.trans (congrFun hk3137 _)
              have hy1 := p6.1 (u3127 : Int).toNat (by omega)
              have hy2 := p6.1 (u2824 : Int).toNat (by omega)
              have hy3 := p6.2 (u3127 : Int).toNat (u2824 : Int).toNat (by omega) (by omega)
              rw [← hrv3146] at hy1 hy3
              rw [← hrv3148] at hy2 hy3
              refine qr_iload_n 31 rfl g3124 rfl ?_
              have hs3150 : (-9223372036854775808) ≤ σ3128 86 29 ∧ σ3128 86 29 ≤ 9223372036854775807 := hI3130.1 86 29
              have hs3151 : σ3128 86 29 = (σ 86 29) := (hk3135).trans rfl
              have hs3152 : 0 ≤ σ3128 86 41 ∧ σ3128 86 41 ≤ 1 := hI3130.1 86 41
              have hs3153 : 0 ≤ σ3128 86 6 ∧ σ3128 86 6 ≤ 32 := hI3130.1 86 6
              have hs3154 : σ3128 86 6 = (σ 86 6) := (hk3132).trans rfl
              refine qr_callN 34 rfl rfl rfl (sf_232_86x (d := d + 0) hI3130 hs3147 hs3149 r1 (by omega) (qPG_fr hF3131 (by decide) (by decide) p2) (qZf_fr hF3131 (by decide) (by decide) p3) (qZk_fr hF3131 (by decide) (by decide) p7) ((hF3131.1 86 29 (by decide)).trans p8) ((rfl).trans hx3141) (by omega)) ?_
              rintro _ _ ⟨σ3158, α3159, rfl, hI3160, hG3161, hw3157, v3155, rfl, hv3155, hx3156⟩
              have hF3162 : qFr [(86, 15), (86, 23), (86, 30), (86, 35), (86, 36), (86, 37), (86, 38), (86, 39), (86, 41)] [96, 109] σ α σ3158 α3159 := qFr_t hF3131 hG3161 (by decide) (by decide)
              have hs3163 : 0 ≤ σ3158 86 41 ∧ σ3158 86 41 ≤ 1 := hI3160.1 86 41
              show qr_W (qe L xs vb) (d + 48) qx_e240 _ (34, _, [.int (qz v3155)], qw σ3158 α3159 κ ρ, 0, 0)
              rw [qBaM_f4 hF3131 (by decide) (by decide) ((show σ3128 86 41 = σ 86 41 from (((rfl).trans hx3141)).trans p4.symm)), hrv3146, hrv3148] at hx3156
              refine qr_if_eq 39 37 rfl rfl rfl (qrg hv3155 (by decide) (by decide)) (fun h3164 => ?_) (fun h3164 => ?_)
              · skip
                refine qr_iinc _ 42 rfl g3126 (by decide) rfl rfl ?_
                refine qr_goto 12 rfl rfl ?_
                exact ih3143 _ (u3127 + 1) σ3158 α3159 (by omega) (qm_gk g3123 (by decide) (Or.inl (by decide))) (qm_gk g3124 (by decide) (Or.inl (by decide))) (qm_gk g3125 (by decide) (Or.inr rfl)) (qm_ge _ _ _) (by omega) hI3160 hF3162 ((hG3161.1 86 6 (by decide)).trans ((hk3132).trans rfl)) ((hG3161.1 86 10 (by decide)).trans ((hk3133).trans rfl)) ((hG3161.1 86 24 (by decide)).trans ((hk3134).trans rfl)) ((hG3161.1 86 29 (by decide)).trans ((hk3135).trans rfl)) ((hG3161.1 86 43 (by decide)).trans ((hk3136).trans rfl)) ((hG3161.2 110 (by decide)).trans hk3137) hx3139 (qbuCl_s (fun hc => by rcases hx3156 with hz | hz; (omega); (exact hz.2 hc)) hx3140) ((rfl).trans hw3157)
              · skip
                refine qr_iconst 38 rfl rfl ?_
                refine qr_retZ rfl rfl (Or.inr rfl) (by decide) (by decide) ?_
                exact ⟨_, _, rfl, hI3160, hF3162, (by have hw : σ3158 86 41 = (σ3158 86 41) := rfl; omega), 1, rfl, (by decide), (Or.inl ⟨rfl, fun hn => hn u2824 u3127 (by omega) (by omega) (by omega) (by omega) (by rcases hx3156 with hz | hz; (exact hz.2); (omega))⟩)⟩
        exact hL3142 ((11 - 0 + 1 : Int)).toNat _ 0 σ2825 α2826 (by omega) (qm_gk g2821 (by decide) (Or.inl (by decide))) (qm_gk g2822 (by decide) (Or.inl (by decide))) (qm_gk g2823 (by decide) (Or.inr rfl)) (qm_ge _ _ _) (by decide) hI2827 hF2828 ((hk2829).trans rfl) ((hk2830).trans rfl) ((hk2831).trans rfl) ((hk2832).trans rfl) ((hk2833).trans rfl) hk2834 hx2836 qbuCl_0 ((rfl).trans hx2837)
  exact hL2839 ((12 - 0 + 1 : Int)).toNat _ 0 σ α (by omega) rfl rfl rfl (by decide) hI hF0 (rfl) (rfl) (rfl) (rfl) (rfl) rfl qbuTr_0 ((rfl).trans p4) (by omega)

set_option maxHeartbeats 4000000 in
set_option maxRecDepth 20000 in
/-- OneRoofModel.buy -/
theorem sf_239_86x {L : Nat} {xs : Nat → Int} {vb : Bool} {d : Nat} {σ α : Nat → Nat → Int} {κ : Nat → Option Nat} {ρ : Nat} {x1 : Int} {x2 : Int} {x3 : Int} {g : (Nat → Int) → Int} (hI : qI σ α κ ρ) (r1 : (-9223372036854775808) ≤ x1 ∧ x1 ≤ 9223372036854775807) (r2 : (-2147483648) ≤ x2 ∧ x2 ≤ 2147483647) (r3 : (-2147483648) ≤ x3 ∧ x3 ≤ 2147483647) (p0 : qPG σ α 0 g) (p1 : qZf σ α) (p2 : qZk σ α) (p3 : σ 86 29 = 0) (p4 : ∀ p : Nat, p < 32 → 0 ≤ α 92 p ∧ α 92 p ≤ 99) (p5 : σ 86 41 = 0) (p6 : σ 86 22 = 0) (p7 : ∀ f : Nat, (f : Int) < σ 86 16 → 0 ≤ α 101 f ∧ α 101 f ≤ 999) : qm_T (qe L xs vb) (d + 50) 239 [.ref 86, .long (ql x1), .int (qz x2), .int (qz x3)] (qw σ α κ ρ) (fun r w' => ∃ σ' α', w' = qw σ' α' κ ρ ∧ qI σ' α' κ ρ ∧ qFr [(86, 15), (86, 22), (86, 23), (86, 30), (86, 35), (86, 36), (86, 37), (86, 38), (86, 39), (86, 41), (86, 43)] [96, 109, 110, 113] σ α σ' α' ∧ σ' 86 41 = 0 ∧ σ' 86 22 = 0 ∧ ∃ v : Int, r = some (.long (ql v)) ∧ ((-9223372036854775808) ≤ v ∧ v ≤ 9223372036854775807) ∧ ((v = -1 ∧ ¬ (0 ≤ x2 ∧ x2 / 10000 ≤ x2 % 10000 ∧ x2 % 10000 ≤ 2399 ∧ x2 % 10000 - x2 / 10000 < 48 ∧ (x3 = 0 ∨ x3 = 1) ∧ qst x1 (σ 86 6) ∧ 1 ≤ qsm (fun k : Nat => qbit (ql_and x1 (ql_xor (σ 86 10) (-1))) (k : Int)) (σ 86 6 : Int).toNat ∧ qsm (fun k : Nat => qbit (ql_and x1 (ql_xor (σ 86 10) (-1))) (k : Int)) (σ 86 6 : Int).toNat ≤ 12)) ∨ ((0 ≤ x2 ∧ x2 / 10000 ≤ x2 % 10000 ∧ x2 % 10000 ≤ 2399 ∧ x2 % 10000 - x2 / 10000 < 48 ∧ (x3 = 0 ∨ x3 = 1) ∧ qst x1 (σ 86 6) ∧ 1 ≤ qsm (fun k : Nat => qbit (ql_and x1 (ql_xor (σ 86 10) (-1))) (k : Int)) (σ 86 6 : Int).toNat ∧ qsm (fun k : Nat => qbit (ql_and x1 (ql_xor (σ 86 10) (-1))) (k : Int)) (σ 86 6 : Int).toNat ≤ 12) ∧ qLs (α' 110) (σ' 86 43) (qBr (fun k : Nat => qbit (ql_and x1 (ql_xor (σ 86 10) (-1))) (k : Int)) (σ 86 6 : Int).toNat) ∧ qbuRm σ α g (α' 110) (α' 113) (σ' 86 43) (x2 / 10000) (x2 % 10000) x3 v))) := by
  refine qr_start (d := d + 49) qv_e239 (Nat.le_of_ble_eq_true rfl) ?_
  show qr_W (qe L xs vb) (d + 49) qx_e239 _ (0, [(0, .ref 86), (1, .long (ql x1)), (3, .int (qz x2)), (4, .int (qz x3))], [], _, 0, 0)
  have hF0 := qFr_rf [(86, 15), (86, 22), (86, 23), (86, 30), (86, 35), (86, 36), (86, 37), (86, 38), (86, 39), (86, 41), (86, 43)] [96, 109, 110, 113] σ α
  have hz86_29 : (-9223372036854775808) ≤ σ 86 29 ∧ σ 86 29 ≤ 9223372036854775807 := hI.1 86 29
  have hz86_41 : 0 ≤ σ 86 41 ∧ σ 86 41 ≤ 1 := hI.1 86 41
  have hz86_22 : (-9223372036854775808) ≤ σ 86 22 ∧ σ 86 22 ≤ 9223372036854775807 := hI.1 86 22
  have hz86_16 : 0 ≤ σ 86 16 ∧ σ 86 16 ≤ 40 := hI.1 86 16
  have hz86_6 : 0 ≤ σ 86 6 ∧ σ 86 6 ≤ 32 := hI.1 86 6
  have hz86_10 : (-9223372036854775808) ≤ σ 86 10 ∧ σ 86 10 ≤ 9223372036854775807 := hI.1 86 10
  have hz86_24 : 0 ≤ σ 86 24 ∧ σ 86 24 ≤ 60 := hI.1 86 24
  have hz86_43 : 0 ≤ σ 86 43 ∧ σ 86 43 ≤ 32 := hI.1 86 43
  refine qr_iload_n 1 rfl rfl rfl ?_
  refine qr_callN 4 rfl rfl rfl (sf_230 (d := d + 46) hI r2) ?_
  rintro _ _ ⟨rfl, v1, rfl, hv1, hp2⟩
  show qr_W (qe L xs vb) (d + 49) qx_e239 _ (4, _, [.int (qz v1)], qw σ α κ ρ, 0, 0)
  refine qr_if_eq 28 7 rfl rfl rfl (qrg hv1 (by decide) (by decide)) (fun h3 => ?_) (fun h3 => ?_)
  · skip
    refine qr_ldc2 (-1) 31 rfl (by decide) rfl ?_
    refine qr_retL rfl rfl (by decide) (by decide) ?_
    exact ⟨_, _, rfl, hI, hF0, (by have hw : σ 86 41 = (σ 86 41) := rfl; omega), (by have hw : σ 86 22 = (σ 86 22) := rfl; omega), (-1), rfl, (by decide), (Or.inl ⟨rfl, (fun hc => by obtain ⟨c1, c2, c3, c4, c5, c6, c7, c8⟩ := hc; first | omega)⟩)⟩
  · skip
    refine qr_iload 9 rfl rfl rfl ?_
    refine qr_i2l 10 rfl r3 rfl ?_
    refine qr_lconst 11 rfl rfl ?_
    refine qy_vl 0 rfl ?_
    refine qr_lconst 12 rfl rfl ?_
    refine qy_vl 1 rfl ?_
    refine qr_callN 15 rfl rfl rfl (sf_176 (d := d + 48) hI (qrg r3 (by decide) (by decide)) (by decide) (by decide)) ?_
    rintro _ _ ⟨rfl, v4, rfl, hv4, hp5⟩
    show qr_W (qe L xs vb) (d + 49) qx_e239 _ (15, _, [.int (qz v4)], qw σ α κ ρ, 0, 0)
    refine qr_if_eq 28 18 rfl rfl rfl (qrg hv4 (by decide) (by decide)) (fun h6 => ?_) (fun h6 => ?_)
    · skip
      refine qr_ldc2 (-1) 31 rfl (by decide) rfl ?_
      refine qr_retL rfl rfl (by decide) (by decide) ?_
      exact ⟨_, _, rfl, hI, hF0, (by have hw : σ 86 41 = (σ 86 41) := rfl; omega), (by have hw : σ 86 22 = (σ 86 22) := rfl; omega), (-1), rfl, (by decide), (Or.inl ⟨rfl, (fun hc => by obtain ⟨c1, c2, c3, c4, c5, c6, c7, c8⟩ := hc; first | omega)⟩)⟩
    · skip
      refine qr_aload_n 19 rfl rfl rfl ?_
      refine qr_lload_n 20 rfl rfl rfl ?_
      refine qr_bipush 22 rfl (by decide) rfl ?_
      refine qr_callN 25 rfl rfl rfl (sf_234_86x (d := d + 47) hI r1 (by decide)) ?_
      have hs10 : 0 ≤ σ 86 6 ∧ σ 86 6 ≤ 32 := hI.1 86 6
      rintro _ _ ⟨σ11, α12, rfl, hI13, hG14, v7, rfl, hv7, hp8, hx9⟩
      have hF15 : qFr [(86, 15), (86, 22), (86, 23), (86, 30), (86, 35), (86, 36), (86, 37), (86, 38), (86, 39), (86, 41), (86, 43)] [96, 109, 110, 113] σ α σ11 α12 := qFr_t hF0 hG14 (by decide) (by decide)
      have hs16 : 0 ≤ σ11 86 43 ∧ σ11 86 43 ≤ 32 := hI13.1 86 43
      show qr_W (qe L xs vb) (d + 49) qx_e239 _ (25, _, [.int (qz v7)], qw σ11 α12 κ ρ, 0, 0)
      refine qr_if_ne 32 28 rfl rfl rfl (qrg hv7 (by decide) (by decide)) (fun h17 => ?_) (fun h17 => ?_)
      · skip
        rcases id hx9 with hq | ⟨_, hc18, hc19⟩
        · exact absurd hq.1 (by omega)
        have hc19_ := qSr_of (by omega) hc19
        refine qr_iconst 33 rfl rfl ?_
        refine qr_istore _ 35 rfl (by decide) rfl rfl ?_
        refine qr_iconst 36 rfl rfl ?_
        refine qr_istore _ 38 rfl (by decide) rfl rfl ?_
        have hL939894 : ∀ (n : Nat) (ls : qm_L) (u939881 u939883 : Int) (α939885 : Nat → Nat → Int), 40 - u939883 < (n : Int) → qm_get ls 0 = some (.ref 86) → qm_get ls 3 = some (.int (qz x2)) → qm_get ls 4 = some (.int (qz x3)) → qm_get ls 5 = some (.int (qz u939881)) → qm_get ls 6 = some (.int (qz u939883)) → (0 ≤ u939881 ∧ u939881 ≤ 10) → (0 ≤ u939883 ∧ u939883 ≤ 40) → qI σ11 α939885 κ ρ → qFr [(86, 15), (86, 22), (86, 23), (86, 30), (86, 35), (86, 36), (86, 37), (86, 38), (86, 39), (86, 41), (86, 43)] [96, 109, 110, 113] σ α σ11 α939885 → α939885 110 = (α12 110) → qLs (α939885 113) u939881 ((qBr (qbuQ (qsh (α 87) 32) (x2 / 10000)) (u939883 : Int).toNat).take 10) → (0 ≤ u939881 ∧ u939881 ≤ 10) → u939883 ≤ σ 86 16 → qr_W (qe L xs vb) (d + 49) qx_e239 (fun r w' => ∃ σ' α', w' = qw σ' α' κ ρ ∧ qI σ' α' κ ρ ∧ qFr [(86, 15), (86, 22), (86, 23), (86, 30), (86, 35), (86, 36), (86, 37), (86, 38), (86, 39), (86, 41), (86, 43)] [96, 109, 110, 113] σ α σ' α' ∧ σ' 86 41 = 0 ∧ σ' 86 22 = 0 ∧ ∃ v : Int, r = some (.long (ql v)) ∧ ((-9223372036854775808) ≤ v ∧ v ≤ 9223372036854775807) ∧ ((v = -1 ∧ ¬ (0 ≤ x2 ∧ x2 / 10000 ≤ x2 % 10000 ∧ x2 % 10000 ≤ 2399 ∧ x2 % 10000 - x2 / 10000 < 48 ∧ (x3 = 0 ∨ x3 = 1) ∧ qst x1 (σ 86 6) ∧ 1 ≤ qsm (fun k : Nat => qbit (ql_and x1 (ql_xor (σ 86 10) (-1))) (k : Int)) (σ 86 6 : Int).toNat ∧ qsm (fun k : Nat => qbit (ql_and x1 (ql_xor (σ 86 10) (-1))) (k : Int)) (σ 86 6 : Int).toNat ≤ 12)) ∨ ((0 ≤ x2 ∧ x2 / 10000 ≤ x2 % 10000 ∧ x2 % 10000 ≤ 2399 ∧ x2 % 10000 - x2 / 10000 < 48 ∧ (x3 = 0 ∨ x3 = 1) ∧ qst x1 (σ 86 6) ∧ 1 ≤ qsm (fun k : Nat => qbit (ql_and x1 (ql_xor (σ 86 10) (-1))) (k : Int)) (σ 86 6 : Int).toNat ∧ qsm (fun k : Nat => qbit (ql_and x1 (ql_xor (σ 86 10) (-1))) (k : Int)) (σ 86 6 : Int).toNat ≤ 12) ∧ qLs (α' 110) (σ' 86 43) (qBr (fun k : Nat => qbit (ql_and x1 (ql_xor (σ 86 10) (-1))) (k : Int)) (σ 86 6 : Int).toNat) ∧ qbuRm σ α g (α' 110) (α' 113) (σ' 86 43) (x2 / 10000) (x2 % 10000) x3 v))) (38, ls, [], qw σ11 α939885 κ ρ, 0, 0) := by
          intro n
          induction n with
          | zero => intro ls u939881 u939883 α939885 hm g939877 g939878 g939879 g939880 g939882 hf939889 hf939890 hI939886 hF939887 hk939888 hx939891 hx939892 hx939893; exact False.elim (by omega)
          | succ n ih939895 =>
            intro ls u939881 u939883 α939885 hm g939877 g939878 g939879 g939880 g939882 hf939889 hf939890 hI939886 hF939887 hk939888 hx939891 hx939892 hx939893
            refine qr_iload 40 rfl g939882 rfl ?_
            refine qr_aload_n 41 rfl g939877 rfl ?_
            refine qr_get 44 rfl rfl rfl (by decide) rfl ?_
            refine qy_v (σ 86 16) ((hG14.1 86 16 (by decide)).trans rfl) ?_
            refine qr_icmp_ge 106 47 rfl rfl rfl (qrg hf939890 (by decide) (by decide)) (qrg hz86_16 (by decide) (by decide)) (fun h939896 => ?_) (fun h939896 => ?_)
            · skip
              have hos939897 := qbu_le (n := σ 86 16) (by omega) (by omega) (by omega) hx939891
              have hos939897r := qbu_sr (by omega) hos939897
              have hsh := qshl_r (n := u939881) (by omega)
              refine qr_iconst 107 rfl rfl ?_
              refine qr_istore _ 109 rfl (by decide) rfl rfl ?_
              refine qr_iconst 110 rfl rfl ?_
              refine qr_istore _ 112 rfl (by decide) rfl rfl ?_
              refine qr_lconst 113 rfl rfl ?_
              refine qy_vl 0 rfl ?_
              refine qr_lstore _ 115 rfl (by decide) rfl rfl ?_
              refine qr_iconst 116 rfl rfl ?_
              refine qr_istore _ 118 rfl (by decide) rfl rfl ?_
              have hL977708 : ∀ (n : Nat) (ls : qm_L) (u977681 u977683 u977685 u977687 : Int) (σ977688 α977689 : Nat → Nat → Int), 1024 - u977687 < (n : Int) → qm_get ls 0 = some (.ref 86) → qm_get ls 3 = some (.int (qz x2)) → qm_get ls 4 = some (.int (qz x3)) → qm_get ls 5 = some (.int (qz u939881)) → qm_get ls 6 = some (.int (qz u977681)) → qm_get ls 7 = some (.int (qz u977683)) → qm_get ls 8 = some (.long (ql u977685)) → qm_get ls 10 = some (.int (qz u977687)) → ((-1) ≤ u977681 ∧ u977681 ≤ 1023) → ((-2147483648) ≤ u977683 ∧ u977683 ≤ 2147483647) → ((-9223372036854775808) ≤ u977685 ∧ u977685 ≤ 9223372036854775807) → (0 ≤ u977687 ∧ u977687 ≤ 1024) → qI σ977688 α977689 κ ρ → qFr [(86, 15), (86, 22), (86, 23), (86, 30), (86, 35), (86, 36), (86, 37), (86, 38), (86, 39), (86, 41), (86, 43)] [96, 109, 110, 113] σ α σ977688 α977689 → σ977688 86 6 = (σ 86 6) → σ977688 86 10 = (σ 86 10) → σ977688 86 16 = (σ 86 16) → σ977688 86 24 = (σ 86 24) → σ977688 86 29 = (σ 86 29) → σ977688 86 43 = (σ11 86 43) → α977689 110 = (α12 110) → α977689 113 = (α939885 113) → qmB (qbuD (qbuGM σ α g (α12 110) (σ11 86 43) (x2 / 10000) (x2 % 10000)) (α939885 113) (u939881 : Int).toNat) (qbuK (α 101) (α939885 113) (u939881 : Int).toNat) u977687 u977681 → (u977681 = -1 ∨ (0 ≤ u977681 ∧ u977681 < u977687 ∧ u977683 = qbuT (α 101) (α939885 113) u977681 (u939881 : Int).toNat ∧ u977685 = qap (α939885 113) u977681 (u939881 : Int).toNat)) → u977687 ≤ qz_shl 1 u939881 → σ977688 86 41 = 0 → qr_W (qe L xs vb) (d + 49) qx_e239 (fun r w' => ∃ σ' α', w' = qw σ' α' κ ρ ∧ qI σ' α' κ ρ ∧ qFr [(86, 15), (86, 22), (86, 23), (86, 30), (86, 35), (86, 36), (86, 37), (86, 38), (86, 39), (86, 41), (86, 43)] [96, 109, 110, 113] σ α σ' α' ∧ σ' 86 41 = 0 ∧ σ' 86 22 = 0 ∧ ∃ v : Int, r = some (.long (ql v)) ∧ ((-9223372036854775808) ≤ v ∧ v ≤ 9223372036854775807) ∧ ((v = -1 ∧ ¬ (0 ≤ x2 ∧ x2 / 10000 ≤ x2 % 10000 ∧ x2 % 10000 ≤ 2399 ∧ x2 % 10000 - x2 / 10000 < 48 ∧ (x3 = 0 ∨ x3 = 1) ∧ qst x1 (σ 86 6) ∧ 1 ≤ qsm (fun k : Nat => qbit (ql_and x1 (ql_xor (σ 86 10) (-1))) (k : Int)) (σ 86 6 : Int).toNat ∧ qsm (fun k : Nat => qbit (ql_and x1 (ql_xor (σ 86 10) (-1))) (k : Int)) (σ 86 6 : Int).toNat ≤ 12)) ∨ ((0 ≤ x2 ∧ x2 / 10000 ≤ x2 % 10000 ∧ x2 % 10000 ≤ 2399 ∧ x2 % 10000 - x2 / 10000 < 48 ∧ (x3 = 0 ∨ x3 = 1) ∧ qst x1 (σ 86 6) ∧ 1 ≤ qsm (fun k : Nat => qbit (ql_and x1 (ql_xor (σ 86 10) (-1))) (k : Int)) (σ 86 6 : Int).toNat ∧ qsm (fun k : Nat => qbit (ql_and x1 (ql_xor (σ 86 10) (-1))) (k : Int)) (σ 86 6 : Int).toNat ≤ 12) ∧ qLs (α' 110) (σ' 86 43) (qBr (fun k : Nat => qbit (ql_and x1 (ql_xor (σ 86 10) (-1))) (k : Int)) (σ 86 6 : Int).toNat) ∧ qbuRm σ α g (α' 110) (α' 113) (σ' 86 43) (x2 / 10000) (x2 % 10000) x3 v))) (118, ls, [], qw σ977688 α977689 κ ρ, 0, 0) := by
                intro n
                induction n with
                | zero => intro ls u977681 u977683 u977685 u977687 σ977688 α977689 hm g977676 g977677 g977678 g977679 g977680 g977682 g977684 g977686 hf977700 hf977701 hf977702 hf977703 hI977690 hF977691 hk977692 hk977693 hk977694 hk977695 hk977696 hk977697 hk977698 hk977699 hx977704 hx977705 hx977706 hx977707; exact False.elim (by omega)
                | succ n ih977709 =>
                  intro ls u977681 u977683 u977685 u977687 σ977688 α977689 hm g977676 g977677 g977678 g977679 g977680 g977682 g977684 g977686 hf977700 hf977701 hf977702 hf977703 hI977690 hF977691 hk977692 hk977693 hk977694 hk977695 hk977696 hk977697 hk977698 hk977699 hx977704 hx977705 hx977706 hx977707
                  have hs977710 : 0 ≤ σ977688 86 41 ∧ σ977688 86 41 ≤ 1 := hI977690.1 86 41
                  have hs977711 : (-9223372036854775808) ≤ σ977688 86 22 ∧ σ977688 86 22 ≤ 9223372036854775807 := hI977690.1 86 22
                  refine qr_iload 120 rfl g977686 rfl ?_
                  refine qr_iconst 121 rfl rfl ?_
                  refine qr_iload 123 rfl g977679 rfl ?_
                  refine qr_ishl 124 rfl rfl ?_
                  refine qy_shl1E (N := 10) (by omega) (fun v977712 hv977712 hev977712 => ?_)
                  refine qr_icmp_ge 269 127 rfl rfl rfl (qrg hf977703 (by decide) (by decide)) (by omega) (fun h977713 => ?_) (fun h977713 => ?_)
                  · skip
                    refine qr_aload_n 270 rfl g977676 rfl ?_
                    refine qr_lconst 271 rfl rfl ?_
                    refine qy_vl 0 rfl ?_
                    refine qr_put 274 rfl (by decide) rfl (Nat.le_of_ble_eq_true rfl) (Nat.le_of_ble_eq_true rfl) (Or.inl rfl) (qr_fitL rfl _) rfl ?_
                    refine qy_wS (qw_s σ977688 86 22 0) rfl (fun σ977714 e977715 => ?_)
                    have hI977716 : qI σ977714 α977689 κ ρ := by rw [e977715]; exact qI_s hI977690 86 22 rfl (show (-9223372036854775808) ≤ 0 ∧ 0 ≤ 9223372036854775807 by omega)
                    have hF977717 : qFr [(86, 15), (86, 22), (86, 23), (86, 30), (86, 35), (86, 36), (86, 37), (86, 38), (86, 39), (86, 41), (86, 43)] [96, 109, 110, 113] σ α σ977714 α977689 := by rw [e977715]; exact qFr_s hF977691 86 22 _ (by decide)
                    refine qr_iload 276 rfl g977680 rfl ?_
                    refine qr_if_ge 285 279 rfl rfl rfl (qrg hf977700 (by decide) (by decide)) (fun h977718 => ?_) (fun h977718 => ?_)
                    · skip
                      refine qr_iload 287 rfl g977678 rfl ?_
                      refine qr_if_ne 296 290 rfl rfl rfl r3 (fun h977719 => ?_) (fun h977719 => ?_)
                      · skip
                        refine qr_lload 298 rfl g977684 rfl ?_
                        refine qr_retL rfl rfl (by decide) (by decide) ?_
                        exact ⟨_, _, rfl, hI977716, hF977717, (by have hw : σ977714 86 41 = (σ977688 86 41) := (congrFun (congrFun e977715 86) 41).trans rfl; omega), (by have hw : σ977714 86 22 = 0 := (congrFun (congrFun e977715 86) 22).trans rfl; omega), u977685, rfl, hf977702, (Or.inr ⟨⟨by omega, by omega, by omega, by omega, by omega, hc18⟩, (by rw [show α977689 110 = α12 110 from hk977698, show σ977714 86 43 = σ11 86 43 from (congrFun (congrFun e977715 86) 43).trans ((hk977697).trans rfl)]; exact hc19), (by rw [show α977689 110 = α12 110 from hk977698, show σ977714 86 43 = σ11 86 43 from (congrFun (congrFun e977715 86) 43).trans ((hk977697).trans rfl), show α977689 113 = α939885 113 from hk977699]; exact ⟨u939881, ⟨by omega, by omega⟩, hos939897, u977681, (by have hz := hx977704; rw [show u977687 = qz_shl 1 u939881 by omega] at hz; exact hz), Or.inr ⟨by omega, Or.inr ⟨by omega, by omega⟩⟩⟩)⟩)⟩
                      · skip
                        refine qr_iload 292 rfl g977682 rfl ?_
                        refine qr_i2l 293 rfl hf977701 rfl ?_
                        refine qr_goto 298 rfl rfl ?_
                        refine qr_retL rfl rfl (by decide) (by decide) ?_
                        exact ⟨_, _, rfl, hI977716, hF977717, (by have hw : σ977714 86 41 = (σ977688 86 41) := (congrFun (congrFun e977715 86) 41).trans rfl; omega), (by have hw : σ977714 86 22 = 0 := (congrFun (congrFun e977715 86) 22).trans rfl; omega), u977683, rfl, (qrg hf977701 (by decide) (by decide)), (Or.inr ⟨⟨by omega, by omega, by omega, by omega, by omega, hc18⟩, (by rw [show α977689 110 = α12 110 from hk977698, show σ977714 86 43 = σ11 86 43 from (congrFun (congrFun e977715 86) 43).trans ((hk977697).trans rfl)]; exact hc19), (by rw [show α977689 110 = α12 110 from hk977698, show σ977714 86 43 = σ11 86 43 from (congrFun (congrFun e977715 86) 43).trans ((hk977697).trans rfl), show α977689 113 = α939885 113 from hk977699]; exact ⟨u939881, ⟨by omega, by omega⟩, hos939897, u977681, (by have hz := hx977704; rw [show u977687 = qz_shl 1 u939881 by omega] at hz; exact hz), Or.inr ⟨by omega, Or.inl ⟨by omega, by omega⟩⟩⟩)⟩)⟩
                    · skip
                      refine qr_ldc2 (-2) 282 rfl (by decide) rfl ?_
                      refine qr_goto 298 rfl rfl ?_
                      refine qr_retL rfl rfl (by decide) (by decide) ?_
                      exact ⟨_, _, rfl, hI977716, hF977717, (by have hw : σ977714 86 41 = (σ977688 86 41) := (congrFun (congrFun e977715 86) 41).trans rfl; omega), (by have hw : σ977714 86 22 = 0 := (congrFun (congrFun e977715 86) 22).trans rfl; omega), (-2), rfl, (by decide), (Or.inr ⟨⟨by omega, by omega, by omega, by omega, by omega, hc18⟩, (by rw [show α977689 110 = α12 110 from hk977698, show σ977714 86 43 = σ11 86 43 from (congrFun (congrFun e977715 86) 43).trans ((hk977697).trans rfl)]; exact hc19), (by rw [show α977689 110 = α12 110 from hk977698, show σ977714 86 43 = σ11 86 43 from (congrFun (congrFun e977715 86) 43).trans ((hk977697).trans rfl), show α977689 113 = α939885 113 from hk977699]; exact ⟨u939881, ⟨by omega, by omega⟩, hos939897, u977681, (by have hz := hx977704; rw [show u977687 = qz_shl 1 u939881 by omega] at hz; exact hz), Or.inl ⟨by omega, rfl⟩⟩)⟩)⟩
                  · skip
                    refine qr_iconst 128 rfl rfl ?_
                    refine qr_istore _ 130 rfl (by decide) rfl rfl ?_
                    refine qr_aload_n 131 rfl (qm_gk g977676 (by decide) (Or.inl (by decide))) rfl ?_
                    refine qr_lconst 132 rfl rfl ?_
                    refine qy_vl 0 rfl ?_
                    refine qr_put 135 rfl (by decide) rfl (Nat.le_of_ble_eq_true rfl) (Nat.le_of_ble_eq_true rfl) (Or.inl rfl) (qr_fitL rfl _) rfl ?_
                    refine qy_wS (qw_s σ977688 86 22 0) rfl (fun σ977720 e977721 => ?_)
                    have hI977722 : qI σ977720 α977689 κ ρ := by rw [e977721]; exact qI_s hI977690 86 22 rfl (show (-9223372036854775808) ≤ 0 ∧ 0 ≤ 9223372036854775807 by omega)
                    have hF977723 : qFr [(86, 15), (86, 22), (86, 23), (86, 30), (86, 35), (86, 36), (86, 37), (86, 38), (86, 39), (86, 41), (86, 43)] [96, 109, 110, 113] σ α σ977720 α977689 := by rw [e977721]; exact qFr_s hF977691 86 22 _ (by decide)
                    refine qr_iconst 136 rfl rfl ?_
                    refine qr_istore _ 138 rfl (by decide) rfl rfl ?_
                    have hL978601 : ∀ (n : Nat) (ls : qm_L) (u978582 u978584 : Int) (σ978585 : Nat → Nat → Int), 10 - u978584 < (n : Int) → qm_get ls 0 = some (.ref 86) → qm_get ls 3 = some (.int (qz x2)) → qm_get ls 4 = some (.int (qz x3)) → qm_get ls 5 = some (.int (qz u939881)) → qm_get ls 6 = some (.int (qz u977681)) → qm_get ls 7 = some (.int (qz u977683)) → qm_get ls 8 = some (.long (ql u977685)) → qm_get ls 10 = some (.int (qz u977687)) → qm_get ls 11 = some (.int (qz u978582)) → qm_get ls 12 = some (.int (qz u978584)) → ((-2147483648) ≤ u978582 ∧ u978582 ≤ 2147483647) → (0 ≤ u978584 ∧ u978584 ≤ 10) → qI σ978585 α977689 κ ρ → qFr [(86, 15), (86, 22), (86, 23), (86, 30), (86, 35), (86, 36), (86, 37), (86, 38), (86, 39), (86, 41), (86, 43)] [96, 109, 110, 113] σ α σ978585 α977689 → σ978585 86 6 = (σ 86 6) → σ978585 86 10 = (σ 86 10) → σ978585 86 16 = (σ 86 16) → σ978585 86 24 = (σ 86 24) → σ978585 86 29 = (σ 86 29) → σ978585 86 41 = (σ977688 86 41) → σ978585 86 43 = (σ11 86 43) → (u978582 = qbuT (α 101) (α939885 113) u977687 (u978584 : Int).toNat ∧ 0 ≤ u978582 ∧ u978582 ≤ 999 * u978584) → σ978585 86 22 = qap (α939885 113) u977687 (u978584 : Int).toNat → u978584 ≤ u939881 → qr_W (qe L xs vb) (d + 49) qx_e239 (fun r w' => ∃ σ' α', w' = qw σ' α' κ ρ ∧ qI σ' α' κ ρ ∧ qFr [(86, 15), (86, 22), (86, 23), (86, 30), (86, 35), (86, 36), (86, 37), (86, 38), (86, 39), (86, 41), (86, 43)] [96, 109, 110, 113] σ α σ' α' ∧ σ' 86 41 = 0 ∧ σ' 86 22 = 0 ∧ ∃ v : Int, r = some (.long (ql v)) ∧ ((-9223372036854775808) ≤ v ∧ v ≤ 9223372036854775807) ∧ ((v = -1 ∧ ¬ (0 ≤ x2 ∧ x2 / 10000 ≤ x2 % 10000 ∧ x2 % 10000 ≤ 2399 ∧ x2 % 10000 - x2 / 10000 < 48 ∧ (x3 = 0 ∨ x3 = 1) ∧ qst x1 (σ 86 6) ∧ 1 ≤ qsm (fun k : Nat => qbit (ql_and x1 (ql_xor (σ 86 10) (-1))) (k : Int)) (σ 86 6 : Int).toNat ∧ qsm (fun k : Nat => qbit (ql_and x1 (ql_xor (σ 86 10) (-1))) (k : Int)) (σ 86 6 : Int).toNat ≤ 12)) ∨ ((0 ≤ x2 ∧ x2 / 10000 ≤ x2 % 10000 ∧ x2 % 10000 ≤ 2399 ∧ x2 % 10000 - x2 / 10000 < 48 ∧ (x3 = 0 ∨ x3 = 1) ∧ qst x1 (σ 86 6) ∧ 1 ≤ qsm (fun k : Nat => qbit (ql_and x1 (ql_xor (σ 86 10) (-1))) (k : Int)) (σ 86 6 : Int).toNat ∧ qsm (fun k : Nat => qbit (ql_and x1 (ql_xor (σ 86 10) (-1))) (k : Int)) (σ 86 6 : Int).toNat ≤ 12) ∧ qLs (α' 110) (σ' 86 43) (qBr (fun k : Nat => qbit (ql_and x1 (ql_xor (σ 86 10) (-1))) (k : Int)) (σ 86 6 : Int).toNat) ∧ qbuRm σ α g (α' 110) (α' 113) (σ' 86 43) (x2 / 10000) (x2 % 10000) x3 v))) (138, ls, [], qw σ978585 α977689 κ ρ, 0, 0) := by
                      intro n
                      induction n with
                      | zero => intro ls u978582 u978584 σ978585 hm g978573 g978574 g978575 g978576 g978577 g978578 g978579 g978580 g978581 g978583 hf978596 hf978597 hI978587 hF978588 hk978589 hk978590 hk978591 hk978592 hk978593 hk978594 hk978595 hx978598 hx978599 hx978600; exact False.elim (by omega)
                      | succ n ih978602 =>
                        intro ls u978582 u978584 σ978585 hm g978573 g978574 g978575 g978576 g978577 g978578 g978579 g978580 g978581 g978583 hf978596 hf978597 hI978587 hF978588 hk978589 hk978590 hk978591 hk978592 hk978593 hk978594 hk978595 hx978598 hx978599 hx978600
                        have hs978603 : (-9223372036854775808) ≤ σ978585 86 22 ∧ σ978585 86 22 ≤ 9223372036854775807 := hI978587.1 86 22
                        refine qr_iload 140 rfl g978583 rfl ?_
                        refine qr_iload 142 rfl g978576 rfl ?_
                        refine qr_icmp_ge 197 145 rfl rfl rfl (qrg hf978597 (by decide) (by decide)) (qrg hf939889 (by decide) (by decide)) (fun h978604 => ?_) (fun h978604 => ?_)
                        · skip
                          have hT978605 : u978582 = qbuT (α 101) (α939885 113) u977687 (u939881 : Int).toNat := by have hz := hx978598.1; rw [show u978584 = u939881 by omega] at hz; exact hz
                          have hA978606 : σ978585 86 22 = qap (α939885 113) u977687 (u939881 : Int).toNat := by have hz := hx978599; rw [show u978584 = u939881 by omega] at hz; exact hz
                          refine qr_iload 199 rfl g978577 rfl ?_
                          refine qr_if_lt 229 202 rfl rfl rfl (qrg hf977700 (by decide) (by decide)) (fun h978607 => ?_) (fun h978607 => ?_)
                          · skip
                            refine qr_iconst 230 rfl rfl ?_
                            refine qr_goto 234 rfl rfl ?_
                            refine qr_istore _ 236 rfl (by decide) rfl rfl ?_
                            refine qr_iload 238 rfl (qm_ge _ _ _) rfl ?_
                            refine qr_if_eq 263 241 rfl rfl rfl (by decide) (fun h => False.elim (by omega)) (fun h978608 => ?_)
                            refine qr_aload_n 242 rfl (qm_gk g978573 (by decide) (Or.inl (by decide))) rfl ?_
                            refine qr_iload_n 243 rfl (qm_gk g978574 (by decide) (Or.inl (by decide))) rfl ?_
                            have hs978609 : (-9223372036854775808) ≤ σ978585 86 29 ∧ σ978585 86 29 ≤ 9223372036854775807 := hI978587.1 86 29
                            have hs978610 : σ978585 86 29 = (σ 86 29) := (hk978593).trans rfl
                            have hs978611 : 0 ≤ σ978585 86 41 ∧ σ978585 86 41 ≤ 1 := hI978587.1 86 41
                            have hs978612 : σ978585 86 41 = (σ977688 86 41) := (hk978594).trans rfl
                            have hs978613 : 0 ≤ σ978585 86 43 ∧ σ978585 86 43 ≤ 32 := hI978587.1 86 43
                            have hs978614 : σ978585 86 43 = (σ11 86 43) := (hk978595).trans rfl
                            have hs978615 : 0 ≤ σ978585 86 6 ∧ σ978585 86 6 ≤ 32 := hI978587.1 86 6
                            have hs978616 : σ978585 86 6 = (σ 86 6) := (hk978589).trans rfl
                            refine qr_callN 246 rfl rfl rfl (sf_240_86x (d := d + 0) hI978587 (by omega) (by omega) (by omega) (qPG_fr hF978588 (by decide) (by decide) p0) (qZf_fr hF978588 (by decide) (by decide) p1) (((hk978594).trans rfl).trans hx977707) (fun p hp => by rw [hF978588.2 92 (by decide)]; exact p4 p hp) (by rw [show α977689 110 = α12 110 from hk977698, show σ978585 86 43 = σ11 86 43 from (hk978595).trans rfl, show σ978585 86 6 = σ 86 6 from hF978588.1 86 6 (by decide)]; exact hc19_) (qZk_fr hF978588 (by decide) (by decide) p2) ((hF978588.1 86 29 (by decide)).trans p3)) ?_
                            rintro _ _ ⟨σ978620, α978621, rfl, hI978622, hG978623, hw978619, v978617, rfl, hv978617, hx978618⟩
                            have hF978624 : qFr [(86, 15), (86, 22), (86, 23), (86, 30), (86, 35), (86, 36), (86, 37), (86, 38), (86, 39), (86, 41), (86, 43)] [96, 109, 110, 113] σ α σ978620 α978621 := qFr_t hF978588 hG978623 (by decide) (by decide)
                            have hs978625 : 0 ≤ σ978620 86 41 ∧ σ978620 86 41 ≤ 1 := hI978622.1 86 41
                            show qr_W (qe L xs vb) (d + 49) qx_e239 _ (246, _, [.int (qz v978617)], qw σ978620 α978621 κ ρ, 0, 0)
                            rw [qbuGt_fr hF978588 (by decide) (by decide) (((((hk978594).trans rfl).trans hx977707)).trans p5.symm) hA978606, show α977689 110 = α12 110 from hk977698, show σ978585 86 43 = σ11 86 43 from (hk978595).trans rfl, qbuGM_tr] at hx978618
                            refine qr_if_ne 263 249 rfl rfl rfl (qrg hv978617 (by decide) (by decide)) (fun h978626 => ?_) (fun h978626 => ?_)
                            · skip
                              refine qr_iinc _ 266 rfl (qm_gk g978580 (by decide) (Or.inl (by decide))) (by decide) rfl rfl ?_
                              refine qr_goto 118 rfl rfl ?_
                              exact ih977709 _ u977681 u977683 u977685 (u977687 + 1) σ978620 α978621 (by omega) (qm_gk (qm_gk g978573 (by decide) (Or.inl (by decide))) (by decide) (Or.inl (by decide))) (qm_gk (qm_gk g978574 (by decide) (Or.inl (by decide))) (by decide) (Or.inl (by decide))) (qm_gk (qm_gk g978575 (by decide) (Or.inl (by decide))) (by decide) (Or.inl (by decide))) (qm_gk (qm_gk g978576 (by decide) (Or.inl (by decide))) (by decide) (Or.inl (by decide))) (qm_gk (qm_gk g978577 (by decide) (Or.inl (by decide))) (by decide) (Or.inl (by decide))) (qm_gk (qm_gk g978578 (by decide) (Or.inl (by decide))) (by decide) (Or.inl (by decide))) (qm_gk (qm_gk g978579 (by decide) (Or.inl (by decide))) (by decide) (Or.inl (by decide))) (qm_ge _ _ _) hf977700 hf977701 hf977702 (by omega) hI978622 hF978624 ((hG978623.1 86 6 (by decide)).trans ((hk978589).trans rfl)) ((hG978623.1 86 10 (by decide)).trans ((hk978590).trans rfl)) ((hG978623.1 86 16 (by decide)).trans ((hk978591).trans rfl)) ((hG978623.1 86 24 (by decide)).trans ((hk978592).trans rfl)) ((hG978623.1 86 29 (by decide)).trans ((hk978593).trans rfl)) ((hG978623.1 86 43 (by decide)).trans ((hk978595).trans rfl)) ((hG978623.2 110 (by decide)).trans hk977698) ((hG978623.2 113 (by decide)).trans hk977699) (qmB_no (fun hd => by rcases hx978618 with hz | hz; (exact hz.2 hd); (omega)) hx977704) (by omega) (by omega) ((rfl).trans hw978619)
                            · skip
                              refine qr_iload 251 rfl (qm_gk g978580 (by decide) (Or.inl (by decide))) rfl ?_
                              refine qr_istore _ 253 rfl (by decide) rfl rfl ?_
                              refine qr_iload 255 rfl (qm_gk (qm_gk g978581 (by decide) (Or.inr rfl)) (by decide) (Or.inl (by decide))) rfl ?_
                              refine qr_istore _ 257 rfl (by decide) rfl rfl ?_
                              refine qr_aload_n 258 rfl (qm_gk (qm_gk (qm_gk g978573 (by decide) (Or.inl (by decide))) (by decide) (Or.inl (by decide))) (by decide) (Or.inl (by decide))) rfl ?_
                              refine qr_get 261 rfl rfl rfl (by decide) rfl ?_
                              refine qy_vl (σ978585 86 22) ((hG978623.1 86 22 (by decide)).trans rfl) ?_
                              refine qr_lstore _ 263 rfl (by decide) rfl rfl ?_
                              refine qr_iinc _ 266 rfl (qm_gk2 (qm_gk (qm_gk (qm_gk g978580 (by decide) (Or.inl (by decide))) (by decide) (Or.inl (by decide))) (by decide) (Or.inl (by decide))) (by decide) (by decide) (Or.inl (by decide))) (by decide) rfl rfl ?_
                              refine qr_goto 118 rfl rfl ?_
                              exact ih977709 _ u977687 u978582 (σ978585 86 22) (u977687 + 1) σ978620 α978621 (by omega) (qm_gk (qm_gk2 (qm_gk (qm_gk (qm_gk g978573 (by decide) (Or.inl (by decide))) (by decide) (Or.inl (by decide))) (by decide) (Or.inl (by decide))) (by decide) (by decide) (Or.inl (by decide))) (by decide) (Or.inl (by decide))) (qm_gk (qm_gk2 (qm_gk (qm_gk (qm_gk g978574 (by decide) (Or.inl (by decide))) (by decide) (Or.inl (by decide))) (by decide) (Or.inl (by decide))) (by decide) (by decide) (Or.inl (by decide))) (by decide) (Or.inl (by decide))) (qm_gk (qm_gk2 (qm_gk (qm_gk (qm_gk g978575 (by decide) (Or.inl (by decide))) (by decide) (Or.inl (by decide))) (by decide) (Or.inl (by decide))) (by decide) (by decide) (Or.inl (by decide))) (by decide) (Or.inl (by decide))) (qm_gk (qm_gk2 (qm_gk (qm_gk (qm_gk g978576 (by decide) (Or.inl (by decide))) (by decide) (Or.inr rfl)) (by decide) (Or.inl (by decide))) (by decide) (by decide) (Or.inl (by decide))) (by decide) (Or.inl (by decide))) (qm_gk (qm_gk2 (qm_gk (qm_ge _ _ _) (by decide) (Or.inr rfl)) (by decide) (by decide) (Or.inl (by decide))) (by decide) (Or.inl (by decide))) (qm_gk (qm_gk2 (qm_ge _ _ _) (by decide) (by decide) (Or.inr rfl)) (by decide) (Or.inl (by decide))) (qm_gk (qm_ge2 _ _ _) (by decide) (Or.inl (by decide))) (qm_ge _ _ _) (by omega) hf978596 (by omega) (by omega) hI978622 hF978624 ((hG978623.1 86 6 (by decide)).trans ((hk978589).trans rfl)) ((hG978623.1 86 10 (by decide)).trans ((hk978590).trans rfl)) ((hG978623.1 86 16 (by decide)).trans ((hk978591).trans rfl)) ((hG978623.1 86 24 (by decide)).trans ((hk978592).trans rfl)) ((hG978623.1 86 29 (by decide)).trans ((hk978593).trans rfl)) ((hG978623.1 86 43 (by decide)).trans ((hk978595).trans rfl)) ((hG978623.2 110 (by decide)).trans hk977698) ((hG978623.2 113 (by decide)).trans hk977699) (qbu_hi (by omega) (show (qbuD (qbuGM σ α g (α12 110) (σ11 86 43) (x2 / 10000) (x2 % 10000)) (α939885 113) (u939881 : Int).toNat) u977687 by rcases hx978618 with hz | hz; (omega); (exact hz.2)) (Or.inl (by omega)) hx977704) (Or.inr ⟨by omega, by omega, hT978605, hA978606⟩) (by omega) ((rfl).trans hw978619)
                          · skip
                            refine qr_iload 204 rfl g978581 rfl ?_
                            refine qr_iload 206 rfl g978578 rfl ?_
                            refine qr_icmp_lt 229 209 rfl rfl rfl hf978596 hf977701 (fun h978627 => ?_) (fun h978627 => ?_)
                            · skip
                              refine qr_iconst 230 rfl rfl ?_
                              refine qr_goto 234 rfl rfl ?_
                              refine qr_istore _ 236 rfl (by decide) rfl rfl ?_
                              refine qr_iload 238 rfl (qm_ge _ _ _) rfl ?_
                              refine qr_if_eq 263 241 rfl rfl rfl (by decide) (fun h => False.elim (by omega)) (fun h978628 => ?_)
                              refine qr_aload_n 242 rfl (qm_gk g978573 (by decide) (Or.inl (by decide))) rfl ?_
                              refine qr_iload_n 243 rfl (qm_gk g978574 (by decide) (Or.inl (by decide))) rfl ?_
                              have hs978629 : (-9223372036854775808) ≤ σ978585 86 29 ∧ σ978585 86 29 ≤ 9223372036854775807 := hI978587.1 86 29
                              have hs978630 : σ978585 86 29 = (σ 86 29) := (hk978593).trans rfl
                              have hs978631 : 0 ≤ σ978585 86 41 ∧ σ978585 86 41 ≤ 1 := hI978587.1 86 41
                              have hs978632 : σ978585 86 41 = (σ977688 86 41) := (hk978594).trans rfl
                              have hs978633 : 0 ≤ σ978585 86 43 ∧ σ978585 86 43 ≤ 32 := hI978587.1 86 43
                              have hs978634 : σ978585 86 43 = (σ11 86 43) := (hk978595).trans rfl
                              have hs978635 : 0 ≤ σ978585 86 6 ∧ σ978585 86 6 ≤ 32 := hI978587.1 86 6
                              have hs978636 : σ978585 86 6 = (σ 86 6) := (hk978589).trans rfl
                              refine qr_callN 246 rfl rfl rfl (sf_240_86x (d := d + 0) hI978587 (by omega) (by omega) (by omega) (qPG_fr hF978588 (by decide) (by decide) p0) (qZf_fr hF978588 (by decide) (by decide) p1) (((hk978594).trans rfl).trans hx977707) (fun p hp => by rw [hF978588.2 92 (by decide)]; exact p4 p hp) (by rw [show α977689 110 = α12 110 from hk977698, show σ978585 86 43 = σ11 86 43 from (hk978595).trans rfl, show σ978585 86 6 = σ 86 6 from hF978588.1 86 6 (by decide)]; exact hc19_) (qZk_fr hF978588 (by decide) (by decide) p2) ((hF978588.1 86 29 (by decide)).trans p3)) ?_
                              rintro _ _ ⟨σ978640, α978641, rfl, hI978642, hG978643, hw978639, v978637, rfl, hv978637, hx978638⟩
                              have hF978644 : qFr [(86, 15), (86, 22), (86, 23), (86, 30), (86, 35), (86, 36), (86, 37), (86, 38), (86, 39), (86, 41), (86, 43)] [96, 109, 110, 113] σ α σ978640 α978641 := qFr_t hF978588 hG978643 (by decide) (by decide)
                              have hs978645 : 0 ≤ σ978640 86 41 ∧ σ978640 86 41 ≤ 1 := hI978642.1 86 41
                              show qr_W (qe L xs vb) (d + 49) qx_e239 _ (246, _, [.int (qz v978637)], qw σ978640 α978641 κ ρ, 0, 0)
                              rw [qbuGt_fr hF978588 (by decide) (by decide) (((((hk978594).trans rfl).trans hx977707)).trans p5.symm) hA978606, show α977689 110 = α12 110 from hk977698, show σ978585 86 43 = σ11 86 43 from (hk978595).trans rfl, qbuGM_tr] at hx978638
                              refine qr_if_ne 263 249 rfl rfl rfl (qrg hv978637 (by decide) (by decide)) (fun h978646 => ?_) (fun h978646 => ?_)
                              · skip
                                refine qr_iinc _ 266 rfl (qm_gk g978580 (by decide) (Or.inl (by decide))) (by decide) rfl rfl ?_
                                refine qr_goto 118 rfl rfl ?_
                                exact ih977709 _ u977681 u977683 u977685 (u977687 + 1) σ978640 α978641 (by omega) (qm_gk (qm_gk g978573 (by decide) (Or.inl (by decide))) (by decide) (Or.inl (by decide))) (qm_gk (qm_gk g978574 (by decide) (Or.inl (by decide))) (by decide) (Or.inl (by decide))) (qm_gk (qm_gk g978575 (by decide) (Or.inl (by decide))) (by decide) (Or.inl (by decide))) (qm_gk (qm_gk g978576 (by decide) (Or.inl (by decide))) (by decide) (Or.inl (by decide))) (qm_gk (qm_gk g978577 (by decide) (Or.inl (by decide))) (by decide) (Or.inl (by decide))) (qm_gk (qm_gk g978578 (by decide) (Or.inl (by decide))) (by decide) (Or.inl (by decide))) (qm_gk (qm_gk g978579 (by decide) (Or.inl (by decide))) (by decide) (Or.inl (by decide))) (qm_ge _ _ _) hf977700 hf977701 hf977702 (by omega) hI978642 hF978644 ((hG978643.1 86 6 (by decide)).trans ((hk978589).trans rfl)) ((hG978643.1 86 10 (by decide)).trans ((hk978590).trans rfl)) ((hG978643.1 86 16 (by decide)).trans ((hk978591).trans rfl)) ((hG978643.1 86 24 (by decide)).trans ((hk978592).trans rfl)) ((hG978643.1 86 29 (by decide)).trans ((hk978593).trans rfl)) ((hG978643.1 86 43 (by decide)).trans ((hk978595).trans rfl)) ((hG978643.2 110 (by decide)).trans hk977698) ((hG978643.2 113 (by decide)).trans hk977699) (qmB_no (fun hd => by rcases hx978638 with hz | hz; (exact hz.2 hd); (omega)) hx977704) (by omega) (by omega) ((rfl).trans hw978639)
                              · skip
                                refine qr_iload 251 rfl (qm_gk g978580 (by decide) (Or.inl (by decide))) rfl ?_
                                refine qr_istore _ 253 rfl (by decide) rfl rfl ?_
                                refine qr_iload 255 rfl (qm_gk (qm_gk g978581 (by decide) (Or.inr rfl)) (by decide) (Or.inl (by decide))) rfl ?_
                                refine qr_istore _ 257 rfl (by decide) rfl rfl ?_
                                refine qr_aload_n 258 rfl (qm_gk (qm_gk (qm_gk g978573 (by decide) (Or.inl (by decide))) (by decide) (Or.inl (by decide))) (by decide) (Or.inl (by decide))) rfl ?_
                                refine qr_get 261 rfl rfl rfl (by decide) rfl ?_
                                refine qy_vl (σ978585 86 22) ((hG978643.1 86 22 (by decide)).trans rfl) ?_
                                refine qr_lstore _ 263 rfl (by decide) rfl rfl ?_
                                refine qr_iinc _ 266 rfl (qm_gk2 (qm_gk (qm_gk (qm_gk g978580 (by decide) (Or.inl (by decide))) (by decide) (Or.inl (by decide))) (by decide) (Or.inl (by decide))) (by decide) (by decide) (Or.inl (by decide))) (by decide) rfl rfl ?_
                                refine qr_goto 118 rfl rfl ?_
                                exact ih977709 _ u977687 u978582 (σ978585 86 22) (u977687 + 1) σ978640 α978641 (by omega) (qm_gk (qm_gk2 (qm_gk (qm_gk (qm_gk g978573 (by decide) (Or.inl (by decide))) (by decide) (Or.inl (by decide))) (by decide) (Or.inl (by decide))) (by decide) (by decide) (Or.inl (by decide))) (by decide) (Or.inl (by decide))) (qm_gk (qm_gk2 (qm_gk (qm_gk (qm_gk g978574 (by decide) (Or.inl (by decide))) (by decide) (Or.inl (by decide))) (by decide) (Or.inl (by decide))) (by decide) (by decide) (Or.inl (by decide))) (by decide) (Or.inl (by decide))) (qm_gk (qm_gk2 (qm_gk (qm_gk (qm_gk g978575 (by decide) (Or.inl (by decide))) (by decide) (Or.inl (by decide))) (by decide) (Or.inl (by decide))) (by decide) (by decide) (Or.inl (by decide))) (by decide) (Or.inl (by decide))) (qm_gk (qm_gk2 (qm_gk (qm_gk (qm_gk g978576 (by decide) (Or.inl (by decide))) (by decide) (Or.inr rfl)) (by decide) (Or.inl (by decide))) (by decide) (by decide) (Or.inl (by decide))) (by decide) (Or.inl (by decide))) (qm_gk (qm_gk2 (qm_gk (qm_ge _ _ _) (by decide) (Or.inr rfl)) (by decide) (by decide) (Or.inl (by decide))) (by decide) (Or.inl (by decide))) (qm_gk (qm_gk2 (qm_ge _ _ _) (by decide) (by decide) (Or.inr rfl)) (by decide) (Or.inl (by decide))) (qm_gk (qm_ge2 _ _ _) (by decide) (Or.inl (by decide))) (qm_ge _ _ _) (by omega) hf978596 (by omega) (by omega) hI978642 hF978644 ((hG978643.1 86 6 (by decide)).trans ((hk978589).trans rfl)) ((hG978643.1 86 10 (by decide)).trans ((hk978590).trans rfl)) ((hG978643.1 86 16 (by decide)).trans ((hk978591).trans rfl)) ((hG978643.1 86 24 (by decide)).trans ((hk978592).trans rfl)) ((hG978643.1 86 29 (by decide)).trans ((hk978593).trans rfl)) ((hG978643.1 86 43 (by decide)).trans ((hk978595).trans rfl)) ((hG978643.2 110 (by decide)).trans hk977698) ((hG978643.2 113 (by decide)).trans hk977699) (qbu_hi (by omega) (show (qbuD (qbuGM σ α g (α12 110) (σ11 86 43) (x2 / 10000) (x2 % 10000)) (α939885 113) (u939881 : Int).toNat) u977687 by rcases hx978638 with hz | hz; (omega); (exact hz.2)) (Or.inr (by have ka : (qbuK (α 101) (α939885 113) (u939881 : Int).toNat) u977687 = -(qbuT (α 101) (α939885 113) u977687 (u939881 : Int).toNat * 16 + qpn u977687) := rfl; have kb : (qbuK (α 101) (α939885 113) (u939881 : Int).toNat) u977681 = -(qbuT (α 101) (α939885 113) u977681 (u939881 : Int).toNat * 16 + qpn u977681) := rfl; have kc := qpn_r (x := u977687) (by omega); have kd := qpn_r (x := u977681) (by omega); omega)) hx977704) (Or.inr ⟨by omega, by omega, hT978605, hA978606⟩) (by omega) ((rfl).trans hw978639)
                            · skip
                              refine qr_iload 211 rfl g978581 rfl ?_
                              refine qr_iload 213 rfl g978578 rfl ?_
                              refine qr_icmp_ne 233 216 rfl rfl rfl hf978596 hf977701 (fun h978647 => ?_) (fun h978647 => ?_)
                              · skip
                                refine qr_iconst 234 rfl rfl ?_
                                refine qr_istore _ 236 rfl (by decide) rfl rfl ?_
                                refine qr_iload 238 rfl (qm_ge _ _ _) rfl ?_
                                refine qr_if_eq 263 241 rfl rfl rfl (by decide) (fun h978648 => ?_) (fun h => False.elim (by omega))
                                refine qr_iinc _ 266 rfl (qm_gk g978580 (by decide) (Or.inl (by decide))) (by decide) rfl rfl ?_
                                refine qr_goto 118 rfl rfl ?_
                                exact ih977709 _ u977681 u977683 u977685 (u977687 + 1) σ978585 α977689 (by omega) (qm_gk (qm_gk g978573 (by decide) (Or.inl (by decide))) (by decide) (Or.inl (by decide))) (qm_gk (qm_gk g978574 (by decide) (Or.inl (by decide))) (by decide) (Or.inl (by decide))) (qm_gk (qm_gk g978575 (by decide) (Or.inl (by decide))) (by decide) (Or.inl (by decide))) (qm_gk (qm_gk g978576 (by decide) (Or.inl (by decide))) (by decide) (Or.inl (by decide))) (qm_gk (qm_gk g978577 (by decide) (Or.inl (by decide))) (by decide) (Or.inl (by decide))) (qm_gk (qm_gk g978578 (by decide) (Or.inl (by decide))) (by decide) (Or.inl (by decide))) (qm_gk (qm_gk g978579 (by decide) (Or.inl (by decide))) (by decide) (Or.inl (by decide))) (qm_ge _ _ _) hf977700 hf977701 hf977702 (by omega) hI978587 hF978588 ((hk978589).trans rfl) ((hk978590).trans rfl) ((hk978591).trans rfl) ((hk978592).trans rfl) ((hk978593).trans rfl) ((hk978595).trans rfl) hk977698 hk977699 (qmB_lo (by omega) (by have ka : (qbuK (α 101) (α939885 113) (u939881 : Int).toNat) u977687 = -(qbuT (α 101) (α939885 113) u977687 (u939881 : Int).toNat * 16 + qpn u977687) := rfl; have kb : (qbuK (α 101) (α939885 113) (u939881 : Int).toNat) u977681 = -(qbuT (α 101) (α939885 113) u977681 (u939881 : Int).toNat * 16 + qpn u977681) := rfl; have kc := qpn_r (x := u977687) (by omega); have kd := qpn_r (x := u977681) (by omega); omega) hx977704) (by omega) (by omega) (((hk978594).trans rfl).trans hx977707)
                              · skip
                                refine qr_iload 218 rfl g978580 rfl ?_
                                refine qr_callN 221 rfl rfl rfl (sf_236x (d := d + 48) hI978587 (qrg hf977703 (by decide) (by decide))) ?_
                                rintro _ _ ⟨rfl, v978649, rfl, hv978649, hp978650⟩
                                show qr_W (qe L xs vb) (d + 49) qx_e239 _ (221, _, [.int (qz v978649)], qw σ978585 α977689 κ ρ, 0, 0)
                                refine qr_iload 223 rfl g978577 rfl ?_
                                refine qr_callN 226 rfl rfl rfl (sf_236x (d := d + 48) hI978587 (by omega)) ?_
                                rintro _ _ ⟨rfl, v978651, rfl, hv978651, hp978652⟩
                                show qr_W (qe L xs vb) (d + 49) qx_e239 _ (226, _, [.int (qz v978651), .int (qz v978649)], qw σ978585 α977689 κ ρ, 0, 0)
                                refine qr_icmp_ge 233 229 rfl rfl rfl hv978649 hv978651 (fun h978653 => ?_) (fun h978653 => ?_)
                                · skip
                                  refine qr_iconst 234 rfl rfl ?_
                                  refine qr_istore _ 236 rfl (by decide) rfl rfl ?_
                                  refine qr_iload 238 rfl (qm_ge _ _ _) rfl ?_
                                  refine qr_if_eq 263 241 rfl rfl rfl (by decide) (fun h978654 => ?_) (fun h => False.elim (by omega))
                                  refine qr_iinc _ 266 rfl (qm_gk g978580 (by decide) (Or.inl (by decide))) (by decide) rfl rfl ?_
                                  refine qr_goto 118 rfl rfl ?_
                                  exact ih977709 _ u977681 u977683 u977685 (u977687 + 1) σ978585 α977689 (by omega) (qm_gk (qm_gk g978573 (by decide) (Or.inl (by decide))) (by decide) (Or.inl (by decide))) (qm_gk (qm_gk g978574 (by decide) (Or.inl (by decide))) (by decide) (Or.inl (by decide))) (qm_gk (qm_gk g978575 (by decide) (Or.inl (by decide))) (by decide) (Or.inl (by decide))) (qm_gk (qm_gk g978576 (by decide) (Or.inl (by decide))) (by decide) (Or.inl (by decide))) (qm_gk (qm_gk g978577 (by decide) (Or.inl (by decide))) (by decide) (Or.inl (by decide))) (qm_gk (qm_gk g978578 (by decide) (Or.inl (by decide))) (by decide) (Or.inl (by decide))) (qm_gk (qm_gk g978579 (by decide) (Or.inl (by decide))) (by decide) (Or.inl (by decide))) (qm_ge _ _ _) hf977700 hf977701 hf977702 (by omega) hI978587 hF978588 ((hk978589).trans rfl) ((hk978590).trans rfl) ((hk978591).trans rfl) ((hk978592).trans rfl) ((hk978593).trans rfl) ((hk978595).trans rfl) hk977698 hk977699 (qmB_lo (by omega) (by have ka : (qbuK (α 101) (α939885 113) (u939881 : Int).toNat) u977687 = -(qbuT (α 101) (α939885 113) u977687 (u939881 : Int).toNat * 16 + qpn u977687) := rfl; have kb : (qbuK (α 101) (α939885 113) (u939881 : Int).toNat) u977681 = -(qbuT (α 101) (α939885 113) u977681 (u939881 : Int).toNat * 16 + qpn u977681) := rfl; have kc := qpn_r (x := u977687) (by omega); have kd := qpn_r (x := u977681) (by omega); omega) hx977704) (by omega) (by omega) (((hk978594).trans rfl).trans hx977707)
                                · skip
                                  refine qr_iconst 230 rfl rfl ?_
                                  refine qr_goto 234 rfl rfl ?_
                                  refine qr_istore _ 236 rfl (by decide) rfl rfl ?_
                                  refine qr_iload 238 rfl (qm_ge _ _ _) rfl ?_
                                  refine qr_if_eq 263 241 rfl rfl rfl (by decide) (fun h => False.elim (by omega)) (fun h978655 => ?_)
                                  refine qr_aload_n 242 rfl (qm_gk g978573 (by decide) (Or.inl (by decide))) rfl ?_
                                  refine qr_iload_n 243 rfl (qm_gk g978574 (by decide) (Or.inl (by decide))) rfl ?_
                                  have hs978656 : (-9223372036854775808) ≤ σ978585 86 29 ∧ σ978585 86 29 ≤ 9223372036854775807 := hI978587.1 86 29
                                  have hs978657 : σ978585 86 29 = (σ 86 29) := (hk978593).trans rfl
                                  have hs978658 : 0 ≤ σ978585 86 41 ∧ σ978585 86 41 ≤ 1 := hI978587.1 86 41
                                  have hs978659 : σ978585 86 41 = (σ977688 86 41) := (hk978594).trans rfl
                                  have hs978660 : 0 ≤ σ978585 86 43 ∧ σ978585 86 43 ≤ 32 := hI978587.1 86 43
                                  have hs978661 : σ978585 86 43 = (σ11 86 43) := (hk978595).trans rfl
                                  have hs978662 : 0 ≤ σ978585 86 6 ∧ σ978585 86 6 ≤ 32 := hI978587.1 86 6
                                  have hs978663 : σ978585 86 6 = (σ 86 6) := (hk978589).trans rfl
                                  refine qr_callN 246 rfl rfl rfl (sf_240_86x (d := d + 0) hI978587 (by omega) (by omega) (by omega) (qPG_fr hF978588 (by decide) (by decide) p0) (qZf_fr hF978588 (by decide) (by decide) p1) (((hk978594).trans rfl).trans hx977707) (fun p hp => by rw [hF978588.2 92 (by decide)]; exact p4 p hp) (by rw [show α977689 110 = α12 110 from hk977698, show σ978585 86 43 = σ11 86 43 from (hk978595).trans rfl, show σ978585 86 6 = σ 86 6 from hF978588.1 86 6 (by decide)]; exact hc19_) (qZk_fr hF978588 (by decide) (by decide) p2) ((hF978588.1 86 29 (by decide)).trans p3)) ?_
                                  rintro _ _ ⟨σ978667, α978668, rfl, hI978669, hG978670, hw978666, v978664, rfl, hv978664, hx978665⟩
                                  have hF978671 : qFr [(86, 15), (86, 22), (86, 23), (86, 30), (86, 35), (86, 36), (86, 37), (86, 38), (86, 39), (86, 41), (86, 43)] [96, 109, 110, 113] σ α σ978667 α978668 := qFr_t hF978588 hG978670 (by decide) (by decide)
                                  have hs978672 : 0 ≤ σ978667 86 41 ∧ σ978667 86 41 ≤ 1 := hI978669.1 86 41
                                  show qr_W (qe L xs vb) (d + 49) qx_e239 _ (246, _, [.int (qz v978664)], qw σ978667 α978668 κ ρ, 0, 0)
                                  rw [qbuGt_fr hF978588 (by decide) (by decide) (((((hk978594).trans rfl).trans hx977707)).trans p5.symm) hA978606, show α977689 110 = α12 110 from hk977698, show σ978585 86 43 = σ11 86 43 from (hk978595).trans rfl, qbuGM_tr] at hx978665
                                  refine qr_if_ne 263 249 rfl rfl rfl (qrg hv978664 (by decide) (by decide)) (fun h978673 => ?_) (fun h978673 => ?_)
                                  · skip
                                    refine qr_iinc _ 266 rfl (qm_gk g978580 (by decide) (Or.inl (by decide))) (by decide) rfl rfl ?_
                                    refine qr_goto 118 rfl rfl ?_
                                    exact ih977709 _ u977681 u977683 u977685 (u977687 + 1) σ978667 α978668 (by omega) (qm_gk (qm_gk g978573 (by decide) (Or.inl (by decide))) (by decide) (Or.inl (by decide))) (qm_gk (qm_gk g978574 (by decide) (Or.inl (by decide))) (by decide) (Or.inl (by decide))) (qm_gk (qm_gk g978575 (by decide) (Or.inl (by decide))) (by decide) (Or.inl (by decide))) (qm_gk (qm_gk g978576 (by decide) (Or.inl (by decide))) (by decide) (Or.inl (by decide))) (qm_gk (qm_gk g978577 (by decide) (Or.inl (by decide))) (by decide) (Or.inl (by decide))) (qm_gk (qm_gk g978578 (by decide) (Or.inl (by decide))) (by decide) (Or.inl (by decide))) (qm_gk (qm_gk g978579 (by decide) (Or.inl (by decide))) (by decide) (Or.inl (by decide))) (qm_ge _ _ _) hf977700 hf977701 hf977702 (by omega) hI978669 hF978671 ((hG978670.1 86 6 (by decide)).trans ((hk978589).trans rfl)) ((hG978670.1 86 10 (by decide)).trans ((hk978590).trans rfl)) ((hG978670.1 86 16 (by decide)).trans ((hk978591).trans rfl)) ((hG978670.1 86 24 (by decide)).trans ((hk978592).trans rfl)) ((hG978670.1 86 29 (by decide)).trans ((hk978593).trans rfl)) ((hG978670.1 86 43 (by decide)).trans ((hk978595).trans rfl)) ((hG978670.2 110 (by decide)).trans hk977698) ((hG978670.2 113 (by decide)).trans hk977699) (qmB_no (fun hd => by rcases hx978665 with hz | hz; (exact hz.2 hd); (omega)) hx977704) (by omega) (by omega) ((rfl).trans hw978666)
                                  · skip
                                    refine qr_iload 251 rfl (qm_gk g978580 (by decide) (Or.inl (by decide))) rfl ?_
                                    refine qr_istore _ 253 rfl (by decide) rfl rfl ?_
                                    refine qr_iload 255 rfl (qm_gk (qm_gk g978581 (by decide) (Or.inr rfl)) (by decide) (Or.inl (by decide))) rfl ?_
                                    refine qr_istore _ 257 rfl (by decide) rfl rfl ?_
                                    refine qr_aload_n 258 rfl (qm_gk (qm_gk (qm_gk g978573 (by decide) (Or.inl (by decide))) (by decide) (Or.inl (by decide))) (by decide) (Or.inl (by decide))) rfl ?_
                                    refine qr_get 261 rfl rfl rfl (by decide) rfl ?_
                                    refine qy_vl (σ978585 86 22) ((hG978670.1 86 22 (by decide)).trans rfl) ?_
                                    refine qr_lstore _ 263 rfl (by decide) rfl rfl ?_
                                    refine qr_iinc _ 266 rfl (qm_gk2 (qm_gk (qm_gk (qm_gk g978580 (by decide) (Or.inl (by decide))) (by decide) (Or.inl (by decide))) (by decide) (Or.inl (by decide))) (by decide) (by decide) (Or.inl (by decide))) (by decide) rfl rfl ?_
                                    refine qr_goto 118 rfl rfl ?_
                                    exact ih977709 _ u977687 u978582 (σ978585 86 22) (u977687 + 1) σ978667 α978668 (by omega) (qm_gk (qm_gk2 (qm_gk (qm_gk (qm_gk g978573 (by decide) (Or.inl (by decide))) (by decide) (Or.inl (by decide))) (by decide) (Or.inl (by decide))) (by decide) (by decide) (Or.inl (by decide))) (by decide) (Or.inl (by decide))) (qm_gk (qm_gk2 (qm_gk (qm_gk (qm_gk g978574 (by decide) (Or.inl (by decide))) (by decide) (Or.inl (by decide))) (by decide) (Or.inl (by decide))) (by decide) (by decide) (Or.inl (by decide))) (by decide) (Or.inl (by decide))) (qm_gk (qm_gk2 (qm_gk (qm_gk (qm_gk g978575 (by decide) (Or.inl (by decide))) (by decide) (Or.inl (by decide))) (by decide) (Or.inl (by decide))) (by decide) (by decide) (Or.inl (by decide))) (by decide) (Or.inl (by decide))) (qm_gk (qm_gk2 (qm_gk (qm_gk (qm_gk g978576 (by decide) (Or.inl (by decide))) (by decide) (Or.inr rfl)) (by decide) (Or.inl (by decide))) (by decide) (by decide) (Or.inl (by decide))) (by decide) (Or.inl (by decide))) (qm_gk (qm_gk2 (qm_gk (qm_ge _ _ _) (by decide) (Or.inr rfl)) (by decide) (by decide) (Or.inl (by decide))) (by decide) (Or.inl (by decide))) (qm_gk (qm_gk2 (qm_ge _ _ _) (by decide) (by decide) (Or.inr rfl)) (by decide) (Or.inl (by decide))) (qm_gk (qm_ge2 _ _ _) (by decide) (Or.inl (by decide))) (qm_ge _ _ _) (by omega) hf978596 (by omega) (by omega) hI978669 hF978671 ((hG978670.1 86 6 (by decide)).trans ((hk978589).trans rfl)) ((hG978670.1 86 10 (by decide)).trans ((hk978590).trans rfl)) ((hG978670.1 86 16 (by decide)).trans ((hk978591).trans rfl)) ((hG978670.1 86 24 (by decide)).trans ((hk978592).trans rfl)) ((hG978670.1 86 29 (by decide)).trans ((hk978593).trans rfl)) ((hG978670.1 86 43 (by decide)).trans ((hk978595).trans rfl)) ((hG978670.2 110 (by decide)).trans hk977698) ((hG978670.2 113 (by decide)).trans hk977699) (qbu_hi (by omega) (show (qbuD (qbuGM σ α g (α12 110) (σ11 86 43) (x2 / 10000) (x2 % 10000)) (α939885 113) (u939881 : Int).toNat) u977687 by rcases hx978665 with hz | hz; (omega); (exact hz.2)) (Or.inr (by have ka : (qbuK (α 101) (α939885 113) (u939881 : Int).toNat) u977687 = -(qbuT (α 101) (α939885 113) u977687 (u939881 : Int).toNat * 16 + qpn u977687) := rfl; have kb : (qbuK (α 101) (α939885 113) (u939881 : Int).toNat) u977681 = -(qbuT (α 101) (α939885 113) u977681 (u939881 : Int).toNat * 16 + qpn u977681) := rfl; have kc := qpn_r (x := u977687) (by omega); have kd := qpn_r (x := u977681) (by omega); omega)) hx977704) (Or.inr ⟨by omega, by omega, hT978605, hA978606⟩) (by omega) ((rfl).trans hw978666)
                        · skip
                          refine qr_iload 147 rfl g978580 rfl ?_
                          refine qr_iload 149 rfl g978583 rfl ?_
                          refine qr_ishr 150 rfl rfl ?_
                          refine qy_canE (fun v978674 hv978674 hev978674 => ?_)
                          refine qr_iconst 151 rfl rfl ?_
                          refine qr_iand 152 rfl rfl ?_
                          refine qy_andrE (by omega) (fun v978675 hv978675 hev978675 => ?_)
                          refine qr_iconst 153 rfl rfl ?_
                          refine qr_icmp_ne 191 156 rfl rfl rfl (by omega) (by decide) (fun h978676 => ?_) (fun h978676 => ?_)
                          · skip
                            refine qr_iinc _ 194 rfl g978583 (by decide) rfl rfl ?_
                            refine qr_goto 138 rfl rfl ?_
                            exact ih978602 _ u978582 (u978584 + 1) σ978585 (by omega) (qm_gk g978573 (by decide) (Or.inl (by decide))) (qm_gk g978574 (by decide) (Or.inl (by decide))) (qm_gk g978575 (by decide) (Or.inl (by decide))) (qm_gk g978576 (by decide) (Or.inl (by decide))) (qm_gk g978577 (by decide) (Or.inl (by decide))) (qm_gk g978578 (by decide) (Or.inl (by decide))) (qm_gk g978579 (by decide) (Or.inl (by decide))) (qm_gk g978580 (by decide) (Or.inl (by decide))) (qm_gk g978581 (by decide) (Or.inr rfl)) (qm_ge _ _ _) hf978596 (by omega) hI978587 hF978588 ((hk978589).trans rfl) ((hk978590).trans rfl) ((hk978591).trans rfl) ((hk978592).trans rfl) ((hk978593).trans rfl) ((hk978594).trans rfl) ((hk978595).trans rfl) (by have hq0 := hx978598; have hq1 := qbuT_s (α 101) (α939885 113) u977687 (i := u978584) (by omega); have hq2 := qbi_inS (t := u977687) (i := u978584) (by omega) hev978674 hev978675 (by omega); omega) (qap_n (by omega) (by have hq := qbi_inS (t := u977687) (i := u978584) (by omega) hev978674 hev978675 (by omega); omega) ((rfl).trans hx978599)) (by omega)
                          · skip
                            refine qr_iload 158 rfl g978581 rfl ?_
                            refine qr_aload_n 159 rfl g978573 rfl ?_
                            refine qr_get 162 rfl rfl rfl (by decide) rfl ?_
                            refine qr_aload_n 163 rfl g978573 rfl ?_
                            refine qr_get 166 rfl rfl rfl (by decide) rfl ?_
                            refine qr_iload 168 rfl g978583 rfl ?_
                            refine qr_iaload 169 rfl rfl (by omega) (by decide) rfl ?_
                            refine qr_topI (fun v978677 hv978677 => ?_)
                            have hs978678 : 0 ≤ v978677 ∧ v978677 ≤ 39 := by rw [hv978677]; exact hI978587.2.1 113 _ (show _ < 10 by omega)
                            have hrv978677 : v978677 = (α939885 113) (u978584 : Int).toNat := hv978677.trans (congrFun hk977699 _)
                            refine qr_iaload 170 rfl rfl (qrgi hs978678 (by decide) (by decide)) (by decide) rfl ?_
                            refine qr_topI (fun v978679 hv978679 => ?_)
                            have hs978680 : (-2147483648) ≤ v978679 ∧ v978679 ≤ 2147483647 := by rw [hv978679]; exact hI978587.2.1 101 _ (show _ < 40 from qrgt hs978678 (by decide) (by decide))
                            have hp978681i : v978677 = α939885 113 (u978584 : Int).toNat := (hv978677).trans (congrFun (hk977699) _)
                            have hp978681 : v978679 = α 101 (α939885 113 (u978584 : Int).toNat : Int).toNat := by rw [← hp978681i]; exact (hv978679).trans (congrFun (hF978588.2 101 (by decide)) _)
                            have hp978681r := p7 (α939885 113 (u978584 : Int).toNat : Int).toNat (by have hq := hos939897r.1 (u978584 : Int).toNat (by omega); omega)
                            refine qr_iadd 171 rfl rfl ?_
                            refine qy_canE (fun v978682 hv978682 hev978682 => ?_)
                            refine qr_istore _ 173 rfl (by decide) rfl rfl ?_
                            refine qr_aload_n 174 rfl (qm_gk g978573 (by decide) (Or.inl (by decide))) rfl ?_
                            refine qr_dup 175 rfl rfl rfl ?_
                            refine qr_get 178 rfl rfl rfl (by decide) rfl ?_
                            refine qr_lconst 179 rfl rfl ?_
                            refine qy_vl 1 rfl ?_
                            refine qr_aload_n 180 rfl (qm_gk g978573 (by decide) (Or.inl (by decide))) rfl ?_
                            refine qr_get 183 rfl rfl rfl (by decide) rfl ?_
                            refine qr_iload 185 rfl (qm_gk g978583 (by decide) (Or.inl (by decide))) rfl ?_
                            refine qr_iaload 186 rfl rfl (by omega) (by decide) rfl ?_
                            refine qr_topI (fun v978683 hv978683 => ?_)
                            have hs978684 : 0 ≤ v978683 ∧ v978683 ≤ 39 := by rw [hv978683]; exact hI978587.2.1 113 _ (show _ < 10 by omega)
                            have hrv978683 : v978683 = (α939885 113) (u978584 : Int).toNat := hv978683.trans (congrFun hk977699 _)
                            have hp978685 : v978683 = α939885 113 (u978584 : Int).toNat := (hv978683).trans (congrFun (hk977699) _)
                            refine qr_lshl 187 rfl rfl ?_
                            refine qy_canlE (fun v978686 hv978686 hev978686 => ?_)
                            refine qr_lor 188 rfl rfl ?_
                            refine qy_canlE (fun v978687 hv978687 hev978687 => ?_)
                            refine qr_put 191 rfl (by decide) rfl (Nat.le_of_ble_eq_true rfl) (Nat.le_of_ble_eq_true rfl) (Or.inl rfl) (qr_fitL rfl _) rfl ?_
                            refine qy_wS (qw_s σ978585 86 22 v978687) rfl (fun σ978688 e978689 => ?_)
                            have hI978690 : qI σ978688 α977689 κ ρ := by rw [e978689]; exact qI_s hI978587 86 22 rfl (show (-9223372036854775808) ≤ v978687 ∧ v978687 ≤ 9223372036854775807 by omega)
                            have hF978691 : qFr [(86, 15), (86, 22), (86, 23), (86, 30), (86, 35), (86, 36), (86, 37), (86, 38), (86, 39), (86, 41), (86, 43)] [96, 109, 110, 113] σ α σ978688 α977689 := by rw [e978689]; exact qFr_s hF978588 86 22 _ (by decide)
                            refine qr_iinc _ 194 rfl (qm_gk g978583 (by decide) (Or.inl (by decide))) (by decide) rfl rfl ?_
                            refine qr_goto 138 rfl rfl ?_
                            exact ih978602 _ v978682 (u978584 + 1) σ978688 (by omega) (qm_gk (qm_gk g978573 (by decide) (Or.inl (by decide))) (by decide) (Or.inl (by decide))) (qm_gk (qm_gk g978574 (by decide) (Or.inl (by decide))) (by decide) (Or.inl (by decide))) (qm_gk (qm_gk g978575 (by decide) (Or.inl (by decide))) (by decide) (Or.inl (by decide))) (qm_gk (qm_gk g978576 (by decide) (Or.inl (by decide))) (by decide) (Or.inl (by decide))) (qm_gk (qm_gk g978577 (by decide) (Or.inl (by decide))) (by decide) (Or.inl (by decide))) (qm_gk (qm_gk g978578 (by decide) (Or.inl (by decide))) (by decide) (Or.inl (by decide))) (qm_gk (qm_gk g978579 (by decide) (Or.inl (by decide))) (by decide) (Or.inl (by decide))) (qm_gk (qm_gk g978580 (by decide) (Or.inr rfl)) (by decide) (Or.inl (by decide))) (qm_gk (qm_ge _ _ _) (by decide) (Or.inr rfl)) (qm_ge _ _ _) hv978682 (by omega) hI978690 hF978691 ((congrFun (congrFun e978689 86) 6).trans ((hk978589).trans rfl)) ((congrFun (congrFun e978689 86) 10).trans ((hk978590).trans rfl)) ((congrFun (congrFun e978689 86) 16).trans ((hk978591).trans rfl)) ((congrFun (congrFun e978689 86) 24).trans ((hk978592).trans rfl)) ((congrFun (congrFun e978689 86) 29).trans ((hk978593).trans rfl)) ((congrFun (congrFun e978689 86) 41).trans ((hk978594).trans rfl)) ((congrFun (congrFun e978689 86) 43).trans ((hk978595).trans rfl)) (by have hq0 := hx978598; have hq1 := qbuT_s (α 101) (α939885 113) u977687 (i := u978584) (by omega); have hq2 := qbi_inS (t := u977687) (i := u978584) (by omega) hev978674 hev978675 (by omega); have hq3 := hp978681; have hq4 := hp978681r; have hq5 := qz_val hev978682 (by omega) (by omega); omega) (((congrFun (congrFun e978689 86) 22).trans rfl).trans (qap_y (by omega) (by have hq := qbi_inS (t := u977687) (i := u978584) (by omega) hev978674 hev978675 (by omega); omega) (by show v978687 = _; rw [ql_val hev978687 (by omega) (ql_or_r _ _), ql_val hev978686 (by omega) (ql_shl_r _ _), hp978685, hx978599]))) (by omega)
                    exact hL978601 ((10 - 0 + 1 : Int)).toNat _ 0 0 σ977720 (by omega) (qm_gk (qm_gk g977676 (by decide) (Or.inl (by decide))) (by decide) (Or.inl (by decide))) (qm_gk (qm_gk g977677 (by decide) (Or.inl (by decide))) (by decide) (Or.inl (by decide))) (qm_gk (qm_gk g977678 (by decide) (Or.inl (by decide))) (by decide) (Or.inl (by decide))) (qm_gk (qm_gk g977679 (by decide) (Or.inl (by decide))) (by decide) (Or.inl (by decide))) (qm_gk (qm_gk g977680 (by decide) (Or.inl (by decide))) (by decide) (Or.inl (by decide))) (qm_gk (qm_gk g977682 (by decide) (Or.inl (by decide))) (by decide) (Or.inl (by decide))) (qm_gk (qm_gk g977684 (by decide) (Or.inl (by decide))) (by decide) (Or.inl (by decide))) (qm_gk (qm_gk g977686 (by decide) (Or.inr rfl)) (by decide) (Or.inl (by decide))) (qm_gk (qm_ge _ _ _) (by decide) (Or.inr rfl)) (qm_ge _ _ _) (by decide) (by decide) hI977722 hF977723 ((congrFun (congrFun e977721 86) 6).trans ((hk977692).trans rfl)) ((congrFun (congrFun e977721 86) 10).trans ((hk977693).trans rfl)) ((congrFun (congrFun e977721 86) 16).trans ((hk977694).trans rfl)) ((congrFun (congrFun e977721 86) 24).trans ((hk977695).trans rfl)) ((congrFun (congrFun e977721 86) 29).trans ((hk977696).trans rfl)) ((congrFun (congrFun e977721 86) 41).trans rfl) ((congrFun (congrFun e977721 86) 43).trans ((hk977697).trans rfl)) ⟨rfl, by omega, by omega⟩ (((congrFun (congrFun e977721 86) 22).trans rfl).trans rfl) (by omega)
              exact hL977708 ((1024 - 0 + 1 : Int)).toNat _ (-1) 0 0 0 σ11 α939885 (by omega) (qm_gk (qm_gk2 (qm_gk (qm_gk g939877 (by decide) (Or.inl (by decide))) (by decide) (Or.inl (by decide))) (by decide) (by decide) (Or.inl (by decide))) (by decide) (Or.inl (by decide))) (qm_gk (qm_gk2 (qm_gk (qm_gk g939878 (by decide) (Or.inl (by decide))) (by decide) (Or.inl (by decide))) (by decide) (by decide) (Or.inl (by decide))) (by decide) (Or.inl (by decide))) (qm_gk (qm_gk2 (qm_gk (qm_gk g939879 (by decide) (Or.inl (by decide))) (by decide) (Or.inl (by decide))) (by decide) (by decide) (Or.inl (by decide))) (by decide) (Or.inl (by decide))) (qm_gk (qm_gk2 (qm_gk (qm_gk g939880 (by decide) (Or.inr rfl)) (by decide) (Or.inl (by decide))) (by decide) (by decide) (Or.inl (by decide))) (by decide) (Or.inl (by decide))) (qm_gk (qm_gk2 (qm_gk (qm_ge _ _ _) (by decide) (Or.inr rfl)) (by decide) (by decide) (Or.inl (by decide))) (by decide) (Or.inl (by decide))) (qm_gk (qm_gk2 (qm_ge _ _ _) (by decide) (by decide) (Or.inr rfl)) (by decide) (Or.inl (by decide))) (qm_gk (qm_ge2 _ _ _) (by decide) (Or.inl (by decide))) (qm_ge _ _ _) (by decide) (by decide) (by decide) (by decide) hI939886 hF939887 ((hG14.1 86 6 (by decide)).trans rfl) ((hG14.1 86 10 (by decide)).trans rfl) ((hG14.1 86 16 (by decide)).trans rfl) ((hG14.1 86 24 (by decide)).trans rfl) ((hG14.1 86 29 (by decide)).trans rfl) (rfl) hk939888 rfl (qmB_0 _ _) (Or.inl rfl) (by omega) (((hG14.1 86 41 (by decide)).trans rfl).trans p5)
            · skip
              refine qr_iload 49 rfl g939880 rfl ?_
              refine qr_bipush 51 rfl (by decide) rfl ?_
              refine qr_icmp_ge 106 54 rfl rfl rfl (qrg hf939889 (by decide) (by decide)) (by decide) (fun h978692 => ?_) (fun h978692 => ?_)
              · skip
                have hos978693 := qbu_le (n := σ 86 16) (by omega) (by omega) (by omega) hx939891
                have hos978693r := qbu_sr (by omega) hos978693
                have hsh := qshl_r (n := u939881) (by omega)
                refine qr_iconst 107 rfl rfl ?_
                refine qr_istore _ 109 rfl (by decide) rfl rfl ?_
                refine qr_iconst 110 rfl rfl ?_
                refine qr_istore _ 112 rfl (by decide) rfl rfl ?_
                refine qr_lconst 113 rfl rfl ?_
                refine qy_vl 0 rfl ?_
                refine qr_lstore _ 115 rfl (by decide) rfl rfl ?_
                refine qr_iconst 116 rfl rfl ?_
                refine qr_istore _ 118 rfl (by decide) rfl rfl ?_
                have hL1003052 : ∀ (n : Nat) (ls : qm_L) (u1003025 u1003027 u1003029 u1003031 : Int) (σ1003032 α1003033 : Nat → Nat → Int), 1024 - u1003031 < (n : Int) → qm_get ls 0 = some (.ref 86) → qm_get ls 3 = some (.int (qz x2)) → qm_get ls 4 = some (.int (qz x3)) → qm_get ls 5 = some (.int (qz u939881)) → qm_get ls 6 = some (.int (qz u1003025)) → qm_get ls 7 = some (.int (qz u1003027)) → qm_get ls 8 = some (.long (ql u1003029)) → qm_get ls 10 = some (.int (qz u1003031)) → ((-1) ≤ u1003025 ∧ u1003025 ≤ 1023) → ((-2147483648) ≤ u1003027 ∧ u1003027 ≤ 2147483647) → ((-9223372036854775808) ≤ u1003029 ∧ u1003029 ≤ 9223372036854775807) → (0 ≤ u1003031 ∧ u1003031 ≤ 1024) → qI σ1003032 α1003033 κ ρ → qFr [(86, 15), (86, 22), (86, 23), (86, 30), (86, 35), (86, 36), (86, 37), (86, 38), (86, 39), (86, 41), (86, 43)] [96, 109, 110, 113] σ α σ1003032 α1003033 → σ1003032 86 6 = (σ 86 6) → σ1003032 86 10 = (σ 86 10) → σ1003032 86 16 = (σ 86 16) → σ1003032 86 24 = (σ 86 24) → σ1003032 86 29 = (σ 86 29) → σ1003032 86 43 = (σ11 86 43) → α1003033 110 = (α12 110) → α1003033 113 = (α939885 113) → qmB (qbuD (qbuGM σ α g (α12 110) (σ11 86 43) (x2 / 10000) (x2 % 10000)) (α939885 113) (u939881 : Int).toNat) (qbuK (α 101) (α939885 113) (u939881 : Int).toNat) u1003031 u1003025 → (u1003025 = -1 ∨ (0 ≤ u1003025 ∧ u1003025 < u1003031 ∧ u1003027 = qbuT (α 101) (α939885 113) u1003025 (u939881 : Int).toNat ∧ u1003029 = qap (α939885 113) u1003025 (u939881 : Int).toNat)) → u1003031 ≤ qz_shl 1 u939881 → σ1003032 86 41 = 0 → qr_W (qe L xs vb) (d + 49) qx_e239 (fun r w' => ∃ σ' α', w' = qw σ' α' κ ρ ∧ qI σ' α' κ ρ ∧ qFr [(86, 15), (86, 22), (86, 23), (86, 30), (86, 35), (86, 36), (86, 37), (86, 38), (86, 39), (86, 41), (86, 43)] [96, 109, 110, 113] σ α σ' α' ∧ σ' 86 41 = 0 ∧ σ' 86 22 = 0 ∧ ∃ v : Int, r = some (.long (ql v)) ∧ ((-9223372036854775808) ≤ v ∧ v ≤ 9223372036854775807) ∧ ((v = -1 ∧ ¬ (0 ≤ x2 ∧ x2 / 10000 ≤ x2 % 10000 ∧ x2 % 10000 ≤ 2399 ∧ x2 % 10000 - x2 / 10000 < 48 ∧ (x3 = 0 ∨ x3 = 1) ∧ qst x1 (σ 86 6) ∧ 1 ≤ qsm (fun k : Nat => qbit (ql_and x1 (ql_xor (σ 86 10) (-1))) (k : Int)) (σ 86 6 : Int).toNat ∧ qsm (fun k : Nat => qbit (ql_and x1 (ql_xor (σ 86 10) (-1))) (k : Int)) (σ 86 6 : Int).toNat ≤ 12)) ∨ ((0 ≤ x2 ∧ x2 / 10000 ≤ x2 % 10000 ∧ x2 % 10000 ≤ 2399 ∧ x2 % 10000 - x2 / 10000 < 48 ∧ (x3 = 0 ∨ x3 = 1) ∧ qst x1 (σ 86 6) ∧ 1 ≤ qsm (fun k : Nat => qbit (ql_and x1 (ql_xor (σ 86 10) (-1))) (k : Int)) (σ 86 6 : Int).toNat ∧ qsm (fun k : Nat => qbit (ql_and x1 (ql_xor (σ 86 10) (-1))) (k : Int)) (σ 86 6 : Int).toNat ≤ 12) ∧ qLs (α' 110) (σ' 86 43) (qBr (fun k : Nat => qbit (ql_and x1 (ql_xor (σ 86 10) (-1))) (k : Int)) (σ 86 6 : Int).toNat) ∧ qbuRm σ α g (α' 110) (α' 113) (σ' 86 43) (x2 / 10000) (x2 % 10000) x3 v))) (118, ls, [], qw σ1003032 α1003033 κ ρ, 0, 0) := by
                  intro n
                  induction n with
                  | zero => intro ls u1003025 u1003027 u1003029 u1003031 σ1003032 α1003033 hm g1003020 g1003021 g1003022 g1003023 g1003024 g1003026 g1003028 g1003030 hf1003044 hf1003045 hf1003046 hf1003047 hI1003034 hF1003035 hk1003036 hk1003037 hk1003038 hk1003039 hk1003040 hk1003041 hk1003042 hk1003043 hx1003048 hx1003049 hx1003050 hx1003051; exact False.elim (by omega)
                  | succ n ih1003053 =>
                    intro ls u1003025 u1003027 u1003029 u1003031 σ1003032 α1003033 hm g1003020 g1003021 g1003022 g1003023 g1003024 g1003026 g1003028 g1003030 hf1003044 hf1003045 hf1003046 hf1003047 hI1003034 hF1003035 hk1003036 hk1003037 hk1003038 hk1003039 hk1003040 hk1003041 hk1003042 hk1003043 hx1003048 hx1003049 hx1003050 hx1003051
                    have hs1003054 : 0 ≤ σ1003032 86 41 ∧ σ1003032 86 41 ≤ 1 := hI1003034.1 86 41
                    have hs1003055 : (-9223372036854775808) ≤ σ1003032 86 22 ∧ σ1003032 86 22 ≤ 9223372036854775807 := hI1003034.1 86 22
                    refine qr_iload 120 rfl g1003030 rfl ?_
                    refine qr_iconst 121 rfl rfl ?_
                    refine qr_iload 123 rfl g1003023 rfl ?_
                    refine qr_ishl 124 rfl rfl ?_
                    refine qy_shl1E (N := 10) (by omega) (fun v1003056 hv1003056 hev1003056 => ?_)
                    refine qr_icmp_ge 269 127 rfl rfl rfl (qrg hf1003047 (by decide) (by decide)) (by omega) (fun h1003057 => ?_) (fun h1003057 => ?_)
                    · skip
                      refine qr_aload_n 270 rfl g1003020 rfl ?_
                      refine qr_lconst 271 rfl rfl ?_
                      refine qy_vl 0 rfl ?_
                      refine qr_put 274 rfl (by decide) rfl (Nat.le_of_ble_eq_true rfl) (Nat.le_of_ble_eq_true rfl) (Or.inl rfl) (qr_fitL rfl _) rfl ?_
                      refine qy_wS (qw_s σ1003032 86 22 0) rfl (fun σ1003058 e1003059 => ?_)
                      have hI1003060 : qI σ1003058 α1003033 κ ρ := by rw [e1003059]; exact qI_s hI1003034 86 22 rfl (show (-9223372036854775808) ≤ 0 ∧ 0 ≤ 9223372036854775807 by omega)
                      have hF1003061 : qFr [(86, 15), (86, 22), (86, 23), (86, 30), (86, 35), (86, 36), (86, 37), (86, 38), (86, 39), (86, 41), (86, 43)] [96, 109, 110, 113] σ α σ1003058 α1003033 := by rw [e1003059]; exact qFr_s hF1003035 86 22 _ (by decide)
                      refine qr_iload 276 rfl g1003024 rfl ?_
                      refine qr_if_ge 285 279 rfl rfl rfl (qrg hf1003044 (by decide) (by decide)) (fun h1003062 => ?_) (fun h1003062 => ?_)
                      · skip
                        refine qr_iload 287 rfl g1003022 rfl ?_
                        refine qr_if_ne 296 290 rfl rfl rfl r3 (fun h1003063 => ?_) (fun h1003063 => ?_)
                        · skip
                          refine qr_lload 298 rfl g1003028 rfl ?_
                          refine qr_retL rfl rfl (by decide) (by decide) ?_
                          exact ⟨_, _, rfl, hI1003060, hF1003061, (by have hw : σ1003058 86 41 = (σ1003032 86 41) := (congrFun (congrFun e1003059 86) 41).trans rfl; omega), (by have hw : σ1003058 86 22 = 0 := (congrFun (congrFun e1003059 86) 22).trans rfl; omega), u1003029, rfl, hf1003046, (Or.inr ⟨⟨by omega, by omega, by omega, by omega, by omega, hc18⟩, (by rw [show α1003033 110 = α12 110 from hk1003042, show σ1003058 86 43 = σ11 86 43 from (congrFun (congrFun e1003059 86) 43).trans ((hk1003041).trans rfl)]; exact hc19), (by rw [show α1003033 110 = α12 110 from hk1003042, show σ1003058 86 43 = σ11 86 43 from (congrFun (congrFun e1003059 86) 43).trans ((hk1003041).trans rfl), show α1003033 113 = α939885 113 from hk1003043]; exact ⟨u939881, ⟨by omega, by omega⟩, hos978693, u1003025, (by have hz := hx1003048; rw [show u1003031 = qz_shl 1 u939881 by omega] at hz; exact hz), Or.inr ⟨by omega, Or.inr ⟨by omega, by omega⟩⟩⟩)⟩)⟩
                        · skip
                          refine qr_iload 292 rfl g1003026 rfl ?_
                          refine qr_i2l 293 rfl hf1003045 rfl ?_
                          refine qr_goto 298 rfl rfl ?_
                          refine qr_retL rfl rfl (by decide) (by decide) ?_
                          exact ⟨_, _, rfl, hI1003060, hF1003061, (by have hw : σ1003058 86 41 = (σ1003032 86 41) := (congrFun (congrFun e1003059 86) 41).trans rfl; omega), (by have hw : σ1003058 86 22 = 0 := (congrFun (congrFun e1003059 86) 22).trans rfl; omega), u1003027, rfl, (qrg hf1003045 (by decide) (by decide)), (Or.inr ⟨⟨by omega, by omega, by omega, by omega, by omega, hc18⟩, (by rw [show α1003033 110 = α12 110 from hk1003042, show σ1003058 86 43 = σ11 86 43 from (congrFun (congrFun e1003059 86) 43).trans ((hk1003041).trans rfl)]; exact hc19), (by rw [show α1003033 110 = α12 110 from hk1003042, show σ1003058 86 43 = σ11 86 43 from (congrFun (congrFun e1003059 86) 43).trans ((hk1003041).trans rfl), show α1003033 113 = α939885 113 from hk1003043]; exact ⟨u939881, ⟨by omega, by omega⟩, hos978693, u1003025, (by have hz := hx1003048; rw [show u1003031 = qz_shl 1 u939881 by omega] at hz; exact hz), Or.inr ⟨by omega, Or.inl ⟨by omega, by omega⟩⟩⟩)⟩)⟩
                      · skip
                        refine qr_ldc2 (-2) 282 rfl (by decide) rfl ?_
                        refine qr_goto 298 rfl rfl ?_
                        refine qr_retL rfl rfl (by decide) (by decide) ?_
                        exact ⟨_, _, rfl, hI1003060, hF1003061, (by have hw : σ1003058 86 41 = (σ1003032 86 41) := (congrFun (congrFun e1003059 86) 41).trans rfl; omega), (by have hw : σ1003058 86 22 = 0 := (congrFun (congrFun e1003059 86) 22).trans rfl; omega), (-2), rfl, (by decide), (Or.inr ⟨⟨by omega, by omega, by omega, by omega, by omega, hc18⟩, (by rw [show α1003033 110 = α12 110 from hk1003042, show σ1003058 86 43 = σ11 86 43 from (congrFun (congrFun e1003059 86) 43).trans ((hk1003041).trans rfl)]; exact hc19), (by rw [show α1003033 110 = α12 110 from hk1003042, show σ1003058 86 43 = σ11 86 43 from (congrFun (congrFun e1003059 86) 43).trans ((hk1003041).trans rfl), show α1003033 113 = α939885 113 from hk1003043]; exact ⟨u939881, ⟨by omega, by omega⟩, hos978693, u1003025, (by have hz := hx1003048; rw [show u1003031 = qz_shl 1 u939881 by omega] at hz; exact hz), Or.inl ⟨by omega, rfl⟩⟩)⟩)⟩
                    · skip
                      refine qr_iconst 128 rfl rfl ?_
                      refine qr_istore _ 130 rfl (by decide) rfl rfl ?_
                      refine qr_aload_n 131 rfl (qm_gk g1003020 (by decide) (Or.inl (by decide))) rfl ?_
                      refine qr_lconst 132 rfl rfl ?_
                      refine qy_vl 0 rfl ?_
                      refine qr_put 135 rfl (by decide) rfl (Nat.le_of_ble_eq_true rfl) (Nat.le_of_ble_eq_true rfl) (Or.inl rfl) (qr_fitL rfl _) rfl ?_
                      refine qy_wS (qw_s σ1003032 86 22 0) rfl (fun σ1003064 e1003065 => ?_)
                      have hI1003066 : qI σ1003064 α1003033 κ ρ := by rw [e1003065]; exact qI_s hI1003034 86 22 rfl (show (-9223372036854775808) ≤ 0 ∧ 0 ≤ 9223372036854775807 by omega)
                      have hF1003067 : qFr [(86, 15), (86, 22), (86, 23), (86, 30), (86, 35), (86, 36), (86, 37), (86, 38), (86, 39), (86, 41), (86, 43)] [96, 109, 110, 113] σ α σ1003064 α1003033 := by rw [e1003065]; exact qFr_s hF1003035 86 22 _ (by decide)
                      refine qr_iconst 136 rfl rfl ?_
                      refine qr_istore _ 138 rfl (by decide) rfl rfl ?_
                      have hL1003603 : ∀ (n : Nat) (ls : qm_L) (u1003584 u1003586 : Int) (σ1003587 : Nat → Nat → Int), 10 - u1003586 < (n : Int) → qm_get ls 0 = some (.ref 86) → qm_get ls 3 = some (.int (qz x2)) → qm_get ls 4 = some (.int (qz x3)) → qm_get ls 5 = some (.int (qz u939881)) → qm_get ls 6 = some (.int (qz u1003025)) → qm_get ls 7 = some (.int (qz u1003027)) → qm_get ls 8 = some (.long (ql u1003029)) → qm_get ls 10 = some (.int (qz u1003031)) → qm_get ls 11 = some (.int (qz u1003584)) → qm_get ls 12 = some (.int (qz u1003586)) → ((-2147483648) ≤ u1003584 ∧ u1003584 ≤ 2147483647) → (0 ≤ u1003586 ∧ u1003586 ≤ 10) → qI σ1003587 α1003033 κ ρ → qFr [(86, 15), (86, 22), (86, 23), (86, 30), (86, 35), (86, 36), (86, 37), (86, 38), (86, 39), (86, 41), (86, 43)] [96, 109, 110, 113] σ α σ1003587 α1003033 → σ1003587 86 6 = (σ 86 6) → σ1003587 86 10 = (σ 86 10) → σ1003587 86 16 = (σ 86 16) → σ1003587 86 24 = (σ 86 24) → σ1003587 86 29 = (σ 86 29) → σ1003587 86 41 = (σ1003032 86 41) → σ1003587 86 43 = (σ11 86 43) → (u1003584 = qbuT (α 101) (α939885 113) u1003031 (u1003586 : Int).toNat ∧ 0 ≤ u1003584 ∧ u1003584 ≤ 999 * u1003586) → σ1003587 86 22 = qap (α939885 113) u1003031 (u1003586 : Int).toNat → u1003586 ≤ u939881 → qr_W (qe L xs vb) (d + 49) qx_e239 (fun r w' => ∃ σ' α', w' = qw σ' α' κ ρ ∧ qI σ' α' κ ρ ∧ qFr [(86, 15), (86, 22), (86, 23), (86, 30), (86, 35), (86, 36), (86, 37), (86, 38), (86, 39), (86, 41), (86, 43)] [96, 109, 110, 113] σ α σ' α' ∧ σ' 86 41 = 0 ∧ σ' 86 22 = 0 ∧ ∃ v : Int, r = some (.long (ql v)) ∧ ((-9223372036854775808) ≤ v ∧ v ≤ 9223372036854775807) ∧ ((v = -1 ∧ ¬ (0 ≤ x2 ∧ x2 / 10000 ≤ x2 % 10000 ∧ x2 % 10000 ≤ 2399 ∧ x2 % 10000 - x2 / 10000 < 48 ∧ (x3 = 0 ∨ x3 = 1) ∧ qst x1 (σ 86 6) ∧ 1 ≤ qsm (fun k : Nat => qbit (ql_and x1 (ql_xor (σ 86 10) (-1))) (k : Int)) (σ 86 6 : Int).toNat ∧ qsm (fun k : Nat => qbit (ql_and x1 (ql_xor (σ 86 10) (-1))) (k : Int)) (σ 86 6 : Int).toNat ≤ 12)) ∨ ((0 ≤ x2 ∧ x2 / 10000 ≤ x2 % 10000 ∧ x2 % 10000 ≤ 2399 ∧ x2 % 10000 - x2 / 10000 < 48 ∧ (x3 = 0 ∨ x3 = 1) ∧ qst x1 (σ 86 6) ∧ 1 ≤ qsm (fun k : Nat => qbit (ql_and x1 (ql_xor (σ 86 10) (-1))) (k : Int)) (σ 86 6 : Int).toNat ∧ qsm (fun k : Nat => qbit (ql_and x1 (ql_xor (σ 86 10) (-1))) (k : Int)) (σ 86 6 : Int).toNat ≤ 12) ∧ qLs (α' 110) (σ' 86 43) (qBr (fun k : Nat => qbit (ql_and x1 (ql_xor (σ 86 10) (-1))) (k : Int)) (σ 86 6 : Int).toNat) ∧ qbuRm σ α g (α' 110) (α' 113) (σ' 86 43) (x2 / 10000) (x2 % 10000) x3 v))) (138, ls, [], qw σ1003587 α1003033 κ ρ, 0, 0) := by
                        intro n
                        induction n with
                        | zero => intro ls u1003584 u1003586 σ1003587 hm g1003575 g1003576 g1003577 g1003578 g1003579 g1003580 g1003581 g1003582 g1003583 g1003585 hf1003598 hf1003599 hI1003589 hF1003590 hk1003591 hk1003592 hk1003593 hk1003594 hk1003595 hk1003596 hk1003597 hx1003600 hx1003601 hx1003602; exact False.elim (by omega)
                        | succ n ih1003604 =>
                          intro ls u1003584 u1003586 σ1003587 hm g1003575 g1003576 g1003577 g1003578 g1003579 g1003580 g1003581 g1003582 g1003583 g1003585 hf1003598 hf1003599 hI1003589 hF1003590 hk1003591 hk1003592 hk1003593 hk1003594 hk1003595 hk1003596 hk1003597 hx1003600 hx1003601 hx1003602
                          have hs1003605 : (-9223372036854775808) ≤ σ1003587 86 22 ∧ σ1003587 86 22 ≤ 9223372036854775807 := hI1003589.1 86 22
                          refine qr_iload 140 rfl g1003585 rfl ?_
                          refine qr_iload 142 rfl g1003578 rfl ?_
                          refine qr_icmp_ge 197 145 rfl rfl rfl (qrg hf1003599 (by decide) (by decide)) (qrg hf939889 (by decide) (by decide)) (fun h1003606 => ?_) (fun h1003606 => ?_)
                          · skip
                            have hT1003607 : u1003584 = qbuT (α 101) (α939885 113) u1003031 (u939881 : Int).toNat := by have hz := hx1003600.1; rw [show u1003586 = u939881 by omega] at hz; exact hz
                            have hA1003608 : σ1003587 86 22 = qap (α939885 113) u1003031 (u939881 : Int).toNat := by have hz := hx1003601; rw [show u1003586 = u939881 by omega] at hz; exact hz
                            refine qr_iload 199 rfl g1003579 rfl ?_
                            refine qr_if_lt 229 202 rfl rfl rfl (qrg hf1003044 (by decide) (by decide)) (fun h1003609 => ?_) (fun h1003609 => ?_)
                            · skip
                              refine qr_iconst 230 rfl rfl ?_
                              refine qr_goto 234 rfl rfl ?_
                              refine qr_istore _ 236 rfl (by decide) rfl rfl ?_
                              refine qr_iload 238 rfl (qm_ge _ _ _) rfl ?_
                              refine qr_if_eq 263 241 rfl rfl rfl (by decide) (fun h => False.elim (by omega)) (fun h1003610 => ?_)
                              refine qr_aload_n 242 rfl (qm_gk g1003575 (by decide) (Or.inl (by decide))) rfl ?_
                              refine qr_iload_n 243 rfl (qm_gk g1003576 (by decide) (Or.inl (by decide))) rfl ?_
                              have hs1003611 : (-9223372036854775808) ≤ σ1003587 86 29 ∧ σ1003587 86 29 ≤ 9223372036854775807 := hI1003589.1 86 29
                              have hs1003612 : σ1003587 86 29 = (σ 86 29) := (hk1003595).trans rfl
                              have hs1003613 : 0 ≤ σ1003587 86 41 ∧ σ1003587 86 41 ≤ 1 := hI1003589.1 86 41
                              have hs1003614 : σ1003587 86 41 = (σ1003032 86 41) := (hk1003596).trans rfl
                              have hs1003615 : 0 ≤ σ1003587 86 43 ∧ σ1003587 86 43 ≤ 32 := hI1003589.1 86 43
                              have hs1003616 : σ1003587 86 43 = (σ11 86 43) := (hk1003597).trans rfl
                              have hs1003617 : 0 ≤ σ1003587 86 6 ∧ σ1003587 86 6 ≤ 32 := hI1003589.1 86 6
                              have hs1003618 : σ1003587 86 6 = (σ 86 6) := (hk1003591).trans rfl
                              refine qr_callN 246 rfl rfl rfl (sf_240_86x (d := d + 0) hI1003589 (by omega) (by omega) (by omega) (qPG_fr hF1003590 (by decide) (by decide) p0) (qZf_fr hF1003590 (by decide) (by decide) p1) (((hk1003596).trans rfl).trans hx1003051) (fun p hp => by rw [hF1003590.2 92 (by decide)]; exact p4 p hp) (by rw [show α1003033 110 = α12 110 from hk1003042, show σ1003587 86 43 = σ11 86 43 from (hk1003597).trans rfl, show σ1003587 86 6 = σ 86 6 from hF1003590.1 86 6 (by decide)]; exact hc19_) (qZk_fr hF1003590 (by decide) (by decide) p2) ((hF1003590.1 86 29 (by decide)).trans p3)) ?_
                              rintro _ _ ⟨σ1003622, α1003623, rfl, hI1003624, hG1003625, hw1003621, v1003619, rfl, hv1003619, hx1003620⟩
                              have hF1003626 : qFr [(86, 15), (86, 22), (86, 23), (86, 30), (86, 35), (86, 36), (86, 37), (86, 38), (86, 39), (86, 41), (86, 43)] [96, 109, 110, 113] σ α σ1003622 α1003623 := qFr_t hF1003590 hG1003625 (by decide) (by decide)
                              have hs1003627 : 0 ≤ σ1003622 86 41 ∧ σ1003622 86 41 ≤ 1 := hI1003624.1 86 41
                              show qr_W (qe L xs vb) (d + 49) qx_e239 _ (246, _, [.int (qz v1003619)], qw σ1003622 α1003623 κ ρ, 0, 0)
                              rw [qbuGt_fr hF1003590 (by decide) (by decide) (((((hk1003596).trans rfl).trans hx1003051)).trans p5.symm) hA1003608, show α1003033 110 = α12 110 from hk1003042, show σ1003587 86 43 = σ11 86 43 from (hk1003597).trans rfl, qbuGM_tr] at hx1003620
                              refine qr_if_ne 263 249 rfl rfl rfl (qrg hv1003619 (by decide) (by decide)) (fun h1003628 => ?_) (fun h1003628 => ?_)
                              · skip
                                refine qr_iinc _ 266 rfl (qm_gk g1003582 (by decide) (Or.inl (by decide))) (by decide) rfl rfl ?_
                                refine qr_goto 118 rfl rfl ?_
                                exact ih1003053 _ u1003025 u1003027 u1003029 (u1003031 + 1) σ1003622 α1003623 (by omega) (qm_gk (qm_gk g1003575 (by decide) (Or.inl (by decide))) (by decide) (Or.inl (by decide))) (qm_gk (qm_gk g1003576 (by decide) (Or.inl (by decide))) (by decide) (Or.inl (by decide))) (qm_gk (qm_gk g1003577 (by decide) (Or.inl (by decide))) (by decide) (Or.inl (by decide))) (qm_gk (qm_gk g1003578 (by decide) (Or.inl (by decide))) (by decide) (Or.inl (by decide))) (qm_gk (qm_gk g1003579 (by decide) (Or.inl (by decide))) (by decide) (Or.inl (by decide))) (qm_gk (qm_gk g1003580 (by decide) (Or.inl (by decide))) (by decide) (Or.inl (by decide))) (qm_gk (qm_gk g1003581 (by decide) (Or.inl (by decide))) (by decide) (Or.inl (by decide))) (qm_ge _ _ _) hf1003044 hf1003045 hf1003046 (by omega) hI1003624 hF1003626 ((hG1003625.1 86 6 (by decide)).trans ((hk1003591).trans rfl)) ((hG1003625.1 86 10 (by decide)).trans ((hk1003592).trans rfl)) ((hG1003625.1 86 16 (by decide)).trans ((hk1003593).trans rfl)) ((hG1003625.1 86 24 (by decide)).trans ((hk1003594).trans rfl)) ((hG1003625.1 86 29 (by decide)).trans ((hk1003595).trans rfl)) ((hG1003625.1 86 43 (by decide)).trans ((hk1003597).trans rfl)) ((hG1003625.2 110 (by decide)).trans hk1003042) ((hG1003625.2 113 (by decide)).trans hk1003043) (qmB_no (fun hd => by rcases hx1003620 with hz | hz; (exact hz.2 hd); (omega)) hx1003048) (by omega) (by omega) ((rfl).trans hw1003621)
                              · skip
                                refine qr_iload 251 rfl (qm_gk g1003582 (by decide) (Or.inl (by decide))) rfl ?_
                                refine qr_istore _ 253 rfl (by decide) rfl rfl ?_
                                refine qr_iload 255 rfl (qm_gk (qm_gk g1003583 (by decide) (Or.inr rfl)) (by decide) (Or.inl (by decide))) rfl ?_
                                refine qr_istore _ 257 rfl (by decide) rfl rfl ?_
                                refine qr_aload_n 258 rfl (qm_gk (qm_gk (qm_gk g1003575 (by decide) (Or.inl (by decide))) (by decide) (Or.inl (by decide))) (by decide) (Or.inl (by decide))) rfl ?_
                                refine qr_get 261 rfl rfl rfl (by decide) rfl ?_
                                refine qy_vl (σ1003587 86 22) ((hG1003625.1 86 22 (by decide)).trans rfl) ?_
                                refine qr_lstore _ 263 rfl (by decide) rfl rfl ?_
                                refine qr_iinc _ 266 rfl (qm_gk2 (qm_gk (qm_gk (qm_gk g1003582 (by decide) (Or.inl (by decide))) (by decide) (Or.inl (by decide))) (by decide) (Or.inl (by decide))) (by decide) (by decide) (Or.inl (by decide))) (by decide) rfl rfl ?_
                                refine qr_goto 118 rfl rfl ?_
                                exact ih1003053 _ u1003031 u1003584 (σ1003587 86 22) (u1003031 + 1) σ1003622 α1003623 (by omega) (qm_gk (qm_gk2 (qm_gk (qm_gk (qm_gk g1003575 (by decide) (Or.inl (by decide))) (by decide) (Or.inl (by decide))) (by decide) (Or.inl (by decide))) (by decide) (by decide) (Or.inl (by decide))) (by decide) (Or.inl (by decide))) (qm_gk (qm_gk2 (qm_gk (qm_gk (qm_gk g1003576 (by decide) (Or.inl (by decide))) (by decide) (Or.inl (by decide))) (by decide) (Or.inl (by decide))) (by decide) (by decide) (Or.inl (by decide))) (by decide) (Or.inl (by decide))) (qm_gk (qm_gk2 (qm_gk (qm_gk (qm_gk g1003577 (by decide) (Or.inl (by decide))) (by decide) (Or.inl (by decide))) (by decide) (Or.inl (by decide))) (by decide) (by decide) (Or.inl (by decide))) (by decide) (Or.inl (by decide))) (qm_gk (qm_gk2 (qm_gk (qm_gk (qm_gk g1003578 (by decide) (Or.inl (by decide))) (by decide) (Or.inr rfl)) (by decide) (Or.inl (by decide))) (by decide) (by decide) (Or.inl (by decide))) (by decide) (Or.inl (by decide))) (qm_gk (qm_gk2 (qm_gk (qm_ge _ _ _) (by decide) (Or.inr rfl)) (by decide) (by decide) (Or.inl (by decide))) (by decide) (Or.inl (by decide))) (qm_gk (qm_gk2 (qm_ge _ _ _) (by decide) (by decide) (Or.inr rfl)) (by decide) (Or.inl (by decide))) (qm_gk (qm_ge2 _ _ _) (by decide) (Or.inl (by decide))) (qm_ge _ _ _) (by omega) hf1003598 (by omega) (by omega) hI1003624 hF1003626 ((hG1003625.1 86 6 (by decide)).trans ((hk1003591).trans rfl)) ((hG1003625.1 86 10 (by decide)).trans ((hk1003592).trans rfl)) ((hG1003625.1 86 16 (by decide)).trans ((hk1003593).trans rfl)) ((hG1003625.1 86 24 (by decide)).trans ((hk1003594).trans rfl)) ((hG1003625.1 86 29 (by decide)).trans ((hk1003595).trans rfl)) ((hG1003625.1 86 43 (by decide)).trans ((hk1003597).trans rfl)) ((hG1003625.2 110 (by decide)).trans hk1003042) ((hG1003625.2 113 (by decide)).trans hk1003043) (qbu_hi (by omega) (show (qbuD (qbuGM σ α g (α12 110) (σ11 86 43) (x2 / 10000) (x2 % 10000)) (α939885 113) (u939881 : Int).toNat) u1003031 by rcases hx1003620 with hz | hz; (omega); (exact hz.2)) (Or.inl (by omega)) hx1003048) (Or.inr ⟨by omega, by omega, hT1003607, hA1003608⟩) (by omega) ((rfl).trans hw1003621)
                            · skip
                              refine qr_iload 204 rfl g1003583 rfl ?_
                              refine qr_iload 206 rfl g1003580 rfl ?_
                              refine qr_icmp_lt 229 209 rfl rfl rfl hf1003598 hf1003045 (fun h1003629 => ?_) (fun h1003629 => ?_)
                              · skip
                                refine qr_iconst 230 rfl rfl ?_
                                refine qr_goto 234 rfl rfl ?_
                                refine qr_istore _ 236 rfl (by decide) rfl rfl ?_
                                refine qr_iload 238 rfl (qm_ge _ _ _) rfl ?_
                                refine qr_if_eq 263 241 rfl rfl rfl (by decide) (fun h => False.elim (by omega)) (fun h1003630 => ?_)
                                refine qr_aload_n 242 rfl (qm_gk g1003575 (by decide) (Or.inl (by decide))) rfl ?_
                                refine qr_iload_n 243 rfl (qm_gk g1003576 (by decide) (Or.inl (by decide))) rfl ?_
                                have hs1003631 : (-9223372036854775808) ≤ σ1003587 86 29 ∧ σ1003587 86 29 ≤ 9223372036854775807 := hI1003589.1 86 29
                                have hs1003632 : σ1003587 86 29 = (σ 86 29) := (hk1003595).trans rfl
                                have hs1003633 : 0 ≤ σ1003587 86 41 ∧ σ1003587 86 41 ≤ 1 := hI1003589.1 86 41
                                have hs1003634 : σ1003587 86 41 = (σ1003032 86 41) := (hk1003596).trans rfl
                                have hs1003635 : 0 ≤ σ1003587 86 43 ∧ σ1003587 86 43 ≤ 32 := hI1003589.1 86 43
                                have hs1003636 : σ1003587 86 43 = (σ11 86 43) := (hk1003597).trans rfl
                                have hs1003637 : 0 ≤ σ1003587 86 6 ∧ σ1003587 86 6 ≤ 32 := hI1003589.1 86 6
                                have hs1003638 : σ1003587 86 6 = (σ 86 6) := (hk1003591).trans rfl
                                refine qr_callN 246 rfl rfl rfl (sf_240_86x (d := d + 0) hI1003589 (by omega) (by omega) (by omega) (qPG_fr hF1003590 (by decide) (by decide) p0) (qZf_fr hF1003590 (by decide) (by decide) p1) (((hk1003596).trans rfl).trans hx1003051) (fun p hp => by rw [hF1003590.2 92 (by decide)]; exact p4 p hp) (by rw [show α1003033 110 = α12 110 from hk1003042, show σ1003587 86 43 = σ11 86 43 from (hk1003597).trans rfl, show σ1003587 86 6 = σ 86 6 from hF1003590.1 86 6 (by decide)]; exact hc19_) (qZk_fr hF1003590 (by decide) (by decide) p2) ((hF1003590.1 86 29 (by decide)).trans p3)) ?_
                                rintro _ _ ⟨σ1003642, α1003643, rfl, hI1003644, hG1003645, hw1003641, v1003639, rfl, hv1003639, hx1003640⟩
                                have hF1003646 : qFr [(86, 15), (86, 22), (86, 23), (86, 30), (86, 35), (86, 36), (86, 37), (86, 38), (86, 39), (86, 41), (86, 43)] [96, 109, 110, 113] σ α σ1003642 α1003643 := qFr_t hF1003590 hG1003645 (by decide) (by decide)
                                have hs1003647 : 0 ≤ σ1003642 86 41 ∧ σ1003642 86 41 ≤ 1 := hI1003644.1 86 41
                                show qr_W (qe L xs vb) (d + 49) qx_e239 _ (246, _, [.int (qz v1003639)], qw σ1003642 α1003643 κ ρ, 0, 0)
                                rw [qbuGt_fr hF1003590 (by decide) (by decide) (((((hk1003596).trans rfl).trans hx1003051)).trans p5.symm) hA1003608, show α1003033 110 = α12 110 from hk1003042, show σ1003587 86 43 = σ11 86 43 from (hk1003597).trans rfl, qbuGM_tr] at hx1003640
                                refine qr_if_ne 263 249 rfl rfl rfl (qrg hv1003639 (by decide) (by decide)) (fun h1003648 => ?_) (fun h1003648 => ?_)
                                · skip
                                  refine qr_iinc _ 266 rfl (qm_gk g1003582 (by decide) (Or.inl (by decide))) (by decide) rfl rfl ?_
                                  refine qr_goto 118 rfl rfl ?_
                                  exact ih1003053 _ u1003025 u1003027 u1003029 (u1003031 + 1) σ1003642 α1003643 (by omega) (qm_gk (qm_gk g1003575 (by decide) (Or.inl (by decide))) (by decide) (Or.inl (by decide))) (qm_gk (qm_gk g1003576 (by decide) (Or.inl (by decide))) (by decide) (Or.inl (by decide))) (qm_gk (qm_gk g1003577 (by decide) (Or.inl (by decide))) (by decide) (Or.inl (by decide))) (qm_gk (qm_gk g1003578 (by decide) (Or.inl (by decide))) (by decide) (Or.inl (by decide))) (qm_gk (qm_gk g1003579 (by decide) (Or.inl (by decide))) (by decide) (Or.inl (by decide))) (qm_gk (qm_gk g1003580 (by decide) (Or.inl (by decide))) (by decide) (Or.inl (by decide))) (qm_gk (qm_gk g1003581 (by decide) (Or.inl (by decide))) (by decide) (Or.inl (by decide))) (qm_ge _ _ _) hf1003044 hf1003045 hf1003046 (by omega) hI1003644 hF1003646 ((hG1003645.1 86 6 (by decide)).trans ((hk1003591).trans rfl)) ((hG1003645.1 86 10 (by decide)).trans ((hk1003592).trans rfl)) ((hG1003645.1 86 16 (by decide)).trans ((hk1003593).trans rfl)) ((hG1003645.1 86 24 (by decide)).trans ((hk1003594).trans rfl)) ((hG1003645.1 86 29 (by decide)).trans ((hk1003595).trans rfl)) ((hG1003645.1 86 43 (by decide)).trans ((hk1003597).trans rfl)) ((hG1003645.2 110 (by decide)).trans hk1003042) ((hG1003645.2 113 (by decide)).trans hk1003043) (qmB_no (fun hd => by rcases hx1003640 with hz | hz; (exact hz.2 hd); (omega)) hx1003048) (by omega) (by omega) ((rfl).trans hw1003641)
                                · skip
                                  refine qr_iload 251 rfl (qm_gk g1003582 (by decide) (Or.inl (by decide))) rfl ?_
                                  refine qr_istore _ 253 rfl (by decide) rfl rfl ?_
                                  refine qr_iload 255 rfl (qm_gk (qm_gk g1003583 (by decide) (Or.inr rfl)) (by decide) (Or.inl (by decide))) rfl ?_
                                  refine qr_istore _ 257 rfl (by decide) rfl rfl ?_
                                  refine qr_aload_n 258 rfl (qm_gk (qm_gk (qm_gk g1003575 (by decide) (Or.inl (by decide))) (by decide) (Or.inl (by decide))) (by decide) (Or.inl (by decide))) rfl ?_
                                  refine qr_get 261 rfl rfl rfl (by decide) rfl ?_
                                  refine qy_vl (σ1003587 86 22) ((hG1003645.1 86 22 (by decide)).trans rfl) ?_
                                  refine qr_lstore _ 263 rfl (by decide) rfl rfl ?_
                                  refine qr_iinc _ 266 rfl (qm_gk2 (qm_gk (qm_gk (qm_gk g1003582 (by decide) (Or.inl (by decide))) (by decide) (Or.inl (by decide))) (by decide) (Or.inl (by decide))) (by decide) (by decide) (Or.inl (by decide))) (by decide) rfl rfl ?_
                                  refine qr_goto 118 rfl rfl ?_
                                  exact ih1003053 _ u1003031 u1003584 (σ1003587 86 22) (u1003031 + 1) σ1003642 α1003643 (by omega) (qm_gk (qm_gk2 (qm_gk (qm_gk (qm_gk g1003575 (by decide) (Or.inl (by decide))) (by decide) (Or.inl (by decide))) (by decide) (Or.inl (by decide))) (by decide) (by decide) (Or.inl (by decide))) (by decide) (Or.inl (by decide))) (qm_gk (qm_gk2 (qm_gk (qm_gk (qm_gk g1003576 (by decide) (Or.inl (by decide))) (by decide) (Or.inl (by decide))) (by decide) (Or.inl (by decide))) (by decide) (by decide) (Or.inl (by decide))) (by decide) (Or.inl (by decide))) (qm_gk (qm_gk2 (qm_gk (qm_gk (qm_gk g1003577 (by decide) (Or.inl (by decide))) (by decide) (Or.inl (by decide))) (by decide) (Or.inl (by decide))) (by decide) (by decide) (Or.inl (by decide))) (by decide) (Or.inl (by decide))) (qm_gk (qm_gk2 (qm_gk (qm_gk (qm_gk g1003578 (by decide) (Or.inl (by decide))) (by decide) (Or.inr rfl)) (by decide) (Or.inl (by decide))) (by decide) (by decide) (Or.inl (by decide))) (by decide) (Or.inl (by decide))) (qm_gk (qm_gk2 (qm_gk (qm_ge _ _ _) (by decide) (Or.inr rfl)) (by decide) (by decide) (Or.inl (by decide))) (by decide) (Or.inl (by decide))) (qm_gk (qm_gk2 (qm_ge _ _ _) (by decide) (by decide) (Or.inr rfl)) (by decide) (Or.inl (by decide))) (qm_gk (qm_ge2 _ _ _) (by decide) (Or.inl (by decide))) (qm_ge _ _ _) (by omega) hf1003598 (by omega) (by omega) hI1003644 hF1003646 ((hG1003645.1 86 6 (by decide)).trans ((hk1003591).trans rfl)) ((hG1003645.1 86 10 (by decide)).trans ((hk1003592).trans rfl)) ((hG1003645.1 86 16 (by decide)).trans ((hk1003593).trans rfl)) ((hG1003645.1 86 24 (by decide)).trans ((hk1003594).trans rfl)) ((hG1003645.1 86 29 (by decide)).trans ((hk1003595).trans rfl)) ((hG1003645.1 86 43 (by decide)).trans ((hk1003597).trans rfl)) ((hG1003645.2 110 (by decide)).trans hk1003042) ((hG1003645.2 113 (by decide)).trans hk1003043) (qbu_hi (by omega) (show (qbuD (qbuGM σ α g (α12 110) (σ11 86 43) (x2 / 10000) (x2 % 10000)) (α939885 113) (u939881 : Int).toNat) u1003031 by rcases hx1003640 with hz | hz; (omega); (exact hz.2)) (Or.inr (by have ka : (qbuK (α 101) (α939885 113) (u939881 : Int).toNat) u1003031 = -(qbuT (α 101) (α939885 113) u1003031 (u939881 : Int).toNat * 16 + qpn u1003031) := rfl; have kb : (qbuK (α 101) (α939885 113) (u939881 : Int).toNat) u1003025 = -(qbuT (α 101) (α939885 113) u1003025 (u939881 : Int).toNat * 16 + qpn u1003025) := rfl; have kc := qpn_r (x := u1003031) (by omega); have kd := qpn_r (x := u1003025) (by omega); omega)) hx1003048) (Or.inr ⟨by omega, by omega, hT1003607, hA1003608⟩) (by omega) ((rfl).trans hw1003641)
                              · skip
                                refine qr_iload 211 rfl g1003583 rfl ?_
                                refine qr_iload 213 rfl g1003580 rfl ?_
                                refine qr_icmp_ne 233 216 rfl rfl rfl hf1003598 hf1003045 (fun h1003649 => ?_) (fun h1003649 => ?_)
                                · skip
                                  refine qr_iconst 234 rfl rfl ?_
                                  refine qr_istore _ 236 rfl (by decide) rfl rfl ?_
                                  refine qr_iload 238 rfl (qm_ge _ _ _) rfl ?_
                                  refine qr_if_eq 263 241 rfl rfl rfl (by decide) (fun h1003650 => ?_) (fun h => False.elim (by omega))
                                  refine qr_iinc _ 266 rfl (qm_gk g1003582 (by decide) (Or.inl (by decide))) (by decide) rfl rfl ?_
                                  refine qr_goto 118 rfl rfl ?_
                                  exact ih1003053 _ u1003025 u1003027 u1003029 (u1003031 + 1) σ1003587 α1003033 (by omega) (qm_gk (qm_gk g1003575 (by decide) (Or.inl (by decide))) (by decide) (Or.inl (by decide))) (qm_gk (qm_gk g1003576 (by decide) (Or.inl (by decide))) (by decide) (Or.inl (by decide))) (qm_gk (qm_gk g1003577 (by decide) (Or.inl (by decide))) (by decide) (Or.inl (by decide))) (qm_gk (qm_gk g1003578 (by decide) (Or.inl (by decide))) (by decide) (Or.inl (by decide))) (qm_gk (qm_gk g1003579 (by decide) (Or.inl (by decide))) (by decide) (Or.inl (by decide))) (qm_gk (qm_gk g1003580 (by decide) (Or.inl (by decide))) (by decide) (Or.inl (by decide))) (qm_gk (qm_gk g1003581 (by decide) (Or.inl (by decide))) (by decide) (Or.inl (by decide))) (qm_ge _ _ _) hf1003044 hf1003045 hf1003046 (by omega) hI1003589 hF1003590 ((hk1003591).trans rfl) ((hk1003592).trans rfl) ((hk1003593).trans rfl) ((hk1003594).trans rfl) ((hk1003595).trans rfl) ((hk1003597).trans rfl) hk1003042 hk1003043 (qmB_lo (by omega) (by have ka : (qbuK (α 101) (α939885 113) (u939881 : Int).toNat) u1003031 = -(qbuT (α 101) (α939885 113) u1003031 (u939881 : Int).toNat * 16 + qpn u1003031) := rfl; have kb : (qbuK (α 101) (α939885 113) (u939881 : Int).toNat) u1003025 = -(qbuT (α 101) (α939885 113) u1003025 (u939881 : Int).toNat * 16 + qpn u1003025) := rfl; have kc := qpn_r (x := u1003031) (by omega); have kd := qpn_r (x := u1003025) (by omega); omega) hx1003048) (by omega) (by omega) (((hk1003596).trans rfl).trans hx1003051)
                                · skip
                                  refine qr_iload 218 rfl g1003582 rfl ?_
                                  refine qr_callN 221 rfl rfl rfl (sf_236x (d := d + 48) hI1003589 (qrg hf1003047 (by decide) (by decide))) ?_
                                  rintro _ _ ⟨rfl, v1003651, rfl, hv1003651, hp1003652⟩
                                  show qr_W (qe L xs vb) (d + 49) qx_e239 _ (221, _, [.int (qz v1003651)], qw σ1003587 α1003033 κ ρ, 0, 0)
                                  refine qr_iload 223 rfl g1003579 rfl ?_
                                  refine qr_callN 226 rfl rfl rfl (sf_236x (d := d + 48) hI1003589 (by omega)) ?_
                                  rintro _ _ ⟨rfl, v1003653, rfl, hv1003653, hp1003654⟩
                                  show qr_W (qe L xs vb) (d + 49) qx_e239 _ (226, _, [.int (qz v1003653), .int (qz v1003651)], qw σ1003587 α1003033 κ ρ, 0, 0)
                                  refine qr_icmp_ge 233 229 rfl rfl rfl hv1003651 hv1003653 (fun h1003655 => ?_) (fun h1003655 => ?_)
                                  · skip
                                    refine qr_iconst 234 rfl rfl ?_
                                    refine qr_istore _ 236 rfl (by decide) rfl rfl ?_
                                    refine qr_iload 238 rfl (qm_ge _ _ _) rfl ?_
                                    refine qr_if_eq 263 241 rfl rfl rfl (by decide) (fun h1003656 => ?_) (fun h => False.elim (by omega))
                                    refine qr_iinc _ 266 rfl (qm_gk g1003582 (by decide) (Or.inl (by decide))) (by decide) rfl rfl ?_
                                    refine qr_goto 118 rfl rfl ?_
                                    exact ih1003053 _ u1003025 u1003027 u1003029 (u1003031 + 1) σ1003587 α1003033 (by omega) (qm_gk (qm_gk g1003575 (by decide) (Or.inl (by decide))) (by decide) (Or.inl (by decide))) (qm_gk (qm_gk g1003576 (by decide) (Or.inl (by decide))) (by decide) (Or.inl (by decide))) (qm_gk (qm_gk g1003577 (by decide) (Or.inl (by decide))) (by decide) (Or.inl (by decide))) (qm_gk (qm_gk g1003578 (by decide) (Or.inl (by decide))) (by decide) (Or.inl (by decide))) (qm_gk (qm_gk g1003579 (by decide) (Or.inl (by decide))) (by decide) (Or.inl (by decide))) (qm_gk (qm_gk g1003580 (by decide) (Or.inl (by decide))) (by decide) (Or.inl (by decide))) (qm_gk (qm_gk g1003581 (by decide) (Or.inl (by decide))) (by decide) (Or.inl (by decide))) (qm_ge _ _ _) hf1003044 hf1003045 hf1003046 (by omega) hI1003589 hF1003590 ((hk1003591).trans rfl) ((hk1003592).trans rfl) ((hk1003593).trans rfl) ((hk1003594).trans rfl) ((hk1003595).trans rfl) ((hk1003597).trans rfl) hk1003042 hk1003043 (qmB_lo (by omega) (by have ka : (qbuK (α 101) (α939885 113) (u939881 : Int).toNat) u1003031 = -(qbuT (α 101) (α939885 113) u1003031 (u939881 : Int).toNat * 16 + qpn u1003031) := rfl; have kb : (qbuK (α 101) (α939885 113) (u939881 : Int).toNat) u1003025 = -(qbuT (α 101) (α939885 113) u1003025 (u939881 : Int).toNat * 16 + qpn u1003025) := rfl; have kc := qpn_r (x := u1003031) (by omega); have kd := qpn_r (x := u1003025) (by omega); omega) hx1003048) (by omega) (by omega) (((hk1003596).trans rfl).trans hx1003051)
                                  · skip
                                    refine qr_iconst 230 rfl rfl ?_
                                    refine qr_goto 234 rfl rfl ?_
                                    refine qr_istore _ 236 rfl (by decide) rfl rfl ?_
                                    refine qr_iload 238 rfl (qm_ge _ _ _) rfl ?_
                                    refine qr_if_eq 263 241 rfl rfl rfl (by decide) (fun h => False.elim (by omega)) (fun h1003657 => ?_)
                                    refine qr_aload_n 242 rfl (qm_gk g1003575 (by decide) (Or.inl (by decide))) rfl ?_
                                    refine qr_iload_n 243 rfl (qm_gk g1003576 (by decide) (Or.inl (by decide))) rfl ?_
                                    have hs1003658 : (-9223372036854775808) ≤ σ1003587 86 29 ∧ σ1003587 86 29 ≤ 9223372036854775807 := hI1003589.1 86 29
                                    have hs1003659 : σ1003587 86 29 = (σ 86 29) := (hk1003595).trans rfl
                                    have hs1003660 : 0 ≤ σ1003587 86 41 ∧ σ1003587 86 41 ≤ 1 := hI1003589.1 86 41
                                    have hs1003661 : σ1003587 86 41 = (σ1003032 86 41) := (hk1003596).trans rfl
                                    have hs1003662 : 0 ≤ σ1003587 86 43 ∧ σ1003587 86 43 ≤ 32 := hI1003589.1 86 43
                                    have hs1003663 : σ1003587 86 43 = (σ11 86 43) := (hk1003597).trans rfl
                                    have hs1003664 : 0 ≤ σ1003587 86 6 ∧ σ1003587 86 6 ≤ 32 := hI1003589.1 86 6
                                    have hs1003665 : σ1003587 86 6 = (σ 86 6) := (hk1003591).trans rfl
                                    refine qr_callN 246 rfl rfl rfl (sf_240_86x (d := d + 0) hI1003589 (by omega) (by omega) (by omega) (qPG_fr hF1003590 (by decide) (by decide) p0) (qZf_fr hF1003590 (by decide) (by decide) p1) (((hk1003596).trans rfl).trans hx1003051) (fun p hp => by rw [hF1003590.2 92 (by decide)]; exact p4 p hp) (by rw [show α1003033 110 = α12 110 from hk1003042, show σ1003587 86 43 = σ11 86 43 from (hk1003597).trans rfl, show σ1003587 86 6 = σ 86 6 from hF1003590.1 86 6 (by decide)]; exact hc19_) (qZk_fr hF1003590 (by decide) (by decide) p2) ((hF1003590.1 86 29 (by decide)).trans p3)) ?_
                                    rintro _ _ ⟨σ1003669, α1003670, rfl, hI1003671, hG1003672, hw1003668, v1003666, rfl, hv1003666, hx1003667⟩
                                    have hF1003673 : qFr [(86, 15), (86, 22), (86, 23), (86, 30), (86, 35), (86, 36), (86, 37), (86, 38), (86, 39), (86, 41), (86, 43)] [96, 109, 110, 113] σ α σ1003669 α1003670 := qFr_t hF1003590 hG1003672 (by decide) (by decide)
                                    have hs1003674 : 0 ≤ σ1003669 86 41 ∧ σ1003669 86 41 ≤ 1 := hI1003671.1 86 41
                                    show qr_W (qe L xs vb) (d + 49) qx_e239 _ (246, _, [.int (qz v1003666)], qw σ1003669 α1003670 κ ρ, 0, 0)
                                    rw [qbuGt_fr hF1003590 (by decide) (by decide) (((((hk1003596).trans rfl).trans hx1003051)).trans p5.symm) hA1003608, show α1003033 110 = α12 110 from hk1003042, show σ1003587 86 43 = σ11 86 43 from (hk1003597).trans rfl, qbuGM_tr] at hx1003667
                                    refine qr_if_ne 263 249 rfl rfl rfl (qrg hv1003666 (by decide) (by decide)) (fun h1003675 => ?_) (fun h1003675 => ?_)
                                    · skip
                                      refine qr_iinc _ 266 rfl (qm_gk g1003582 (by decide) (Or.inl (by decide))) (by decide) rfl rfl ?_
                                      refine qr_goto 118 rfl rfl ?_
                                      exact ih1003053 _ u1003025 u1003027 u1003029 (u1003031 + 1) σ1003669 α1003670 (by omega) (qm_gk (qm_gk g1003575 (by decide) (Or.inl (by decide))) (by decide) (Or.inl (by decide))) (qm_gk (qm_gk g1003576 (by decide) (Or.inl (by decide))) (by decide) (Or.inl (by decide))) (qm_gk (qm_gk g1003577 (by decide) (Or.inl (by decide))) (by decide) (Or.inl (by decide))) (qm_gk (qm_gk g1003578 (by decide) (Or.inl (by decide))) (by decide) (Or.inl (by decide))) (qm_gk (qm_gk g1003579 (by decide) (Or.inl (by decide))) (by decide) (Or.inl (by decide))) (qm_gk (qm_gk g1003580 (by decide) (Or.inl (by decide))) (by decide) (Or.inl (by decide))) (qm_gk (qm_gk g1003581 (by decide) (Or.inl (by decide))) (by decide) (Or.inl (by decide))) (qm_ge _ _ _) hf1003044 hf1003045 hf1003046 (by omega) hI1003671 hF1003673 ((hG1003672.1 86 6 (by decide)).trans ((hk1003591).trans rfl)) ((hG1003672.1 86 10 (by decide)).trans ((hk1003592).trans rfl)) ((hG1003672.1 86 16 (by decide)).trans ((hk1003593).trans rfl)) ((hG1003672.1 86 24 (by decide)).trans ((hk1003594).trans rfl)) ((hG1003672.1 86 29 (by decide)).trans ((hk1003595).trans rfl)) ((hG1003672.1 86 43 (by decide)).trans ((hk1003597).trans rfl)) ((hG1003672.2 110 (by decide)).trans hk1003042) ((hG1003672.2 113 (by decide)).trans hk1003043) (qmB_no (fun hd => by rcases hx1003667 with hz | hz; (exact hz.2 hd); (omega)) hx1003048) (by omega) (by omega) ((rfl).trans hw1003668)
                                    · skip
                                      refine qr_iload 251 rfl (qm_gk g1003582 (by decide) (Or.inl (by decide))) rfl ?_
                                      refine qr_istore _ 253 rfl (by decide) rfl rfl ?_
                                      refine qr_iload 255 rfl (qm_gk (qm_gk g1003583 (by decide) (Or.inr rfl)) (by decide) (Or.inl (by decide))) rfl ?_
                                      refine qr_istore _ 257 rfl (by decide) rfl rfl ?_
                                      refine qr_aload_n 258 rfl (qm_gk (qm_gk (qm_gk g1003575 (by decide) (Or.inl (by decide))) (by decide) (Or.inl (by decide))) (by decide) (Or.inl (by decide))) rfl ?_
                                      refine qr_get 261 rfl rfl rfl (by decide) rfl ?_
                                      refine qy_vl (σ1003587 86 22) ((hG1003672.1 86 22 (by decide)).trans rfl) ?_
                                      refine qr_lstore _ 263 rfl (by decide) rfl rfl ?_
                                      refine qr_iinc _ 266 rfl (qm_gk2 (qm_gk (qm_gk (qm_gk g1003582 (by decide) (Or.inl (by decide))) (by decide) (Or.inl (by decide))) (by decide) (Or.inl (by decide))) (by decide) (by decide) (Or.inl (by decide))) (by decide) rfl rfl ?_
                                      refine qr_goto 118 rfl rfl ?_
                                      exact ih1003053 _ u1003031 u1003584 (σ1003587 86 22) (u1003031 + 1) σ1003669 α1003670 (by omega) (qm_gk (qm_gk2 (qm_gk (qm_gk (qm_gk g1003575 (by decide) (Or.inl (by decide))) (by decide) (Or.inl (by decide))) (by decide) (Or.inl (by decide))) (by decide) (by decide) (Or.inl (by decide))) (by decide) (Or.inl (by decide))) (qm_gk (qm_gk2 (qm_gk (qm_gk (qm_gk g1003576 (by decide) (Or.inl (by decide))) (by decide) (Or.inl (by decide))) (by decide) (Or.inl (by decide))) (by decide) (by decide) (Or.inl (by decide))) (by decide) (Or.inl (by decide))) (qm_gk (qm_gk2 (qm_gk (qm_gk (qm_gk g1003577 (by decide) (Or.inl (by decide))) (by decide) (Or.inl (by decide))) (by decide) (Or.inl (by decide))) (by decide) (by decide) (Or.inl (by decide))) (by decide) (Or.inl (by decide))) (qm_gk (qm_gk2 (qm_gk (qm_gk (qm_gk g1003578 (by decide) (Or.inl (by decide))) (by decide) (Or.inr rfl)) (by decide) (Or.inl (by decide))) (by decide) (by decide) (Or.inl (by decide))) (by decide) (Or.inl (by decide))) (qm_gk (qm_gk2 (qm_gk (qm_ge _ _ _) (by decide) (Or.inr rfl)) (by decide) (by decide) (Or.inl (by decide))) (by decide) (Or.inl (by decide))) (qm_gk (qm_gk2 (qm_ge _ _ _) (by decide) (by decide) (Or.inr rfl)) (by decide) (Or.inl (by decide))) (qm_gk (qm_ge2 _ _ _) (by decide) (Or.inl (by decide))) (qm_ge _ _ _) (by omega) hf1003598 (by omega) (by omega) hI1003671 hF1003673 ((hG1003672.1 86 6 (by decide)).trans ((hk1003591).trans rfl)) ((hG1003672.1 86 10 (by decide)).trans ((hk1003592).trans rfl)) ((hG1003672.1 86 16 (by decide)).trans ((hk1003593).trans rfl)) ((hG1003672.1 86 24 (by decide)).trans ((hk1003594).trans rfl)) ((hG1003672.1 86 29 (by decide)).trans ((hk1003595).trans rfl)) ((hG1003672.1 86 43 (by decide)).trans ((hk1003597).trans rfl)) ((hG1003672.2 110 (by decide)).trans hk1003042) ((hG1003672.2 113 (by decide)).trans hk1003043) (qbu_hi (by omega) (show (qbuD (qbuGM σ α g (α12 110) (σ11 86 43) (x2 / 10000) (x2 % 10000)) (α939885 113) (u939881 : Int).toNat) u1003031 by rcases hx1003667 with hz | hz; (omega); (exact hz.2)) (Or.inr (by have ka : (qbuK (α 101) (α939885 113) (u939881 : Int).toNat) u1003031 = -(qbuT (α 101) (α939885 113) u1003031 (u939881 : Int).toNat * 16 + qpn u1003031) := rfl; have kb : (qbuK (α 101) (α939885 113) (u939881 : Int).toNat) u1003025 = -(qbuT (α 101) (α939885 113) u1003025 (u939881 : Int).toNat * 16 + qpn u1003025) := rfl; have kc := qpn_r (x := u1003031) (by omega); have kd := qpn_r (x := u1003025) (by omega); omega)) hx1003048) (Or.inr ⟨by omega, by omega, hT1003607, hA1003608⟩) (by omega) ((rfl).trans hw1003668)
                          · skip
                            refine qr_iload 147 rfl g1003582 rfl ?_
                            refine qr_iload 149 rfl g1003585 rfl ?_
                            refine qr_ishr 150 rfl rfl ?_
                            refine qy_canE (fun v1003676 hv1003676 hev1003676 => ?_)
                            refine qr_iconst 151 rfl rfl ?_
                            refine qr_iand 152 rfl rfl ?_
                            refine qy_andrE (by omega) (fun v1003677 hv1003677 hev1003677 => ?_)
                            refine qr_iconst 153 rfl rfl ?_
                            refine qr_icmp_ne 191 156 rfl rfl rfl (by omega) (by decide) (fun h1003678 => ?_) (fun h1003678 => ?_)
                            · skip
                              refine qr_iinc _ 194 rfl g1003585 (by decide) rfl rfl ?_
                              refine qr_goto 138 rfl rfl ?_
                              exact ih1003604 _ u1003584 (u1003586 + 1) σ1003587 (by omega) (qm_gk g1003575 (by decide) (Or.inl (by decide))) (qm_gk g1003576 (by decide) (Or.inl (by decide))) (qm_gk g1003577 (by decide) (Or.inl (by decide))) (qm_gk g1003578 (by decide) (Or.inl (by decide))) (qm_gk g1003579 (by decide) (Or.inl (by decide))) (qm_gk g1003580 (by decide) (Or.inl (by decide))) (qm_gk g1003581 (by decide) (Or.inl (by decide))) (qm_gk g1003582 (by decide) (Or.inl (by decide))) (qm_gk g1003583 (by decide) (Or.inr rfl)) (qm_ge _ _ _) hf1003598 (by omega) hI1003589 hF1003590 ((hk1003591).trans rfl) ((hk1003592).trans rfl) ((hk1003593).trans rfl) ((hk1003594).trans rfl) ((hk1003595).trans rfl) ((hk1003596).trans rfl) ((hk1003597).trans rfl) (by have hq0 := hx1003600; have hq1 := qbuT_s (α 101) (α939885 113) u1003031 (i := u1003586) (by omega); have hq2 := qbi_inS (t := u1003031) (i := u1003586) (by omega) hev1003676 hev1003677 (by omega); omega) (qap_n (by omega) (by have hq := qbi_inS (t := u1003031) (i := u1003586) (by omega) hev1003676 hev1003677 (by omega); omega) ((rfl).trans hx1003601)) (by omega)
                            · skip
                              refine qr_iload 158 rfl g1003583 rfl ?_
                              refine qr_aload_n 159 rfl g1003575 rfl ?_
                              refine qr_get 162 rfl rfl rfl (by decide) rfl ?_
                              refine qr_aload_n 163 rfl g1003575 rfl ?_
                              refine qr_get 166 rfl rfl rfl (by decide) rfl ?_
                              refine qr_iload 168 rfl g1003585 rfl ?_
                              refine qr_iaload 169 rfl rfl (by omega) (by decide) rfl ?_
                              refine qr_topI (fun v1003679 hv1003679 => ?_)
                              have hs1003680 : 0 ≤ v1003679 ∧ v1003679 ≤ 39 := by rw [hv1003679]; exact hI1003589.2.1 113 _ (show _ < 10 by omega)
                              have hrv1003679 : v1003679 = (α939885 113) (u1003586 : Int).toNat := hv1003679.trans (congrFun hk1003043 _)
                              refine qr_iaload 170 rfl rfl (qrgi hs1003680 (by decide) (by decide)) (by decide) rfl ?_
                              refine qr_topI (fun v1003681 hv1003681 => ?_)
                              have hs1003682 : (-2147483648) ≤ v1003681 ∧ v1003681 ≤ 2147483647 := by rw [hv1003681]; exact hI1003589.2.1 101 _ (show _ < 40 from qrgt hs1003680 (by decide) (by decide))
                              have hp1003683i : v1003679 = α939885 113 (u1003586 : Int).toNat := (hv1003679).trans (congrFun (hk1003043) _)
                              have hp1003683 : v1003681 = α 101 (α939885 113 (u1003586 : Int).toNat : Int).toNat := by rw [← hp1003683i]; exact (hv1003681).trans (congrFun (hF1003590.2 101 (by decide)) _)
                              have hp1003683r := p7 (α939885 113 (u1003586 : Int).toNat : Int).toNat (by have hq := hos978693r.1 (u1003586 : Int).toNat (by omega); omega)
                              refine qr_iadd 171 rfl rfl ?_
                              refine qy_canE (fun v1003684 hv1003684 hev1003684 => ?_)
                              refine qr_istore _ 173 rfl (by decide) rfl rfl ?_
                              refine qr_aload_n 174 rfl (qm_gk g1003575 (by decide) (Or.inl (by decide))) rfl ?_
                              refine qr_dup 175 rfl rfl rfl ?_
                              refine qr_get 178 rfl rfl rfl (by decide) rfl ?_
                              refine qr_lconst 179 rfl rfl ?_
                              refine qy_vl 1 rfl ?_
                              refine qr_aload_n 180 rfl (qm_gk g1003575 (by decide) (Or.inl (by decide))) rfl ?_
                              refine qr_get 183 rfl rfl rfl (by decide) rfl ?_
                              refine qr_iload 185 rfl (qm_gk g1003585 (by decide) (Or.inl (by decide))) rfl ?_
                              refine qr_iaload 186 rfl rfl (by omega) (by decide) rfl ?_
                              refine qr_topI (fun v1003685 hv1003685 => ?_)
                              have hs1003686 : 0 ≤ v1003685 ∧ v1003685 ≤ 39 := by rw [hv1003685]; exact hI1003589.2.1 113 _ (show _ < 10 by omega)
                              have hrv1003685 : v1003685 = (α939885 113) (u1003586 : Int).toNat := hv1003685.trans (congrFun hk1003043 _)
                              have hp1003687 : v1003685 = α939885 113 (u1003586 : Int).toNat := (hv1003685).trans (congrFun (hk1003043) _)
                              refine qr_lshl 187 rfl rfl ?_
                              refine qy_canlE (fun v1003688 hv1003688 hev1003688 => ?_)
                              refine qr_lor 188 rfl rfl ?_
                              refine qy_canlE (fun v1003689 hv1003689 hev1003689 => ?_)
                              refine qr_put 191 rfl (by decide) rfl (Nat.le_of_ble_eq_true rfl) (Nat.le_of_ble_eq_true rfl) (Or.inl rfl) (qr_fitL rfl _) rfl ?_
                              refine qy_wS (qw_s σ1003587 86 22 v1003689) rfl (fun σ1003690 e1003691 => ?_)
                              have hI1003692 : qI σ1003690 α1003033 κ ρ := by rw [e1003691]; exact qI_s hI1003589 86 22 rfl (show (-9223372036854775808) ≤ v1003689 ∧ v1003689 ≤ 9223372036854775807 by omega)
                              have hF1003693 : qFr [(86, 15), (86, 22), (86, 23), (86, 30), (86, 35), (86, 36), (86, 37), (86, 38), (86, 39), (86, 41), (86, 43)] [96, 109, 110, 113] σ α σ1003690 α1003033 := by rw [e1003691]; exact qFr_s hF1003590 86 22 _ (by decide)
                              refine qr_iinc _ 194 rfl (qm_gk g1003585 (by decide) (Or.inl (by decide))) (by decide) rfl rfl ?_
                              refine qr_goto 138 rfl rfl ?_
                              exact ih1003604 _ v1003684 (u1003586 + 1) σ1003690 (by omega) (qm_gk (qm_gk g1003575 (by decide) (Or.inl (by decide))) (by decide) (Or.inl (by decide))) (qm_gk (qm_gk g1003576 (by decide) (Or.inl (by decide))) (by decide) (Or.inl (by decide))) (qm_gk (qm_gk g1003577 (by decide) (Or.inl (by decide))) (by decide) (Or.inl (by decide))) (qm_gk (qm_gk g1003578 (by decide) (Or.inl (by decide))) (by decide) (Or.inl (by decide))) (qm_gk (qm_gk g1003579 (by decide) (Or.inl (by decide))) (by decide) (Or.inl (by decide))) (qm_gk (qm_gk g1003580 (by decide) (Or.inl (by decide))) (by decide) (Or.inl (by decide))) (qm_gk (qm_gk g1003581 (by decide) (Or.inl (by decide))) (by decide) (Or.inl (by decide))) (qm_gk (qm_gk g1003582 (by decide) (Or.inr rfl)) (by decide) (Or.inl (by decide))) (qm_gk (qm_ge _ _ _) (by decide) (Or.inr rfl)) (qm_ge _ _ _) hv1003684 (by omega) hI1003692 hF1003693 ((congrFun (congrFun e1003691 86) 6).trans ((hk1003591).trans rfl)) ((congrFun (congrFun e1003691 86) 10).trans ((hk1003592).trans rfl)) ((congrFun (congrFun e1003691 86) 16).trans ((hk1003593).trans rfl)) ((congrFun (congrFun e1003691 86) 24).trans ((hk1003594).trans rfl)) ((congrFun (congrFun e1003691 86) 29).trans ((hk1003595).trans rfl)) ((congrFun (congrFun e1003691 86) 41).trans ((hk1003596).trans rfl)) ((congrFun (congrFun e1003691 86) 43).trans ((hk1003597).trans rfl)) (by have hq0 := hx1003600; have hq1 := qbuT_s (α 101) (α939885 113) u1003031 (i := u1003586) (by omega); have hq2 := qbi_inS (t := u1003031) (i := u1003586) (by omega) hev1003676 hev1003677 (by omega); have hq3 := hp1003683; have hq4 := hp1003683r; have hq5 := qz_val hev1003684 (by omega) (by omega); omega) (((congrFun (congrFun e1003691 86) 22).trans rfl).trans (qap_y (by omega) (by have hq := qbi_inS (t := u1003031) (i := u1003586) (by omega) hev1003676 hev1003677 (by omega); omega) (by show v1003689 = _; rw [ql_val hev1003689 (by omega) (ql_or_r _ _), ql_val hev1003688 (by omega) (ql_shl_r _ _), hp1003687, hx1003601]))) (by omega)
                      exact hL1003603 ((10 - 0 + 1 : Int)).toNat _ 0 0 σ1003064 (by omega) (qm_gk (qm_gk g1003020 (by decide) (Or.inl (by decide))) (by decide) (Or.inl (by decide))) (qm_gk (qm_gk g1003021 (by decide) (Or.inl (by decide))) (by decide) (Or.inl (by decide))) (qm_gk (qm_gk g1003022 (by decide) (Or.inl (by decide))) (by decide) (Or.inl (by decide))) (qm_gk (qm_gk g1003023 (by decide) (Or.inl (by decide))) (by decide) (Or.inl (by decide))) (qm_gk (qm_gk g1003024 (by decide) (Or.inl (by decide))) (by decide) (Or.inl (by decide))) (qm_gk (qm_gk g1003026 (by decide) (Or.inl (by decide))) (by decide) (Or.inl (by decide))) (qm_gk (qm_gk g1003028 (by decide) (Or.inl (by decide))) (by decide) (Or.inl (by decide))) (qm_gk (qm_gk g1003030 (by decide) (Or.inr rfl)) (by decide) (Or.inl (by decide))) (qm_gk (qm_ge _ _ _) (by decide) (Or.inr rfl)) (qm_ge _ _ _) (by decide) (by decide) hI1003066 hF1003067 ((congrFun (congrFun e1003065 86) 6).trans ((hk1003036).trans rfl)) ((congrFun (congrFun e1003065 86) 10).trans ((hk1003037).trans rfl)) ((congrFun (congrFun e1003065 86) 16).trans ((hk1003038).trans rfl)) ((congrFun (congrFun e1003065 86) 24).trans ((hk1003039).trans rfl)) ((congrFun (congrFun e1003065 86) 29).trans ((hk1003040).trans rfl)) ((congrFun (congrFun e1003065 86) 41).trans rfl) ((congrFun (congrFun e1003065 86) 43).trans ((hk1003041).trans rfl)) ⟨rfl, by omega, by omega⟩ (((congrFun (congrFun e1003065 86) 22).trans rfl).trans rfl) (by omega)
                exact hL1003052 ((1024 - 0 + 1 : Int)).toNat _ (-1) 0 0 0 σ11 α939885 (by omega) (qm_gk (qm_gk2 (qm_gk (qm_gk g939877 (by decide) (Or.inl (by decide))) (by decide) (Or.inl (by decide))) (by decide) (by decide) (Or.inl (by decide))) (by decide) (Or.inl (by decide))) (qm_gk (qm_gk2 (qm_gk (qm_gk g939878 (by decide) (Or.inl (by decide))) (by decide) (Or.inl (by decide))) (by decide) (by decide) (Or.inl (by decide))) (by decide) (Or.inl (by decide))) (qm_gk (qm_gk2 (qm_gk (qm_gk g939879 (by decide) (Or.inl (by decide))) (by decide) (Or.inl (by decide))) (by decide) (by decide) (Or.inl (by decide))) (by decide) (Or.inl (by decide))) (qm_gk (qm_gk2 (qm_gk (qm_gk g939880 (by decide) (Or.inr rfl)) (by decide) (Or.inl (by decide))) (by decide) (by decide) (Or.inl (by decide))) (by decide) (Or.inl (by decide))) (qm_gk (qm_gk2 (qm_gk (qm_ge _ _ _) (by decide) (Or.inr rfl)) (by decide) (by decide) (Or.inl (by decide))) (by decide) (Or.inl (by decide))) (qm_gk (qm_gk2 (qm_ge _ _ _) (by decide) (by decide) (Or.inr rfl)) (by decide) (Or.inl (by decide))) (qm_gk (qm_ge2 _ _ _) (by decide) (Or.inl (by decide))) (qm_ge _ _ _) (by decide) (by decide) (by decide) (by decide) hI939886 hF939887 ((hG14.1 86 6 (by decide)).trans rfl) ((hG14.1 86 10 (by decide)).trans rfl) ((hG14.1 86 16 (by decide)).trans rfl) ((hG14.1 86 24 (by decide)).trans rfl) ((hG14.1 86 29 (by decide)).trans rfl) (rfl) hk939888 rfl (qmB_0 _ _) (Or.inl rfl) (by omega) (((hG14.1 86 41 (by decide)).trans rfl).trans p5)
              · skip
                refine qr_aload_n 55 rfl g939877 rfl ?_
                refine qr_get 58 rfl rfl rfl (by decide) rfl ?_
                refine qr_bipush 60 rfl (by decide) rfl ?_
                refine qr_iload 62 rfl g939882 rfl ?_
                refine qr_iadd 63 rfl rfl ?_
                refine qr_iaload 64 rfl rfl (by omega) (by decide) rfl ?_
                refine qr_topI (fun v1003694 hv1003694 => ?_)
                have hs1003695 : (-2147483648) ≤ v1003694 ∧ v1003694 ≤ 2147483647 := by rw [hv1003694]; exact hI939886.2.1 87 _ (show _ < 252 by omega)
                have hp1003696 := (show v1003694 = qsh (α 87) 32 (u939883 : Int).toNat from (hv1003694).trans ((congrFun (hF939887.2 87 (by decide)) _).trans (by unfold qsh; congr 1; omega)))
                refine qr_sipush 67 rfl (by decide) rfl ?_
                refine qr_icmp_eq 88 70 rfl rfl rfl hs1003695 (by decide) (fun h1003697 => ?_) (fun h1003697 => ?_)
                · skip
                  refine qr_aload_n 89 rfl g939877 rfl ?_
                  refine qr_get 92 rfl rfl rfl (by decide) rfl ?_
                  refine qr_iload 94 rfl g939880 rfl ?_
                  refine qr_iload 96 rfl g939882 rfl ?_
                  refine qr_iastore 97 rfl (by decide) rfl (by omega) (by decide) rfl ?_
                  refine qy_wA (qw_r α939885 113 (qzu (α939885 113) (u939881 : Int).toNat u939883)) rfl (fun α1003698 e1003699 => ?_)
                  have hI1003700 : qI σ11 α1003698 κ ρ := by rw [e1003699]; exact qI_r hI939886 113 _ rfl (show 0 ≤ u939883 ∧ u939883 ≤ 39 by omega)
                  have hF1003701 : qFr [(86, 15), (86, 22), (86, 23), (86, 30), (86, 35), (86, 36), (86, 37), (86, 38), (86, 39), (86, 41), (86, 43)] [96, 109, 110, 113] σ α σ11 α1003698 := by rw [e1003699]; exact qFr_r hF939887 113 _ (by decide)
                  refine qr_iinc _ 100 rfl g939880 (by decide) rfl rfl ?_
                  refine qr_iinc _ 103 rfl (qm_gk g939882 (by decide) (Or.inl (by decide))) (by decide) rfl rfl ?_
                  refine qr_goto 38 rfl rfl ?_
                  exact ih939895 _ (u939881 + 1) (u939883 + 1) α1003698 (by omega) (qm_gk (qm_gk g939877 (by decide) (Or.inl (by decide))) (by decide) (Or.inl (by decide))) (qm_gk (qm_gk g939878 (by decide) (Or.inl (by decide))) (by decide) (Or.inl (by decide))) (qm_gk (qm_gk g939879 (by decide) (Or.inr rfl)) (by decide) (Or.inl (by decide))) (qm_gk (qm_ge _ _ _) (by decide) (Or.inr rfl)) (qm_ge _ _ _) (by omega) (by omega) hI1003700 hF1003701 ((congrFun e1003699 110).trans ((qw_r_ne (by decide)).trans hk939888)) (qbu_lr (by omega) (by omega) (by rw [← hp1003696]; omega) (((congrFun e1003699 113).trans (qw_r_eq.trans (congrArg (fun f => qzu f (u939881 : Int).toNat u939883) rfl)))) rfl hx939891) (by omega) (by omega)
                · skip
                  refine qr_aload_n 71 rfl g939877 rfl ?_
                  refine qr_get 74 rfl rfl rfl (by decide) rfl ?_
                  refine qr_bipush 76 rfl (by decide) rfl ?_
                  refine qr_iload 78 rfl g939882 rfl ?_
                  refine qr_iadd 79 rfl rfl ?_
                  refine qr_iaload 80 rfl rfl (by omega) (by decide) rfl ?_
                  refine qr_topI (fun v1003702 hv1003702 => ?_)
                  have hs1003703 : (-2147483648) ≤ v1003702 ∧ v1003702 ≤ 2147483647 := by rw [hv1003702]; exact hI939886.2.1 87 _ (show _ < 252 by omega)
                  have hp1003704 := (show v1003702 = qsh (α 87) 32 (u939883 : Int).toNat from (hv1003702).trans ((congrFun (hF939887.2 87 (by decide)) _).trans (by unfold qsh; congr 1; omega)))
                  refine qr_iload_n 81 rfl g939878 rfl ?_
                  refine qr_sipush 84 rfl (by decide) rfl ?_
                  refine qr_idiv 85 rfl (by omega) (by decide) rfl ?_
                  refine qr_icmp_le 100 88 rfl rfl rfl hs1003703 (by omega) (fun h1003705 => ?_) (fun h1003705 => ?_)
                  · skip
                    refine qr_iinc _ 103 rfl g939882 (by decide) rfl rfl ?_
                    refine qr_goto 38 rfl rfl ?_
                    exact ih939895 _ u939881 (u939883 + 1) α939885 (by omega) (qm_gk g939877 (by decide) (Or.inl (by decide))) (qm_gk g939878 (by decide) (Or.inl (by decide))) (qm_gk g939879 (by decide) (Or.inl (by decide))) (qm_gk g939880 (by decide) (Or.inr rfl)) (qm_ge _ _ _) hf939889 (by omega) hI939886 hF939887 hk939888 (qbu_ln (by omega) (by rw [← hp1003704]; omega) hx939891) (by omega) (by omega)
                  · skip
                    refine qr_aload_n 89 rfl g939877 rfl ?_
                    refine qr_get 92 rfl rfl rfl (by decide) rfl ?_
                    refine qr_iload 94 rfl g939880 rfl ?_
                    refine qr_iload 96 rfl g939882 rfl ?_
                    refine qr_iastore 97 rfl (by decide) rfl (by omega) (by decide) rfl ?_
                    refine qy_wA (qw_r α939885 113 (qzu (α939885 113) (u939881 : Int).toNat u939883)) rfl (fun α1003706 e1003707 => ?_)
                    have hI1003708 : qI σ11 α1003706 κ ρ := by rw [e1003707]; exact qI_r hI939886 113 _ rfl (show 0 ≤ u939883 ∧ u939883 ≤ 39 by omega)
                    have hF1003709 : qFr [(86, 15), (86, 22), (86, 23), (86, 30), (86, 35), (86, 36), (86, 37), (86, 38), (86, 39), (86, 41), (86, 43)] [96, 109, 110, 113] σ α σ11 α1003706 := by rw [e1003707]; exact qFr_r hF939887 113 _ (by decide)
                    refine qr_iinc _ 100 rfl g939880 (by decide) rfl rfl ?_
                    refine qr_iinc _ 103 rfl (qm_gk g939882 (by decide) (Or.inl (by decide))) (by decide) rfl rfl ?_
                    refine qr_goto 38 rfl rfl ?_
                    exact ih939895 _ (u939881 + 1) (u939883 + 1) α1003706 (by omega) (qm_gk (qm_gk g939877 (by decide) (Or.inl (by decide))) (by decide) (Or.inl (by decide))) (qm_gk (qm_gk g939878 (by decide) (Or.inl (by decide))) (by decide) (Or.inl (by decide))) (qm_gk (qm_gk g939879 (by decide) (Or.inr rfl)) (by decide) (Or.inl (by decide))) (qm_gk (qm_ge _ _ _) (by decide) (Or.inr rfl)) (qm_ge _ _ _) (by omega) (by omega) hI1003708 hF1003709 ((congrFun e1003707 110).trans ((qw_r_ne (by decide)).trans hk939888)) (qbu_lr (by omega) (by omega) (by rw [← hp1003704]; omega) (((congrFun e1003707 113).trans (qw_r_eq.trans (congrArg (fun f => qzu f (u939881 : Int).toNat u939883) rfl)))) rfl hx939891) (by omega) (by omega)
        exact hL939894 ((40 - 0 + 1 : Int)).toNat _ 0 0 α12 (by omega) rfl rfl rfl rfl rfl (by decide) (by decide) hI13 hF15 rfl (qLs_0 _) (by omega) (by omega)
      · skip
        refine qr_ldc2 (-1) 31 rfl (by decide) rfl ?_
        refine qr_retL rfl rfl (by decide) (by decide) ?_
        exact ⟨_, _, rfl, hI13, hF15, (by have hw : σ11 86 41 = (σ 86 41) := (hG14.1 86 41 (by decide)).trans rfl; omega), (by have hw : σ11 86 22 = (σ 86 22) := (hG14.1 86 22 (by decide)).trans rfl; omega), (-1), rfl, (by decide), (Or.inl ⟨rfl, (fun hc => by obtain ⟨c1, c2, c3, c4, c5, c6, c7, c8⟩ := hc; first | omega | (rcases hx9 with hz | hz; (exact hz.2 ⟨c6, c7, c8⟩); (omega)))⟩)⟩

set_option maxHeartbeats 4000000 in
theorem ro_buy {σ α σ1 α1 σ2 α2 : Nat → Nat → Int} {κ : Nat → Option Nat} {ρ : Nat} {x1 x2 x3 v1 v2 : Int} {f g : (Nat → Int) → Int} (hA0 : qAg f g) (hI1 : qI σ1 α1 κ ρ) (hI2 : qI σ2 α2 κ ρ) (hp0 : ∀ f : Nat, (f : Int) < σ 86 16 → 0 ≤ α 101 f ∧ α 101 f ≤ 999) (hI : qI σ α κ ρ) (hR : qR σ α) (hK : qR2 σ α) (hF : qRF σ α) (hP : qRP σ α) (hH : qRH σ α) (hL : qRL σ α) (hN : qRN σ α) (hW : qRS σ α) (hG1 : qFr [(27, 6), (58, 11), (58, 12), (64, 2)] [53, 57, 59, 60, 61, 62, 63, 65, 85] σ α σ1 α1) (hG2 : qFr [(86, 15), (86, 22), (86, 23), (86, 30), (86, 35), (86, 36), (86, 37), (86, 38), (86, 39), (86, 41), (86, 43)] [96, 109, 110, 113] σ1 α1 σ2 α2) (hx0 : ((v1 = -1 ∧ ¬ (qst x1 (σ 17 6) ∧ 0 ≤ x2 ∧ x2 / 10000 ≤ x2 % 10000 ∧ x2 % 10000 ≤ 2399 ∧ x2 % 10000 - x2 / 10000 < 48 ∧ (x3 = 0 ∨ x3 = 1) ∧ ¬ (ql_and x1 (ql_xor (σ 17 5) (-1))) = 0 ∧ qcn (ql_and x1 (ql_xor (σ 17 5) (-1))) 64 ≤ 12)) ∨ ((qst x1 (σ 17 6) ∧ 0 ≤ x2 ∧ x2 / 10000 ≤ x2 % 10000 ∧ x2 % 10000 ≤ 2399 ∧ x2 % 10000 - x2 / 10000 < 48 ∧ (x3 = 0 ∨ x3 = 1) ∧ ¬ (ql_and x1 (ql_xor (σ 17 5) (-1))) = 0 ∧ qcn (ql_and x1 (ql_xor (σ 17 5) (-1))) 64 ≤ 12) ∧ qLs (α1 65) (σ1 64 2) (qBr (fun k : Nat => qbit (ql_and x1 (ql_xor (σ 17 5) (-1))) (k : Int)) 32) ∧ qbuRes σ α f (α1 65) (σ1 64 2) (x2 / 10000) (x2 % 10000) x3 v1))) (hx1 : (∀ c : Nat, c < 496 → α1 61 c ≤ σ1 58 12)) (hx2 : (∀ c : Nat, c < 496 → α1 63 c ≤ σ1 58 12)) (hx3 : (0 ≤ σ1 58 12 ∧ σ1 58 12 ≤ σ 58 12 + 528)) (hy0 : ((v2 = -1 ∧ ¬ (0 ≤ x2 ∧ x2 / 10000 ≤ x2 % 10000 ∧ x2 % 10000 ≤ 2399 ∧ x2 % 10000 - x2 / 10000 < 48 ∧ (x3 = 0 ∨ x3 = 1) ∧ qst x1 (σ1 86 6) ∧ 1 ≤ qsm (fun k : Nat => qbit (ql_and x1 (ql_xor (σ1 86 10) (-1))) (k : Int)) (σ1 86 6 : Int).toNat ∧ qsm (fun k : Nat => qbit (ql_and x1 (ql_xor (σ1 86 10) (-1))) (k : Int)) (σ1 86 6 : Int).toNat ≤ 12)) ∨ ((0 ≤ x2 ∧ x2 / 10000 ≤ x2 % 10000 ∧ x2 % 10000 ≤ 2399 ∧ x2 % 10000 - x2 / 10000 < 48 ∧ (x3 = 0 ∨ x3 = 1) ∧ qst x1 (σ1 86 6) ∧ 1 ≤ qsm (fun k : Nat => qbit (ql_and x1 (ql_xor (σ1 86 10) (-1))) (k : Int)) (σ1 86 6 : Int).toNat ∧ qsm (fun k : Nat => qbit (ql_and x1 (ql_xor (σ1 86 10) (-1))) (k : Int)) (σ1 86 6 : Int).toNat ≤ 12) ∧ qLs (α2 110) (σ2 86 43) (qBr (fun k : Nat => qbit (ql_and x1 (ql_xor (σ1 86 10) (-1))) (k : Int)) (σ1 86 6 : Int).toNat) ∧ qbuRm σ1 α1 g (α2 110) (α2 113) (σ2 86 43) (x2 / 10000) (x2 % 10000) x3 v2)))  : v1 = v2 := by
  have b6 : 0 ≤ σ 86 6 ∧ σ 86 6 ≤ 32 := hI.1 86 6
  have b16 : 0 ≤ σ 86 16 ∧ σ 86 16 ≤ 40 := hI.1 86 16
  have b24 : 0 ≤ σ 86 24 ∧ σ 86 24 ≤ 60 := hI.1 86 24
  have e6 := hR.1
  have e16 := hR.2.1
  have e24 := hR.2.2.1
  have c6 : σ1 86 6 = σ 86 6 := hG1.1 86 6 (by decide)
  have c10 : σ1 86 10 = σ 86 10 := hG1.1 86 10 (by decide)
  have n5 := hN.1
  rw [e6, n5] at hx0
  rw [c6, c10, qbuRm_fr hG1 (by decide) (by decide) (hG1.2 101 (by decide))] at hy0
  have lr := ql_and_r x1 (ql_xor (σ 86 10) (-1))
  have nz := qgl_nz lr
  rcases hx0 with ⟨a1, a2⟩ | ⟨a1, a2, a3⟩
  · rcases hy0 with ⟨b1, b2⟩ | ⟨b1, b2, b3⟩
    · omega
    · obtain ⟨m1, m2, m3, m4, m5, m6, m7, m8⟩ := b1
      have ln := qgl_len (d := ql_xor (σ 86 10) (-1)) m6 b6
      exact absurd ⟨m6, m1, m2, m3, m4, m5, nz.mpr (by omega), by omega⟩ a2
  · obtain ⟨c1, c2, c3, c4, c5, c6', c7, c8⟩ := a1
    have ln := qgl_len (d := ql_xor (σ 86 10) (-1)) c1 b6
    have n1 := nz.mp c7
    rcases hy0 with ⟨b1, b2⟩ | ⟨b1, b2, b3⟩
    · exact absurd ⟨c2, c3, c4, c5, c6', c1, by omega, by omega⟩ b2
    rw [qgl_ls (d := ql_xor (σ 86 10) (-1)) c1 b6] at a2
    have gl := qgr_ls a2 b2
    have hsr := qSr_of b6.1 b2
    have ge := gl.1
    rw [ge] at a3 gl
    obtain ⟨P, hPo, hAo⟩ := a3
    obtain ⟨m, hm, hos, hBo⟩ := b3
    have hbr : qBr (qbuQ (α 33) (x2 / 10000)) (σ 27 7 : Int).toNat = qBr (qbuQ (qsh (α 87) 32) (x2 / 10000)) (σ 86 16 : Int).toNat := by
      rw [hR.2.1]
      refine qbu_bc _ (fun k hk => ?_)
      have e : α 33 k = qsh (α 87) 32 k := hH.1.1.1.2.1 k (by omega)
      unfold qbuQ
      rw [e]
    have hPl := hPo.1
    rw [hbr] at hPl
    rw [hR.2.1] at hAo
    exact qbu_un (by omega) (by omega) hos hPl (qbu_sr b16.1 hos) (fun k hk => ⟨by rw [hF.2.2.2.2.1], by rw [hF.2.2.2.2.1]; exact (hp0 k hk).1⟩) (fun X => qbu_gg hI hR hK hF hP hH hL hN hW hA0 hsr (fun k hk => gl.2 k (by omega)) X) hAo hBo

/-! the prices of feuds -/
def qPZ (σ α : Nat → Nat → Int) : Prop := ∀ f : Nat, (f : Int) < σ 86 16 → 0 ≤ α 101 f ∧ α 101 f ≤ 999
theorem qPZ_fr {S : List (Nat × Nat)} {R : List Nat} {σ α σ' α' : Nat → Nat → Int} (hG : qFr S R σ α σ' α') (hs : [((86 : Nat), (16 : Nat))].all (fun x => !S.contains x) = true) (hr : [101].all (fun x => !R.contains x) = true) (h : qPZ σ α) : qPZ σ' α' := by
  have es : σ' 86 16 = σ 86 16 := hG.1 86 16 (fun hn => by
    have h1 := List.all_eq_true.mp hs (86, 16) (by decide)
    rw [List.contains_iff_mem.mpr hn] at h1
    exact absurd h1 (by decide))
  have er : α' 101 = α 101 := hG.2 101 (fun hn => by
    have h1 := List.all_eq_true.mp hr 101 (by decide)
    rw [List.contains_iff_mem.mpr hn] at h1
    exact absurd h1 (by decide))
  unfold qPZ
  rw [es, er]
  exact h
theorem qPZ_0 (s g : Nat → Nat → Int) : qPZ (qJ_s s) (qJ_r g) := fun f hf => by
  have h0 : (f : Int) < 0 := hf
  omega
theorem qPZ_feud {σ1 α1 σ2 α2 : Nat → Nat → Int} {κ : Nat → Option Nat} {ρ : Nat} {x1 x2 x3 v2 : Int} (hI : qI σ1 α1 κ ρ) (hy0 : ((v2 = -1 ∧ ¬ (0 ≤ x1 ∧ x1 / 100 < σ1 86 6 ∧ x1 % 100 < σ1 86 6 ∧ ¬ x1 / 100 = x1 % 100 ∧ 0 ≤ x2 ∧ x2 ≤ 2399 ∧ 0 ≤ x3 ∧ x3 ≤ 3999) ∧ σ2 86 16 = σ1 86 16) ∧ α2 97 = α1 97 ∧ α2 98 = α1 98 ∧ α2 99 = α1 99 ∧ α2 100 = α1 100 ∧ α2 101 = α1 101 ∧ α2 87 = α1 87) ∨ ((v2 = -3 ∧ (0 ≤ x1 ∧ x1 / 100 < σ1 86 6 ∧ x1 % 100 < σ1 86 6 ∧ ¬ x1 / 100 = x1 % 100 ∧ 0 ≤ x2 ∧ x2 ≤ 2399 ∧ 0 ≤ x3 ∧ x3 ≤ 3999) ∧ 40 ≤ σ1 86 16 ∧ σ2 86 16 = σ1 86 16) ∧ α2 97 = α1 97 ∧ α2 98 = α1 98 ∧ α2 99 = α1 99 ∧ α2 100 = α1 100 ∧ α2 101 = α1 101 ∧ α2 87 = α1 87) ∨ ((v2 = σ1 86 16 ∧ (0 ≤ x1 ∧ x1 / 100 < σ1 86 6 ∧ x1 % 100 < σ1 86 6 ∧ ¬ x1 / 100 = x1 % 100 ∧ 0 ≤ x2 ∧ x2 ≤ 2399 ∧ 0 ≤ x3 ∧ x3 ≤ 3999) ∧ σ1 86 16 < 40 ∧ σ2 86 16 = σ1 86 16 + 1) ∧ α2 97 = qzu (α1 97) (σ1 86 16 : Int).toNat (x1 / 100) ∧ α2 98 = qzu (α1 98) (σ1 86 16 : Int).toNat (x1 % 100) ∧ α2 99 = qzu (α1 99) (σ1 86 16 : Int).toNat (x2) ∧ α2 100 = qzu (α1 100) (σ1 86 16 : Int).toNat (x3 / 1000) ∧ α2 101 = qzu (α1 101) (σ1 86 16 : Int).toNat (x3 % 1000) ∧ α2 87 = qzu (α1 87) (32 + σ1 86 16 : Int).toNat (2400))) (h : qPZ σ1 α1) : qPZ σ2 α2 := by
  have b16 : 0 ≤ σ1 86 16 ∧ σ1 86 16 ≤ 40 := hI.1 86 16
  rcases hy0 with ⟨⟨b1, b2, b3⟩, y97, y98, y99, y100, y101, y87⟩ | ⟨⟨b1, b2, b3, b4⟩, y97, y98, y99, y100, y101, y87⟩ | ⟨⟨b1, b2, b3, b4⟩, y97, y98, y99, y100, y101, y87⟩
  · unfold qPZ
    rw [b3, y101]
    exact h
  · unfold qPZ
    rw [b4, y101]
    exact h
  · intro f hf
    rw [y101]
    unfold qzu
    by_cases c : f = (σ1 86 16 : Int).toNat
    · rw [if_pos c]
      omega
    · rw [if_neg c]
      exact h f (by omega)
