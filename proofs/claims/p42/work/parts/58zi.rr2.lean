def qRF (σ α : Nat → Nat → Int) : Prop := α 28 = α 97 ∧ α 29 = α 98 ∧ α 30 = α 99 ∧ α 31 = α 100 ∧ α 32 = α 101 ∧ ∀ f : Nat, (f : Int) < σ 86 16 → α 97 f < σ 86 6 ∧ α 98 f < σ 86 6
theorem qRF_fr {S : List (Nat × Nat)} {R : List Nat} {σ α σ' α' : Nat → Nat → Int} (hG : qFr S R σ α σ' α') (hs : [(86, 6), (86, 16)].all (fun x => !S.contains x) = true) (hr : [28, 29, 30, 31, 32, 97, 98, 99, 100, 101].all (fun x => !R.contains x) = true) (h : qRF σ α) : qRF σ' α' := by
  have es : ∀ a k, (a, k) ∈ [(86, 6), (86, 16)] → σ' a k = σ a k := fun a k hm => hG.1 a k (fun hn => by
    have h1 := List.all_eq_true.mp hs (a, k) hm
    rw [List.contains_iff_mem.mpr hn] at h1
    exact absurd h1 (by decide))
  have er : ∀ a, a ∈ [28, 29, 30, 31, 32, 97, 98, 99, 100, 101] → α' a = α a := fun a hm => hG.2 a (fun hn => by
    have h1 := List.all_eq_true.mp hr a hm
    rw [List.contains_iff_mem.mpr hn] at h1
    exact absurd h1 (by decide))
  unfold qRF at h ⊢
  rw [es 86 6 (by decide), es 86 16 (by decide), er 28 (by decide), er 29 (by decide), er 30 (by decide), er 31 (by decide), er 32 (by decide), er 97 (by decide), er 98 (by decide), er 99 (by decide), er 100 (by decide), er 101 (by decide)]
  exact h
def qRP (σ α : Nat → Nat → Int) : Prop := α 36 = α 102 ∧ α 37 = α 103 ∧ α 38 = α 104 ∧ α 39 = α 105 ∧ ∀ k : Nat, (k : Int) < σ 86 24 → (0 ≤ α 104 k ∧ α 104 k ≤ 2399) ∧ 0 ≤ α 105 k ∧ α 105 k ≤ 240
theorem qRP_fr {S : List (Nat × Nat)} {R : List Nat} {σ α σ' α' : Nat → Nat → Int} (hG : qFr S R σ α σ' α') (hs : [(86, 24)].all (fun x => !S.contains x) = true) (hr : [36, 37, 38, 39, 102, 103, 104, 105].all (fun x => !R.contains x) = true) (h : qRP σ α) : qRP σ' α' := by
  have es : ∀ a k, (a, k) ∈ [(86, 24)] → σ' a k = σ a k := fun a k hm => hG.1 a k (fun hn => by
    have h1 := List.all_eq_true.mp hs (a, k) hm
    rw [List.contains_iff_mem.mpr hn] at h1
    exact absurd h1 (by decide))
  have er : ∀ a, a ∈ [36, 37, 38, 39, 102, 103, 104, 105] → α' a = α a := fun a hm => hG.2 a (fun hn => by
    have h1 := List.all_eq_true.mp hr a hm
    rw [List.contains_iff_mem.mpr hn] at h1
    exact absurd h1 (by decide))
  unfold qRP at h ⊢
  rw [es 86 24 (by decide), er 36 (by decide), er 37 (by decide), er 38 (by decide), er 39 (by decide), er 102 (by decide), er 103 (by decide), er 104 (by decide), er 105 (by decide)]
  exact h
def qRH (σ α : Nat → Nat → Int) : Prop := qHq σ α (α 87, α 88, α 89, α 90, σ 86 5, σ 86 4) ∧ qCh (α 87, α 88, α 89, α 90, σ 86 5, σ 86 4)
theorem qRH_fr {S : List (Nat × Nat)} {R : List Nat} {σ α σ' α' : Nat → Nat → Int} (hG : qFr S R σ α σ' α') (hs : [(17, 6), (27, 7), (34, 7), (76, 7), (76, 8), (86, 4), (86, 5)].all (fun x => !S.contains x) = true) (hr : [20, 33, 35, 38, 39, 40, 41, 77, 78, 79, 80, 87, 88, 89, 90].all (fun x => !R.contains x) = true) (h : qRH σ α) : qRH σ' α' := by
  have es : ∀ a k, (a, k) ∈ [(17, 6), (27, 7), (34, 7), (76, 7), (76, 8), (86, 4), (86, 5)] → σ' a k = σ a k := fun a k hm => hG.1 a k (fun hn => by
    have h1 := List.all_eq_true.mp hs (a, k) hm
    rw [List.contains_iff_mem.mpr hn] at h1
    exact absurd h1 (by decide))
  have er : ∀ a, a ∈ [20, 33, 35, 38, 39, 40, 41, 77, 78, 79, 80, 87, 88, 89, 90] → α' a = α a := fun a hm => hG.2 a (fun hn => by
    have h1 := List.all_eq_true.mp hr a hm
    rw [List.contains_iff_mem.mpr hn] at h1
    exact absurd h1 (by decide))
  unfold qRH
  rw [er 87 (by decide), er 88 (by decide), er 89 (by decide), er 90 (by decide), es 86 5 (by decide), es 86 4 (by decide)]
  exact ⟨qHq_c (fun a k hm => es a k ((by decide : ∀ x, x ∈ [(17, 6), (27, 7), (34, 7), (76, 7), (76, 8)] → x ∈ [(17, 6), (27, 7), (34, 7), (76, 7), (76, 8), (86, 4), (86, 5)]) (a, k) hm)) (fun a hm => er a ((by decide : ∀ x, x ∈ [20, 33, 35, 38, 39, 40, 41, 77, 78, 79, 80] → x ∈ [20, 33, 35, 38, 39, 40, 41, 77, 78, 79, 80, 87, 88, 89, 90]) a hm)) h.1, h.2⟩
def qRL (σ α : Nat → Nat → Int) : Prop := ∀ p : Nat, (p : Int) < σ 17 6 → ∀ l : Int, (0 ≤ l ∧ l < 64) → qbit (α 22 p) l = qll (α 91) (p : Int) l
theorem qRL_fr {S : List (Nat × Nat)} {R : List Nat} {σ α σ' α' : Nat → Nat → Int} (hG : qFr S R σ α σ' α') (hs : [(17, 6)].all (fun x => !S.contains x) = true) (hr : [22, 91].all (fun x => !R.contains x) = true) (h : qRL σ α) : qRL σ' α' := by
  have es : ∀ a k, (a, k) ∈ [(17, 6)] → σ' a k = σ a k := fun a k hm => hG.1 a k (fun hn => by
    have h1 := List.all_eq_true.mp hs (a, k) hm
    rw [List.contains_iff_mem.mpr hn] at h1
    exact absurd h1 (by decide))
  have er : ∀ a, a ∈ [22, 91] → α' a = α a := fun a hm => hG.2 a (fun hn => by
    have h1 := List.all_eq_true.mp hr a hm
    rw [List.contains_iff_mem.mpr hn] at h1
    exact absurd h1 (by decide))
  unfold qRL at h ⊢
  rw [es 17 6 (by decide), er 22 (by decide), er 91 (by decide)]
  exact h
def qRN (σ _α : Nat → Nat → Int) : Prop := σ 17 5 = σ 86 10 ∧ σ 27 6 = 0 ∧ σ 58 10 = 0 ∧ σ 86 22 = 0 ∧ σ 86 29 = 0 ∧ σ 86 41 = 0
theorem qRN_fr {S : List (Nat × Nat)} {R : List Nat} {σ α σ' α' : Nat → Nat → Int} (hG : qFr S R σ α σ' α') (hs : [(17, 5), (27, 6), (58, 10), (86, 10), (86, 22), (86, 29), (86, 41)].all (fun x => !S.contains x) = true) (h : qRN σ α) : qRN σ' α' := by
  have es : ∀ a k, (a, k) ∈ [(17, 5), (27, 6), (58, 10), (86, 10), (86, 22), (86, 29), (86, 41)] → σ' a k = σ a k := fun a k hm => hG.1 a k (fun hn => by
    have h1 := List.all_eq_true.mp hs (a, k) hm
    rw [List.contains_iff_mem.mpr hn] at h1
    exact absurd h1 (by decide))
  unfold qRN at h ⊢
  rw [es 17 5 (by decide), es 27 6 (by decide), es 58 10 (by decide), es 86 10 (by decide), es 86 22 (by decide), es 86 29 (by decide), es 86 41 (by decide)]
  exact h
def qRT (σ α : Nat → Nat → Int) : Prop := σ 70 2 = σ 86 50 ∧ (∀ i : Nat, (i : Int) < σ 70 2 → α 71 i = 100 * α 115 i + α 116 i) ∧ ((σ 70 2 = 0 ∧ σ 86 51 = -1) ∨ (0 < σ 70 2 ∧ σ 70 3 = σ 86 51))
theorem qRT_fr {S : List (Nat × Nat)} {R : List Nat} {σ α σ' α' : Nat → Nat → Int} (hG : qFr S R σ α σ' α') (hs : [(70, 2), (70, 3), (86, 50), (86, 51)].all (fun x => !S.contains x) = true) (hr : [71, 115, 116].all (fun x => !R.contains x) = true) (h : qRT σ α) : qRT σ' α' := by
  have es : ∀ a k, (a, k) ∈ [(70, 2), (70, 3), (86, 50), (86, 51)] → σ' a k = σ a k := fun a k hm => hG.1 a k (fun hn => by
    have h1 := List.all_eq_true.mp hs (a, k) hm
    rw [List.contains_iff_mem.mpr hn] at h1
    exact absurd h1 (by decide))
  have er : ∀ a, a ∈ [71, 115, 116] → α' a = α a := fun a hm => hG.2 a (fun hn => by
    have h1 := List.all_eq_true.mp hr a hm
    rw [List.contains_iff_mem.mpr hn] at h1
    exact absurd h1 (by decide))
  unfold qRT at h ⊢
  rw [es 70 2 (by decide), es 70 3 (by decide), es 86 50 (by decide), es 86 51 (by decide), er 71 (by decide), er 115 (by decide), er 116 (by decide)]
  exact h
/-- swords: 0 or 1, now and as they were -/
def qSW (h : qHS) : Prop := (∀ k : Nat, k < 32 → 0 ≤ h.1 k ∧ h.1 k ≤ 1) ∧ ∀ j : Nat, (j : Int) < h.2.2.2.2.2 → h.2.1 j < 32 → (0 ≤ h.2.2.1 j ∧ h.2.2.1 j ≤ 1) ∧ (0 ≤ h.2.2.2.1 j ∧ h.2.2.2.1 j ≤ 1)
def qRS (σ α : Nat → Nat → Int) : Prop := qSW (α 87, α 88, α 89, α 90, σ 86 5, σ 86 4)
theorem qRS_fr {S : List (Nat × Nat)} {R : List Nat} {σ α σ' α' : Nat → Nat → Int} (hG : qFr S R σ α σ' α') (hs : [((86 : Nat), (4 : Nat)), (86, 5)].all (fun x => !S.contains x) = true) (hr : [87, 88, 89, 90].all (fun x => !R.contains x) = true) (h : qRS σ α) : qRS σ' α' := by
  have es : ∀ a k, (a, k) ∈ [((86 : Nat), (4 : Nat)), (86, 5)] → σ' a k = σ a k := fun a k hm => hG.1 a k (fun hn => by
    have h1 := List.all_eq_true.mp hs (a, k) hm
    rw [List.contains_iff_mem.mpr hn] at h1
    exact absurd h1 (by decide))
  have er : ∀ a, a ∈ [87, 88, 89, 90] → α' a = α a := fun a hm => hG.2 a (fun hn => by
    have h1 := List.all_eq_true.mp hr a hm
    rw [List.contains_iff_mem.mpr hn] at h1
    exact absurd h1 (by decide))
  unfold qRS at h ⊢
  rw [er 87 (by decide), er 88 (by decide), er 89 (by decide), er 90 (by decide), es 86 5 (by decide), es 86 4 (by decide)]
  exact h
theorem qSW_bec {h : qHS} {a w : Int} (hd : 0 ≤ h.2.2.2.2.1 ∧ h.2.2.2.2.1 ≤ h.2.2.2.2.2) (hv : a < 32 → 0 ≤ w ∧ w ≤ 1) (hc : qSW h) : qSW (qbec h a w) := by
  by_cases e : h.1 a.toNat = w
  · rw [show qbec h a w = h from if_pos e]
    exact hc
  · have hb : qbec h a w = (qzu h.1 a.toNat w, qzu (qfo h.2.2.2.2.1 h.2.1) (qdo h.2.2.2.2.1).toNat a, qzu (qfo h.2.2.2.2.1 h.2.2.1) (qdo h.2.2.2.2.1).toNat (h.1 a.toNat), qzu (qfo h.2.2.2.2.1 h.2.2.2.1) (qdo h.2.2.2.2.1).toNat w, qdo h.2.2.2.2.1 + 1, qdo h.2.2.2.2.1 + 1) := if_neg e
    rw [hb]
    refine ⟨fun k hk => ?_, fun j hj h32 => ?_⟩
    · show 0 ≤ (if k = a.toNat then w else h.1 k) ∧ (if k = a.toNat then w else h.1 k) ≤ 1
      by_cases c : k = a.toNat
      · rw [if_pos c]
        exact hv (by omega)
      · rw [if_neg c]
        exact hc.1 k hk
    · have hj' : (j : Int) < qdo h.2.2.2.2.1 + 1 := hj
      have h32' : (if j = (qdo h.2.2.2.2.1).toNat then a else qfo h.2.2.2.2.1 h.2.1 j) < 32 := h32
      show (0 ≤ (if j = (qdo h.2.2.2.2.1).toNat then h.1 a.toNat else qfo h.2.2.2.2.1 h.2.2.1 j) ∧ (if j = (qdo h.2.2.2.2.1).toNat then h.1 a.toNat else qfo h.2.2.2.2.1 h.2.2.1 j) ≤ 1) ∧ (0 ≤ (if j = (qdo h.2.2.2.2.1).toNat then w else qfo h.2.2.2.2.1 h.2.2.2.1 j) ∧ (if j = (qdo h.2.2.2.2.1).toNat then w else qfo h.2.2.2.2.1 h.2.2.2.1 j) ≤ 1)
      by_cases c : j = (qdo h.2.2.2.2.1).toNat
      · rw [if_pos c] at h32'
        rw [if_pos c, if_pos c]
        exact ⟨hc.1 _ (by omega), hv h32'⟩
      · rw [if_neg c] at h32'
        rw [if_neg c, if_neg c]
        have hlt : (j : Int) < qdo h.2.2.2.2.1 := by omega
        have hk : (((if 40 ≤ h.2.2.2.2.1 then j + 1 else j : Nat)) : Int) < h.2.2.2.2.2 := by
          have h9 := hlt
          unfold qdo at h9
          by_cases c4 : 40 ≤ h.2.2.2.2.1
          · rw [if_pos c4] at h9 ⊢
            omega
          · rw [if_neg c4] at h9 ⊢
            omega
        rw [qfo_c _ _ j hlt] at h32'
        rw [qfo_c _ _ j hlt, qfo_c _ _ j hlt]
        exact hc.2 _ hk h32'
theorem qSW_und {h : qHS} (hd : 0 < h.2.2.2.2.1 ∧ h.2.2.2.2.1 ≤ h.2.2.2.2.2) (hc : qSW h) : qSW (qund h) := by
  refine ⟨fun k hk => ?_, hc.2⟩
  show 0 ≤ (if k = (h.2.1 (h.2.2.2.2.1 - 1).toNat).toNat then h.2.2.1 (h.2.2.2.2.1 - 1).toNat else h.1 k) ∧ (if k = (h.2.1 (h.2.2.2.2.1 - 1).toNat).toNat then h.2.2.1 (h.2.2.2.2.1 - 1).toNat else h.1 k) ≤ 1
  by_cases c : k = (h.2.1 (h.2.2.2.2.1 - 1).toNat).toNat
  · rw [if_pos c]
    exact (hc.2 (h.2.2.2.2.1 - 1).toNat (by omega) (by omega)).1
  · rw [if_neg c]
    exact hc.1 k hk
theorem qSW_red {h : qHS} (hd : 0 ≤ h.2.2.2.2.1 ∧ h.2.2.2.2.1 < h.2.2.2.2.2) (hc : qSW h) : qSW (qred h) := by
  refine ⟨fun k hk => ?_, hc.2⟩
  show 0 ≤ (if k = (h.2.1 h.2.2.2.2.1.toNat).toNat then h.2.2.2.1 h.2.2.2.2.1.toNat else h.1 k) ∧ (if k = (h.2.1 h.2.2.2.2.1.toNat).toNat then h.2.2.2.1 h.2.2.2.2.1.toNat else h.1 k) ≤ 1
  by_cases c : k = (h.2.1 h.2.2.2.2.1.toNat).toNat
  · rw [if_pos c]
    exact (hc.2 h.2.2.2.2.1.toNat (by omega) (by omega)).2
  · rw [if_neg c]
    exact hc.1 k hk
theorem qSW_new {m : Nat → Int} {h : (Nat → Int) × (Nat → Int) × (Nat → Int) × Int × Int} {a : Nat} {x : Int} (hx : a < 32 → 0 ≤ x ∧ x ≤ 1) (hc : qSW (m, h)) : qSW (qzu m a x, h) := by
  refine ⟨fun k hk => ?_, hc.2⟩
  show 0 ≤ (if k = a then x else m k) ∧ (if k = a then x else m k) ≤ 1
  by_cases c : k = a
  · rw [if_pos c]
    exact hx (by omega)
  · rw [if_neg c]
    exact hc.1 k hk
theorem qSW_kn : ∀ (l : List Int) (h : qHS), (∀ x ∈ l, 0 ≤ x) → (0 ≤ h.2.2.2.2.1 ∧ h.2.2.2.2.1 ≤ h.2.2.2.2.2) → qSW h → qSW (qkn l h)
  | [], _, _, _, hc => hc
  | x :: l, h, hx, hd, hc => by
    have e : qkn (x :: l) h = qkn l (qbec h (192 + x) 6) := rfl
    have x0 := hx x (List.mem_cons_self ..)
    rw [e]
    refine qSW_kn l _ (fun y hy => hx y (List.mem_cons_of_mem _ hy)) ?_ (qSW_bec hd (fun z => absurd z (by omega)) hc)
    by_cases c : h.1 (192 + x).toNat = 6
    · rw [show qbec h (192 + x) 6 = h from if_pos c]
      exact hd
    · rw [show qbec h (192 + x) 6 = _ from if_neg c]
      show 0 ≤ qdo h.2.2.2.2.1 + 1 ∧ qdo h.2.2.2.2.1 + 1 ≤ qdo h.2.2.2.2.1 + 1
      unfold qdo
      split <;> omega
/-- customs alike -/
def qDK (κ : Nat → Option Nat) (ρ : Nat) : Prop := ∃ a b : Nat, κ 0 = some a ∧ κ 1 = some b ∧ ¬ a = b ∧ ¬ a = ρ ∧ ¬ b = ρ
def qAg (f g : (Nat → Int) → Int) : Prop := ∀ N : Nat → Int, (0 ≤ N 0 ∧ N 0 ≤ 1) → (0 ≤ N 3 ∧ N 3 ≤ 1) → f N = g N
theorem qAg_rf (f : (Nat → Int) → Int) : qAg f f := fun _ _ _ => rfl
def qRC (σ α : Nat → Nat → Int) (κ : Nat → Option Nat) (ρ : Nat) : Prop := qDK κ ρ ∧ (∃ f g : (Nat → Int) → Int, qPW σ α κ (0 : Int).toNat f ∧ qPG σ α 0 g ∧ qAg f g) ∧ ∃ f g : (Nat → Int) → Int, qPW σ α κ (1 : Int).toNat f ∧ qPG σ α 1 g ∧ qAg f g
theorem qRC_fr {S : List (Nat × Nat)} {R : List Nat} {σ α σ' α' : Nat → Nat → Int} {κ : Nat → Option Nat} {ρ : Nat} (hG : qFr S R σ α σ' α') (hs : [(50, 5), (50, 6), (54, 5), (54, 6), (82, 5), (82, 6)].all (fun x => !S.contains x) = true) (hr : [52, 56, 84].all (fun x => !R.contains x) = true) (hs2 : ([] : List (Nat × Nat)).all (fun x => !S.contains x) = true) (hr2 : [107, 108].all (fun x => !R.contains x) = true) (h : qRC σ α κ ρ) : qRC σ' α' κ ρ := by
  obtain ⟨hd, ⟨f0, g0, a0, b0, c0⟩, ⟨f1, g1, a1, b1, c1⟩⟩ := h
  exact ⟨hd, ⟨f0, g0, qPW_fr hG hs hr a0, qPG_fr hG hs2 hr2 b0, c0⟩, ⟨f1, g1, qPW_fr hG hs hr a1, qPG_fr hG hs2 hr2 b1, c1⟩⟩
/-- what the reference's side asks for -/
theorem qrr_zf {σ α : Nat → Nat → Int} {κ : Nat → Option Nat} {ρ : Nat} (hI : qI σ α κ ρ) (h : qRF σ α) : qZf σ α := fun f hf => by
  have b16 : 0 ≤ σ 86 16 ∧ σ 86 16 ≤ 40 := hI.1 86 16
  obtain ⟨_, _, _, f4, _, f6⟩ := h
  have a1 : 0 ≤ α 97 f ∧ α 97 f ≤ 31 := hI.2.1 97 f (show f < 40 by omega)
  have a2 : 0 ≤ α 98 f ∧ α 98 f ≤ 31 := hI.2.1 98 f (show f < 40 by omega)
  have a3 : 0 ≤ α 31 f ∧ α 31 f ≤ 3 := hI.2.1 31 f (show f < 40 by omega)
  rw [f4] at a3
  have a4 := f6 f hf
  omega
theorem qrr_zk {σ α : Nat → Nat → Int} (hI24 : 0 ≤ σ 86 24 ∧ σ 86 24 ≤ 60) (hR : qR σ α) (hP : qRP σ α) (hH : qRH σ α) : qZk σ α := fun k hk => by
  have h1 := hP.2.2.2.2 k hk
  have h2 := hR.2.2.1
  have h3 := hH.1.1.2 k (by omega)
  have h4 : α 35 k = α 87 (192 + k) := hH.1.1.1.2.2.1 k (by omega)
  have h5 : qsh (α 87) 192 k = α 87 (192 + k) := rfl
  rw [h5, ← h4]
  refine ⟨?_, h1⟩
  rcases h3 with h3 | h3
  · omega
  · have := h3.1
    omega
theorem qrr_zp {σ α : Nat → Nat → Int} {κ : Nat → Option Nat} {ρ : Nat} (hI : qI σ α κ ρ) (hP : qRP σ α) : qZp σ α := fun k hk => by
  have h := hI.1 34 7
  have h2 : 0 ≤ σ 34 7 ∧ σ 34 7 ≤ 60 := h
  have h3 : 0 ≤ α 102 k ∧ α 102 k ≤ 31 := hI.2.1 102 k (show k < 60 by omega)
  rw [hP.1]
  exact h3
/-- a peace between two, on both sides -/
theorem qrr_h {σ α : Nat → Nat → Int} {κ : Nat → Option Nat} {ρ : Nat} (hI : qI σ α κ ρ) (hR : qR σ α) (hP : qRP σ α) (hH : qRH σ α) (hL : qRL σ α) {p q h : Int} (hp : 0 ≤ p ∧ p < σ 86 6) (hq : 0 ≤ q ∧ q < σ 86 6) {k : Nat} (hk : (k : Int) < σ 86 24) : qhF (α 35) (α 36) (α 37) (α 40) (qcv (α 41)) (qlw (α 22)) p q h k = qhF (qsh (α 87) 192) (α 102) (α 103) (qun (α 104) (α 105) (qsh (α 87) 192)) (qcw (α 87)) (qll (α 91)) p q h k := by
  have b6 : 0 ≤ σ 86 6 ∧ σ 86 6 ≤ 32 := hI.1 86 6
  have b24 : 0 ≤ σ 86 24 ∧ σ 86 24 ≤ 60 := hI.1 86 24
  have e6 := hR.1
  have e24 := hR.2.2.1
  obtain ⟨p1, p2, p3, p4, _⟩ := hP
  have k1 : α 35 k = qsh (α 87) 192 k := hH.1.1.1.2.2.1 k (by omega)
  have cv : ∀ x : Int, 0 ≤ x → x < 32 → qcv (α 41) k x = qcw (α 87) k x := fun x h1 h2 => by
    have h3 := hH.1.1.1.2.2.2.1 k (by omega) x ⟨h1, by omega⟩
    rw [if_pos h2] at h3
    exact h3
  have g1 : 0 ≤ α 102 k ∧ α 102 k ≤ 31 := hI.2.1 102 k (show k < 60 by omega)
  have lw : ∀ x : Int, 0 ≤ x → x < σ 86 6 → qlw (α 22) x (α 102 k) = qll (α 91) x (α 102 k) := fun x h1 h2 => by
    have h3 := hL x.toNat (by omega) (α 102 k) ⟨g1.1, by omega⟩
    rw [show ((x.toNat : Nat) : Int) = x by omega] at h3
    exact h3
  have hu := hH.1.1.2 k (by omega)
  unfold qhF
  rw [p1, p2, cv p hp.1 (by omega), cv q hq.1 (by omega), lw p hp.1 hp.2, lw q hq.1 hq.2, ← k1]
  rcases hu with hu | hu
  · unfold qho
    rw [if_pos (by omega), if_pos (by omega)]
  · have e : α 40 k = qun (α 104) (α 105) (qsh (α 87) 192) k := by
      have h3 : α 40 k = α 38 k + (if α 35 k = 2 then α 39 k else 0) := hu.2
      rw [h3, p3, p4, k1]
      rfl
    rw [e]
theorem qrr_b {σ α : Nat → Nat → Int} {κ : Nat → Option Nat} {ρ : Nat} (hI : qI σ α κ ρ) (hP : qRP σ α) (hH : qRH σ α) {p : Int} (hp : 0 ≤ p ∧ p < 32) {k : Nat} (hk : (k : Int) < σ 86 24) : qBc σ α p k = qBm σ α p k := by
  have b24 : 0 ≤ σ 86 24 ∧ σ 86 24 ≤ 60 := hI.1 86 24
  have h3 := hH.1.1.1.2.2.2.1 k (by omega) p ⟨hp.1, by omega⟩
  rw [if_pos hp.2] at h3
  have h4 : qcv (α 41) k p = qcw (α 87) k p := h3
  unfold qBc qBm qbF
  rw [hP.1, h4]
/-- ties on both sides -/
theorem qrr_d {σ α : Nat → Nat → Int} (h2 : qR2 σ α) {x y : Int} (hx : 0 ≤ x ∧ x < 32) (hy : 0 ≤ y ∧ y < 32) : (qTb (α 24) x y = qd9 (α 94) (α 95) (σ 86 11) x y ∧ qTb (α 24) x y ≤ 9) ∨ (9 < qTb (α 24) x y ∧ qd9 (α 94) (α 95) (σ 86 11) x y = 99) := by
  have h := h2.2.2 x y hx hy
  by_cases l : qTb (α 24) x y ≤ 9
  · exact Or.inl ⟨qd9_of h (Or.inl ⟨rfl, l⟩), l⟩
  · exact Or.inr ⟨by omega, (qd9_of h (v := 99) (Or.inr ⟨rfl, by omega⟩)).symm⟩
theorem qrr_m {σ α : Nat → Nat → Int} (h2 : qR2 σ α) {x y : Int} (hx : 0 ≤ x ∧ x < 32) (hy : 0 ≤ y ∧ y < 32) : qm9 (qTb (α 24) x y) = qm9 (qd9 (α 94) (α 95) (σ 86 11) x y) := by
  have h := qrr_d h2 hx hy
  unfold qm9
  rcases h with h | h
  · rw [← h.1]
  · rw [h.2, if_neg (by omega), if_neg (by decide)]
theorem qrr_k {σ α : Nat → Nat → Int} {κ : Nat → Option Nat} {ρ : Nat} (hI : qI σ α κ ρ) (hR : qR σ α) (h2 : qR2 σ α) (hF : qRF σ α) (hH : qRH σ α) (hN : qRN σ α) {p q h : Int} (hp : 0 ≤ p ∧ p < 32) (hq : 0 ≤ q ∧ q < 32) : qnF (qTb (α 24)) (α 28) (α 29) (α 31) (α 30) (α 33) (σ 27 6) (σ 27 7) p q h = qnF (qd9 (α 94) (α 95) (σ 86 11)) (α 97) (α 98) (α 100) (α 99) (qsh (α 87) 32) (σ 86 22) (σ 86 16) p q h := by
  have b16 : 0 ≤ σ 86 16 ∧ σ 86 16 ≤ 40 := hI.1 86 16
  obtain ⟨f1, f2, f3, f4, f5, f6⟩ := hF
  have r31 : ∀ k : Nat, k < 40 → 0 ≤ α 100 k ∧ α 100 k ≤ 3 := fun k hk => by
    have h3 : 0 ≤ α 31 k ∧ α 31 k ≤ 3 := hI.2.1 31 k hk
    rw [f4] at h3
    exact h3
  rw [hR.2.1, hN.2.1, hN.2.2.2.1, f1, f2, f3, f4]
  unfold qnF
  refine qnk_eq _ (fun k hk => ⟨?_, ?_⟩)
  · have e : α 33 k = qsh (α 87) 32 k := hH.1.1.1.2.1 k (by omega)
    unfold qoF
    rw [e]
  · have a1 : 0 ≤ α 97 k ∧ α 97 k ≤ 31 := hI.2.1 97 k (show k < 40 by omega)
    have a2 : 0 ≤ α 98 k ∧ α 98 k ≤ 31 := hI.2.1 98 k (show k < 40 by omega)
    have a3 := r31 k (by omega)
    have d1 := qrr_d h2 (x := p) (y := α 97 k) hp (by omega)
    have d2 := qrr_d h2 (x := q) (y := α 98 k) hq (by omega)
    have d3 := qrr_d h2 (x := q) (y := α 97 k) hq (by omega)
    have d4 := qrr_d h2 (x := p) (y := α 98 k) hp (by omega)
    have c1 := qcl_c (qTb (α 24) p (α 97 k)) (qTb (α 24) q (α 98 k)) (qTb (α 24) q (α 97 k)) (qTb (α 24) p (α 98 k)) (α 100 k)
    have c2 := qcl_c (qd9 (α 94) (α 95) (σ 86 11) p (α 97 k)) (qd9 (α 94) (α 95) (σ 86 11) q (α 98 k)) (qd9 (α 94) (α 95) (σ 86 11) q (α 97 k)) (qd9 (α 94) (α 95) (σ 86 11) p (α 98 k)) (α 100 k)
    show qcl (qTb (α 24) p (α 97 k)) (qTb (α 24) q (α 98 k)) (qTb (α 24) q (α 97 k)) (qTb (α 24) p (α 98 k)) (α 100 k) = qcl (qd9 (α 94) (α 95) (σ 86 11) p (α 97 k)) (qd9 (α 94) (α 95) (σ 86 11) q (α 98 k)) (qd9 (α 94) (α 95) (σ 86 11) q (α 97 k)) (qd9 (α 94) (α 95) (σ 86 11) p (α 98 k)) (α 100 k)
    omega
theorem qrr_l {σ α : Nat → Nat → Int} {κ : Nat → Option Nat} {ρ : Nat} (hI : qI σ α κ ρ) (hR : qR σ α) (hL : qRL σ α) {p q : Int} (hp : 0 ≤ p ∧ p < σ 86 6) (hq : 0 ≤ q ∧ q < 32) (hpq : ¬ p = q) : qbit (α 22 (p : Int).toNat) q = qll (α 91) (α 91 (p : Int).toNat) q := by
  have b6 : 0 ≤ σ 86 6 ∧ σ 86 6 ≤ 32 := hI.1 86 6
  have e6 := hR.1
  have h3 := hL p.toNat (by omega) q ⟨hq.1, by omega⟩
  rw [show ((p.toNat : Nat) : Int) = p by omega] at h3
  have h4 := qll_s (ld := α 91) (l := q) (fun j hj => by have h1 := hI.2.2.2.2.2.2.1 j hj; have h2 : -1 ≤ α 91 j ∧ α 91 j ≤ 31 := hI.2.1 91 j hj; omega) (a := p) (by omega)
  rw [h3]
  omega
theorem qrr_s {σ α : Nat → Nat → Int} (hR : qR σ α) (hN : qRN σ α) (h6 : 0 ≤ σ 86 6 ∧ σ 86 6 ≤ 32) {p t : Int} : qsm (qshF (α 18) p t) (σ 17 6 : Int).toNat = qsm (qshD (α 91) p t 0 (σ 86 41)) (σ 86 6 : Int).toNat := by
  rw [hR.1, hR.2.2.2.1, hN.2.2.2.2.2]
  refine qsm_eq _ (fun k hk => ?_)
  have c1 := qshF_c (α 91) p t (i := (k : Int)) (by omega)
  have c2 := qshD_c (α 91) p t 0 0 (i := (k : Int)) (by omega)
  have c6 := qbit_0 (k : Int)
  rw [Int.toNat_natCast] at c1 c2
  omega
theorem qrr_n {σ α : Nat → Nat → Int} {κ : Nat → Option Nat} {ρ : Nat} (hI : qI σ α κ ρ) (hR : qR σ α) (h2 : qR2 σ α) (hF : qRF σ α) (hP : qRP σ α) (hH : qRH σ α) (hL : qRL σ α) (hN : qRN σ α) {h b p q st t : Int} (hp : 0 ≤ p ∧ p < σ 86 6) (hq : 0 ≤ q ∧ q < σ 86 6) (hpq : ¬ p = q) (hst : st = -1 ∨ (0 ≤ st ∧ st < σ 86 6)) : qNVc (qw_s σ 58 11 h) α b p q st t = qNVr σ α b 0 p q st t h := by
  have b6 : 0 ≤ σ 86 6 ∧ σ 86 6 ≤ 32 := hI.1 86 6
  have b24 : 0 ≤ σ 86 24 ∧ σ 86 24 ≤ 60 := hI.1 86 24
  have hk := qrr_k hI hR h2 hF hH hN (p := p) (q := q) (h := h) (by omega) (by omega)
  have hh : qsm (qhG b (qhF (α 35) (α 36) (α 37) (α 40) (qcv (α 41)) (qlw (α 22)) p q h)) (σ 34 7 : Int).toNat = qsm (qhG b (qhF (qsh (α 87) 192) (α 102) (α 103) (qun (α 104) (α 105) (qsh (α 87) 192)) (qcw (α 87)) (qll (α 91)) p q h)) (σ 86 24 : Int).toNat := by
    rw [hR.2.2.1]
    refine qsm_eq _ (fun k hk => ?_)
    unfold qhG
    rw [qrr_h hI hR hP hH hL hp hq (show (k : Int) < σ 86 24 by omega)]
  have e1 : α 20 (p : Int).toNat = α 87 (p : Int).toNat := hH.1.1.1.1 _ (by omega)
  have e2 : α 20 (q : Int).toNat = α 87 (q : Int).toNat := hH.1.1.1.1 _ (by omega)
  have e3 := qrr_l hI hR hL hp (by omega : 0 ≤ q ∧ q < 32) hpq
  have e4 := qrr_m h2 (x := p) (y := q) (by omega) (by omega)
  have e5 := qrr_s hR hN b6 (p := p) (t := t)
  have e6 : (if st = -1 then 0 else qm9 (qTb (α 24) p st)) = (if st = -1 then 0 else qm9 (qd9 (α 94) (α 95) (σ 86 11) p st)) := by
    rcases hst with e | e
    · rw [if_pos e, if_pos e]
    · rw [if_neg (by omega), if_neg (by omega)]
      exact qrr_m h2 (by omega) (by omega)
  show qnv (qnF1 (qnF (qTb (α 24)) (α 28) (α 29) (α 31) (α 30) (α 33) (σ 27 6) (σ 27 7) p q h)) (qnF (qTb (α 24)) (α 28) (α 29) (α 31) (α 30) (α 33) (σ 27 6) (σ 27 7) p q h / 64) (qsm (qhG b (qhF (α 35) (α 36) (α 37) (α 40) (qcv (α 41)) (qlw (α 22)) p q h)) (σ 34 7 : Int).toNat) (α 20 (p : Int).toNat) (α 20 (q : Int).toNat) (qbit (α 22 (p : Int).toNat) q) (qm9 (qTb (α 24) p q)) (qsm (qshF (α 18) p t) (σ 17 6 : Int).toNat) (if st = -1 then 0 else qm9 (qTb (α 24) p st)) = _
  rw [hk, hh, e1, e2, e3, e4, e5, e6]
  rfl
/-- what a custom gives for two, on both sides -/
theorem qrr_ag {σ α : Nat → Nat → Int} {κ : Nat → Option Nat} {ρ : Nat} (hI : qI σ α κ ρ) (hR : qR σ α) (h2 : qR2 σ α) (hF : qRF σ α) (hP : qRP σ α) (hH : qRH σ α) (hL : qRL σ α) (hN : qRN σ α) (hW : qRS σ α) {f g : (Nat → Int) → Int} (hA : qAg f g) {h b p q st t : Int} (hp : 0 ≤ p ∧ p < σ 86 6) (hq : 0 ≤ q ∧ q < σ 86 6) (hpq : ¬ p = q) (hst : st = -1 ∨ (0 ≤ st ∧ st < σ 86 6)) : f (qNVc (qw_s σ 58 11 h) α b p q st t) = g (qNVr σ α b 0 p q st t h) := by
  have b6 : 0 ≤ σ 86 6 ∧ σ 86 6 ≤ 32 := hI.1 86 6
  have hn := qrr_n hI hR h2 hF hP hH hL hN (h := h) (b := b) (t := t) hp hq hpq hst
  rw [← hn]
  refine hA _ ?_ ?_
  · show 0 ≤ qnF1 (qnF (qTb (α 24)) (α 28) (α 29) (α 31) (α 30) (α 33) (σ 27 6) (σ 27 7) p q h) ∧ qnF1 (qnF (qTb (α 24)) (α 28) (α 29) (α 31) (α 30) (α 33) (σ 27 6) (σ 27 7) p q h) ≤ 1
    unfold qnF1
    split <;> omega
  · show 0 ≤ α 20 (p : Int).toNat ∧ α 20 (p : Int).toNat ≤ 1
    have e1 : α 20 (p : Int).toNat = α 87 (p : Int).toNat := hH.1.1.1.1 _ (by omega)
    rw [e1]
    exact hW.1 (p : Int).toNat (by omega)
/-- two tellings, one and the same -/
theorem qrr_t {σ α : Nat → Nat → Int} {κ : Nat → Option Nat} {ρ : Nat} (hI : qI σ α κ ρ) (hR : qR σ α) (h2 : qR2 σ α) (hF : qRF σ α) (hP : qRP σ α) (hH : qRH σ α) (hL : qRL σ α) (hN : qRN σ α) (hW : qRS σ α) {f0 f1 g0 g1 : (Nat → Int) → Int} (hA0 : qAg f0 g0) (hA1 : qAg f1 g1) {h LV v : Int} (hv : (0 ≤ v / 100 ∧ v / 100 < σ 86 6) ∧ (0 ≤ v % 100 ∧ v % 100 < σ 86 6) ∧ ¬ v / 100 = v % 100) : qFINc σ α f0 f1 h LV v = qFINm σ α g0 g1 h LV v := by
  have b6 : 0 ≤ σ 86 6 ∧ σ 86 6 ≤ 32 := hI.1 86 6
  have b24 : 0 ≤ σ 86 24 ∧ σ 86 24 ≤ 60 := hI.1 86 24
  unfold qFINc qFINm
  rw [hR.1, hR.2.2.1]
  refine qtell_cl b6.2 hv (fun b p q h1 h2' h3 h4 h5 k hk => ?_) (fun p h1 h2' k hk => qrr_b hI hP hH (by omega) (by omega)) (fun b p q st t h1 h2' h3 h4 h5 h6 h7 => ?_) (fun b p q t h1 h2' h3 h4 h5 => ?_) LV
  · show qhG b (qhF (α 35) (α 36) (α 37) (α 40) (qcv (α 41)) (qlw (α 22)) p q h) k = qhG b (qhF (qsh (α 87) 192) (α 102) (α 103) (qun (α 104) (α 105) (qsh (α 87) 192)) (qcw (α 87)) (qll (α 91)) p q h) k
    unfold qhG
    rw [qrr_h hI hR hP hH hL ⟨h1, h2'⟩ ⟨h3, h4⟩ (by omega)]
  · have hA := qrr_ag hI hR h2 hF hP hH hL hN hW (h := h) (b := b) (st := st) (t := t) hA1 ⟨h1, h2'⟩ ⟨h3, h4⟩ h5 (Or.inr ⟨h6, h7⟩)
    show (if (1 : Int) = 0 then f0 (qNVc (qw_s σ 58 11 h) α b p q st t) else f1 (qNVc (qw_s σ 58 11 h) α b p q st t)) = (if (1 : Int) = 0 then g0 (qNVr σ α b 0 p q st t h) else g1 (qNVr σ α b 0 p q st t h))
    rw [if_neg (by decide), if_neg (by decide)]
    exact hA
  · have hA := qrr_ag hI hR h2 hF hP hH hL hN hW (h := h) (b := b) (st := -1) (t := t) hA0 ⟨h1, h2'⟩ ⟨h3, h4⟩ h5 (Or.inl rfl)
    show (if (0 : Int) = 0 then f0 (qNVc (qw_s σ 58 11 h) α b p q (-1) t) else f1 (qNVc (qw_s σ 58 11 h) α b p q (-1) t)) = (if (0 : Int) = 0 then g0 (qNVr σ α b 0 p q (-1) t h) else g1 (qNVr σ α b 0 p q (-1) t h))
    rw [if_pos rfl, if_pos rfl]
    exact hA
