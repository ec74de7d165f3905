theorem qzf_can (f : Nat → Int) : qzf f = qzf (fun j => (qz (f j)).toInt) := funext fun j => qz_of (qz (f j))
theorem qI_rw {σ α : Nat → Nat → Int} {κ : Nat → Option Nat} {ρ : Nat} (h : qI σ α κ ρ) (a : Nat) (g : Nat → Int) (hsp : [65, 71, 74, 77, 78, 91, 94, 95, 96].contains a = false) (hg : ∀ j, j < (qI_rr a).1 → (qI_rr a).2.1 ≤ g j ∧ g j ≤ (qI_rr a).2.2) : qI σ (qw_r α a g) κ ρ := by
  refine ⟨h.1, fun a' j hj => ?_, h.2.2.1, qIx_r h.2.2.2 a _ hsp⟩
  by_cases h1 : a' = a
  · subst h1
    rw [qw_r_eq]
    exact hg j hj
  · rw [qw_r_ne h1]
    exact h.2.1 a' j hj
theorem qI_sw {σ α : Nat → Nat → Int} {κ : Nat → Option Nat} {ρ : Nat} (h : qI σ α κ ρ) (i x : Nat) (hx : x = 50 ∨ x = 54 ∨ x = 82) : qI σ α (va_up κ i (some ρ)) x := by
  refine ⟨h.1, h.2.1, ⟨?_, ?_, hx⟩, h.2.2.2⟩
  · by_cases e : 0 = i
    · exact ⟨ρ, if_pos e, h.2.2.1.2.2⟩
    · obtain ⟨y, h1, h2⟩ := h.2.2.1.1
      exact ⟨y, (if_neg e).trans h1, h2⟩
  · by_cases e : 1 = i
    · exact ⟨ρ, if_pos e, h.2.2.1.2.2⟩
    · obtain ⟨y, h1, h2⟩ := h.2.2.1.2.1
      exact ⟨y, (if_neg e).trans h1, h2⟩
