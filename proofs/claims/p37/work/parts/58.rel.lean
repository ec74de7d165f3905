/-! what both sides hold alike -/
def qpg (s n h : Int) : Prop := (s = 6 ∧ h = -1) ∨ (s = 5 ∧ h = n ∧ 0 ≤ n ∧ n ≤ 59) ∨ (0 ≤ s ∧ s ≤ 4 ∧ h = 60 + s)
def qR (σ α : Nat → Nat → Int) : Prop := σ 17 6 = σ 86 6 ∧ σ 27 7 = σ 86 16 ∧ σ 34 7 = σ 86 24 ∧ α 18 = α 91 ∧ α 19 = α 92 ∧ α 21 = α 93 ∧ α 46 = α 122 ∧ (∀ d : Nat, d < 6 → qpg (α 45 d) (α 47 d) (α 121 d)) ∧ (∀ d i : Nat, d < 6 → (i : Int) < α 46 d → α 48 (60 * d + i) = α 123 (60 * d + i))
def qR_S : List (Nat × Nat) := [(17, 6), (27, 7), (34, 7), (86, 6), (86, 16), (86, 24)]
def qR_R : List Nat := [18, 19, 21, 45, 46, 47, 48, 91, 92, 93, 121, 122, 123]
theorem qR_fr {S : List (Nat × Nat)} {R : List Nat} {σ α σ' α' : Nat → Nat → Int} (hG : qFr S R σ α σ' α') (hs : qR_S.all (fun x => !S.contains x) = true) (hr : qR_R.all (fun x => !R.contains x) = true) (h : qR σ α) : qR σ' α' := by
  have es : ∀ a k, (a, k) ∈ qR_S → σ' a k = σ a k := fun a k hm => hG.1 a k (fun hn => by
    have h1 := List.all_eq_true.mp hs (a, k) hm
    rw [List.contains_iff_mem.mpr hn] at h1
    exact absurd h1 (by decide))
  have er : ∀ a, a ∈ qR_R → α' a = α a := fun a hm => hG.2 a (fun hn => by
    have h1 := List.all_eq_true.mp hr a hm
    rw [List.contains_iff_mem.mpr hn] at h1
    exact absurd h1 (by decide))
  unfold qR
  rw [es 17 6 (by decide), es 86 6 (by decide), es 27 7 (by decide), es 86 16 (by decide), es 34 7 (by decide), es 86 24 (by decide), er 18 (by decide), er 19 (by decide), er 21 (by decide), er 45 (by decide), er 46 (by decide), er 47 (by decide), er 48 (by decide), er 91 (by decide), er 92 (by decide), er 93 (by decide), er 121 (by decide), er 122 (by decide), er 123 (by decide)]
  exact h

set_option maxHeartbeats 4000000 in
theorem rl_person {σ α σ1 α1 σ2 α2 : Nat → Nat → Int} {κ : Nat → Option Nat} {ρ : Nat} {x1 x2 x3 v1 v2 : Int} (hI : qI σ α κ ρ) (hR : qR σ α) (hG1 : qFr [(17, 6)] [18, 19, 20, 22] σ α σ1 α1) (hG2 : qFr [(86, 6), (86, 15)] [87, 91, 92] σ1 α1 σ2 α2) (hx : ((v1 = -1 ∧ ¬ ((x1 = -1 ∨ (0 ≤ x1 ∧ x1 < σ 17 6)) ∧ 1 ≤ x2 ∧ x2 ≤ 99 ∧ (x3 = 0 ∨ x3 = 1)) ∧ σ1 17 6 = σ 17 6) ∧ α1 18 = α 18 ∧ α1 19 = α 19) ∨ ((v1 = -3 ∧ ((x1 = -1 ∨ (0 ≤ x1 ∧ x1 < σ 17 6)) ∧ 1 ≤ x2 ∧ x2 ≤ 99 ∧ (x3 = 0 ∨ x3 = 1)) ∧ 32 ≤ σ 17 6 ∧ σ1 17 6 = σ 17 6) ∧ α1 18 = α 18 ∧ α1 19 = α 19) ∨ ((v1 = σ 17 6 ∧ ((x1 = -1 ∨ (0 ≤ x1 ∧ x1 < σ 17 6)) ∧ 1 ≤ x2 ∧ x2 ≤ 99 ∧ (x3 = 0 ∨ x3 = 1)) ∧ σ 17 6 < 32 ∧ σ1 17 6 = σ 17 6 + 1) ∧ α1 18 = qzu (α 18) (v1 : Int).toNat (x1) ∧ α1 19 = qzu (α 19) (v1 : Int).toNat (x2))) (hy : ((v2 = -1 ∧ ¬ ((x1 = -1 ∨ (0 ≤ x1 ∧ x1 < σ1 86 6)) ∧ 1 ≤ x2 ∧ x2 ≤ 99 ∧ (x3 = 0 ∨ x3 = 1)) ∧ σ2 86 6 = σ1 86 6) ∧ α2 91 = α1 91 ∧ α2 92 = α1 92) ∨ ((v2 = -3 ∧ ((x1 = -1 ∨ (0 ≤ x1 ∧ x1 < σ1 86 6)) ∧ 1 ≤ x2 ∧ x2 ≤ 99 ∧ (x3 = 0 ∨ x3 = 1)) ∧ 32 ≤ σ1 86 6 ∧ σ2 86 6 = σ1 86 6) ∧ α2 91 = α1 91 ∧ α2 92 = α1 92) ∨ ((v2 = σ1 86 6 ∧ ((x1 = -1 ∨ (0 ≤ x1 ∧ x1 < σ1 86 6)) ∧ 1 ≤ x2 ∧ x2 ≤ 99 ∧ (x3 = 0 ∨ x3 = 1)) ∧ σ1 86 6 < 32 ∧ σ2 86 6 = σ1 86 6 + 1) ∧ α2 91 = qzu (α1 91) (v2 : Int).toNat (x1) ∧ α2 92 = qzu (α1 92) (v2 : Int).toNat (x2))) : v1 = v2 ∧ qR σ2 α2 := by
  obtain ⟨r1, r2, r3, r4, r5, r6, r7, r8, r9⟩ := hR
  have d17_6 := hG2.1 17 6 (by decide)
  have c27_7 := hG1.1 27 7 (by decide)
  have d27_7 := hG2.1 27 7 (by decide)
  have c34_7 := hG1.1 34 7 (by decide)
  have d34_7 := hG2.1 34 7 (by decide)
  have c86_6 := hG1.1 86 6 (by decide)
  have c86_16 := hG1.1 86 16 (by decide)
  have d86_16 := hG2.1 86 16 (by decide)
  have c86_24 := hG1.1 86 24 (by decide)
  have d86_24 := hG2.1 86 24 (by decide)
  have d18 := hG2.2 18 (by decide)
  have d19 := hG2.2 19 (by decide)
  have c21 := hG1.2 21 (by decide)
  have d21 := hG2.2 21 (by decide)
  have c45 := hG1.2 45 (by decide)
  have d45 := hG2.2 45 (by decide)
  have c46 := hG1.2 46 (by decide)
  have d46 := hG2.2 46 (by decide)
  have c47 := hG1.2 47 (by decide)
  have d47 := hG2.2 47 (by decide)
  have c48 := hG1.2 48 (by decide)
  have d48 := hG2.2 48 (by decide)
  have c91 := hG1.2 91 (by decide)
  have c92 := hG1.2 92 (by decide)
  have c93 := hG1.2 93 (by decide)
  have d93 := hG2.2 93 (by decide)
  have c121 := hG1.2 121 (by decide)
  have d121 := hG2.2 121 (by decide)
  have c122 := hG1.2 122 (by decide)
  have d122 := hG2.2 122 (by decide)
  have c123 := hG1.2 123 (by decide)
  have d123 := hG2.2 123 (by decide)
  rcases hx with ⟨xn0, x18, x19⟩ | ⟨xn0, x18, x19⟩ | ⟨xn0, x18, x19⟩
  · rcases hy with ⟨yn0, y91, y92⟩ | ⟨yn0, y91, y92⟩ | ⟨yn0, y91, y92⟩
    · skip
      have hv : v1 = v2 := by omega
      refine ⟨hv, by omega, by omega, by omega, ?_, ?_, ?_, ?_, ?_, ?_⟩
      · exact by rw [d18, x18, y91, c91, r4]
      · exact by rw [d19, x19, y92, c92, r5]
      · exact by rw [d21, c21, d93, c93, r6]
      · exact by rw [d46, c46, d122, c122, r7]
      · exact (by rw [d45, c45, d47, c47, d121, c121]; exact r8)
      · exact (by rw [d46, c46, d48, c48, d123, c123]; exact r9)
    · exact False.elim (by omega)
    · exact False.elim (by omega)
  · rcases hy with ⟨yn0, y91, y92⟩ | ⟨yn0, y91, y92⟩ | ⟨yn0, y91, y92⟩
    · exact False.elim (by omega)
    · skip
      have hv : v1 = v2 := by omega
      refine ⟨hv, by omega, by omega, by omega, ?_, ?_, ?_, ?_, ?_, ?_⟩
      · exact by rw [d18, x18, y91, c91, r4]
      · exact by rw [d19, x19, y92, c92, r5]
      · exact by rw [d21, c21, d93, c93, r6]
      · exact by rw [d46, c46, d122, c122, r7]
      · exact (by rw [d45, c45, d47, c47, d121, c121]; exact r8)
      · exact (by rw [d46, c46, d48, c48, d123, c123]; exact r9)
    · exact False.elim (by omega)
  · rcases hy with ⟨yn0, y91, y92⟩ | ⟨yn0, y91, y92⟩ | ⟨yn0, y91, y92⟩
    · exact False.elim (by omega)
    · exact False.elim (by omega)
    · skip
      have hv : v1 = v2 := by omega
      refine ⟨hv, by omega, by omega, by omega, ?_, ?_, ?_, ?_, ?_, ?_⟩
      · exact by rw [d18, x18, y91, c91, r4, hv]
      · exact by rw [d19, x19, y92, c92, r5, hv]
      · exact by rw [d21, c21, d93, c93, r6]
      · exact by rw [d46, c46, d122, c122, r7]
      · exact (by rw [d45, c45, d47, c47, d121, c121]; exact r8)
      · exact (by rw [d46, c46, d48, c48, d123, c123]; exact r9)

set_option maxHeartbeats 4000000 in
theorem rl_feud {σ α σ1 α1 σ2 α2 : Nat → Nat → Int} {κ : Nat → Option Nat} {ρ : Nat} {x1 x2 x3 v1 v2 : Int} (hI : qI σ α κ ρ) (hR : qR σ α) (hG1 : qFr [(27, 7)] [28, 29, 30, 31, 32, 33] σ α σ1 α1) (hG2 : qFr [(86, 16)] [87, 97, 98, 99, 100, 101] σ1 α1 σ2 α2) (hx : ((v1 = -1 ∧ ¬ (0 ≤ x1 ∧ x1 / 100 < σ 17 6 ∧ x1 % 100 < σ 17 6 ∧ ¬ x1 / 100 = x1 % 100 ∧ 0 ≤ x2 ∧ x2 ≤ 2399 ∧ 0 ≤ x3 ∧ x3 ≤ 3999) ∧ σ1 27 7 = σ 27 7)) ∨ ((v1 = -3 ∧ (0 ≤ x1 ∧ x1 / 100 < σ 17 6 ∧ x1 % 100 < σ 17 6 ∧ ¬ x1 / 100 = x1 % 100 ∧ 0 ≤ x2 ∧ x2 ≤ 2399 ∧ 0 ≤ x3 ∧ x3 ≤ 3999) ∧ 40 ≤ σ 27 7 ∧ σ1 27 7 = σ 27 7)) ∨ ((v1 = σ 27 7 ∧ (0 ≤ x1 ∧ x1 / 100 < σ 17 6 ∧ x1 % 100 < σ 17 6 ∧ ¬ x1 / 100 = x1 % 100 ∧ 0 ≤ x2 ∧ x2 ≤ 2399 ∧ 0 ≤ x3 ∧ x3 ≤ 3999) ∧ σ 27 7 < 40 ∧ σ1 27 7 = σ 27 7 + 1))) (hy : ((v2 = -1 ∧ ¬ (0 ≤ x1 ∧ x1 / 100 < σ1 86 6 ∧ x1 % 100 < σ1 86 6 ∧ ¬ x1 / 100 = x1 % 100 ∧ 0 ≤ x2 ∧ x2 ≤ 2399 ∧ 0 ≤ x3 ∧ x3 ≤ 3999) ∧ σ2 86 16 = σ1 86 16)) ∨ ((v2 = -3 ∧ (0 ≤ x1 ∧ x1 / 100 < σ1 86 6 ∧ x1 % 100 < σ1 86 6 ∧ ¬ x1 / 100 = x1 % 100 ∧ 0 ≤ x2 ∧ x2 ≤ 2399 ∧ 0 ≤ x3 ∧ x3 ≤ 3999) ∧ 40 ≤ σ1 86 16 ∧ σ2 86 16 = σ1 86 16)) ∨ ((v2 = σ1 86 16 ∧ (0 ≤ x1 ∧ x1 / 100 < σ1 86 6 ∧ x1 % 100 < σ1 86 6 ∧ ¬ x1 / 100 = x1 % 100 ∧ 0 ≤ x2 ∧ x2 ≤ 2399 ∧ 0 ≤ x3 ∧ x3 ≤ 3999) ∧ σ1 86 16 < 40 ∧ σ2 86 16 = σ1 86 16 + 1))) : v1 = v2 ∧ qR σ2 α2 := by
  obtain ⟨r1, r2, r3, r4, r5, r6, r7, r8, r9⟩ := hR
  have c17_6 := hG1.1 17 6 (by decide)
  have d17_6 := hG2.1 17 6 (by decide)
  have d27_7 := hG2.1 27 7 (by decide)
  have c34_7 := hG1.1 34 7 (by decide)
  have d34_7 := hG2.1 34 7 (by decide)
  have c86_6 := hG1.1 86 6 (by decide)
  have d86_6 := hG2.1 86 6 (by decide)
  have c86_16 := hG1.1 86 16 (by decide)
  have c86_24 := hG1.1 86 24 (by decide)
  have d86_24 := hG2.1 86 24 (by decide)
  have c18 := hG1.2 18 (by decide)
  have d18 := hG2.2 18 (by decide)
  have c19 := hG1.2 19 (by decide)
  have d19 := hG2.2 19 (by decide)
  have c21 := hG1.2 21 (by decide)
  have d21 := hG2.2 21 (by decide)
  have c45 := hG1.2 45 (by decide)
  have d45 := hG2.2 45 (by decide)
  have c46 := hG1.2 46 (by decide)
  have d46 := hG2.2 46 (by decide)
  have c47 := hG1.2 47 (by decide)
  have d47 := hG2.2 47 (by decide)
  have c48 := hG1.2 48 (by decide)
  have d48 := hG2.2 48 (by decide)
  have c91 := hG1.2 91 (by decide)
  have d91 := hG2.2 91 (by decide)
  have c92 := hG1.2 92 (by decide)
  have d92 := hG2.2 92 (by decide)
  have c93 := hG1.2 93 (by decide)
  have d93 := hG2.2 93 (by decide)
  have c121 := hG1.2 121 (by decide)
  have d121 := hG2.2 121 (by decide)
  have c122 := hG1.2 122 (by decide)
  have d122 := hG2.2 122 (by decide)
  have c123 := hG1.2 123 (by decide)
  have d123 := hG2.2 123 (by decide)
  rcases hx with xn0 | xn0 | xn0
  · rcases hy with yn0 | yn0 | yn0
    · skip
      have hv : v1 = v2 := by omega
      refine ⟨hv, by omega, by omega, by omega, ?_, ?_, ?_, ?_, ?_, ?_⟩
      · exact by rw [d18, c18, d91, c91, r4]
      · exact by rw [d19, c19, d92, c92, r5]
      · exact by rw [d21, c21, d93, c93, r6]
      · exact by rw [d46, c46, d122, c122, r7]
      · exact (by rw [d45, c45, d47, c47, d121, c121]; exact r8)
      · exact (by rw [d46, c46, d48, c48, d123, c123]; exact r9)
    · exact False.elim (by omega)
    · exact False.elim (by omega)
  · rcases hy with yn0 | yn0 | yn0
    · exact False.elim (by omega)
    · skip
      have hv : v1 = v2 := by omega
      refine ⟨hv, by omega, by omega, by omega, ?_, ?_, ?_, ?_, ?_, ?_⟩
      · exact by rw [d18, c18, d91, c91, r4]
      · exact by rw [d19, c19, d92, c92, r5]
      · exact by rw [d21, c21, d93, c93, r6]
      · exact by rw [d46, c46, d122, c122, r7]
      · exact (by rw [d45, c45, d47, c47, d121, c121]; exact r8)
      · exact (by rw [d46, c46, d48, c48, d123, c123]; exact r9)
    · exact False.elim (by omega)
  · rcases hy with yn0 | yn0 | yn0
    · exact False.elim (by omega)
    · exact False.elim (by omega)
    · skip
      have hv : v1 = v2 := by omega
      refine ⟨hv, by omega, by omega, by omega, ?_, ?_, ?_, ?_, ?_, ?_⟩
      · exact by rw [d18, c18, d91, c91, r4]
      · exact by rw [d19, c19, d92, c92, r5]
      · exact by rw [d21, c21, d93, c93, r6]
      · exact by rw [d46, c46, d122, c122, r7]
      · exact (by rw [d45, c45, d47, c47, d121, c121]; exact r8)
      · exact (by rw [d46, c46, d48, c48, d123, c123]; exact r9)

set_option maxHeartbeats 4000000 in
theorem rl_peace {σ α σ1 α1 σ2 α2 : Nat → Nat → Int} {κ : Nat → Option Nat} {ρ : Nat} {x1 x2 x3 x4 v1 v2 : Int} (hI : qI σ α κ ρ) (hR : qR σ α) (hG1 : qFr [(34, 7)] [35, 36, 37, 38, 39, 40, 41] σ α σ1 α1) (hG2 : qFr [(86, 24)] [87, 102, 103, 104, 105] σ1 α1 σ2 α2) (hx : ((v1 = -1 ∧ ¬ (0 ≤ x1 ∧ x1 % 10 ≤ 5 ∧ x1 / 10 < σ 17 6 ∧ 0 ≤ x2 ∧ x2 ≤ 4294967295 ∧ 0 ≤ x3 ∧ x3 / 10000 ≤ x3 % 10000 ∧ x3 % 10000 ≤ 2399 ∧ 0 ≤ x4 ∧ x4 ≤ 240) ∧ σ1 34 7 = σ 34 7)) ∨ ((v1 = -3 ∧ (0 ≤ x1 ∧ x1 % 10 ≤ 5 ∧ x1 / 10 < σ 17 6 ∧ 0 ≤ x2 ∧ x2 ≤ 4294967295 ∧ 0 ≤ x3 ∧ x3 / 10000 ≤ x3 % 10000 ∧ x3 % 10000 ≤ 2399 ∧ 0 ≤ x4 ∧ x4 ≤ 240) ∧ 60 ≤ σ 34 7 ∧ σ1 34 7 = σ 34 7)) ∨ ((v1 = σ 34 7 ∧ (0 ≤ x1 ∧ x1 % 10 ≤ 5 ∧ x1 / 10 < σ 17 6 ∧ 0 ≤ x2 ∧ x2 ≤ 4294967295 ∧ 0 ≤ x3 ∧ x3 / 10000 ≤ x3 % 10000 ∧ x3 % 10000 ≤ 2399 ∧ 0 ≤ x4 ∧ x4 ≤ 240) ∧ σ 34 7 < 60 ∧ σ1 34 7 = σ 34 7 + 1))) (hy : ((v2 = -1 ∧ ¬ (0 ≤ x1 ∧ x1 % 10 ≤ 5 ∧ x1 / 10 < σ1 86 6 ∧ 0 ≤ x2 ∧ x2 ≤ 4294967295 ∧ 0 ≤ x3 ∧ x3 / 10000 ≤ x3 % 10000 ∧ x3 % 10000 ≤ 2399 ∧ 0 ≤ x4 ∧ x4 ≤ 240) ∧ σ2 86 24 = σ1 86 24)) ∨ ((v2 = -3 ∧ (0 ≤ x1 ∧ x1 % 10 ≤ 5 ∧ x1 / 10 < σ1 86 6 ∧ 0 ≤ x2 ∧ x2 ≤ 4294967295 ∧ 0 ≤ x3 ∧ x3 / 10000 ≤ x3 % 10000 ∧ x3 % 10000 ≤ 2399 ∧ 0 ≤ x4 ∧ x4 ≤ 240) ∧ 60 ≤ σ1 86 24 ∧ σ2 86 24 = σ1 86 24)) ∨ ((v2 = σ1 86 24 ∧ (0 ≤ x1 ∧ x1 % 10 ≤ 5 ∧ x1 / 10 < σ1 86 6 ∧ 0 ≤ x2 ∧ x2 ≤ 4294967295 ∧ 0 ≤ x3 ∧ x3 / 10000 ≤ x3 % 10000 ∧ x3 % 10000 ≤ 2399 ∧ 0 ≤ x4 ∧ x4 ≤ 240) ∧ σ1 86 24 < 60 ∧ σ2 86 24 = σ1 86 24 + 1))) : v1 = v2 ∧ qR σ2 α2 := by
  obtain ⟨r1, r2, r3, r4, r5, r6, r7, r8, r9⟩ := hR
  have c17_6 := hG1.1 17 6 (by decide)
  have d17_6 := hG2.1 17 6 (by decide)
  have c27_7 := hG1.1 27 7 (by decide)
  have d27_7 := hG2.1 27 7 (by decide)
  have d34_7 := hG2.1 34 7 (by decide)
  have c86_6 := hG1.1 86 6 (by decide)
  have d86_6 := hG2.1 86 6 (by decide)
  have c86_16 := hG1.1 86 16 (by decide)
  have d86_16 := hG2.1 86 16 (by decide)
  have c86_24 := hG1.1 86 24 (by decide)
  have c18 := hG1.2 18 (by decide)
  have d18 := hG2.2 18 (by decide)
  have c19 := hG1.2 19 (by decide)
  have d19 := hG2.2 19 (by decide)
  have c21 := hG1.2 21 (by decide)
  have d21 := hG2.2 21 (by decide)
  have c45 := hG1.2 45 (by decide)
  have d45 := hG2.2 45 (by decide)
  have c46 := hG1.2 46 (by decide)
  have d46 := hG2.2 46 (by decide)
  have c47 := hG1.2 47 (by decide)
  have d47 := hG2.2 47 (by decide)
  have c48 := hG1.2 48 (by decide)
  have d48 := hG2.2 48 (by decide)
  have c91 := hG1.2 91 (by decide)
  have d91 := hG2.2 91 (by decide)
  have c92 := hG1.2 92 (by decide)
  have d92 := hG2.2 92 (by decide)
  have c93 := hG1.2 93 (by decide)
  have d93 := hG2.2 93 (by decide)
  have c121 := hG1.2 121 (by decide)
  have d121 := hG2.2 121 (by decide)
  have c122 := hG1.2 122 (by decide)
  have d122 := hG2.2 122 (by decide)
  have c123 := hG1.2 123 (by decide)
  have d123 := hG2.2 123 (by decide)
  rcases hx with xn0 | xn0 | xn0
  · rcases hy with yn0 | yn0 | yn0
    · skip
      have hv : v1 = v2 := by omega
      refine ⟨hv, by omega, by omega, by omega, ?_, ?_, ?_, ?_, ?_, ?_⟩
      · exact by rw [d18, c18, d91, c91, r4]
      · exact by rw [d19, c19, d92, c92, r5]
      · exact by rw [d21, c21, d93, c93, r6]
      · exact by rw [d46, c46, d122, c122, r7]
      · exact (by rw [d45, c45, d47, c47, d121, c121]; exact r8)
      · exact (by rw [d46, c46, d48, c48, d123, c123]; exact r9)
    · exact False.elim (by omega)
    · exact False.elim (by omega)
  · rcases hy with yn0 | yn0 | yn0
    · exact False.elim (by omega)
    · skip
      have hv : v1 = v2 := by omega
      refine ⟨hv, by omega, by omega, by omega, ?_, ?_, ?_, ?_, ?_, ?_⟩
      · exact by rw [d18, c18, d91, c91, r4]
      · exact by rw [d19, c19, d92, c92, r5]
      · exact by rw [d21, c21, d93, c93, r6]
      · exact by rw [d46, c46, d122, c122, r7]
      · exact (by rw [d45, c45, d47, c47, d121, c121]; exact r8)
      · exact (by rw [d46, c46, d48, c48, d123, c123]; exact r9)
    · exact False.elim (by omega)
  · rcases hy with yn0 | yn0 | yn0
    · exact False.elim (by omega)
    · exact False.elim (by omega)
    · skip
      have hv : v1 = v2 := by omega
      refine ⟨hv, by omega, by omega, by omega, ?_, ?_, ?_, ?_, ?_, ?_⟩
      · exact by rw [d18, c18, d91, c91, r4]
      · exact by rw [d19, c19, d92, c92, r5]
      · exact by rw [d21, c21, d93, c93, r6]
      · exact by rw [d46, c46, d122, c122, r7]
      · exact (by rw [d45, c45, d47, c47, d121, c121]; exact r8)
      · exact (by rw [d46, c46, d48, c48, d123, c123]; exact r9)

set_option maxHeartbeats 4000000 in
theorem rl_road {σ α σ1 α1 σ2 α2 : Nat → Nat → Int} {κ : Nat → Option Nat} {ρ : Nat} {x1 x2 v1 v2 : Int} (hI : qI σ α κ ρ) (hR : qR σ α) (hG1 : qFr [] [21] σ α σ1 α1) (hG2 : qFr [] [93] σ1 α1 σ2 α2) (hx : ((v1 = -1 ∧ ¬ (0 ≤ x1 ∧ x1 < σ 17 6 ∧ 0 ≤ x2 ∧ x2 ≤ 3)) ∧ α1 21 = α 21) ∨ (((0 ≤ x1 ∧ x1 < σ 17 6 ∧ 0 ≤ x2 ∧ x2 ≤ 3) ∧ v1 = α 21 (x1 : Int).toNat) ∧ α1 21 = qzu (α 21) (x1 : Int).toNat (x2))) (hy : ((v2 = -1 ∧ ¬ (0 ≤ x1 ∧ x1 < σ1 86 6 ∧ 0 ≤ x2 ∧ x2 ≤ 3)) ∧ α2 93 = α1 93) ∨ (((0 ≤ x1 ∧ x1 < σ1 86 6 ∧ 0 ≤ x2 ∧ x2 ≤ 3) ∧ v2 = α1 93 (x1 : Int).toNat) ∧ α2 93 = qzu (α1 93) (x1 : Int).toNat (x2))) : v1 = v2 ∧ qR σ2 α2 := by
  obtain ⟨r1, r2, r3, r4, r5, r6, r7, r8, r9⟩ := hR
  have c17_6 := hG1.1 17 6 (by decide)
  have d17_6 := hG2.1 17 6 (by decide)
  have c27_7 := hG1.1 27 7 (by decide)
  have d27_7 := hG2.1 27 7 (by decide)
  have c34_7 := hG1.1 34 7 (by decide)
  have d34_7 := hG2.1 34 7 (by decide)
  have c86_6 := hG1.1 86 6 (by decide)
  have d86_6 := hG2.1 86 6 (by decide)
  have c86_16 := hG1.1 86 16 (by decide)
  have d86_16 := hG2.1 86 16 (by decide)
  have c86_24 := hG1.1 86 24 (by decide)
  have d86_24 := hG2.1 86 24 (by decide)
  have c18 := hG1.2 18 (by decide)
  have d18 := hG2.2 18 (by decide)
  have c19 := hG1.2 19 (by decide)
  have d19 := hG2.2 19 (by decide)
  have d21 := hG2.2 21 (by decide)
  have c45 := hG1.2 45 (by decide)
  have d45 := hG2.2 45 (by decide)
  have c46 := hG1.2 46 (by decide)
  have d46 := hG2.2 46 (by decide)
  have c47 := hG1.2 47 (by decide)
  have d47 := hG2.2 47 (by decide)
  have c48 := hG1.2 48 (by decide)
  have d48 := hG2.2 48 (by decide)
  have c91 := hG1.2 91 (by decide)
  have d91 := hG2.2 91 (by decide)
  have c92 := hG1.2 92 (by decide)
  have d92 := hG2.2 92 (by decide)
  have c93 := hG1.2 93 (by decide)
  have c121 := hG1.2 121 (by decide)
  have d121 := hG2.2 121 (by decide)
  have c122 := hG1.2 122 (by decide)
  have d122 := hG2.2 122 (by decide)
  have c123 := hG1.2 123 (by decide)
  have d123 := hG2.2 123 (by decide)
  rcases hx with ⟨xn0, x21⟩ | ⟨xn0, x21⟩
  · rcases hy with ⟨yn0, y93⟩ | ⟨yn0, y93⟩
    · skip
      have hv : v1 = v2 := by omega
      refine ⟨hv, by omega, by omega, by omega, ?_, ?_, ?_, ?_, ?_, ?_⟩
      · exact by rw [d18, c18, d91, c91, r4]
      · exact by rw [d19, c19, d92, c92, r5]
      · exact by rw [d21, x21, y93, c93, r6]
      · exact by rw [d46, c46, d122, c122, r7]
      · exact (by rw [d45, c45, d47, c47, d121, c121]; exact r8)
      · exact (by rw [d46, c46, d48, c48, d123, c123]; exact r9)
    · exact False.elim (by omega)
  · rcases hy with ⟨yn0, y93⟩ | ⟨yn0, y93⟩
    · exact False.elim (by omega)
    · skip
      have e93 : α 21 (x1 : Int).toNat = α 93 (x1 : Int).toNat := by rw [r6]
      rw [c93] at yn0
      have hv : v1 = v2 := by omega
      refine ⟨hv, by omega, by omega, by omega, ?_, ?_, ?_, ?_, ?_, ?_⟩
      · exact by rw [d18, c18, d91, c91, r4]
      · exact by rw [d19, c19, d92, c92, r5]
      · exact by rw [d21, x21, y93, c93, r6]
      · exact by rw [d46, c46, d122, c122, r7]
      · exact (by rw [d45, c45, d47, c47, d121, c121]; exact r8)
      · exact (by rw [d46, c46, d48, c48, d123, c123]; exact r9)

set_option maxHeartbeats 4000000 in
theorem rl_keep {σ α σ1 α1 σ2 α2 : Nat → Nat → Int} {κ : Nat → Option Nat} {ρ : Nat} {x1 x2 v1 v2 : Int} (hI : qI σ α κ ρ) (hR : qR σ α) (hG1 : qFr [] [45, 46, 47] σ α σ1 α1) (hG2 : qFr [] [121, 122] σ1 α1 σ2 α2) (hx : ((v1 = -1 ∧ ¬ (0 ≤ x1 ∧ x1 ≤ 5 ∧ (x2 = -1 ∨ (0 ≤ x2 ∧ x2 < σ 34 7)))) ∧ α1 45 = α 45 ∧ α1 46 = α 46 ∧ α1 47 = α 47) ∨ ((v1 = 1 ∧ (0 ≤ x1 ∧ x1 ≤ 5 ∧ (x2 = -1 ∨ (0 ≤ x2 ∧ x2 < σ 34 7)))) ∧ α1 45 = qzu (α 45) (x1 : Int).toNat (if x2 < 0 then 6 else 5) ∧ α1 46 = qzu (α 46) (x1 : Int).toNat (0) ∧ α1 47 = qzu (α 47) (x1 : Int).toNat (x2))) (hy : ((v2 = -1 ∧ ¬ (0 ≤ x1 ∧ x1 ≤ 5 ∧ (x2 = -1 ∨ (0 ≤ x2 ∧ x2 < σ1 86 24)))) ∧ α2 121 = α1 121 ∧ α2 122 = α1 122) ∨ ((v2 = 1 ∧ (0 ≤ x1 ∧ x1 ≤ 5 ∧ (x2 = -1 ∨ (0 ≤ x2 ∧ x2 < σ1 86 24)))) ∧ α2 121 = qzu (α1 121) (x1 : Int).toNat (x2) ∧ α2 122 = qzu (α1 122) (x1 : Int).toNat (0))) : v1 = v2 ∧ qR σ2 α2 := by
  obtain ⟨r1, r2, r3, r4, r5, r6, r7, r8, r9⟩ := hR
  have c17_6 := hG1.1 17 6 (by decide)
  have d17_6 := hG2.1 17 6 (by decide)
  have c27_7 := hG1.1 27 7 (by decide)
  have d27_7 := hG2.1 27 7 (by decide)
  have c34_7 := hG1.1 34 7 (by decide)
  have d34_7 := hG2.1 34 7 (by decide)
  have c86_6 := hG1.1 86 6 (by decide)
  have d86_6 := hG2.1 86 6 (by decide)
  have c86_16 := hG1.1 86 16 (by decide)
  have d86_16 := hG2.1 86 16 (by decide)
  have c86_24 := hG1.1 86 24 (by decide)
  have d86_24 := hG2.1 86 24 (by decide)
  have c18 := hG1.2 18 (by decide)
  have d18 := hG2.2 18 (by decide)
  have c19 := hG1.2 19 (by decide)
  have d19 := hG2.2 19 (by decide)
  have c21 := hG1.2 21 (by decide)
  have d21 := hG2.2 21 (by decide)
  have d45 := hG2.2 45 (by decide)
  have d46 := hG2.2 46 (by decide)
  have d47 := hG2.2 47 (by decide)
  have c48 := hG1.2 48 (by decide)
  have d48 := hG2.2 48 (by decide)
  have c91 := hG1.2 91 (by decide)
  have d91 := hG2.2 91 (by decide)
  have c92 := hG1.2 92 (by decide)
  have d92 := hG2.2 92 (by decide)
  have c93 := hG1.2 93 (by decide)
  have d93 := hG2.2 93 (by decide)
  have c121 := hG1.2 121 (by decide)
  have c122 := hG1.2 122 (by decide)
  have c123 := hG1.2 123 (by decide)
  have d123 := hG2.2 123 (by decide)
  have hs : 0 ≤ σ 34 7 ∧ σ 34 7 ≤ 60 := hI.1 34 7
  rcases hx with ⟨xn0, x45, x46, x47⟩ | ⟨xn0, x45, x46, x47⟩
  · rcases hy with ⟨yn0, y121, y122⟩ | ⟨yn0, y121, y122⟩
    · skip
      have hv : v1 = v2 := by omega
      refine ⟨hv, by omega, by omega, by omega, ?_, ?_, ?_, ?_, ?_, ?_⟩
      · exact by rw [d18, c18, d91, c91, r4]
      · exact by rw [d19, c19, d92, c92, r5]
      · exact by rw [d21, c21, d93, c93, r6]
      · exact by rw [d46, x46, y122, c122, r7]
      · exact (by rw [d45, x45, d47, x47, y121, c121]; exact r8)
      · exact (by rw [d46, x46, d48, c48, d123, c123]; exact r9)
    · exact False.elim (by omega)
  · rcases hy with ⟨yn0, y121, y122⟩ | ⟨yn0, y121, y122⟩
    · exact False.elim (by omega)
    · skip
      have hv : v1 = v2 := by omega
      refine ⟨hv, by omega, by omega, by omega, ?_, ?_, ?_, ?_, ?_, ?_⟩
      · exact by rw [d18, c18, d91, c91, r4]
      · exact by rw [d19, c19, d92, c92, r5]
      · exact by rw [d21, c21, d93, c93, r6]
      · exact by rw [d46, x46, y122, c122, r7]
      · intro d hd
        have h8 := r8 d hd
        rw [d45, x45, d47, x47, y121, c121]
        unfold qzu
        by_cases e : d = (x1 : Int).toNat
        · rw [if_pos e, if_pos e, if_pos e]
          unfold qpg
          by_cases e2 : x2 < 0
          · rw [if_pos e2]; omega
          · rw [if_neg e2]; omega
        · rw [if_neg e, if_neg e, if_neg e]
          exact h8
      · intro d i hd hi
        rw [d46, x46] at hi
        rw [d48, c48, d123, c123]
        unfold qzu at hi
        by_cases e : d = (x1 : Int).toNat
        · rw [if_pos e] at hi; omega
        · rw [if_neg e] at hi; exact r9 d i hd hi

set_option maxHeartbeats 4000000 in
theorem rl_row {σ α σ1 α1 σ2 α2 : Nat → Nat → Int} {κ : Nat → Option Nat} {ρ : Nat} {x1 x2 x3 v1 v2 : Int} (hI : qI σ α κ ρ) (hR : qR σ α) (hG1 : qFr [] [45, 46, 48] σ α σ1 α1) (hG2 : qFr [] [121, 122, 123] σ1 α1 σ2 α2) (hx : ((v1 = -1 ∧ ¬ (0 ≤ x1 ∧ x1 ≤ 5 ∧ 0 ≤ x2 ∧ x2 ≤ 4 ∧ x3 ≤ 60)) ∧ α1 45 = α 45 ∧ α1 46 = α 46 ∧ α1 48 = α 48) ∨ ((v1 = -14 ∧ (0 ≤ x1 ∧ x1 ≤ 5 ∧ 0 ≤ x2 ∧ x2 ≤ 4 ∧ x3 ≤ 60) ∧ x3 < 0) ∧ α1 45 = α 45 ∧ α1 46 = α 46 ∧ α1 48 = α 48) ∨ ((v1 = 1 ∧ (0 ≤ x1 ∧ x1 ≤ 5 ∧ 0 ≤ x2 ∧ x2 ≤ 4 ∧ x3 ≤ 60) ∧ 0 ≤ x3) ∧ α1 45 = qzu (α 45) (x1 : Int).toNat (x2) ∧ α1 46 = qzu (α 46) (x1 : Int).toNat (x3) ∧ α1 48 = qzfl (α 48) (x1 * 60 : Int).toNat (x3 : Int).toNat)) (hy : ((v2 = -1 ∧ ¬ (0 ≤ x1 ∧ x1 ≤ 5 ∧ 0 ≤ x2 ∧ x2 ≤ 4 ∧ x3 ≤ 60)) ∧ α2 121 = α1 121 ∧ α2 122 = α1 122 ∧ α2 123 = α1 123) ∨ ((v2 = -14 ∧ (0 ≤ x1 ∧ x1 ≤ 5 ∧ 0 ≤ x2 ∧ x2 ≤ 4 ∧ x3 ≤ 60) ∧ x3 < 0) ∧ α2 121 = α1 121 ∧ α2 122 = α1 122 ∧ α2 123 = α1 123) ∨ ((v2 = 1 ∧ (0 ≤ x1 ∧ x1 ≤ 5 ∧ 0 ≤ x2 ∧ x2 ≤ 4 ∧ x3 ≤ 60) ∧ 0 ≤ x3) ∧ α2 121 = qzu (α1 121) (x1 : Int).toNat (60 + x2) ∧ α2 122 = qzu (α1 122) (x1 : Int).toNat (x3) ∧ α2 123 = qzfl (α1 123) (60 * x1 : Int).toNat 60)) : v1 = v2 ∧ qR σ2 α2 := by
  obtain ⟨r1, r2, r3, r4, r5, r6, r7, r8, r9⟩ := hR
  have c17_6 := hG1.1 17 6 (by decide)
  have d17_6 := hG2.1 17 6 (by decide)
  have c27_7 := hG1.1 27 7 (by decide)
  have d27_7 := hG2.1 27 7 (by decide)
  have c34_7 := hG1.1 34 7 (by decide)
  have d34_7 := hG2.1 34 7 (by decide)
  have c86_6 := hG1.1 86 6 (by decide)
  have d86_6 := hG2.1 86 6 (by decide)
  have c86_16 := hG1.1 86 16 (by decide)
  have d86_16 := hG2.1 86 16 (by decide)
  have c86_24 := hG1.1 86 24 (by decide)
  have d86_24 := hG2.1 86 24 (by decide)
  have c18 := hG1.2 18 (by decide)
  have d18 := hG2.2 18 (by decide)
  have c19 := hG1.2 19 (by decide)
  have d19 := hG2.2 19 (by decide)
  have c21 := hG1.2 21 (by decide)
  have d21 := hG2.2 21 (by decide)
  have d45 := hG2.2 45 (by decide)
  have d46 := hG2.2 46 (by decide)
  have c47 := hG1.2 47 (by decide)
  have d47 := hG2.2 47 (by decide)
  have d48 := hG2.2 48 (by decide)
  have c91 := hG1.2 91 (by decide)
  have d91 := hG2.2 91 (by decide)
  have c92 := hG1.2 92 (by decide)
  have d92 := hG2.2 92 (by decide)
  have c93 := hG1.2 93 (by decide)
  have d93 := hG2.2 93 (by decide)
  have c121 := hG1.2 121 (by decide)
  have c122 := hG1.2 122 (by decide)
  have c123 := hG1.2 123 (by decide)
  rcases hx with ⟨xn0, x45, x46, x48⟩ | ⟨xn0, x45, x46, x48⟩ | ⟨xn0, x45, x46, x48⟩
  · rcases hy with ⟨yn0, y121, y122, y123⟩ | ⟨yn0, y121, y122, y123⟩ | ⟨yn0, y121, y122, y123⟩
    · skip
      have hv : v1 = v2 := by omega
      refine ⟨hv, by omega, by omega, by omega, ?_, ?_, ?_, ?_, ?_, ?_⟩
      · exact by rw [d18, c18, d91, c91, r4]
      · exact by rw [d19, c19, d92, c92, r5]
      · exact by rw [d21, c21, d93, c93, r6]
      · exact by rw [d46, x46, y122, c122, r7]
      · exact (by rw [d45, x45, d47, c47, y121, c121]; exact r8)
      · exact (by rw [d46, x46, d48, x48, y123, c123]; exact r9)
    · exact False.elim (by omega)
    · exact False.elim (by omega)
  · rcases hy with ⟨yn0, y121, y122, y123⟩ | ⟨yn0, y121, y122, y123⟩ | ⟨yn0, y121, y122, y123⟩
    · exact False.elim (by omega)
    · skip
      have hv : v1 = v2 := by omega
      refine ⟨hv, by omega, by omega, by omega, ?_, ?_, ?_, ?_, ?_, ?_⟩
      · exact by rw [d18, c18, d91, c91, r4]
      · exact by rw [d19, c19, d92, c92, r5]
      · exact by rw [d21, c21, d93, c93, r6]
      · exact by rw [d46, x46, y122, c122, r7]
      · exact (by rw [d45, x45, d47, c47, y121, c121]; exact r8)
      · exact (by rw [d46, x46, d48, x48, y123, c123]; exact r9)
    · exact False.elim (by omega)
  · rcases hy with ⟨yn0, y121, y122, y123⟩ | ⟨yn0, y121, y122, y123⟩ | ⟨yn0, y121, y122, y123⟩
    · exact False.elim (by omega)
    · exact False.elim (by omega)
    · skip
      have hv : v1 = v2 := by omega
      refine ⟨hv, by omega, by omega, by omega, ?_, ?_, ?_, ?_, ?_, ?_⟩
      · exact by rw [d18, c18, d91, c91, r4]
      · exact by rw [d19, c19, d92, c92, r5]
      · exact by rw [d21, c21, d93, c93, r6]
      · exact by rw [d46, x46, y122, c122, r7]
      · intro d hd
        have h8 := r8 d hd
        rw [d45, x45, d47, c47, y121, c121]
        unfold qzu
        by_cases e : d = (x1 : Int).toNat
        · rw [if_pos e, if_pos e]
          unfold qpg
          omega
        · rw [if_neg e, if_neg e]
          exact h8
      · intro d i hd hi
        have hl : 0 ≤ α 46 d ∧ α 46 d ≤ 60 := hI.2.1 46 d hd
        rw [d46, x46] at hi
        rw [d48, x48, y123, c123]
        unfold qzu at hi
        unfold qzfl
        by_cases e : d = (x1 : Int).toNat
        · rw [if_pos e] at hi
          rw [if_pos (by omega), if_pos (by omega)]
        · rw [if_neg e] at hi
          rw [if_neg (by omega), if_neg (by omega)]
          exact r9 d i hd hi

set_option maxHeartbeats 4000000 in
theorem rl_put {σ α σ1 α1 σ2 α2 : Nat → Nat → Int} {κ : Nat → Option Nat} {ρ : Nat} {x1 x2 x3 v1 v2 : Int} (hI : qI σ α κ ρ) (hR : qR σ α) (hG1 : qFr [] [48] σ α σ1 α1) (hG2 : qFr [] [123] σ1 α1 σ2 α2) (hx : ((v1 = -1 ∧ ¬ (0 ≤ x1 ∧ x1 ≤ 5)) ∧ α1 48 = α 48) ∨ (((0 ≤ x1 ∧ x1 ≤ 5) ∧ ¬ v1 = 0 ∧ ((v1 = -11 ∧ α 45 (x1 : Int).toNat = 6) ∨ (v1 = -12 ∧ α 45 (x1 : Int).toNat = 5) ∨ (v1 = -13 ∧ α 45 (x1 : Int).toNat ≤ 4 ∧ ¬ (0 ≤ x2 ∧ x2 < α 46 (x1 : Int).toNat)) ∨ (v1 = 0 ∧ α 45 (x1 : Int).toNat ≤ 4 ∧ 0 ≤ x2 ∧ x2 < α 46 (x1 : Int).toNat))) ∧ α1 48 = α 48) ∨ ((v1 = 1 ∧ (0 ≤ x1 ∧ x1 ≤ 5) ∧ α 45 (x1 : Int).toNat ≤ 4 ∧ 0 ≤ x2 ∧ x2 < α 46 (x1 : Int).toNat) ∧ α1 48 = qzu (α 48) (x1 * 60 + x2 : Int).toNat (qnar (α 45 (x1 : Int).toNat) x3))) (hy : ((¬ v2 = 0 ∧ ((v2 = -1 ∧ ¬ (0 ≤ x1 ∧ x1 ≤ 5)) ∨ (v2 = -11 ∧ 0 ≤ x1 ∧ x1 ≤ 5 ∧ α1 121 (x1 : Int).toNat < 0) ∨ (v2 = -12 ∧ 0 ≤ x1 ∧ x1 ≤ 5 ∧ 0 ≤ α1 121 (x1 : Int).toNat ∧ α1 121 (x1 : Int).toNat < 60) ∨ (v2 = -13 ∧ 0 ≤ x1 ∧ x1 ≤ 5 ∧ 60 ≤ α1 121 (x1 : Int).toNat ∧ ¬ (0 ≤ x2 ∧ x2 < α1 122 (x1 : Int).toNat)) ∨ (v2 = 0 ∧ 0 ≤ x1 ∧ x1 ≤ 5 ∧ 60 ≤ α1 121 (x1 : Int).toNat ∧ 0 ≤ x2 ∧ x2 < α1 122 (x1 : Int).toNat))) ∧ α2 123 = α1 123) ∨ ((v2 = 1 ∧ (0 ≤ x1 ∧ x1 ≤ 5) ∧ 60 ≤ α1 121 (x1 : Int).toNat ∧ 0 ≤ x2 ∧ x2 < α1 122 (x1 : Int).toNat) ∧ α2 123 = qzu (α1 123) (60 * x1 + x2 : Int).toNat (qnar (α1 121 (x1 : Int).toNat - 60) x3))) : v1 = v2 ∧ qR σ2 α2 := by
  obtain ⟨r1, r2, r3, r4, r5, r6, r7, r8, r9⟩ := hR
  have c17_6 := hG1.1 17 6 (by decide)
  have d17_6 := hG2.1 17 6 (by decide)
  have c27_7 := hG1.1 27 7 (by decide)
  have d27_7 := hG2.1 27 7 (by decide)
  have c34_7 := hG1.1 34 7 (by decide)
  have d34_7 := hG2.1 34 7 (by decide)
  have c86_6 := hG1.1 86 6 (by decide)
  have d86_6 := hG2.1 86 6 (by decide)
  have c86_16 := hG1.1 86 16 (by decide)
  have d86_16 := hG2.1 86 16 (by decide)
  have c86_24 := hG1.1 86 24 (by decide)
  have d86_24 := hG2.1 86 24 (by decide)
  have c18 := hG1.2 18 (by decide)
  have d18 := hG2.2 18 (by decide)
  have c19 := hG1.2 19 (by decide)
  have d19 := hG2.2 19 (by decide)
  have c21 := hG1.2 21 (by decide)
  have d21 := hG2.2 21 (by decide)
  have c45 := hG1.2 45 (by decide)
  have d45 := hG2.2 45 (by decide)
  have c46 := hG1.2 46 (by decide)
  have d46 := hG2.2 46 (by decide)
  have c47 := hG1.2 47 (by decide)
  have d47 := hG2.2 47 (by decide)
  have d48 := hG2.2 48 (by decide)
  have c91 := hG1.2 91 (by decide)
  have d91 := hG2.2 91 (by decide)
  have c92 := hG1.2 92 (by decide)
  have d92 := hG2.2 92 (by decide)
  have c93 := hG1.2 93 (by decide)
  have d93 := hG2.2 93 (by decide)
  have c121 := hG1.2 121 (by decide)
  have d121 := hG2.2 121 (by decide)
  have c122 := hG1.2 122 (by decide)
  have d122 := hG2.2 122 (by decide)
  have c123 := hG1.2 123 (by decide)
  have hb : 0 ≤ x1 ∧ x1 ≤ 5 → qpg (α 45 (x1 : Int).toNat) (α 47 (x1 : Int).toNat) (α 121 (x1 : Int).toNat) := fun h => r8 _ (by omega)
  have hl : α 46 (x1 : Int).toNat = α 122 (x1 : Int).toNat := by rw [r7]
  rw [c121, c122] at hy
  unfold qpg at hb
  rcases hx with ⟨xn0, x48⟩ | ⟨xn0, x48⟩ | ⟨xn0, x48⟩
  · rcases hy with ⟨yn0, y123⟩ | ⟨yn0, y123⟩
    · skip
      have hv : v1 = v2 := by omega
      refine ⟨hv, by omega, by omega, by omega, ?_, ?_, ?_, ?_, ?_, ?_⟩
      · exact by rw [d18, c18, d91, c91, r4]
      · exact by rw [d19, c19, d92, c92, r5]
      · exact by rw [d21, c21, d93, c93, r6]
      · exact by rw [d46, c46, d122, c122, r7]
      · exact (by rw [d45, c45, d47, c47, d121, c121]; exact r8)
      · exact (by rw [d46, c46, d48, x48, y123, c123]; exact r9)
    · exact False.elim (by omega)
  · rcases hy with ⟨yn0, y123⟩ | ⟨yn0, y123⟩
    · skip
      have hv : v1 = v2 := by omega
      refine ⟨hv, by omega, by omega, by omega, ?_, ?_, ?_, ?_, ?_, ?_⟩
      · exact by rw [d18, c18, d91, c91, r4]
      · exact by rw [d19, c19, d92, c92, r5]
      · exact by rw [d21, c21, d93, c93, r6]
      · exact by rw [d46, c46, d122, c122, r7]
      · exact (by rw [d45, c45, d47, c47, d121, c121]; exact r8)
      · exact (by rw [d46, c46, d48, x48, y123, c123]; exact r9)
    · exact False.elim (by omega)
  · rcases hy with ⟨yn0, y123⟩ | ⟨yn0, y123⟩
    · exact False.elim (by omega)
    · skip
      have hv : v1 = v2 := by omega
      refine ⟨hv, by omega, by omega, by omega, ?_, ?_, ?_, ?_, ?_, ?_⟩
      · exact by rw [d18, c18, d91, c91, r4]
      · exact by rw [d19, c19, d92, c92, r5]
      · exact by rw [d21, c21, d93, c93, r6]
      · exact by rw [d46, c46, d122, c122, r7]
      · exact (by rw [d45, c45, d47, c47, d121, c121]; exact r8)
      · intro d i hd hi
        have hl2 : 0 ≤ α 46 d ∧ α 46 d ≤ 60 := hI.2.1 46 d hd
        have hl3 : 0 ≤ α 46 (x1 : Int).toNat ∧ α 46 (x1 : Int).toNat ≤ 60 := hI.2.1 46 _ (show (x1 : Int).toNat < 6 by omega)
        rw [d46, c46] at hi
        have h9 := r9 d i hd hi
        rw [d48, x48, y123, c123, show α 121 (x1 : Int).toNat - 60 = α 45 (x1 : Int).toNat by omega]
        unfold qzu
        by_cases e : 60 * d + i = (x1 * 60 + x2 : Int).toNat
        · rw [if_pos e, if_pos (by omega)]
        · rw [if_neg e, if_neg (by omega)]
          exact h9

set_option maxHeartbeats 4000000 in
theorem rl_element {σ α : Nat → Nat → Int} {κ : Nat → Option Nat} {ρ : Nat} {x1 x2 v1 v2 : Int} (hI : qI σ α κ ρ) (hR : qR σ α) (hx : ((v1 = -9223372036854775808 ∧ ¬ (0 ≤ x1 ∧ x1 ≤ 5 ∧ α 45 (x1 : Int).toNat ≤ 4 ∧ 0 ≤ x2 ∧ x2 < α 46 (x1 : Int).toNat)) ∨ ((0 ≤ x1 ∧ x1 ≤ 5 ∧ α 45 (x1 : Int).toNat ≤ 4 ∧ 0 ≤ x2 ∧ x2 < α 46 (x1 : Int).toNat) ∧ v1 = α 48 (x1 * 60 + x2 : Int).toNat))) (hy : ((v2 = -9223372036854775808 ∧ ¬ (0 ≤ x1 ∧ x1 ≤ 5 ∧ 60 ≤ α 121 (x1 : Int).toNat ∧ 0 ≤ x2 ∧ x2 < α 122 (x1 : Int).toNat)) ∨ ((0 ≤ x1 ∧ x1 ≤ 5 ∧ 60 ≤ α 121 (x1 : Int).toNat ∧ 0 ≤ x2 ∧ x2 < α 122 (x1 : Int).toNat) ∧ v2 = α 123 (60 * x1 + x2 : Int).toNat))) : v1 = v2 := by
  obtain ⟨r1, r2, r3, r4, r5, r6, r7, r8, r9⟩ := hR
  have hb : 0 ≤ x1 ∧ x1 ≤ 5 → qpg (α 45 (x1 : Int).toNat) (α 47 (x1 : Int).toNat) (α 121 (x1 : Int).toNat) := fun h => r8 _ (by omega)
  have hl : α 46 (x1 : Int).toNat = α 122 (x1 : Int).toNat := by rw [r7]
  unfold qpg at hb
  rcases hx with ⟨h1, h2⟩ | ⟨h1, h2⟩
  · rcases hy with ⟨k1, k2⟩ | ⟨k1, k2⟩
    · rw [h1, k1]
    · exact False.elim (by omega)
  · rcases hy with ⟨k1, k2⟩ | ⟨k1, k2⟩
    · exact False.elim (by omega)
    · have h9 := r9 (x1 : Int).toNat (x2 : Int).toNat (by omega) (by omega)
      rw [h2, k2, show (x1 * 60 + x2 : Int).toNat = 60 * (x1 : Int).toNat + (x2 : Int).toNat by omega, show (60 * x1 + x2 : Int).toNat = 60 * (x1 : Int).toNat + (x2 : Int).toNat by omega]
      exact h9

set_option maxHeartbeats 4000000 in
theorem rl_shift {σ α σ1 α1 σ2 α2 : Nat → Nat → Int} {κ : Nat → Option Nat} {ρ : Nat} {x1 x2 x3 x4 x5 v1 v2 : Int} (hI : qI σ α κ ρ) (hR : qR σ α) (hG1 : qFr [] [48] σ α σ1 α1) (hG2 : qFr [] [123, 124] σ1 α1 σ2 α2) (hx : ((v1 = -1 ∧ ¬ (0 ≤ x1 ∧ x1 ≤ 5 ∧ 0 ≤ x3 ∧ x3 ≤ 5)) ∧ α1 48 = α 48) ∨ ((v1 = -11 ∧ (0 ≤ x1 ∧ x1 ≤ 5 ∧ 0 ≤ x3 ∧ x3 ≤ 5) ∧ (α 45 (x1 : Int).toNat = 6 ∨ α 45 (x3 : Int).toNat = 6)) ∧ α1 48 = α 48) ∨ ((v1 = -12 ∧ (0 ≤ x1 ∧ x1 ≤ 5 ∧ 0 ≤ x3 ∧ x3 ≤ 5) ∧ ¬ (α 45 (x1 : Int).toNat = 6 ∨ α 45 (x3 : Int).toNat = 6) ∧ ¬ (α 45 (x1 : Int).toNat < 5 ∧ α 45 (x3 : Int).toNat = α 45 (x1 : Int).toNat)) ∧ α1 48 = α 48) ∨ ((v1 = -13 ∧ (0 ≤ x1 ∧ x1 ≤ 5 ∧ 0 ≤ x3 ∧ x3 ≤ 5) ∧ ¬ (α 45 (x1 : Int).toNat = 6 ∨ α 45 (x3 : Int).toNat = 6) ∧ (α 45 (x1 : Int).toNat < 5 ∧ α 45 (x3 : Int).toNat = α 45 (x1 : Int).toNat) ∧ ¬ (0 ≤ x2 ∧ 0 ≤ x5 ∧ x5 ≤ α 46 (x1 : Int).toNat ∧ x2 ≤ α 46 (x1 : Int).toNat - x5 ∧ 0 ≤ x4 ∧ x5 ≤ α 46 (x3 : Int).toNat ∧ x4 ≤ α 46 (x3 : Int).toNat - x5)) ∧ α1 48 = α 48) ∨ ((v1 = x5 ∧ (0 ≤ x1 ∧ x1 ≤ 5 ∧ 0 ≤ x3 ∧ x3 ≤ 5) ∧ ¬ (α 45 (x1 : Int).toNat = 6 ∨ α 45 (x3 : Int).toNat = 6) ∧ (α 45 (x1 : Int).toNat < 5 ∧ α 45 (x3 : Int).toNat = α 45 (x1 : Int).toNat) ∧ (0 ≤ x2 ∧ 0 ≤ x5 ∧ x5 ≤ α 46 (x1 : Int).toNat ∧ x2 ≤ α 46 (x1 : Int).toNat - x5 ∧ 0 ≤ x4 ∧ x5 ≤ α 46 (x3 : Int).toNat ∧ x4 ≤ α 46 (x3 : Int).toNat - x5)) ∧ α1 48 = va_cpy (α 48) (α 48) (x1 * 60 + x2 : Int).toNat (x3 * 60 + x4 : Int).toNat (x5 : Int).toNat)) (hy : ((v2 = -1 ∧ ¬ (0 ≤ x1 ∧ x1 ≤ 5 ∧ 0 ≤ x3 ∧ x3 ≤ 5)) ∧ α2 123 = α1 123) ∨ ((v2 = -11 ∧ (0 ≤ x1 ∧ x1 ≤ 5 ∧ 0 ≤ x3 ∧ x3 ≤ 5) ∧ (α1 121 (x1 : Int).toNat < 0 ∨ α1 121 (x3 : Int).toNat < 0)) ∧ α2 123 = α1 123) ∨ ((v2 = -12 ∧ (0 ≤ x1 ∧ x1 ≤ 5 ∧ 0 ≤ x3 ∧ x3 ≤ 5) ∧ ¬ (α1 121 (x1 : Int).toNat < 0 ∨ α1 121 (x3 : Int).toNat < 0) ∧ ¬ (60 ≤ α1 121 (x1 : Int).toNat ∧ α1 121 (x1 : Int).toNat = α1 121 (x3 : Int).toNat)) ∧ α2 123 = α1 123) ∨ ((v2 = -13 ∧ (0 ≤ x1 ∧ x1 ≤ 5 ∧ 0 ≤ x3 ∧ x3 ≤ 5) ∧ ¬ (α1 121 (x1 : Int).toNat < 0 ∨ α1 121 (x3 : Int).toNat < 0) ∧ (60 ≤ α1 121 (x1 : Int).toNat ∧ α1 121 (x1 : Int).toNat = α1 121 (x3 : Int).toNat) ∧ ¬ (0 ≤ x2 ∧ 0 ≤ x5 ∧ x5 ≤ α1 122 (x1 : Int).toNat ∧ x2 ≤ α1 122 (x1 : Int).toNat - x5 ∧ 0 ≤ x4 ∧ x5 ≤ α1 122 (x3 : Int).toNat ∧ x4 ≤ α1 122 (x3 : Int).toNat - x5)) ∧ α2 123 = α1 123) ∨ ((v2 = x5 ∧ (0 ≤ x1 ∧ x1 ≤ 5 ∧ 0 ≤ x3 ∧ x3 ≤ 5) ∧ ¬ (α1 121 (x1 : Int).toNat < 0 ∨ α1 121 (x3 : Int).toNat < 0) ∧ (60 ≤ α1 121 (x1 : Int).toNat ∧ α1 121 (x1 : Int).toNat = α1 121 (x3 : Int).toNat) ∧ (0 ≤ x2 ∧ 0 ≤ x5 ∧ x5 ≤ α1 122 (x1 : Int).toNat ∧ x2 ≤ α1 122 (x1 : Int).toNat - x5 ∧ 0 ≤ x4 ∧ x5 ≤ α1 122 (x3 : Int).toNat ∧ x4 ≤ α1 122 (x3 : Int).toNat - x5)) ∧ α2 123 = va_cpy (α1 123) (α1 123) (60 * x1 + x2 : Int).toNat (60 * x3 + x4 : Int).toNat (x5 : Int).toNat)) : v1 = v2 ∧ qR σ2 α2 := by
  obtain ⟨r1, r2, r3, r4, r5, r6, r7, r8, r9⟩ := hR
  have c17_6 := hG1.1 17 6 (by decide)
  have d17_6 := hG2.1 17 6 (by decide)
  have c27_7 := hG1.1 27 7 (by decide)
  have d27_7 := hG2.1 27 7 (by decide)
  have c34_7 := hG1.1 34 7 (by decide)
  have d34_7 := hG2.1 34 7 (by decide)
  have c86_6 := hG1.1 86 6 (by decide)
  have d86_6 := hG2.1 86 6 (by decide)
  have c86_16 := hG1.1 86 16 (by decide)
  have d86_16 := hG2.1 86 16 (by decide)
  have c86_24 := hG1.1 86 24 (by decide)
  have d86_24 := hG2.1 86 24 (by decide)
  have c18 := hG1.2 18 (by decide)
  have d18 := hG2.2 18 (by decide)
  have c19 := hG1.2 19 (by decide)
  have d19 := hG2.2 19 (by decide)
  have c21 := hG1.2 21 (by decide)
  have d21 := hG2.2 21 (by decide)
  have c45 := hG1.2 45 (by decide)
  have d45 := hG2.2 45 (by decide)
  have c46 := hG1.2 46 (by decide)
  have d46 := hG2.2 46 (by decide)
  have c47 := hG1.2 47 (by decide)
  have d47 := hG2.2 47 (by decide)
  have d48 := hG2.2 48 (by decide)
  have c91 := hG1.2 91 (by decide)
  have d91 := hG2.2 91 (by decide)
  have c92 := hG1.2 92 (by decide)
  have d92 := hG2.2 92 (by decide)
  have c93 := hG1.2 93 (by decide)
  have d93 := hG2.2 93 (by decide)
  have c121 := hG1.2 121 (by decide)
  have d121 := hG2.2 121 (by decide)
  have c122 := hG1.2 122 (by decide)
  have d122 := hG2.2 122 (by decide)
  have c123 := hG1.2 123 (by decide)
  have hb1 : 0 ≤ x1 ∧ x1 ≤ 5 → qpg (α 45 (x1 : Int).toNat) (α 47 (x1 : Int).toNat) (α 121 (x1 : Int).toNat) := fun h => r8 _ (by omega)
  have hb3 : 0 ≤ x3 ∧ x3 ≤ 5 → qpg (α 45 (x3 : Int).toNat) (α 47 (x3 : Int).toNat) (α 121 (x3 : Int).toNat) := fun h => r8 _ (by omega)
  have hl1 : α 46 (x1 : Int).toNat = α 122 (x1 : Int).toNat := by rw [r7]
  have hl3 : α 46 (x3 : Int).toNat = α 122 (x3 : Int).toNat := by rw [r7]
  rw [c121, c122] at hy
  unfold qpg at hb1 hb3
  rcases hx with ⟨xn0, x48⟩ | ⟨xn0, x48⟩ | ⟨xn0, x48⟩ | ⟨xn0, x48⟩ | ⟨xn0, x48⟩
  · rcases hy with ⟨yn0, y123⟩ | ⟨yn0, y123⟩ | ⟨yn0, y123⟩ | ⟨yn0, y123⟩ | ⟨yn0, y123⟩
    · skip
      have hv : v1 = v2 := by omega
      refine ⟨hv, by omega, by omega, by omega, ?_, ?_, ?_, ?_, ?_, ?_⟩
      · exact by rw [d18, c18, d91, c91, r4]
      · exact by rw [d19, c19, d92, c92, r5]
      · exact by rw [d21, c21, d93, c93, r6]
      · exact by rw [d46, c46, d122, c122, r7]
      · exact (by rw [d45, c45, d47, c47, d121, c121]; exact r8)
      · exact (by rw [d46, c46, d48, x48, y123, c123]; exact r9)
    · exact False.elim (by omega)
    · exact False.elim (by omega)
    · exact False.elim (by omega)
    · exact False.elim (by omega)
  · rcases hy with ⟨yn0, y123⟩ | ⟨yn0, y123⟩ | ⟨yn0, y123⟩ | ⟨yn0, y123⟩ | ⟨yn0, y123⟩
    · exact False.elim (by omega)
    · skip
      have hv : v1 = v2 := by omega
      refine ⟨hv, by omega, by omega, by omega, ?_, ?_, ?_, ?_, ?_, ?_⟩
      · exact by rw [d18, c18, d91, c91, r4]
      · exact by rw [d19, c19, d92, c92, r5]
      · exact by rw [d21, c21, d93, c93, r6]
      · exact by rw [d46, c46, d122, c122, r7]
      · exact (by rw [d45, c45, d47, c47, d121, c121]; exact r8)
      · exact (by rw [d46, c46, d48, x48, y123, c123]; exact r9)
    · exact False.elim (by omega)
    · exact False.elim (by omega)
    · exact False.elim (by omega)
  · rcases hy with ⟨yn0, y123⟩ | ⟨yn0, y123⟩ | ⟨yn0, y123⟩ | ⟨yn0, y123⟩ | ⟨yn0, y123⟩
    · exact False.elim (by omega)
    · exact False.elim (by omega)
    · skip
      have hv : v1 = v2 := by omega
      refine ⟨hv, by omega, by omega, by omega, ?_, ?_, ?_, ?_, ?_, ?_⟩
      · exact by rw [d18, c18, d91, c91, r4]
      · exact by rw [d19, c19, d92, c92, r5]
      · exact by rw [d21, c21, d93, c93, r6]
      · exact by rw [d46, c46, d122, c122, r7]
      · exact (by rw [d45, c45, d47, c47, d121, c121]; exact r8)
      · exact (by rw [d46, c46, d48, x48, y123, c123]; exact r9)
    · exact False.elim (by omega)
    · exact False.elim (by omega)
  · rcases hy with ⟨yn0, y123⟩ | ⟨yn0, y123⟩ | ⟨yn0, y123⟩ | ⟨yn0, y123⟩ | ⟨yn0, y123⟩
    · exact False.elim (by omega)
    · exact False.elim (by omega)
    · exact False.elim (by omega)
    · skip
      have hv : v1 = v2 := by omega
      refine ⟨hv, by omega, by omega, by omega, ?_, ?_, ?_, ?_, ?_, ?_⟩
      · exact by rw [d18, c18, d91, c91, r4]
      · exact by rw [d19, c19, d92, c92, r5]
      · exact by rw [d21, c21, d93, c93, r6]
      · exact by rw [d46, c46, d122, c122, r7]
      · exact (by rw [d45, c45, d47, c47, d121, c121]; exact r8)
      · exact (by rw [d46, c46, d48, x48, y123, c123]; exact r9)
    · exact False.elim (by omega)
  · rcases hy with ⟨yn0, y123⟩ | ⟨yn0, y123⟩ | ⟨yn0, y123⟩ | ⟨yn0, y123⟩ | ⟨yn0, y123⟩
    · exact False.elim (by omega)
    · exact False.elim (by omega)
    · exact False.elim (by omega)
    · exact False.elim (by omega)
    · skip
      have hv : v1 = v2 := by omega
      refine ⟨hv, by omega, by omega, by omega, ?_, ?_, ?_, ?_, ?_, ?_⟩
      · exact by rw [d18, c18, d91, c91, r4]
      · exact by rw [d19, c19, d92, c92, r5]
      · exact by rw [d21, c21, d93, c93, r6]
      · exact by rw [d46, c46, d122, c122, r7]
      · exact (by rw [d45, c45, d47, c47, d121, c121]; exact r8)
      · intro d i hd hi
        have hl2 : 0 ≤ α 46 d ∧ α 46 d ≤ 60 := hI.2.1 46 d hd
        have hm1 : 0 ≤ α 46 (x1 : Int).toNat ∧ α 46 (x1 : Int).toNat ≤ 60 := hI.2.1 46 _ (show (x1 : Int).toNat < 6 by omega)
        have hm3 : 0 ≤ α 46 (x3 : Int).toNat ∧ α 46 (x3 : Int).toNat ≤ 60 := hI.2.1 46 _ (show (x3 : Int).toNat < 6 by omega)
        rw [d46, c46] at hi
        have h9 := r9 d i hd hi
        rw [d48, x48, y123, c123]
        unfold va_cpy
        by_cases e : (x3 * 60 + x4 : Int).toNat ≤ 60 * d + i ∧ 60 * d + i < (x3 * 60 + x4 : Int).toNat + (x5 : Int).toNat
        · have h10 := r9 (x1 : Int).toNat ((x2 : Int).toNat + (60 * d + i - (x3 * 60 + x4 : Int).toNat)) (by omega) (by omega)
          rw [if_pos e, if_pos (by omega), show (x1 * 60 + x2 : Int).toNat + (60 * d + i - (x3 * 60 + x4 : Int).toNat) = 60 * (x1 : Int).toNat + ((x2 : Int).toNat + (60 * d + i - (x3 * 60 + x4 : Int).toNat)) by omega, show (60 * x1 + x2 : Int).toNat + (60 * d + i - (60 * x3 + x4 : Int).toNat) = 60 * (x1 : Int).toNat + ((x2 : Int).toNat + (60 * d + i - (x3 * 60 + x4 : Int).toNat)) by omega]
          exact h10
        · rw [if_neg e, if_neg (by omega)]
          exact h9

set_option maxHeartbeats 4000000 in
theorem rl_people {σ α σ1 α1 σ2 α2 : Nat → Nat → Int} {κ : Nat → Option Nat} {ρ : Nat} {x1 x2 x3 v1 v2 : Int} (hI : qI σ α κ ρ) (hR : qR σ α) (hG1 : qFr [(17, 6)] [18, 19, 20, 22] σ α σ1 α1) (hG2 : qFr [(86, 6), (86, 15)] [87, 91, 92] σ1 α1 σ2 α2) (hx : ((v1 = -1 ∧ ¬ (0 ≤ x1 ∧ x1 ≤ 5 ∧ 1 ≤ x3 ∧ x3 ≤ 20) ∧ σ1 17 6 = σ 17 6) ∧ α1 18 = α 18 ∧ α1 19 = α 19) ∨ ((v1 = 0 ∧ (0 ≤ x1 ∧ x1 ≤ 5 ∧ 1 ≤ x3 ∧ x3 ≤ 20) ∧ α 45 (x1 : Int).toNat = 6 ∧ σ1 17 6 = σ 17 6) ∧ α1 18 = α 18 ∧ α1 19 = α 19) ∨ ((v1 = -12 ∧ (0 ≤ x1 ∧ x1 ≤ 5 ∧ 1 ≤ x3 ∧ x3 ≤ 20) ∧ ¬ α 45 (x1 : Int).toNat = 6 ∧ ¬ α 45 (x1 : Int).toNat = 0 ∧ σ1 17 6 = σ 17 6) ∧ α1 18 = α 18 ∧ α1 19 = α 19) ∨ ((((0 ≤ x1 ∧ x1 ≤ 5 ∧ 1 ≤ x3 ∧ x3 ≤ 20) ∧ α 45 (x1 : Int).toNat = 0) ∧ (v1, σ1 17 6, α1 18, α1 19) = qpl (α 48) (x1 * 60) (α 46 (x1 : Int).toNat) x2 (x3 : Int).toNat 0 (σ 17 6) (α 18) (α 19)))) (hy : ((v2 = -1 ∧ ¬ (0 ≤ x1 ∧ x1 ≤ 5 ∧ 1 ≤ x3 ∧ x3 ≤ 20) ∧ σ2 86 6 = σ1 86 6) ∧ α2 91 = α1 91 ∧ α2 92 = α1 92) ∨ ((v2 = 0 ∧ (0 ≤ x1 ∧ x1 ≤ 5 ∧ 1 ≤ x3 ∧ x3 ≤ 20) ∧ α1 121 (x1 : Int).toNat < 0 ∧ σ2 86 6 = σ1 86 6) ∧ α2 91 = α1 91 ∧ α2 92 = α1 92) ∨ ((v2 = -12 ∧ (0 ≤ x1 ∧ x1 ≤ 5 ∧ 1 ≤ x3 ∧ x3 ≤ 20) ∧ 0 ≤ α1 121 (x1 : Int).toNat ∧ ¬ α1 121 (x1 : Int).toNat = 60 ∧ σ2 86 6 = σ1 86 6) ∧ α2 91 = α1 91 ∧ α2 92 = α1 92) ∨ ((((0 ≤ x1 ∧ x1 ≤ 5 ∧ 1 ≤ x3 ∧ x3 ≤ 20) ∧ α1 121 (x1 : Int).toNat = 60) ∧ (v2, σ2 86 6, α2 91, α2 92) = qpl (α1 123) (60 * x1) (α1 122 (x1 : Int).toNat) x2 (x3 : Int).toNat 0 (σ1 86 6) (α1 91) (α1 92)))) : v1 = v2 ∧ qR σ2 α2 := by
  obtain ⟨r1, r2, r3, r4, r5, r6, r7, r8, r9⟩ := hR
  have d17_6 := hG2.1 17 6 (by decide)
  have c27_7 := hG1.1 27 7 (by decide)
  have d27_7 := hG2.1 27 7 (by decide)
  have c34_7 := hG1.1 34 7 (by decide)
  have d34_7 := hG2.1 34 7 (by decide)
  have c86_6 := hG1.1 86 6 (by decide)
  have c86_16 := hG1.1 86 16 (by decide)
  have d86_16 := hG2.1 86 16 (by decide)
  have c86_24 := hG1.1 86 24 (by decide)
  have d86_24 := hG2.1 86 24 (by decide)
  have d18 := hG2.2 18 (by decide)
  have d19 := hG2.2 19 (by decide)
  have c21 := hG1.2 21 (by decide)
  have d21 := hG2.2 21 (by decide)
  have c45 := hG1.2 45 (by decide)
  have d45 := hG2.2 45 (by decide)
  have c46 := hG1.2 46 (by decide)
  have d46 := hG2.2 46 (by decide)
  have c47 := hG1.2 47 (by decide)
  have d47 := hG2.2 47 (by decide)
  have c48 := hG1.2 48 (by decide)
  have d48 := hG2.2 48 (by decide)
  have c91 := hG1.2 91 (by decide)
  have c92 := hG1.2 92 (by decide)
  have c93 := hG1.2 93 (by decide)
  have d93 := hG2.2 93 (by decide)
  have c121 := hG1.2 121 (by decide)
  have d121 := hG2.2 121 (by decide)
  have c122 := hG1.2 122 (by decide)
  have d122 := hG2.2 122 (by decide)
  have c123 := hG1.2 123 (by decide)
  have d123 := hG2.2 123 (by decide)
  have hb : 0 ≤ x1 ∧ x1 ≤ 5 → qpg (α 45 (x1 : Int).toNat) (α 47 (x1 : Int).toNat) (α 121 (x1 : Int).toNat) := fun h => r8 _ (by omega)
  have hl : α 46 (x1 : Int).toNat = α 122 (x1 : Int).toNat := by rw [r7]
  rw [c121, c122, c123, c91, c92] at hy
  unfold qpg at hb
  rcases hx with ⟨xn0, x18, x19⟩ | ⟨xn0, x18, x19⟩ | ⟨xn0, x18, x19⟩ | ⟨xn0, xe⟩
  · rcases hy with ⟨yn0, y91, y92⟩ | ⟨yn0, y91, y92⟩ | ⟨yn0, y91, y92⟩ | ⟨yn0, ye⟩
    · skip
      have hv : v1 = v2 := by omega
      refine ⟨hv, by omega, by omega, by omega, ?_, ?_, ?_, ?_, ?_, ?_⟩
      · exact by rw [d18, x18, y91, r4]
      · exact by rw [d19, x19, y92, r5]
      · exact by rw [d21, c21, d93, c93, r6]
      · exact by rw [d46, c46, d122, c122, r7]
      · exact (by rw [d45, c45, d47, c47, d121, c121]; exact r8)
      · exact (by rw [d46, c46, d48, c48, d123, c123]; exact r9)
    · exact False.elim (by omega)
    · exact False.elim (by omega)
    · exact False.elim (by omega)
  · rcases hy with ⟨yn0, y91, y92⟩ | ⟨yn0, y91, y92⟩ | ⟨yn0, y91, y92⟩ | ⟨yn0, ye⟩
    · exact False.elim (by omega)
    · skip
      have hv : v1 = v2 := by omega
      refine ⟨hv, by omega, by omega, by omega, ?_, ?_, ?_, ?_, ?_, ?_⟩
      · exact by rw [d18, x18, y91, r4]
      · exact by rw [d19, x19, y92, r5]
      · exact by rw [d21, c21, d93, c93, r6]
      · exact by rw [d46, c46, d122, c122, r7]
      · exact (by rw [d45, c45, d47, c47, d121, c121]; exact r8)
      · exact (by rw [d46, c46, d48, c48, d123, c123]; exact r9)
    · exact False.elim (by omega)
    · exact False.elim (by omega)
  · rcases hy with ⟨yn0, y91, y92⟩ | ⟨yn0, y91, y92⟩ | ⟨yn0, y91, y92⟩ | ⟨yn0, ye⟩
    · exact False.elim (by omega)
    · exact False.elim (by omega)
    · skip
      have hv : v1 = v2 := by omega
      refine ⟨hv, by omega, by omega, by omega, ?_, ?_, ?_, ?_, ?_, ?_⟩
      · exact by rw [d18, x18, y91, r4]
      · exact by rw [d19, x19, y92, r5]
      · exact by rw [d21, c21, d93, c93, r6]
      · exact by rw [d46, c46, d122, c122, r7]
      · exact (by rw [d45, c45, d47, c47, d121, c121]; exact r8)
      · exact (by rw [d46, c46, d48, c48, d123, c123]; exact r9)
    · exact False.elim (by omega)
  · rcases hy with ⟨yn0, y91, y92⟩ | ⟨yn0, y91, y92⟩ | ⟨yn0, y91, y92⟩ | ⟨yn0, ye⟩
    · exact False.elim (by omega)
    · exact False.elim (by omega)
    · exact False.elim (by omega)
    · skip
      have he : qpl (α 48) (x1 * 60) (α 46 (x1 : Int).toNat) x2 (x3 : Int).toNat 0 (σ 17 6) (α 18) (α 19) = qpl (α 123) (60 * x1) (α 122 (x1 : Int).toNat) x2 (x3 : Int).toNat 0 (σ1 86 6) (α 91) (α 92) := by
        rw [r4, r5, hl, show σ 17 6 = σ1 86 6 by omega, show x1 * 60 = 60 * x1 by omega]
        refine qpl_eq (fun j h1 h2 => ?_) _ _ _ _ _
        unfold qpa
        have h9 := r9 (x1 : Int).toNat (j : Int).toNat (by omega) (by omega)
        rw [show (60 * x1 + j : Int).toNat = 60 * (x1 : Int).toNat + (j : Int).toNat by omega, h9]
      have h0 := xe.trans (he.trans ye.symm)
      have h1 := congrArg Prod.fst h0
      have h2 := congrArg (fun t => t.2.1) h0
      have h3 := congrArg (fun t => t.2.2.1) h0
      have h4 := congrArg (fun t => t.2.2.2) h0
      simp only at h1 h2 h3 h4
      refine ⟨h1, by omega, by omega, by omega, ?_, ?_, ?_, ?_, ?_, ?_⟩
      · exact (by rw [d18, h3])
      · exact (by rw [d19, h4])
      · exact (by rw [d21, c21, d93, c93, r6])
      · exact (by rw [d46, c46, d122, c122, r7])
      · exact (by rw [d45, c45, d47, c47, d121, c121]; exact r8)
      · exact (by rw [d46, c46, d48, c48, d123, c123]; exact r9)
