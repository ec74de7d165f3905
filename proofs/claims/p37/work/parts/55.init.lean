/-! the fresh objects keep the ranges -/
theorem qI_st0 : qI_st.all (fun q => decide (q.2.2.1 ≤ 0 ∧ 0 ≤ q.2.2.2)) = true := by decide +kernel
theorem qI_rt0 : qI_rt.all (fun q => decide (q.2.2.1 ≤ 0 ∧ 0 ≤ q.2.2.2)) = true := by decide +kernel
theorem qI_sr0 (a k : Nat) : (qI_sr a k).1 ≤ 0 ∧ 0 ≤ (qI_sr a k).2 := by
  unfold qI_sr
  cases h : qI_st.find? (fun q => q.1 == a && q.2.1 == k) with
  | none => exact ⟨by decide, by decide⟩
  | some q => exact of_decide_eq_true (List.all_eq_true.mp qI_st0 q (List.mem_of_find?_eq_some h))
theorem qI_rr0 (a : Nat) : (qI_rr a).2.1 ≤ 0 ∧ 0 ≤ (qI_rr a).2.2 := by
  unfold qI_rr
  cases h : qI_rt.find? (fun q => q.1 == a) with
  | none => exact ⟨by decide, by decide⟩
  | some q => exact of_decide_eq_true (List.all_eq_true.mp qI_rt0 q (List.mem_of_find?_eq_some h))
/-- numbers and rows of the fresh objects, with what nothing reads at 0 -/
def qJ_s (s : Nat → Nat → Int) : Nat → Nat → Int := fun a k => if (a = 50 ∨ a = 54 ∨ a = 82) ∧ ¬ (3 ≤ k ∧ k ≤ 7) then 0 else qo_s s a k
def qJ_r (g : Nat → Nat → Int) : Nat → Nat → Int := fun a => if a = 52 ∨ a = 56 ∨ a = 84 then (fun j => (qz (qo_r g a j)).toInt) else qo_r g a
theorem qJ_w (s g : Nat → Nat → Int) : qw (qo_s s) (qo_r g) qo_k 82 = qw (qJ_s s) (qJ_r g) qo_k 82 := by
  have e1 : qzf (qo_r g 52) = qzf (qJ_r g 52) := qzf_can _
  have e2 : qzf (qo_r g 56) = qzf (qJ_r g 56) := qzf_can _
  have e3 : qzf (qo_r g 84) = qzf (qJ_r g 84) := qzf_can _
  unfold qw
  rw [e1, e2, e3]
  rfl
theorem qJ_so {s : Nat → Nat → Int} (a k : Nat) (h : ¬ (a = 50 ∨ a = 54 ∨ a = 82)) : qJ_s s a k = if a = 86 ∧ k = 51 then -1 else 0 := by
  unfold qJ_s qo_s
  rw [if_neg (fun q => h q.1), if_neg (fun q => h (Or.inl q)), if_neg (fun q => h (Or.inr (Or.inl q))), if_neg (fun q => h (Or.inr (Or.inr q)))]
  by_cases h1 : a = 86 <;> by_cases h2 : k = 51 <;> simp [h1, h2]
theorem qJ_ro {g : Nat → Nat → Int} (a : Nat) (h : ¬ (a = 24 ∨ a = 26 ∨ a = 51 ∨ a = 52 ∨ a = 55 ∨ a = 56 ∨ a = 83 ∨ a = 84 ∨ a = 45 ∨ a = 108 ∨ a = 121)) (j : Nat) : qJ_r g a j = 0 := by
  unfold qJ_r
  rw [if_neg (by omega)]
  unfold qo_r
  rw [if_neg (by omega), if_neg (by omega), if_neg (by omega), if_neg (by omega), if_neg (by omega), if_neg (by omega), if_neg (by omega), if_neg (by omega), if_neg (by omega), if_neg (by omega), if_neg (by omega)]
theorem qJ_I {s g : Nat → Nat → Int} (h : qo_ok s g) : qI (qJ_s s) (qJ_r g) qo_k 82 := by
  have z : ∀ a k, ¬ (a = 50 ∨ a = 54 ∨ a = 82) → ¬ (a = 86 ∧ k = 51) → qJ_s s a k = 0 := fun a k h1 h2 => (qJ_so a k h1).trans (if_neg h2)
  refine ⟨fun a k => ?_, fun a j hj => ?_, ⟨⟨50, rfl, Or.inl rfl⟩, ⟨54, rfl, Or.inr (Or.inl rfl)⟩, Or.inr (Or.inr rfl)⟩, ?_, ?_, ?_, ?_, ?_, ?_, ?_⟩
  · by_cases h1 : a = 50 ∨ a = 54 ∨ a = 82
    · by_cases h2 : 3 ≤ k ∧ k ≤ 7
      · have hk : k = 3 ∨ k = 4 ∨ k = 5 ∨ k = 6 ∨ k = 7 := by omega
        have h3 := h.1
        have h40 := h.2.1 0 (by decide)
        have h41 := h.2.1 1 (by decide)
        have h42 := h.2.1 2 (by decide)
        rcases h1 with rfl | rfl | rfl <;> rcases hk with rfl | rfl | rfl | rfl | rfl
        · show 0 ≤ s 0 3 ∧ s 0 3 ≤ 120; omega
        · show 0 ≤ s 0 4 ∧ s 0 4 ≤ 120; omega
        · show 0 ≤ s 0 5 ∧ s 0 5 ≤ 122; omega
        · show -2147483648 ≤ s 0 6 ∧ s 0 6 ≤ 2147483647; omega
        · show 0 ≤ s 0 7 ∧ s 0 7 ≤ 1; omega
        · show 0 ≤ s 1 3 ∧ s 1 3 ≤ 120; omega
        · show 0 ≤ s 1 4 ∧ s 1 4 ≤ 120; omega
        · show 0 ≤ s 1 5 ∧ s 1 5 ≤ 122; omega
        · show -2147483648 ≤ s 1 6 ∧ s 1 6 ≤ 2147483647; omega
        · show 0 ≤ s 1 7 ∧ s 1 7 ≤ 1; omega
        · show 0 ≤ s 2 3 ∧ s 2 3 ≤ 120; omega
        · show 0 ≤ s 2 4 ∧ s 2 4 ≤ 120; omega
        · show 0 ≤ s 2 5 ∧ s 2 5 ≤ 122; omega
        · show -2147483648 ≤ s 2 6 ∧ s 2 6 ≤ 2147483647; omega
        · show 0 ≤ s 2 7 ∧ s 2 7 ≤ 1; omega
      · have e : qJ_s s a k = 0 := if_pos ⟨h1, h2⟩
        rw [e]
        exact qI_sr0 a k
    · by_cases h2 : a = 86 ∧ k = 51
      · obtain ⟨rfl, rfl⟩ := h2
        show -9223372036854775808 ≤ (-1 : Int) ∧ (-1 : Int) ≤ 9223372036854775807
        decide
      · rw [z a k h1 h2]
        exact qI_sr0 a k
  · by_cases h1 : a = 24 ∨ a = 26 ∨ a = 51 ∨ a = 52 ∨ a = 55 ∨ a = 56 ∨ a = 83 ∨ a = 84 ∨ a = 45 ∨ a = 108 ∨ a = 121
    · rcases h1 with rfl | rfl | rfl | rfl | rfl | rfl | rfl | rfl | rfl | rfl | rfl
      · have e := h.2.2.1 24 (Or.inl rfl) j hj
        show 0 ≤ g 24 j ∧ g 24 j ≤ 99
        rw [e]
        split <;> omega
      · have e := h.2.2.1 26 (Or.inr rfl) j hj
        show 0 ≤ g 26 j ∧ g 26 j ≤ 99
        rw [e]
        split <;> omega
      · exact h.2.2.2 51 (Or.inl rfl) j
      · exact qz_rng _
      · exact h.2.2.2 55 (Or.inr (Or.inl rfl)) j
      · exact qz_rng _
      · exact h.2.2.2 83 (Or.inr (Or.inr rfl)) j
      · exact qz_rng _
      · show 0 ≤ (qzu (qzu (qzu (qzu (qzu (qzu (fun _ => (0 : Int)) 0 6) 1 6) 2 6) 3 6) 4 6) 5 6) j ∧ (qzu (qzu (qzu (qzu (qzu (qzu (fun _ => (0 : Int)) 0 6) 1 6) 2 6) 3 6) 4 6) 5 6) j ≤ 6
        unfold qzu
        repeat' split
        all_goals first | omega | (dsimp only; omega)
      · show -1 ≤ (qzu (qzu (fun _ => (0 : Int)) 0 (-1)) 1 (-1)) j ∧ (qzu (qzu (fun _ => (0 : Int)) 0 (-1)) 1 (-1)) j ≤ 120
        unfold qzu
        repeat' split
        all_goals first | omega | (dsimp only; omega)
      · show -1 ≤ (qzu (qzu (qzu (qzu (qzu (qzu (fun _ => (0 : Int)) 0 (-1)) 1 (-1)) 2 (-1)) 3 (-1)) 4 (-1)) 5 (-1)) j ∧ (qzu (qzu (qzu (qzu (qzu (qzu (fun _ => (0 : Int)) 0 (-1)) 1 (-1)) 2 (-1)) 3 (-1)) 4 (-1)) 5 (-1)) j ≤ 64
        unfold qzu
        repeat' split
        all_goals first | omega | (dsimp only; omega)
    · rw [qJ_ro a h1 j]
      exact qI_rr0 a
  · intro i j _ hj
    have e : qJ_s s 64 2 = 0 := rfl
    rw [e] at hj
    omega
  · rintro a (rfl | rfl) j _
    · show (0 : Int) % 100 ≤ 31; decide
    · show (0 : Int) % 100 ≤ 31; decide
  · intro j _
    show ((0 : Int) = 0 → (0 : Int) ≤ 39) ∧ ((0 : Int) = 2 → (0 : Int) ≤ 31) ∧ (¬ (0 : Int) = 0 → ¬ (0 : Int) = 1 → ¬ (0 : Int) = 2 → (0 : Int) ≤ 59)
    omega
  · intro j _
    show (0 : Int) < (j : Int) ∨ (j = 0 ∧ (0 : Int) = 0)
    omega
  · show (0 : Int) ≤ 0
    decide
  · intro j hj
    have e : qJ_s s 86 11 = 0 := rfl
    rw [e] at hj
    omega
  · intro hk
    have e : qJ_s s 86 15 = 0 := rfl
    rw [e] at hk
    exact absurd hk (by decide)
