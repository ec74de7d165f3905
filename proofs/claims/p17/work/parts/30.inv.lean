/-! the ranges of all numbers and rows of both objects; what a call leaves as it was. -/
def qI_st : List (Nat × Nat × Int × Int) := [(16, 15, 0, 120), (17, 5, (-9223372036854775808), 9223372036854775807), (17, 6, 0, 32), (27, 6, (-9223372036854775808), 9223372036854775807), (27, 7, 0, 40), (34, 7, 0, 60), (50, 3, 0, 120), (50, 4, 0, 120), (50, 5, 0, 122), (50, 7, 0, 1), (54, 3, 0, 120), (54, 4, 0, 120), (54, 5, 0, 122), (54, 7, 0, 1), (58, 10, (-9223372036854775808), 9223372036854775807), (64, 2, 0, 12), (70, 2, 0, 31), (70, 3, (-9223372036854775808), 9223372036854775807), (70, 5, 0, 60), (70, 6, (-9223372036854775808), 9223372036854775807), (73, 2, 0, 31), (73, 3, (-9223372036854775808), 9223372036854775807), (73, 5, 0, 60), (73, 6, (-9223372036854775808), 9223372036854775807), (76, 7, 0, 40), (76, 8, 0, 40), (82, 3, 0, 120), (82, 4, 0, 120), (82, 5, 0, 122), (82, 7, 0, 1), (86, 4, 0, 40), (86, 5, 0, 40), (86, 6, 0, 32), (86, 10, (-9223372036854775808), 9223372036854775807), (86, 11, 0, 60), (86, 15, 0, 1), (86, 16, 0, 40), (86, 22, (-9223372036854775808), 9223372036854775807), (86, 24, 0, 60), (86, 29, (-9223372036854775808), 9223372036854775807), (86, 32, 0, 120), (86, 35, (-1), 120), (86, 36, 0, 120), (86, 37, 0, 120), (86, 38, (-1), 120), (86, 39, 0, 6), (86, 41, 0, 1), (86, 43, 0, 32), (86, 50, 0, 31), (86, 51, (-9223372036854775808), 9223372036854775807), (86, 57, 0, 6)]
def qI_sr (a k : Nat) : Int × Int := match qI_st.find? (fun q => q.1 == a && q.2.1 == k) with | some q => (q.2.2.1, q.2.2.2) | none => (-2147483648, 2147483647)
def qI_rt : List (Nat × Nat × Int × Int) := [(18, 32, (-1), 31), (19, 32, 0, 99), (20, 32, (-2147483648), 2147483647), (21, 32, (-2147483648), 2147483647), (22, 32, (-9223372036854775808), 9223372036854775807), (24, 1024, 0, 99), (26, 1024, 0, 99), (28, 40, 0, 31), (29, 40, 0, 31), (30, 40, (-2147483648), 2147483647), (31, 40, (-2147483648), 2147483647), (32, 40, (-2147483648), 2147483647), (33, 40, (-2147483648), 2147483647), (35, 60, (-2147483648), 2147483647), (36, 60, (-2147483648), 2147483647), (37, 60, (-2147483648), 2147483647), (38, 60, (-2147483648), 2147483647), (39, 60, (-2147483648), 2147483647), (40, 60, (-2147483648), 2147483647), (41, 60, (-9223372036854775808), 9223372036854775807), (43, 24, (-2147483648), 2147483647), (45, 6, 0, 6), (46, 6, 0, 60), (47, 6, (-1), 59), (48, 360, (-9223372036854775808), 9223372036854775807), (51, 120, (-2147483648), 2147483647), (52, 122, (-2147483648), 2147483647), (53, 120, (-2147483648), 2147483647), (55, 120, (-2147483648), 2147483647), (56, 122, (-2147483648), 2147483647), (57, 120, (-2147483648), 2147483647), (59, 9, (-2147483648), 2147483647), (60, 496, (-2147483648), 2147483647), (61, 496, (-2147483648), 2147483647), (62, 496, (-9223372036854775808), 9223372036854775807), (63, 496, (-2147483648), 2147483647), (65, 12, 0, 31), (66, 12, (-2147483648), 2147483647), (67, 4096, (-2147483648), 2147483647), (68, 36, (-2147483648), 2147483647), (69, 6, 0, 11), (71, 31, 0, 3131), (72, 60, 0, 59), (74, 31, 0, 3131), (75, 60, 0, 59), (77, 40, (-2147483648), 2147483647), (78, 40, (-2147483648), 2147483647), (79, 40, (-2147483648), 2147483647), (80, 40, (-2147483648), 2147483647), (81, 120, (-2147483648), 2147483647), (83, 120, (-2147483648), 2147483647), (84, 122, (-2147483648), 2147483647), (85, 120, (-2147483648), 2147483647), (87, 252, (-2147483648), 2147483647), (88, 40, 0, 251), (89, 40, (-2147483648), 2147483647), (90, 40, (-2147483648), 2147483647), (91, 32, (-1), 31), (92, 32, (-2147483648), 2147483647), (93, 32, (-2147483648), 2147483647), (94, 61, 0, 31), (95, 61, 0, 31), (96, 1024, (-2147483648), 2147483647), (97, 40, 0, 31), (98, 40, 0, 31), (99, 40, (-2147483648), 2147483647), (100, 40, (-2147483648), 2147483647), (101, 40, (-2147483648), 2147483647), (102, 60, 0, 31), (103, 60, (-2147483648), 2147483647), (104, 60, (-2147483648), 2147483647), (105, 60, (-2147483648), 2147483647), (106, 120, (-2147483648), 2147483647), (107, 240, (-2147483648), 2147483647), (108, 2, (-1), 120), (109, 9, (-2147483648), 2147483647), (110, 32, 0, 31), (111, 12, (-2147483648), 2147483647), (112, 4096, (-2147483648), 2147483647), (113, 10, 0, 39), (114, 6, 0, 5), (115, 31, 0, 31), (116, 31, 0, 31), (117, 31, (-2147483648), 2147483647), (118, 31, (-2147483648), 2147483647), (119, 1024, 0, 1), (120, 24, (-2147483648), 2147483647), (121, 6, (-1), 64), (122, 6, 0, 60), (123, 360, (-9223372036854775808), 9223372036854775807), (124, 60, (-9223372036854775808), 9223372036854775807)]
def qI_rr (a : Nat) : Nat × Int × Int := match qI_rt.find? (fun q => q.1 == a) with | some q => (q.2.1, q.2.2.1, q.2.2.2) | none => (0, 0, 0)
def qI_c (x : Nat) : Prop := x = 50 ∨ x = 54 ∨ x = 82
/-- the numbers are in their ranges, the customs are three objects -/
def qI (σ α : Nat → Nat → Int) (κ : Nat → Option Nat) (ρ : Nat) : Prop := (∀ a k, (qI_sr a k).1 ≤ σ a k ∧ σ a k ≤ (qI_sr a k).2) ∧ (∀ a j, j < (qI_rr a).1 → (qI_rr a).2.1 ≤ α a j ∧ α a j ≤ (qI_rr a).2.2) ∧ (∃ x, κ 0 = some x ∧ qI_c x) ∧ (∃ x, κ 1 = some x ∧ qI_c x) ∧ qI_c ρ
/-- but for these numbers and rows all is as it was -/
def qFr (S : List (Nat × Nat)) (R : List Nat) (σ α σ' α' : Nat → Nat → Int) : Prop := (∀ a k, ¬ (a, k) ∈ S → σ' a k = σ a k) ∧ ∀ a, ¬ a ∈ R → α' a = α a
theorem qFr_rf (S : List (Nat × Nat)) (R : List Nat) (σ α : Nat → Nat → Int) : qFr S R σ α σ α := ⟨fun _ _ _ => rfl, fun _ _ => rfl⟩
theorem qFr_t {S S' : List (Nat × Nat)} {R R' : List Nat} {σ α σ1 α1 σ2 α2 : Nat → Nat → Int} (h : qFr S R σ α σ1 α1) (h' : qFr S' R' σ1 α1 σ2 α2) (hs : S'.all (fun x => S.contains x) = true) (hr : R'.all (fun x => R.contains x) = true) : qFr S R σ α σ2 α2 := by
  refine ⟨fun a k hn => (h'.1 a k (fun hm => hn ?_)).trans (h.1 a k hn), fun a hn => (h'.2 a (fun hm => hn ?_)).trans (h.2 a hn)⟩
  · exact List.contains_iff_mem.mp (List.all_eq_true.mp hs _ hm)
  · exact List.contains_iff_mem.mp (List.all_eq_true.mp hr _ hm)
theorem qFr_s {S : List (Nat × Nat)} {R : List Nat} {σ α σ1 α1 : Nat → Nat → Int} (h : qFr S R σ α σ1 α1) (a k : Nat) (v : Int) (hm : S.contains (a, k) = true) : qFr S R σ α (qw_s σ1 a k v) α1 := by
  refine ⟨fun a' k' hn => ?_, h.2⟩
  unfold qw_s
  by_cases h1 : a' = a
  · rw [if_pos h1]
    by_cases h2 : k' = k
    · subst h1 h2
      exact absurd (List.contains_iff_mem.mp hm) hn
    · rw [if_neg h2]
      exact h.1 a' k' hn
  · rw [if_neg h1]
    exact h.1 a' k' hn
theorem qFr_r {S : List (Nat × Nat)} {R : List Nat} {σ α σ1 α1 : Nat → Nat → Int} (h : qFr S R σ α σ1 α1) (a : Nat) (f : Nat → Int) (hm : R.contains a = true) : qFr S R σ α σ1 (qw_r α1 a f) := by
  refine ⟨h.1, fun a' hn => ?_⟩
  unfold qw_r
  by_cases h1 : a' = a
  · subst h1
    exact absurd (List.contains_iff_mem.mp hm) hn
  · rw [if_neg h1]
    exact h.2 a' hn
theorem qI_s {σ α : Nat → Nat → Int} {κ : Nat → Option Nat} {ρ : Nat} (h : qI σ α κ ρ) (a k : Nat) {v : Int} (hv : (qI_sr a k).1 ≤ v ∧ v ≤ (qI_sr a k).2) : qI (qw_s σ a k v) α κ ρ := by
  refine ⟨fun a' k' => ?_, h.2⟩
  unfold qw_s
  by_cases h1 : a' = a
  · rw [if_pos h1]
    by_cases h2 : k' = k
    · rw [if_pos h2]
      subst h1 h2
      exact hv
    · rw [if_neg h2]
      exact h.1 a' k'
  · rw [if_neg h1]
    exact h.1 a' k'
theorem qI_r {σ α : Nat → Nat → Int} {κ : Nat → Option Nat} {ρ : Nat} (h : qI σ α κ ρ) (a i : Nat) {v : Int} (hv : (qI_rr a).2.1 ≤ v ∧ v ≤ (qI_rr a).2.2) : qI σ (qw_r α a (qzu (α a) i v)) κ ρ := by
  refine ⟨h.1, fun a' j hj => ?_, h.2.2⟩
  unfold qw_r
  by_cases h1 : a' = a
  · rw [if_pos h1]
    unfold qzu
    subst h1
    by_cases h2 : j = i
    · rw [if_pos h2]
      exact hv
    · rw [if_neg h2]
      exact h.2.1 a' j hj
  · rw [if_neg h1]
    exact h.2.1 a' j hj
theorem qm_ge (ls : qm_L) (i : Nat) (v : Value) : qm_get (qm_put1 ls i v) i = some v := by
  unfold qm_get qm_put1
  rw [List.find?_cons_of_pos (by simp)]
  rfl
theorem qm_ge2 (ls : qm_L) (i : Nat) (v : Value) : qm_get (qm_put2 ls i v) i = some v := by
  unfold qm_get qm_put2
  rw [List.find?_cons_of_pos (by simp)]
  rfl
theorem qm_gff {l : qm_L} {j : Nat} {v : Value} (f : Nat × Value → Bool) (hf : ∀ u : Value, u.category = v.category → f (j, u) = true) (h : (l.find? (fun q => q.1 == j)).map (fun q => q.2) = some v) : ((l.filter f).find? (fun q => q.1 == j)).map (fun q => q.2) = some v := by
  cases hq : l.find? (fun q => q.1 == j) with
  | none => rw [hq] at h; cases h
  | some q =>
    rw [hq] at h
    have hv : q.2 = v := Option.some.inj h
    have hj : q.1 = j := by simpa using List.find?_some hq
    have e : q = (j, v) := by rw [← hv, ← hj]
    have hp : f q = true := by rw [e]; exact hf v rfl
    have hx : (l.filter f).find? (fun q => q.1 == j) = some q := by
      obtain ⟨hq1, as, bs, hl, hn⟩ := List.find?_eq_some_iff_append.mp hq
      rw [hl, List.filter_append, List.filter_cons_of_pos hp]
      rw [List.find?_append]
      have hz : (as.filter f).find? (fun q => q.1 == j) = none := by
        refine List.find?_eq_none.mpr (fun x hx => ?_)
        have := hn x (List.mem_filter.mp hx).1
        simpa using this
      rw [hz, Option.none_or, List.find?_cons_of_pos hq1]
    rw [hx]
    exact congrArg some hv
/-- what stands in another place is found as before -/
theorem qm_gk {ls : qm_L} {i j : Nat} {u v : Value} (h : qm_get ls j = some v) (hij : ¬ j = i) (hc : ¬ j + 1 = i ∨ v.category = 1) : qm_get (qm_put1 ls i u) j = some v := by
  unfold qm_get qm_put1 at *
  rw [List.find?_cons_of_neg (by simp only [beq_iff_eq]; exact fun z => hij z.symm)]
  refine qm_gff _ (fun w hw => ?_) h
  have h1 : (j == i) = false := by simpa using hij
  rcases hc with hc | hc
  · have h2 : (j + 1 == i) = false := by simpa using hc
    simp only [h1, h2, Bool.false_and, Bool.not_false, Bool.and_self]
  · have h2 : (w.category == 2) = false := by rw [hw, hc]; rfl
    simp only [h1, h2, Bool.and_false, Bool.not_false, Bool.and_self]
theorem qm_gk2 {ls : qm_L} {i j : Nat} {u v : Value} (h : qm_get ls j = some v) (hij : ¬ j = i) (hi1 : ¬ j = i + 1) (hc : ¬ j + 1 = i ∨ v.category = 1) : qm_get (qm_put2 ls i u) j = some v := by
  unfold qm_get qm_put2 at *
  rw [List.find?_cons_of_neg (by simp only [beq_iff_eq]; exact fun z => hij z.symm)]
  refine qm_gff _ (fun w hw => ?_) h
  have h1 : (j == i) = false := by simpa using hij
  have h3 : (j == i + 1) = false := by simpa using hi1
  rcases hc with hc | hc
  · have h2 : (j + 1 == i) = false := by simpa using hc
    simp only [h1, h2, h3, Bool.false_and, Bool.not_false, Bool.and_self]
  · have h2 : (w.category == 2) = false := by rw [hw, hc]; rfl
    simp only [h1, h2, h3, Bool.and_false, Bool.not_false, Bool.and_self]
section QYI
variable {X : qm_X} {d : Nat} {x : qs_Ent} {Q : Option Value → qm_W → Prop} {pc : Nat} {ls : qm_L} {st : List Value} {w : qm_W} {c n r1 r2 r3 : Nat} {rv : Value}
/-- a number as the machine has it: in range, nothing else said -/
theorem qy_can {y : Int} (k : ∀ v : Int, (-2147483648 ≤ v ∧ v ≤ 2147483647) → qr_W X d x Q (pc, ls, .int (qz v) :: st, w, c, n)) : qr_W X d x Q (pc, ls, .int (qz y) :: st, w, c, n) := by
  rw [qz_of (qz y)]
  exact k _ (qz_rng _)
theorem qy_canl {y : Int} (k : ∀ v : Int, (-9223372036854775808 ≤ v ∧ v ≤ 9223372036854775807) → qr_W X d x Q (pc, ls, .long (ql v) :: st, w, c, n)) : qr_W X d x Q (pc, ls, .long (ql y) :: st, w, c, n) := by
  rw [ql_of (ql y)]
  exact k _ (ql_rng _)
end QYI
