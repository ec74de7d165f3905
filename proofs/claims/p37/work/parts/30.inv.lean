section QY
variable {X : qm_X} {d : Nat} {x : qs_Ent} {Q : Option Value → qm_W → Prop} {pc : Nat} {ls : qm_L} {st : List Value} {w : qm_W} {c n r1 r2 r3 : Nat} {rv : Value}
theorem qy_v {y : Int} (v : Int) (h : y = v) (k : qr_W X d x Q (pc, ls, .int (qz v) :: st, w, c, n)) : qr_W X d x Q (pc, ls, .int (qz y) :: st, w, c, n) := by
  rw [h]
  exact k
theorem qy_vl {y : Int} (v : Int) (h : y = v) (k : qr_W X d x Q (pc, ls, .long (ql v) :: st, w, c, n)) : qr_W X d x Q (pc, ls, .long (ql y) :: st, w, c, n) := by
  rw [h]
  exact k
theorem qy_wA {σ : Nat → Nat → Int} {κ : Nat → Option Nat} {ρ : Nat} (α : Nat → Nat → Int) (h : w = qw σ α κ ρ) (k : ∀ α', α' = α → qr_W X d x Q (pc, ls, st, qw σ α' κ ρ, c, n)) : qr_W X d x Q (pc, ls, st, w, c, n) := by
  rw [h]
  exact k α rfl
theorem qy_wS {α : Nat → Nat → Int} {κ : Nat → Option Nat} {ρ : Nat} (σ : Nat → Nat → Int) (h : w = qw σ α κ ρ) (k : ∀ σ', σ' = σ → qr_W X d x Q (pc, ls, st, qw σ' α κ ρ, c, n)) : qr_W X d x Q (pc, ls, st, w, c, n) := by
  rw [h]
  exact k σ rfl
theorem qy_w (w' : qm_W) (h : w = w') (k : qr_W X d x Q (pc, ls, st, w', c, n)) : qr_W X d x Q (pc, ls, st, w, c, n) := by
  rw [h]
  exact k
end QY
/-! the ranges of all numbers and rows of both objects; what a call leaves as it was. -/
def qI_st : List (Nat × Nat × Int × Int) := [(16, 15, 0, 120), (17, 5, (-9223372036854775808), 9223372036854775807), (17, 6, 0, 32), (27, 6, (-9223372036854775808), 9223372036854775807), (27, 7, 0, 40), (34, 7, 0, 60), (50, 3, 0, 120), (50, 4, 0, 120), (50, 5, 0, 122), (50, 7, 0, 1), (54, 3, 0, 120), (54, 4, 0, 120), (54, 5, 0, 122), (54, 7, 0, 1), (58, 10, (-9223372036854775808), 9223372036854775807), (64, 2, 0, 12), (70, 2, 0, 31), (70, 3, (-9223372036854775808), 9223372036854775807), (70, 5, 0, 60), (70, 6, (-9223372036854775808), 9223372036854775807), (73, 2, 0, 31), (73, 3, (-9223372036854775808), 9223372036854775807), (73, 5, 0, 60), (73, 6, (-9223372036854775808), 9223372036854775807), (76, 7, 0, 40), (76, 8, 0, 40), (82, 3, 0, 120), (82, 4, 0, 120), (82, 5, 0, 122), (82, 7, 0, 1), (86, 4, 0, 40), (86, 5, 0, 40), (86, 6, 0, 32), (86, 10, (-9223372036854775808), 9223372036854775807), (86, 11, 0, 61), (86, 15, 0, 1), (86, 16, 0, 40), (86, 22, (-9223372036854775808), 9223372036854775807), (86, 24, 0, 60), (86, 29, (-9223372036854775808), 9223372036854775807), (86, 32, 0, 120), (86, 35, (-1), 120), (86, 36, 0, 120), (86, 37, 0, 120), (86, 38, (-1), 120), (86, 39, 0, 6), (86, 41, 0, 1), (86, 43, 0, 32), (86, 50, 0, 31), (86, 51, (-9223372036854775808), 9223372036854775807)]
def qI_sr (a k : Nat) : Int × Int := match qI_st.find? (fun q => q.1 == a && q.2.1 == k) with | some q => (q.2.2.1, q.2.2.2) | none => (-2147483648, 2147483647)
def qI_rt : List (Nat × Nat × Int × Int) := [(18, 32, (-1), 31), (19, 32, 0, 99), (20, 32, (-2147483648), 2147483647), (21, 32, (-2147483648), 2147483647), (22, 32, (-9223372036854775808), 9223372036854775807), (24, 1024, 0, 99), (26, 1024, 0, 99), (28, 40, 0, 31), (29, 40, 0, 31), (30, 40, (-2147483648), 2147483647), (31, 40, 0, 3), (32, 40, (-2147483648), 2147483647), (33, 40, (-2147483648), 2147483647), (35, 60, (-2147483648), 2147483647), (36, 60, (-2147483648), 2147483647), (37, 60, (-2147483648), 2147483647), (38, 60, (-2147483648), 2147483647), (39, 60, (-2147483648), 2147483647), (40, 60, (-2147483648), 2147483647), (41, 60, (-9223372036854775808), 9223372036854775807), (43, 24, (-2147483648), 2147483647), (45, 6, 0, 6), (46, 6, 0, 60), (47, 6, (-1), 59), (48, 360, (-9223372036854775808), 9223372036854775807), (51, 120, (-2147483648), 2147483647), (52, 122, (-2147483648), 2147483647), (53, 120, (-2147483648), 2147483647), (55, 120, (-2147483648), 2147483647), (56, 122, (-2147483648), 2147483647), (57, 120, (-2147483648), 2147483647), (59, 9, (-2147483648), 2147483647), (60, 496, 0, 576), (61, 496, (-2147483648), 2147483647), (62, 496, (-9223372036854775808), 9223372036854775807), (63, 496, (-2147483648), 2147483647), (65, 12, 0, 31), (66, 12, (-2147483648), 2147483647), (67, 4096, (-2147483648), 2147483647), (68, 36, (-2147483648), 2147483647), (69, 6, 0, 11), (71, 31, 0, 3131), (72, 60, 0, 59), (74, 31, 0, 3131), (75, 60, 0, 59), (77, 40, (-2147483648), 2147483647), (78, 40, 0, 1919), (79, 40, (-2147483648), 2147483647), (80, 40, (-2147483648), 2147483647), (81, 120, (-2147483648), 2147483647), (83, 120, (-2147483648), 2147483647), (84, 122, (-2147483648), 2147483647), (85, 120, (-2147483648), 2147483647), (87, 252, (-2147483648), 2147483647), (88, 40, 0, 251), (89, 40, (-2147483648), 2147483647), (90, 40, (-2147483648), 2147483647), (91, 32, (-1), 31), (92, 32, (-2147483648), 2147483647), (93, 32, (-2147483648), 2147483647), (94, 61, 0, 31), (95, 61, 0, 31), (96, 1024, 0, 99), (97, 40, 0, 31), (98, 40, 0, 31), (99, 40, (-2147483648), 2147483647), (100, 40, (-2147483648), 2147483647), (101, 40, (-2147483648), 2147483647), (102, 60, 0, 31), (103, 60, (-2147483648), 2147483647), (104, 60, (-2147483648), 2147483647), (105, 60, (-2147483648), 2147483647), (106, 120, (-2147483648), 2147483647), (107, 240, (-2147483648), 2147483647), (108, 2, (-1), 120), (109, 9, (-2147483648), 2147483647), (110, 32, 0, 31), (111, 12, (-2147483648), 2147483647), (112, 4096, (-2147483648), 2147483647), (113, 10, 0, 39), (114, 6, 0, 5), (115, 31, 0, 31), (116, 31, 0, 31), (117, 31, 0, 31), (118, 31, 0, 31), (119, 1024, 0, 1), (120, 24, (-2147483648), 2147483647), (121, 6, (-1), 64), (122, 6, 0, 60), (123, 360, (-9223372036854775808), 9223372036854775807), (124, 60, (-9223372036854775808), 9223372036854775807)]
def qI_rr (a : Nat) : Nat × Int × Int := match qI_rt.find? (fun q => q.1 == a) with | some q => (q.2.1, q.2.2.1, q.2.2.2) | none => (0, 0, 0)
def qI_c (x : Nat) : Prop := x = 50 ∨ x = 54 ∨ x = 82
/-- the reference's ties lie among its people, and its table is right when it says so -/
def qK (σ α : Nat → Nat → Int) : Prop := (∀ j : Nat, (j : Int) < σ 86 11 → (0 ≤ α 94 j ∧ α 94 j < σ 86 6) ∧ (0 ≤ α 95 j ∧ α 95 j < σ 86 6)) ∧ (σ 86 15 = 1 → ∀ x y : Int, (0 ≤ x ∧ x < σ 86 6) → (0 ≤ y ∧ y < σ 86 6) → qDi (α 94) (α 95) (σ 86 11) (qTb (α 96) x y) x y)
/-- what ties numbers together: the list of guests rises; who is struck is one of 32; what was changed lies in its row; a lord came ahead -/
def qIx (σ α : Nat → Nat → Int) : Prop := (∀ i j : Nat, i < j → (j : Int) < σ 64 2 → α 65 i < α 65 j) ∧ (∀ a, a = 71 ∨ a = 74 → ∀ j, j < 31 → α a j % 100 ≤ 31) ∧ (∀ j, j < 40 → (α 77 j = 0 → α 78 j ≤ 39) ∧ (α 77 j = 2 → α 78 j ≤ 31) ∧ (¬ α 77 j = 0 → ¬ α 77 j = 1 → ¬ α 77 j = 2 → α 78 j ≤ 59)) ∧ (∀ j : Nat, j < 32 → α 91 j < (j : Int) ∨ (j = 0 ∧ σ 86 6 = 0)) ∧ σ 86 5 ≤ σ 86 4 ∧ qK σ α
/-- the numbers are in their ranges, the customs are three objects -/
def qI (σ α : Nat → Nat → Int) (κ : Nat → Option Nat) (ρ : Nat) : Prop := (∀ a k, (qI_sr a k).1 ≤ σ a k ∧ σ a k ≤ (qI_sr a k).2) ∧ (∀ a j, j < (qI_rr a).1 → (qI_rr a).2.1 ≤ α a j ∧ α a j ≤ (qI_rr a).2.2) ∧ ((∃ x, κ 0 = some x ∧ qI_c x) ∧ (∃ x, κ 1 = some x ∧ qI_c x) ∧ qI_c ρ) ∧ qIx σ α
/-- but for these numbers and rows all is as it was -/
def qFr (S : List (Nat × Nat)) (R : List Nat) (σ α σ' α' : Nat → Nat → Int) : Prop := (∀ a k, ¬ (a, k) ∈ S → σ' a k = σ a k) ∧ ∀ a, ¬ a ∈ R → α' a = α a
theorem qFr_rf (S : List (Nat × Nat)) (R : List Nat) (σ α : Nat → Nat → Int) : qFr S R σ α σ α := ⟨fun _ _ _ => rfl, fun _ _ => rfl⟩
theorem qFr_t {S S' : List (Nat × Nat)} {R R' : List Nat} {σ α σ1 α1 σ2 α2 : Nat → Nat → Int} (h : qFr S R σ α σ1 α1) (h' : qFr S' R' σ1 α1 σ2 α2) (hs : S'.all (fun x => S.contains x) = true) (hr : R'.all (fun x => R.contains x) = true) : qFr S R σ α σ2 α2 := by
  refine ⟨fun a k hn => (h'.1 a k (fun hm => hn ?_)).trans (h.1 a k hn), fun a hn => (h'.2 a (fun hm => hn ?_)).trans (h.2 a hn)⟩
  · exact List.contains_iff_mem.mp (List.all_eq_true.mp hs _ hm)
  · exact List.contains_iff_mem.mp (List.all_eq_true.mp hr _ hm)
theorem qFr_s {S : List (Nat × Nat)} {R : List Nat} {σ α σ1 α1 : Nat → Nat → Int} (h : qFr S R σ α σ1 α1) (a k : Nat) (v : Int) (hm : S.contains (a, k) = true) : qFr S R σ α (qw_s σ1 a k v) α1 := by
  refine ⟨fun a' k' hn => ?_, h.2⟩
  unfold qw_s
  by_cases h1 : a' = a
  · rw [if_pos h1]
    by_cases h2 : k' = k
    · subst h1 h2
      exact absurd (List.contains_iff_mem.mp hm) hn
    · rw [if_neg h2]
      exact h.1 a' k' hn
  · rw [if_neg h1]
    exact h.1 a' k' hn
theorem qFr_r {S : List (Nat × Nat)} {R : List Nat} {σ α σ1 α1 : Nat → Nat → Int} (h : qFr S R σ α σ1 α1) (a : Nat) (f : Nat → Int) (hm : R.contains a = true) : qFr S R σ α σ1 (qw_r α1 a f) := by
  refine ⟨h.1, fun a' hn => ?_⟩
  unfold qw_r
  by_cases h1 : a' = a
  · subst h1
    exact absurd (List.contains_iff_mem.mp hm) hn
  · rw [if_neg h1]
    exact h.2 a' hn
theorem qIx_g {σ α σ' α' : Nat → Nat → Int} (h : qIx σ α) (h1 : σ' 64 2 = σ 64 2) (h2 : σ' 86 6 = σ 86 6) (h9 : σ' 86 5 ≤ σ' 86 4) (h3 : α' 65 = α 65) (h4 : α' 71 = α 71) (h5 : α' 74 = α 74) (h6 : α' 77 = α 77) (h7 : α' 78 = α 78) (h8 : α' 91 = α 91) (k1 : σ' 86 11 = σ 86 11) (k2 : σ' 86 15 = σ 86 15) (k3 : α' 94 = α 94) (k4 : α' 95 = α 95) (k5 : α' 96 = α 96) : qIx σ' α' := by
  refine ⟨?_, ?_, ?_, ?_, h9, ?_⟩
  · rw [h1, h3]; exact h.1
  · rintro a (rfl | rfl)
    · rw [h4]; exact h.2.1 71 (Or.inl rfl)
    · rw [h5]; exact h.2.1 74 (Or.inr rfl)
  · rw [h6, h7]; exact h.2.2.1
  · rw [h2, h8]; exact h.2.2.2.1
  · unfold qK
    rw [h2, k1, k2, k3, k4, k5]
    exact h.2.2.2.2.2
theorem qI_s1 {σ α : Nat → Nat → Int} {κ : Nat → Option Nat} {ρ : Nat} (h : qI σ α κ ρ) (a k : Nat) {v : Int} (hv : (qI_sr a k).1 ≤ v ∧ v ≤ (qI_sr a k).2) (hx : qIx (qw_s σ a k v) α) : qI (qw_s σ a k v) α κ ρ := by
  refine ⟨fun a' k' => ?_, h.2.1, h.2.2.1, hx⟩
  unfold qw_s
  by_cases h1 : a' = a
  · rw [if_pos h1]
    by_cases h2 : k' = k
    · rw [if_pos h2]
      subst h1 h2
      exact hv
    · rw [if_neg h2]
      exact h.1 a' k'
  · rw [if_neg h1]
    exact h.1 a' k'
theorem qw_s_ne {σ : Nat → Nat → Int} {a k a' k' : Nat} {v : Int} (h : ¬ (a' = a ∧ k' = k)) : qw_s σ a k v a' k' = σ a' k' := by
  unfold qw_s
  by_cases h1 : a' = a
  · rw [if_pos h1, if_neg (fun h2 => h ⟨h1, h2⟩)]
  · rw [if_neg h1]
theorem qI_s {σ α : Nat → Nat → Int} {κ : Nat → Option Nat} {ρ : Nat} (h : qI σ α κ ρ) (a k : Nat) {v : Int} (hsp : ((a == 64 && k == 2) || (a == 86 && (k == 6 || (k == 5 || (k == 4 || (k == 11 || k == 15)))))) = false) (hv : (qI_sr a k).1 ≤ v ∧ v ≤ (qI_sr a k).2) : qI (qw_s σ a k v) α κ ρ := by
  refine qI_s1 h a k hv (qIx_g h.2.2.2 (qw_s_ne ?_) (qw_s_ne ?_) ?_ rfl rfl rfl rfl rfl rfl (qw_s_ne ?_) (qw_s_ne ?_) rfl rfl rfl)
  · rintro ⟨rfl, rfl⟩; exact absurd hsp (by decide)
  · rintro ⟨rfl, rfl⟩; exact absurd hsp (by decide)
  · rw [qw_s_ne (a' := 86) (k' := 5) (by rintro ⟨rfl, rfl⟩; exact absurd hsp (by decide)), qw_s_ne (a' := 86) (k' := 4) (by rintro ⟨rfl, rfl⟩; exact absurd hsp (by decide))]
    exact h.2.2.2.2.2.2.2.1
  · rintro ⟨rfl, rfl⟩; exact absurd hsp (by decide)
  · rintro ⟨rfl, rfl⟩; exact absurd hsp (by decide)
theorem qI_s5 {σ α : Nat → Nat → Int} {κ : Nat → Option Nat} {ρ : Nat} (h : qI σ α κ ρ) {v : Int} (hv : 0 ≤ v ∧ v ≤ 40) (hx : v ≤ σ 86 4) : qI (qw_s σ 86 5 v) α κ ρ :=
  qI_s1 h 86 5 hv (qIx_g h.2.2.2 (qw_s_ne (by decide)) (qw_s_ne (by decide)) hx rfl rfl rfl rfl rfl rfl (qw_s_ne (by decide)) (qw_s_ne (by decide)) rfl rfl rfl)
theorem qI_s54 {σ α : Nat → Nat → Int} {κ : Nat → Option Nat} {ρ : Nat} (h : qI σ α κ ρ) {v : Int} (hv : 0 ≤ v ∧ v ≤ 40) : qI (qw_s (qw_s σ 86 5 v) 86 4 v) α κ ρ := by
  refine ⟨fun a' k' => ?_, h.2.1, h.2.2.1, qIx_g h.2.2.2 ?_ ?_ (Int.le_refl v) rfl rfl rfl rfl rfl rfl rfl rfl rfl rfl rfl⟩
  · by_cases h1 : a' = 86 ∧ k' = 4
    · obtain ⟨rfl, rfl⟩ := h1
      exact hv
    · rw [qw_s_ne h1]
      by_cases h2 : a' = 86 ∧ k' = 5
      · obtain ⟨rfl, rfl⟩ := h2
        exact hv
      · rw [qw_s_ne h2]
        exact h.1 a' k'
  · rfl
  · rfl
theorem qI_r1 {σ α : Nat → Nat → Int} {κ : Nat → Option Nat} {ρ : Nat} (h : qI σ α κ ρ) (a i : Nat) {v : Int} (hv : (qI_rr a).2.1 ≤ v ∧ v ≤ (qI_rr a).2.2) (hx : qIx σ (qw_r α a (qzu (α a) i v))) : qI σ (qw_r α a (qzu (α a) i v)) κ ρ := by
  refine ⟨h.1, fun a' j hj => ?_, h.2.2.1, hx⟩
  unfold qw_r
  by_cases h1 : a' = a
  · rw [if_pos h1]
    unfold qzu
    subst h1
    by_cases h2 : j = i
    · rw [if_pos h2]
      exact hv
    · rw [if_neg h2]
      exact h.2.1 a' j hj
  · rw [if_neg h1]
    exact h.2.1 a' j hj
theorem qw_r_ne {α : Nat → Nat → Int} {a a' : Nat} {f : Nat → Int} (h : ¬ a' = a) : qw_r α a f a' = α a' := by
  unfold qw_r
  rw [if_neg h]
theorem qw_r_eq {α : Nat → Nat → Int} {a : Nat} {f : Nat → Int} : qw_r α a f a = f := by
  unfold qw_r
  rw [if_pos rfl]
theorem qIx_r {σ α : Nat → Nat → Int} (h : qIx σ α) (a : Nat) (f : Nat → Int) (hsp : [65, 71, 74, 77, 78, 91, 94, 95, 96].contains a = false) : qIx σ (qw_r α a f) := by
  refine qIx_g h rfl rfl h.2.2.2.2.1 (qw_r_ne ?_) (qw_r_ne ?_) (qw_r_ne ?_) (qw_r_ne ?_) (qw_r_ne ?_) (qw_r_ne ?_) rfl rfl (qw_r_ne ?_) (qw_r_ne ?_) (qw_r_ne ?_) <;> (rintro rfl; exact absurd hsp (by decide))
theorem qI_r {σ α : Nat → Nat → Int} {κ : Nat → Option Nat} {ρ : Nat} (h : qI σ α κ ρ) (a i : Nat) {v : Int} (hsp : [65, 71, 74, 77, 78, 91, 94, 95, 96].contains a = false) (hv : (qI_rr a).2.1 ≤ v ∧ v ≤ (qI_rr a).2.2) : qI σ (qw_r α a (qzu (α a) i v)) κ ρ := qI_r1 h a i hv (qIx_r h.2.2.2 a _ hsp)
theorem qI_r71 {σ α : Nat → Nat → Int} {κ : Nat → Option Nat} {ρ : Nat} (h : qI σ α κ ρ) (a i : Nat) {v : Int} (hsp : (a == 71 || a == 74) = true) (hv : (qI_rr a).2.1 ≤ v ∧ v ≤ (qI_rr a).2.2) (h3 : v % 100 ≤ 31) : qI σ (qw_r α a (qzu (α a) i v)) κ ρ := by
  have ha : a = 71 ∨ a = 74 := by simpa using hsp
  refine qI_r1 h a i hv ⟨?_, fun b hb j hj => ?_, ?_, ?_, h.2.2.2.2.2.2.2.1, ?_⟩
  · rw [qw_r_ne (by omega)]; exact h.2.2.2.1
  · by_cases e : b = a
    · subst e
      rw [qw_r_eq]
      unfold qzu
      split
      · exact h3
      · exact h.2.2.2.2.1 b hb j hj
    · rw [qw_r_ne e]
      exact h.2.2.2.2.1 b hb j hj
  · rw [qw_r_ne (by omega), qw_r_ne (by omega)]; exact h.2.2.2.2.2.1
  · rw [qw_r_ne (by omega)]; exact h.2.2.2.2.2.2.1
  · unfold qK
    rw [qw_r_ne (a' := 94) (by omega), qw_r_ne (a' := 95) (by omega), qw_r_ne (a' := 96) (by omega)]
    exact h.2.2.2.2.2.2.2.2
theorem qI_r91 {σ α : Nat → Nat → Int} {κ : Nat → Option Nat} {ρ : Nat} (h : qI σ α κ ρ) (i : Nat) {v : Int} (hv : (qI_rr 91).2.1 ≤ v ∧ v ≤ (qI_rr 91).2.2) (hi : v < (i : Int)) : qI σ (qw_r α 91 (qzu (α 91) i v)) κ ρ := by
  refine qI_r1 h 91 i hv ⟨h.2.2.2.1, ?_, h.2.2.2.2.2.1, fun j hj => ?_, h.2.2.2.2.2.2.2⟩
  · rintro b (rfl | rfl)
    · rw [qw_r_ne (by decide)]; exact h.2.2.2.2.1 71 (Or.inl rfl)
    · rw [qw_r_ne (by decide)]; exact h.2.2.2.2.1 74 (Or.inr rfl)
  · rw [qw_r_eq]
    unfold qzu
    by_cases e : j = i
    · rw [if_pos e]
      left
      omega
    · rw [if_neg e]
      exact h.2.2.2.2.2.2.1 j hj
theorem qI_s6 {σ α : Nat → Nat → Int} {κ : Nat → Option Nat} {ρ : Nat} (h : qI σ α κ ρ) {v : Int} (hv : 0 ≤ v ∧ v ≤ 32) (hx : α 91 0 < 0) (h0 : σ 86 15 = 0) (hl : σ 86 6 ≤ v) : qI (qw_s σ 86 6 v) α κ ρ := by
  refine qI_s1 h 86 6 hv ⟨?_, h.2.2.2.2.1, h.2.2.2.2.2.1, fun j hj => ?_, ?_, fun j hj => ?_, fun hk => ?_⟩
  · rw [qw_s_ne (by decide)]; exact h.2.2.2.1
  · rcases h.2.2.2.2.2.2.1 j hj with h1 | ⟨h1, _⟩
    · exact Or.inl h1
    · subst h1
      exact Or.inl hx
  · rw [qw_s_ne (by decide), qw_s_ne (by decide)]; exact h.2.2.2.2.2.2.2.1
  · rw [qw_s_ne (by decide)] at hj
    have h1 := h.2.2.2.2.2.2.2.2.1 j hj
    show (0 ≤ α 94 j ∧ α 94 j < v) ∧ (0 ≤ α 95 j ∧ α 95 j < v)
    omega
  · rw [qw_s_ne (by decide)] at hk
    exact absurd hk (by omega)
theorem qI_s15z {σ α : Nat → Nat → Int} {κ : Nat → Option Nat} {ρ : Nat} (h : qI σ α κ ρ) : qI (qw_s σ 86 15 0) α κ ρ := by
  refine qI_s1 h 86 15 (by decide) ⟨h.2.2.2.1, h.2.2.2.2.1, h.2.2.2.2.2.1, h.2.2.2.2.2.2.1, h.2.2.2.2.2.2.2.1, h.2.2.2.2.2.2.2.2.1, fun hk => ?_⟩
  exact absurd (show (0 : Int) = 1 from hk) (by decide)
theorem qI_s15o {σ α : Nat → Nat → Int} {κ : Nat → Option Nat} {ρ : Nat} (h : qI σ α κ ρ) (hK : ∀ x y : Int, (0 ≤ x ∧ x < σ 86 6) → (0 ≤ y ∧ y < σ 86 6) → qDi (α 94) (α 95) (σ 86 11) (qTb (α 96) x y) x y) : qI (qw_s σ 86 15 1) α κ ρ :=
  qI_s1 h 86 15 (by decide) ⟨h.2.2.2.1, h.2.2.2.2.1, h.2.2.2.2.2.1, h.2.2.2.2.2.2.1, h.2.2.2.2.2.2.2.1, h.2.2.2.2.2.2.2.2.1, fun _ => hK⟩
theorem qI_s11 {σ α : Nat → Nat → Int} {κ : Nat → Option Nat} {ρ : Nat} (h : qI σ α κ ρ) {v : Int} (hv : 0 ≤ v ∧ v ≤ 61) (h0 : σ 86 15 = 0) (hE : ∀ j : Nat, (j : Int) < v → (0 ≤ α 94 j ∧ α 94 j < σ 86 6) ∧ (0 ≤ α 95 j ∧ α 95 j < σ 86 6)) : qI (qw_s σ 86 11 v) α κ ρ :=
  qI_s1 h 86 11 hv ⟨h.2.2.2.1, h.2.2.2.2.1, h.2.2.2.2.2.1, h.2.2.2.2.2.2.1, h.2.2.2.2.2.2.2.1, hE, fun hk => absurd (show σ 86 15 = 1 from hk) (by omega)⟩
theorem qI_s1115 {σ α : Nat → Nat → Int} {κ : Nat → Option Nat} {ρ : Nat} (h : qI σ α κ ρ) {v : Int} (hv : 0 ≤ v ∧ v ≤ 61) (hE : ∀ j : Nat, (j : Int) < v → (0 ≤ α 94 j ∧ α 94 j < σ 86 6) ∧ (0 ≤ α 95 j ∧ α 95 j < σ 86 6)) : qI (qw_s (qw_s σ 86 11 v) 86 15 0) α κ ρ := by
  refine ⟨fun a' k' => ?_, h.2.1, h.2.2.1, h.2.2.2.1, h.2.2.2.2.1, h.2.2.2.2.2.1, h.2.2.2.2.2.2.1, h.2.2.2.2.2.2.2.1, hE, fun hk => absurd (show (0 : Int) = 1 from hk) (by decide)⟩
  by_cases h1 : a' = 86 ∧ k' = 15
  · obtain ⟨rfl, rfl⟩ := h1
    exact (by decide : (0 : Int) ≤ 0 ∧ (0 : Int) ≤ 1)
  · rw [qw_s_ne h1]
    by_cases h2 : a' = 86 ∧ k' = 11
    · obtain ⟨rfl, rfl⟩ := h2
      exact hv
    · rw [qw_s_ne h2]
      exact h.1 a' k'
/-- a tie more at the end -/
theorem qE_new {σ α : Nat → Nat → Int} {κ : Nat → Option Nat} {ρ : Nat} (h : qI σ α κ ρ) {v p q : Int} {k : Nat} (hk : (k : Int) = σ 86 11 ∧ v = σ 86 11 + 1) (r1 : α 94 k = p) (r2 : α 95 k = q) (hp : 0 ≤ p ∧ p < σ 86 6) (hq : 0 ≤ q ∧ q < σ 86 6) : ∀ j : Nat, (j : Int) < v → (0 ≤ α 94 j ∧ α 94 j < σ 86 6) ∧ (0 ≤ α 95 j ∧ α 95 j < σ 86 6) := by
  intro j hj
  by_cases e : j = k
  · rw [e, r1, r2]
    exact ⟨hp, hq⟩
  · exact h.2.2.2.2.2.2.2.2.1 j (by omega)
theorem qE_less {σ α : Nat → Nat → Int} {κ : Nat → Option Nat} {ρ : Nat} (h : qI σ α κ ρ) {v : Int} (hv : v ≤ σ 86 11) : ∀ j : Nat, (j : Int) < v → (0 ≤ α 94 j ∧ α 94 j < σ 86 6) ∧ (0 ≤ α 95 j ∧ α 95 j < σ 86 6) := fun j hj => h.2.2.2.2.2.2.2.2.1 j (by omega)
theorem qI_r94 {σ α : Nat → Nat → Int} {κ : Nat → Option Nat} {ρ : Nat} (h : qI σ α κ ρ) (i : Nat) {v : Int} (hv : 0 ≤ v ∧ v ≤ 31) (hi : σ 86 11 ≤ (i : Int)) : qI σ (qw_r α 94 (qzu (α 94) i v)) κ ρ := by
  have e : ∀ j : Nat, (j : Int) < σ 86 11 → qzu (α 94) i v j = α 94 j := fun j hj => by unfold qzu; rw [if_neg (by omega)]
  refine qI_r1 h 94 i hv ⟨h.2.2.2.1, (fun b hb j hj => by rcases hb with rfl | rfl; exact h.2.2.2.2.1 71 (Or.inl rfl) j hj; exact h.2.2.2.2.1 74 (Or.inr rfl) j hj), h.2.2.2.2.2.1, h.2.2.2.2.2.2.1, h.2.2.2.2.2.2.2.1, fun j hj => ?_, fun hk x y hx hy => ?_⟩
  · show (0 ≤ qzu (α 94) i v j ∧ qzu (α 94) i v j < σ 86 6) ∧ (0 ≤ α 95 j ∧ α 95 j < σ 86 6)
    rw [e j hj]
    exact h.2.2.2.2.2.2.2.2.1 j hj
  · show qDi (qzu (α 94) i v) (α 95) (σ 86 11) (qTb (α 96) x y) x y
    exact qDi_cg e (fun _ _ => rfl) (h.2.2.2.2.2.2.2.2.2 hk x y hx hy)
theorem qI_r95 {σ α : Nat → Nat → Int} {κ : Nat → Option Nat} {ρ : Nat} (h : qI σ α κ ρ) (i : Nat) {v : Int} (hv : 0 ≤ v ∧ v ≤ 31) (hi : σ 86 11 ≤ (i : Int)) : qI σ (qw_r α 95 (qzu (α 95) i v)) κ ρ := by
  have e : ∀ j : Nat, (j : Int) < σ 86 11 → qzu (α 95) i v j = α 95 j := fun j hj => by unfold qzu; rw [if_neg (by omega)]
  refine qI_r1 h 95 i hv ⟨h.2.2.2.1, (fun b hb j hj => by rcases hb with rfl | rfl; exact h.2.2.2.2.1 71 (Or.inl rfl) j hj; exact h.2.2.2.2.1 74 (Or.inr rfl) j hj), h.2.2.2.2.2.1, h.2.2.2.2.2.2.1, h.2.2.2.2.2.2.2.1, fun j hj => ?_, fun hk x y hx hy => ?_⟩
  · show (0 ≤ α 94 j ∧ α 94 j < σ 86 6) ∧ (0 ≤ qzu (α 95) i v j ∧ qzu (α 95) i v j < σ 86 6)
    rw [e j hj]
    exact h.2.2.2.2.2.2.2.2.1 j hj
  · show qDi (α 94) (qzu (α 95) i v) (σ 86 11) (qTb (α 96) x y) x y
    exact qDi_cg (fun _ _ => rfl) e (h.2.2.2.2.2.2.2.2.2 hk x y hx hy)
theorem qI_r96 {σ α : Nat → Nat → Int} {κ : Nat → Option Nat} {ρ : Nat} (h : qI σ α κ ρ) (i : Nat) {v : Int} (hv : 0 ≤ v ∧ v ≤ 99) (h0 : σ 86 15 = 0) : qI σ (qw_r α 96 (qzu (α 96) i v)) κ ρ :=
  qI_r1 h 96 i hv ⟨h.2.2.2.1, (fun b hb j hj => by rcases hb with rfl | rfl; exact h.2.2.2.2.1 71 (Or.inl rfl) j hj; exact h.2.2.2.2.1 74 (Or.inr rfl) j hj), h.2.2.2.2.2.1, h.2.2.2.2.2.2.1, h.2.2.2.2.2.2.2.1, h.2.2.2.2.2.2.2.2.1, fun hk => absurd hk (by omega)⟩
/-- the list of guests: begun anew, one more -/
theorem qI_g0 {σ α : Nat → Nat → Int} {κ : Nat → Option Nat} {ρ : Nat} (h : qI σ α κ ρ) : qI (qw_s σ 64 2 0) α κ ρ := by
  refine qI_s1 h 64 2 (by decide) ⟨fun i j h1 h2 => ?_, h.2.2.2.2⟩
  have h3 : qw_s σ 64 2 0 64 2 = 0 := rfl
  rw [h3] at h2
  omega
theorem qI_g1 {σ α : Nat → Nat → Int} {κ : Nat → Option Nat} {ρ : Nat} (h : qI σ α κ ρ) {s v : Int} (i : Nat) (hs : s = σ 64 2 + 1 ∧ s ≤ 12) (hi : (i : Int) = σ 64 2) (hv : 0 ≤ v ∧ v ≤ 31) (hx : ∀ j : Nat, (j : Int) < σ 64 2 → α 65 j < v) : qI (qw_s σ 64 2 s) (qw_r α 65 (qzu (α 65) i v)) κ ρ := by
  have h0 := h.1 64 2
  have h00 : 0 ≤ σ 64 2 := h0.1
  refine ⟨fun a' k' => ?_, fun a' j hj => ?_, h.2.2.1, fun p q h1 h2 => ?_, ?_, ?_, ?_, ?_⟩
  · by_cases h1 : a' = 64 ∧ k' = 2
    · obtain ⟨rfl, rfl⟩ := h1
      show 0 ≤ qw_s σ 64 2 s 64 2 ∧ qw_s σ 64 2 s 64 2 ≤ 12
      have h3 : qw_s σ 64 2 s 64 2 = s := rfl
      rw [h3]
      omega
    · rw [qw_s_ne h1]
      exact h.1 a' k'
  · by_cases e1 : a' = 65
    · subst e1
      rw [qw_r_eq]
      unfold qzu
      split
      · exact hv
      · exact h.2.1 65 j hj
    · rw [qw_r_ne e1]
      exact h.2.1 a' j hj
  · have h3 : qw_s σ 64 2 s 64 2 = s := rfl
    rw [h3] at h2
    rw [qw_r_eq]
    unfold qzu
    by_cases e1 : q = i
    · rw [if_pos e1, if_neg (by omega)]
      exact hx p (by omega)
    · rw [if_neg e1]
      by_cases e2 : p = i
      · omega
      · rw [if_neg e2]
        exact h.2.2.2.1 p q h1 (by omega)
  · rintro b (rfl | rfl)
    · rw [qw_r_ne (by decide)]; exact h.2.2.2.2.1 71 (Or.inl rfl)
    · rw [qw_r_ne (by decide)]; exact h.2.2.2.2.1 74 (Or.inr rfl)
  · exact h.2.2.2.2.2.1
  · exact h.2.2.2.2.2.2.1
  · exact h.2.2.2.2.2.2.2
theorem qI_r77 {σ α : Nat → Nat → Int} {κ : Nat → Option Nat} {ρ : Nat} (h : qI σ α κ ρ) (i : Nat) {s v : Int} (hv : 0 ≤ v ∧ v ≤ 1919) (hx : (-2147483648 ≤ s ∧ s ≤ 2147483647) ∧ (s = 0 → v ≤ 39) ∧ (s = 2 → v ≤ 31) ∧ (¬ s = 0 → ¬ s = 1 → ¬ s = 2 → v ≤ 59)) : qI σ (qw_r (qw_r α 77 (qzu (α 77) i s)) 78 (qzu (qw_r α 77 (qzu (α 77) i s) 78) i v)) κ ρ := by
  refine ⟨h.1, fun a' j hj => ?_, h.2.2.1, h.2.2.2.1, ?_, fun j hj => ?_, ?_⟩
  · by_cases e1 : a' = 78
    · subst e1
      rw [qw_r_eq]
      unfold qzu
      split
      · exact hv
      · exact h.2.1 78 j hj
    · rw [qw_r_ne e1]
      by_cases e2 : a' = 77
      · subst e2
        rw [qw_r_eq]
        unfold qzu
        split
        · exact hx.1
        · exact h.2.1 77 j hj
      · rw [qw_r_ne e2]
        exact h.2.1 a' j hj
  · rintro b (rfl | rfl)
    · exact h.2.2.2.2.1 71 (Or.inl rfl)
    · exact h.2.2.2.2.1 74 (Or.inr rfl)
  · rw [qw_r_eq, qw_r_ne (by decide), qw_r_eq, qw_r_ne (by decide)]
    unfold qzu
    split
    · exact hx.2
    · exact h.2.2.2.2.2.1 j hj
  · exact h.2.2.2.2.2.2
theorem qI_k {σ α : Nat → Nat → Int} {κ : Nat → Option Nat} {ρ : Nat} (h : qI σ α κ ρ) {y : Int} (hy : 0 ≤ y ∧ y < 2) : ∃ x, κ y.toNat = some x ∧ (x = 50 ∨ x = 54 ∨ x = 82) := by
  have h2 : y = 0 ∨ y = 1 := by omega
  rcases h2 with rfl | rfl
  · exact h.2.2.1.1
  · exact h.2.2.1.2.1
theorem qm_ge (ls : qm_L) (i : Nat) (v : Value) : qm_get (qm_put1 ls i v) i = some v := by
  unfold qm_get qm_put1
  rw [List.find?_cons_of_pos (by simp)]
  rfl
theorem qm_ge2 (ls : qm_L) (i : Nat) (v : Value) : qm_get (qm_put2 ls i v) i = some v := by
  unfold qm_get qm_put2
  rw [List.find?_cons_of_pos (by simp)]
  rfl
theorem qm_gff {l : qm_L} {j : Nat} {v : Value} (f : Nat × Value → Bool) (hf : ∀ u : Value, u.category = v.category → f (j, u) = true) (h : (l.find? (fun q => q.1 == j)).map (fun q => q.2) = some v) : ((l.filter f).find? (fun q => q.1 == j)).map (fun q => q.2) = some v := by
  cases hq : l.find? (fun q => q.1 == j) with
  | none => rw [hq] at h; cases h
  | some q =>
    rw [hq] at h
    have hv : q.2 = v := Option.some.inj h
    have hj : q.1 = j := by simpa using List.find?_some hq
    have e : q = (j, v) := by rw [← hv, ← hj]
    have hp : f q = true := by rw [e]; exact hf v rfl
    have hx : (l.filter f).find? (fun q => q.1 == j) = some q := by
      obtain ⟨hq1, as, bs, hl, hn⟩ := List.find?_eq_some_iff_append.mp hq
      rw [hl, List.filter_append, List.filter_cons_of_pos hp]
      rw [List.find?_append]
      have hz : (as.filter f).find? (fun q => q.1 == j) = none := by
        refine List.find?_eq_none.mpr (fun x hx => ?_)
        have := hn x (List.mem_filter.mp hx).1
        simpa using this
      rw [hz, Option.none_or]
      simp only [List.find?_cons, hq1]
    rw [hx]
    exact congrArg some hv
/-- what stands in another place is found as before -/
theorem qm_gk {ls : qm_L} {i j : Nat} {u v : Value} (h : qm_get ls j = some v) (hij : ¬ j = i) (hc : ¬ j + 1 = i ∨ v.category = 1) : qm_get (qm_put1 ls i u) j = some v := by
  unfold qm_get qm_put1 at *
  rw [List.find?_cons_of_neg (by simp only [beq_iff_eq]; exact fun z => hij z.symm)]
  refine qm_gff _ (fun w hw => ?_) h
  have h1 : (j == i) = false := by simpa using hij
  rcases hc with hc | hc
  · have h2 : (j + 1 == i) = false := by simpa using hc
    simp only [h1, h2, Bool.false_and, Bool.not_false, Bool.and_self]
  · have h2 : (w.category == 2) = false := by rw [hw, hc]; rfl
    simp only [h1, h2, Bool.and_false, Bool.not_false, Bool.and_self]
theorem qm_gk2 {ls : qm_L} {i j : Nat} {u v : Value} (h : qm_get ls j = some v) (hij : ¬ j = i) (hi1 : ¬ j = i + 1) (hc : ¬ j + 1 = i ∨ v.category = 1) : qm_get (qm_put2 ls i u) j = some v := by
  unfold qm_get qm_put2 at *
  rw [List.find?_cons_of_neg (by simp only [beq_iff_eq]; exact fun z => hij z.symm)]
  refine qm_gff _ (fun w hw => ?_) h
  have h1 : (j == i) = false := by simpa using hij
  have h3 : (j == i + 1) = false := by simpa using hi1
  rcases hc with hc | hc
  · have h2 : (j + 1 == i) = false := by simpa using hc
    simp only [h1, h2, h3, Bool.false_and, Bool.not_false, Bool.and_self]
  · have h2 : (w.category == 2) = false := by rw [hw, hc]; rfl
    simp only [h1, h2, h3, Bool.and_false, Bool.not_false, Bool.and_self]
section QYI
variable {X : qm_X} {d : Nat} {x : qs_Ent} {Q : Option Value → qm_W → Prop} {pc : Nat} {ls : qm_L} {st : List Value} {w : qm_W} {c n r1 r2 r3 : Nat} {rv : Value}
/-- a number as the machine has it: in range, nothing else said -/
theorem qy_can {y : Int} (k : ∀ v : Int, (-2147483648 ≤ v ∧ v ≤ 2147483647) → qr_W X d x Q (pc, ls, .int (qz v) :: st, w, c, n)) : qr_W X d x Q (pc, ls, .int (qz y) :: st, w, c, n) := by
  rw [qz_of (qz y)]
  exact k _ (qz_rng _)
theorem qy_canl {y : Int} (k : ∀ v : Int, (-9223372036854775808 ≤ v ∧ v ≤ 9223372036854775807) → qr_W X d x Q (pc, ls, .long (ql v) :: st, w, c, n)) : qr_W X d x Q (pc, ls, .long (ql y) :: st, w, c, n) := by
  rw [ql_of (ql y)]
  exact k _ (ql_rng _)
theorem qy_iincC {z : Nat} {v y : Int} (p : Nat) (hq : qm_fetch x.2.2.2.2.2.2.2 pc = some (pc, .iinc z v, 3, r1, r2, r3, rv)) (hg : qm_get ls z = some (.int (qz y))) (hz : z < x.2.2.2.1) (hp : pc + 3 = p) (k : ∀ u : Int, (-2147483648 ≤ u ∧ u ≤ 2147483647) → qr_W X d x Q (p, qm_put1 ls z (.int (qz u)), st, w, c, n)) : qr_W X d x Q (pc, ls, st, w, c, n) := by
  refine qr_iinc _ p hq hg hz rfl hp ?_
  rw [qz_of (qz (y + v))]
  exact k _ (qz_rng _)
end QYI
theorem qz_msb {x : Int32} (h : 0 ≤ x.toInt) : x.toBitVec.msb = false := by
  rw [BitVec.msb_eq_toInt, decide_eq_false_iff_not]
  exact Int.not_lt.mpr h
theorem qz_andL {a : Int} (b : Int) (h : 0 ≤ a ∧ a ≤ 2147483647) : 0 ≤ qz_and a b ∧ qz_and a b ≤ a := by
  have ha : (qz a).toInt = a := qz_ti (by omega)
  have hm := qz_msb (x := qz a) (by rw [ha]; exact h.1)
  have hm2 : (qz a &&& qz b).toBitVec.msb = false := by rw [Int32.toBitVec_and, BitVec.msb_and, hm, Bool.false_and]
  have e1 : (qz a &&& qz b).toInt = ((qz a &&& qz b).toBitVec.toNat : Int) := BitVec.toInt_eq_toNat_of_msb hm2
  have e2 : (qz a).toInt = ((qz a).toBitVec.toNat : Int) := BitVec.toInt_eq_toNat_of_msb hm
  have e3 : (qz a &&& qz b).toBitVec.toNat ≤ (qz a).toBitVec.toNat := by rw [Int32.toBitVec_and, BitVec.toNat_and]; exact Nat.and_le_left
  unfold qz_and
  omega
theorem qz_and_c (a b : Int) : qz_and a b = qz_and b a := by
  unfold qz_and
  rw [Int32.and_comm]
section QYJ
variable {X : qm_X} {d : Nat} {x : qs_Ent} {Q : Option Value → qm_W → Prop} {pc : Nat} {ls : qm_L} {st : List Value} {w : qm_W} {c n r1 r2 r3 : Nat} {rv : Value}
theorem qy_andl {a b : Int} (h : 0 ≤ a ∧ a ≤ 2147483647) (k : ∀ v : Int, (0 ≤ v ∧ v ≤ a) → qr_W X d x Q (pc, ls, .int (qz v) :: st, w, c, n)) : qr_W X d x Q (pc, ls, .int (qz (qz_and a b)) :: st, w, c, n) := k _ (qz_andL b h)
theorem qy_andr {a b : Int} (h : 0 ≤ b ∧ b ≤ 2147483647) (k : ∀ v : Int, (0 ≤ v ∧ v ≤ b) → qr_W X d x Q (pc, ls, .int (qz v) :: st, w, c, n)) : qr_W X d x Q (pc, ls, .int (qz (qz_and a b)) :: st, w, c, n) := by
  rw [qz_and_c]
  exact k _ (qz_andL a h)
theorem qy_copyi {z a0 a1 n0 n1 : Nat} {sp dp m : Int} {f g : Nat → Int} (p : Nat) (hq : qm_fetch x.2.2.2.2.2.2.2 pc = some (pc, .invokestatic z, 3, r1, r2, 7, rv)) (ha0 : 16 ≤ a0) (ha1 : 16 ≤ a1) (h0 : w[a0 - 16]? = some (.inl (.int, n0, .inl (qzf f)))) (h1 : w[a1 - 16]? = some (.inl (.int, n1, .inl (qzf g)))) (hs : 0 ≤ sp ∧ sp ≤ 1000000) (hd : 0 ≤ dp ∧ dp ≤ 1000000) (hm : 0 ≤ m ∧ m ≤ 1000000) (hn0 : sp.toNat + m.toNat ≤ n0) (hn1 : dp.toNat + m.toNat ≤ n1) (hsum : qm_sum st ≤ 8) (hz : qz 0 = 0) (hp : pc + 3 = p) (k : qr_W X d x Q (p, ls, st, w.set (a1 - 16) (.inl (.int, n1, .inl (qzf (va_cpy f g sp.toNat dp.toNat m.toNat)))), c, n)) : qr_W X d x Q (pc, ls, .int (qz m) :: .int (qz dp) :: .ref a1 :: .int (qz sp) :: .ref a0 :: st, w, c, n) := by
  subst hp
  refine qr_eff hq rfl rfl (s' := (pc + 3, ls, st, w.set (a1 - 16) (.inl (.int, n1, .inl (qzf (va_cpy f g sp.toNat dp.toNat m.toNat)))), c, n)) ?_ k
  have e1 : (qz sp).toNatClampNeg = sp.toNat := qz_clamp (by omega)
  have e2 : (qz dp).toNatClampNeg = dp.toNat := qz_clamp (by omega)
  have e3 : (qz m).toNatClampNeg = m.toNat := qz_clamp (by omega)
  have l1 : ¬ qz sp < 0 := fun h => absurd ((qz_lt (by omega) (by omega)).1 (show qz sp < qz 0 from h)) (by omega)
  have l2 : ¬ qz dp < 0 := fun h => absurd ((qz_lt (by omega) (by omega)).1 (show qz dp < qz 0 from h)) (by omega)
  have l3 : ¬ qz m < 0 := fun h => absurd ((qz_lt (by omega) (by omega)).1 (show qz m < qz 0 from h)) (by omega)
  unfold qm_eff
  refine (if_pos ⟨rfl, rfl, ha0, ha1, l1, l2, l3, hsum⟩).trans ?_
  simp only [h0, h1, e1, e2, e3, qz_cpy]
  rw [if_pos ⟨hn0, hn1⟩]
  rfl
end QYJ
theorem qI_cpy {σ α : Nat → Nat → Int} {κ : Nat → Option Nat} {ρ : Nat} (h : qI σ α κ ρ) (a0 a1 : Nat) {sp dp m : Nat} (hsp : [65, 71, 74, 77, 78, 91, 94, 95, 96].contains a1 = false) (hr : (qI_rr a0).2 = (qI_rr a1).2) (hn : sp + m ≤ (qI_rr a0).1) : qI σ (qw_r α a1 (va_cpy (α a0) (α a1) sp dp m)) κ ρ := by
  refine ⟨h.1, fun a' j hj => ?_, h.2.2.1, qIx_r h.2.2.2 a1 _ hsp⟩
  by_cases h1 : a' = a1
  · subst h1
    rw [qw_r_eq]
    unfold va_cpy
    by_cases h2 : dp ≤ j ∧ j < dp + m
    · rw [if_pos h2, ← hr]
      exact h.2.1 a0 _ (by omega)
    · rw [if_neg h2]
      exact h.2.1 a' j hj
  · rw [qw_r_ne h1]
    exact h.2.1 a' j hj
theorem qI_cpy77 {σ α : Nat → Nat → Int} {κ : Nat → Option Nat} {ρ : Nat} (h : qI σ α κ ρ) {sp dp m : Nat} (hn : sp + m ≤ 40) : qI σ (qw_r (qw_r α 77 (va_cpy (α 77) (α 77) sp dp m)) 78 (va_cpy (qw_r α 77 (va_cpy (α 77) (α 77) sp dp m) 78) (qw_r α 77 (va_cpy (α 77) (α 77) sp dp m) 78) sp dp m)) κ ρ := by
  refine ⟨h.1, fun a' j hj => ?_, h.2.2.1, h.2.2.2.1, ?_, fun j hj => ?_, h.2.2.2.2.2.2⟩
  · by_cases e1 : a' = 78
    · subst e1
      rw [qw_r_eq, qw_r_ne (by decide)]
      unfold va_cpy
      split
      · exact h.2.1 78 _ (show _ < 40 by omega)
      · exact h.2.1 78 j hj
    · rw [qw_r_ne e1]
      by_cases e2 : a' = 77
      · subst e2
        rw [qw_r_eq]
        unfold va_cpy
        split
        · exact h.2.1 77 _ (show _ < 40 by omega)
        · exact h.2.1 77 j hj
      · rw [qw_r_ne e2]
        exact h.2.1 a' j hj
  · rintro b (rfl | rfl)
    · exact h.2.2.2.2.1 71 (Or.inl rfl)
    · exact h.2.2.2.2.1 74 (Or.inr rfl)
  · rw [qw_r_eq, qw_r_ne (by decide), qw_r_eq, qw_r_ne (by decide)]
    unfold va_cpy
    split
    · exact h.2.2.2.2.2.1 _ (by omega)
    · exact h.2.2.2.2.2.1 j hj
section QYK
variable {X : qm_X} {d : Nat} {x : qs_Ent} {Q : Option Value → qm_W → Prop} {pc : Nat} {ls : qm_L} {st : List Value} {w : qm_W} {c n : Nat}
theorem qy_mulb {a b A B C : Int} (ha : 0 ≤ a ∧ a ≤ A) (hb : 0 ≤ b ∧ b ≤ B) (hC : A * B ≤ C) (k : ∀ v : Int, (0 ≤ v ∧ v ≤ C) → qr_W X d x Q (pc, ls, .int (qz v) :: st, w, c, n)) : qr_W X d x Q (pc, ls, .int (qz (a * b)) :: st, w, c, n) := by
  refine k _ ⟨Int.mul_nonneg ha.1 hb.1, Int.le_trans ?_ hC⟩
  exact Int.mul_le_mul ha.2 hb.2 hb.1 (Int.le_trans ha.1 ha.2)
theorem qy_shl1 {b : Int} {N : Nat} (h : 0 ≤ b ∧ b ≤ (N : Int) ∧ N ≤ 12) (k : ∀ v : Int, (1 ≤ v ∧ v ≤ ((2 ^ N : Nat) : Int)) → qr_W X d x Q (pc, ls, .int (qz v) :: st, w, c, n)) : qr_W X d x Q (pc, ls, .int (qz (qz_shl 1 b)) :: st, w, c, n) := by
  obtain ⟨m, rfl⟩ : ∃ m : Nat, b = m := ⟨b.toNat, by omega⟩
  have e : ∀ q : Fin 13, qz_shl 1 ((q : Nat) : Int) = ((2 ^ (q : Nat) : Nat) : Int) := by decide
  have h1 := e ⟨m, by omega⟩
  have h2 : 2 ^ m ≤ 2 ^ N := Nat.pow_le_pow_right (by decide) (by omega)
  have h3 : 1 ≤ 2 ^ m := Nat.one_le_two_pow
  refine k _ ?_
  show 1 ≤ qz_shl 1 (m : Int) ∧ qz_shl 1 (m : Int) ≤ _
  rw [show qz_shl 1 (m : Int) = ((2 ^ m : Nat) : Int) from h1]
  omega
theorem qy_ntz {a : Int} (h : 1 ≤ a ∧ a ≤ 4095) (k : ∀ v : Int, (0 ≤ v ∧ v ≤ 2047) → qr_W X d x Q (pc, ls, .int (qz v) :: st, w, c, n)) : qr_W X d x Q (pc, ls, .int (qz (qz_and (qz_xor a (-1)) (a - 1))) :: st, w, c, n) := by
  obtain ⟨m, rfl⟩ : ∃ m : Nat, a = m := ⟨a.toNat, by omega⟩
  have e : ∀ q r : Fin 64, ((64 * (q : Nat) + (r : Nat) : Nat) = 0 ∨ (0 ≤ qz_and (qz_xor ((64 * (q : Nat) + (r : Nat) : Nat) : Int) (-1)) (((64 * (q : Nat) + (r : Nat) : Nat) : Int) - 1) ∧ qz_and (qz_xor ((64 * (q : Nat) + (r : Nat) : Nat) : Int) (-1)) (((64 * (q : Nat) + (r : Nat) : Nat) : Int) - 1) ≤ 2047)) := by decide +kernel
  have h1 := e ⟨m / 64, by omega⟩ ⟨m % 64, by omega⟩
  have h2 : 64 * (m / 64) + m % 64 = m := Nat.div_add_mod m 64
  simp only [h2] at h1
  rcases h1 with h1 | h1
  · exact absurd h1 (show ¬ m = 0 by omega)
  · exact k _ h1
end QYK
theorem qz_ushrN {a : Int} (b : Int) (k : Nat) (hb : ((qz b).toUInt32 &&& Int32.toUInt32 31) = UInt32.ofNat k) (hk : k < 32) (h : 0 ≤ a ∧ a ≤ 2147483647) : qz_ushr a b = a / ((2 ^ k : Nat) : Int) := by
  have ha : (qz a).toInt = a := qz_ti (by omega)
  have hm := qz_msb (x := qz a) (by rw [ha]; exact h.1)
  have e2 : (qz a).toInt = ((qz a).toBitVec.toNat : Int) := BitVec.toInt_eq_toNat_of_msb hm
  have e4 : (qz a).toUInt32.toNat = a.toNat := by
    have : (qz a).toUInt32.toNat = (qz a).toBitVec.toNat := rfl
    omega
  have e5 : ((qz a).toUInt32 >>> UInt32.ofNat k).toNat = a.toNat / 2 ^ k := by
    rw [UInt32.toNat_shiftRight, e4, UInt32.toNat_ofNat_of_lt' (Nat.lt_trans hk (by decide)), Nat.mod_eq_of_lt hk, Nat.shiftRight_eq_div_pow]
  unfold qz_ushr
  rw [hb]
  generalize (qz a).toUInt32 >>> UInt32.ofNat k = y at e5
  have h1 : y.toNat ≤ a.toNat := by rw [e5]; exact Nat.div_le_self _ _
  have h2 : y.toInt32.toBitVec.msb = false := by
    have : y.toInt32.toBitVec.toNat = y.toNat := rfl
    rw [BitVec.msb_eq_decide, decide_eq_false_iff_not]
    show ¬ 2 ^ 31 ≤ y.toInt32.toBitVec.toNat
    omega
  have h3 : y.toInt32.toInt = (y.toNat : Int) := BitVec.toInt_eq_toNat_of_msb h2
  rw [h3, e5, Int.natCast_ediv]
  congr 1
  omega
theorem qz_ushr1 {a : Int} (h : 0 ≤ a ∧ a ≤ 2147483647) : qz_ushr a 1 = a / 2 := qz_ushrN 1 1 (by decide) (by decide) h
theorem qz_ushr2 {a : Int} (h : 0 ≤ a ∧ a ≤ 2147483647) : qz_ushr a 2 = a / 4 := qz_ushrN 2 2 (by decide) (by decide) h
theorem qz_ushr4 {a : Int} (h : 0 ≤ a ∧ a ≤ 2147483647) : qz_ushr a 4 = a / 16 := qz_ushrN 4 4 (by decide) (by decide) h
theorem qz_ushr8 {a : Int} (h : 0 ≤ a ∧ a ≤ 2147483647) : qz_ushr a 8 = a / 256 := qz_ushrN 8 8 (by decide) (by decide) h
theorem qz_ushr16 {a : Int} (h : 0 ≤ a ∧ a ≤ 2147483647) : qz_ushr a 16 = a / 65536 := qz_ushrN 16 16 (by decide) (by decide) h
theorem qI_li {σ α : Nat → Nat → Int} {κ : Nat → Option Nat} {ρ : Nat} (h : qI σ α κ ρ) (i j : Int) : (0 ≤ i → i < j → j < σ 64 2 → α 65 i.toNat < α 65 j.toNat) ∧ (0 ≤ j → j < i → i < σ 64 2 → α 65 j.toNat < α 65 i.toNat) :=
  ⟨fun h1 h2 h3 => h.2.2.2.1 _ _ (by omega) (by omega), fun h1 h2 h3 => h.2.2.2.1 _ _ (by omega) (by omega)⟩
theorem qe_rr1 (i : Nat) (h : i < 7) : -1 ≤ qe_above.getD i 0 ∧ qe_above.getD i 0 ≤ 4 := by
  have h1 : i = 0 ∨ i = 1 ∨ i = 2 ∨ i = 3 ∨ i = 4 ∨ i = 5 ∨ i = 6 := by omega
  rcases h1 with rfl | rfl | rfl | rfl | rfl | rfl | rfl <;> decide
