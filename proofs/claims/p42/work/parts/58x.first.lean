/-! the first of two for whom something holds, by 100 times the one and the other one -/
def qFst (C : Int → Int → Prop) (n v : Int) : Prop := (v = -1 ∧ ∀ p q : Int, 0 ≤ p → p < n → 0 ≤ q → q < n → ¬ C p q) ∨ ((0 ≤ v ∧ v / 100 < n ∧ v % 100 < n) ∧ C (v / 100) (v % 100) ∧ ∀ p q : Int, 0 ≤ p → p < n → 0 ≤ q → q < n → 100 * p + q < v → ¬ C p q)
theorem qFst_un {C : Int → Int → Prop} {n v w : Int} (hn : n ≤ 32) (h : qFst C n v) (g : qFst C n w) : v = w := by
  rcases h with ⟨h1, h2⟩ | ⟨h1, h2, h3⟩
  · rcases g with ⟨g1, _⟩ | ⟨g1, g2, _⟩
    · rw [h1, g1]
    · exact absurd g2 (h2 _ _ (by omega) (by omega) (by omega) (by omega))
  · rcases g with ⟨g1, g2⟩ | ⟨g1, g2, g3⟩
    · exact absurd h2 (g2 _ _ (by omega) (by omega) (by omega) (by omega))
    · by_cases a : v < w
      · exact absurd h2 (g3 _ _ (by omega) (by omega) (by omega) (by omega) (by omega))
      · by_cases b : w < v
        · exact absurd g2 (h3 _ _ (by omega) (by omega) (by omega) (by omega) (by omega))
        · omega
theorem qFst_eq {C D : Int → Int → Prop} {n v : Int} (e : ∀ p q : Int, 0 ≤ p → p < n → 0 ≤ q → q < n → (C p q ↔ D p q)) (h : qFst C n v) : qFst D n v := by
  rcases h with ⟨h1, h2⟩ | ⟨h1, h2, h3⟩
  · exact Or.inl ⟨h1, fun p q a b c d z => h2 p q a b c d ((e p q a b c d).2 z)⟩
  · exact Or.inr ⟨h1, (e _ _ (by omega) (by omega) (by omega) (by omega)).1 h2, fun p q a b c d f z => h3 p q a b c d f ((e p q a b c d).2 z)⟩
theorem qFst_hit {C : Int → Int → Prop} {n v p q : Int} (hv : v = 100 * p + q) (hp : 0 ≤ p ∧ p < n) (hq : 0 ≤ q ∧ q < n) (hn : n ≤ 32) (c : C p q) (hA : ∀ a b : Int, 0 ≤ a → a < p → 0 ≤ b → b < n → ¬ C a b) (hB : ∀ b : Int, 0 ≤ b → b < q → ¬ C p b) : qFst C n v := by
  have e1 : v / 100 = p := by omega
  have e2 : v % 100 = q := by omega
  refine Or.inr ⟨by omega, by rw [e1, e2]; exact c, fun a b h1 h2 h3 h4 h5 => ?_⟩
  by_cases d : a < p
  · exact hA a b h1 d h3 h4
  · have e : a = p := by omega
    rw [e]
    exact hB b h3 (by omega)
theorem qFst_no {C : Int → Int → Prop} {n v i : Int} (hv : v = -1) (hi : n ≤ i) (hA : ∀ a b : Int, 0 ≤ a → a < i → 0 ≤ b → b < n → ¬ C a b) : qFst C n v :=
  Or.inl ⟨hv, fun p q h1 h2 h3 h4 => hA p q h1 (by omega) h3 h4⟩
theorem qfs_o {C : Int → Int → Prop} {n i : Int} (h : ∀ a b : Int, 0 ≤ a → a < i → 0 ≤ b → b < n → ¬ C a b) (g : ∀ b : Int, 0 ≤ b → b < n → ¬ C i b) : ∀ a b : Int, 0 ≤ a → a < i + 1 → 0 ≤ b → b < n → ¬ C a b := fun a b h1 h2 h3 h4 => by
  by_cases d : a < i
  · exact h a b h1 d h3 h4
  · have e : a = i := by omega
    rw [e]
    exact g b h3 h4
theorem qfs_i {B : Int → Prop} {j : Int} (h : ∀ b : Int, 0 ≤ b → b < j → ¬ B b) (g : ¬ B j) : ∀ b : Int, 0 ≤ b → b < j + 1 → ¬ B b := fun b h1 h2 => by
  by_cases d : b < j
  · exact h b h1 d
  · have e : b = j := by omega
    rw [e]
    exact g
theorem qfs_n {B : Nat → Prop} {j : Int} (h0 : 0 ≤ j) (h : ∀ i : Nat, (i : Int) < j → ¬ B i) (g : ¬ B j.toNat) : ∀ i : Nat, (i : Int) < j + 1 → ¬ B i := fun i h1 => by
  by_cases d : (i : Int) < j
  · exact h i d
  · have e : i = j.toNat := by omega
    rw [e]
    exact g
theorem qfs_k {B : Nat → Prop} : ∀ i : Nat, (i : Int) < 0 → ¬ B i := fun _ h1 => False.elim (by omega)
theorem qfs_0 {C : Int → Int → Prop} {n : Int} : ∀ a b : Int, 0 ≤ a → a < 0 → 0 ≤ b → b < n → ¬ C a b := fun _ _ h1 h2 => False.elim (by omega)
theorem qfs_j {B : Int → Prop} : ∀ b : Int, 0 ≤ b → b < 0 → ¬ B b := fun _ h1 h2 => False.elim (by omega)

set_option maxHeartbeats 4000000 in
set_option maxRecDepth 20000 in
/-- OneRoof$Moment.firstStrike -/
theorem sf_104_58x {L : Nat} {xs : Nat → Int} {vb : Bool} {d : Nat} {σ α : Nat → Nat → Int} {κ : Nat → Option Nat} {ρ : Nat} {x1 : Int} {f : (Nat → Int) → Int} (hI : qI σ α κ ρ) (r1 : (-9223372036854775808) ≤ x1 ∧ x1 ≤ 9223372036854775807) (p0 : qPW σ α κ (0 : Int).toNat f) (p1 : qCaN (α 60) (α 61) (σ 58 12) (fun p q => qnF (qTb (α 24)) (α 28) (α 29) (α 31) (α 30) (α 33) (σ 27 6) (σ 27 7) p q (σ 58 11))) (p2 : qCaN (α 62) (α 63) (σ 58 12) (fun p q => qbs (qhF (α 35) (α 36) (α 37) (α 40) (qcv (α 41)) (qlw (α 22)) p q (σ 58 11)) (σ 34 7 : Int).toNat)) (p3 : qZp σ α) : qm_T (qe L xs vb) (d + 5) 104 [.ref 58, .long (ql x1)] (qw σ α κ ρ) (fun r w' => ∃ α', w' = qw σ α' κ ρ ∧ qI σ α' κ ρ ∧ qFr [] [53, 57, 59, 60, 61, 62, 63, 85] σ α σ α' ∧ ∃ v : Int, r = some (.int (qz v)) ∧ ((-1) ≤ v ∧ v ≤ 3131) ∧ (v = -1 ∨ (0 ≤ v ∧ v / 100 ≤ 31 ∧ v % 100 ≤ 31 ∧ ¬ v / 100 = v % 100)) ∧ qFst (fun p q : Int => ¬ p = q ∧ qbit x1 p = 1 ∧ qbit x1 q = 1 ∧ ¬ f (qNVc σ α (σ 58 10) p q (-1) x1) = 0) (σ 17 6) v ∧ qCaN (α' 60) (α' 61) (σ 58 12) (fun p q => qnF (qTb (α 24)) (α 28) (α 29) (α 31) (α 30) (α 33) (σ 27 6) (σ 27 7) p q (σ 58 11)) ∧ qCaN (α' 62) (α' 63) (σ 58 12) (fun p q => qbs (qhF (α 35) (α 36) (α 37) (α 40) (qcv (α 41)) (qlw (α 22)) p q (σ 58 11)) (σ 34 7 : Int).toNat)) := by
  refine qr_start (d := d + 4) qv_e104 (Nat.le_of_ble_eq_true rfl) ?_
  show qr_W (qe L xs vb) (d + 4) qx_e104 _ (0, [(0, .ref 58), (1, .long (ql x1))], [], _, 0, 0)
  have hF0 := qFr_rf [] [53, 57, 59, 60, 61, 62, 63, 85] σ α
  have hz58_12 : (-2147483648) ≤ σ 58 12 ∧ σ 58 12 ≤ 2147483647 := hI.1 58 12
  have hz27_6 : (-9223372036854775808) ≤ σ 27 6 ∧ σ 27 6 ≤ 9223372036854775807 := hI.1 27 6
  have hz27_7 : 0 ≤ σ 27 7 ∧ σ 27 7 ≤ 40 := hI.1 27 7
  have hz58_11 : (-2147483648) ≤ σ 58 11 ∧ σ 58 11 ≤ 2147483647 := hI.1 58 11
  have hz34_7 : 0 ≤ σ 34 7 ∧ σ 34 7 ≤ 60 := hI.1 34 7
  have hz58_10 : (-9223372036854775808) ≤ σ 58 10 ∧ σ 58 10 ≤ 9223372036854775807 := hI.1 58 10
  have hz17_6 : 0 ≤ σ 17 6 ∧ σ 17 6 ≤ 32 := hI.1 17 6
  refine qr_iconst 1 rfl rfl ?_
  refine qr_istore_n _ 2 rfl (by decide) rfl rfl ?_
  have hL4648 : ∀ (n : Nat) (ls : qm_L) (u4639 : Int) (α4641 : Nat → Nat → Int), 32 - u4639 < (n : Int) → qm_get ls 0 = some (.ref 58) → qm_get ls 1 = some (.long (ql x1)) → qm_get ls 3 = some (.int (qz u4639)) → (0 ≤ u4639 ∧ u4639 ≤ 32) → qI σ α4641 κ ρ → qFr [] [53, 57, 59, 60, 61, 62, 63, 85] σ α σ α4641 → (∀ a b : Int, 0 ≤ a → a < u4639 → 0 ≤ b → b < (σ 17 6) → ¬ (fun p q : Int => ¬ p = q ∧ qbit x1 p = 1 ∧ qbit x1 q = 1 ∧ ¬ f (qNVc σ α (σ 58 10) p q (-1) x1) = 0) a b) → qCaN (α4641 60) (α4641 61) (σ 58 12) (fun p q => qnF (qTb (α 24)) (α 28) (α 29) (α 31) (α 30) (α 33) (σ 27 6) (σ 27 7) p q (σ 58 11)) → qCaN (α4641 62) (α4641 63) (σ 58 12) (fun p q => qbs (qhF (α 35) (α 36) (α 37) (α 40) (qcv (α 41)) (qlw (α 22)) p q (σ 58 11)) (σ 34 7 : Int).toNat) → qr_W (qe L xs vb) (d + 4) qx_e104 (fun r w' => ∃ α', w' = qw σ α' κ ρ ∧ qI σ α' κ ρ ∧ qFr [] [53, 57, 59, 60, 61, 62, 63, 85] σ α σ α' ∧ ∃ v : Int, r = some (.int (qz v)) ∧ ((-1) ≤ v ∧ v ≤ 3131) ∧ (v = -1 ∨ (0 ≤ v ∧ v / 100 ≤ 31 ∧ v % 100 ≤ 31 ∧ ¬ v / 100 = v % 100)) ∧ qFst (fun p q : Int => ¬ p = q ∧ qbit x1 p = 1 ∧ qbit x1 q = 1 ∧ ¬ f (qNVc σ α (σ 58 10) p q (-1) x1) = 0) (σ 17 6) v ∧ qCaN (α' 60) (α' 61) (σ 58 12) (fun p q => qnF (qTb (α 24)) (α 28) (α 29) (α 31) (α 30) (α 33) (σ 27 6) (σ 27 7) p q (σ 58 11)) ∧ qCaN (α' 62) (α' 63) (σ 58 12) (fun p q => qbs (qhF (α 35) (α 36) (α 37) (α 40) (qcv (α 41)) (qlw (α 22)) p q (σ 58 11)) (σ 34 7 : Int).toNat)) (2, ls, [], qw σ α4641 κ ρ, 0, 0) := by
    intro n
    induction n with
    | zero => intro ls u4639 α4641 hm g4636 g4637 g4638 hf4644 hI4642 hF4643 hx4645 hx4646 hx4647; exact False.elim (by omega)
    | succ n ih4649 =>
      intro ls u4639 α4641 hm g4636 g4637 g4638 hf4644 hI4642 hF4643 hx4645 hx4646 hx4647
      refine qr_iload_n 3 rfl g4638 rfl ?_
      refine qr_aload_n 4 rfl g4636 rfl ?_
      refine qr_get 7 rfl rfl rfl (by decide) rfl ?_
      refine qr_get 10 rfl rfl rfl (by decide) rfl ?_
      refine qr_icmp_ge 87 13 rfl rfl rfl (by omega) (by omega) (fun h4650 => ?_) (fun h4650 => ?_)
      · skip
        refine qr_iconst 88 rfl rfl ?_
        refine qr_retI rfl rfl (by decide) (by decide) ?_
        exact ⟨_, rfl, hI4642, hF4643, (-1), rfl, by omega, by omega, (qFst_no rfl (by omega) hx4645), hx4646, hx4647⟩
      · skip
        refine qr_lload_n 14 rfl g4637 rfl ?_
        refine qr_iload_n 15 rfl g4638 rfl ?_
        refine qr_callN 18 rfl rfl rfl (sf_50b (d := d + 3) hI4642 (by omega) (by omega)) ?_
        rintro _ _ ⟨rfl, v4651, rfl, hv4651, hp4652⟩
        show qr_W (qe L xs vb) (d + 4) qx_e104 _ (18, _, [.int (qz v4651)], qw σ α4641 κ ρ, 0, 0)
        refine qr_if_ne 24 21 rfl rfl rfl (by omega) (fun h4653 => ?_) (fun h4653 => ?_)
        · skip
          refine qr_iconst 25 rfl rfl ?_
          refine qr_istore _ 27 rfl (by decide) rfl rfl ?_
          have hL4953 : ∀ (n : Nat) (ls : qm_L) (u4943 : Int) (α4945 : Nat → Nat → Int), 32 - u4943 < (n : Int) → qm_get ls 0 = some (.ref 58) → qm_get ls 1 = some (.long (ql x1)) → qm_get ls 3 = some (.int (qz u4639)) → qm_get ls 4 = some (.int (qz u4943)) → (0 ≤ u4943 ∧ u4943 ≤ 32) → qI σ α4945 κ ρ → qFr [] [53, 57, 59, 60, 61, 62, 63, 85] σ α σ α4945 → (∀ a b : Int, 0 ≤ a → a < u4639 → 0 ≤ b → b < (σ 17 6) → ¬ (fun p q : Int => ¬ p = q ∧ qbit x1 p = 1 ∧ qbit x1 q = 1 ∧ ¬ f (qNVc σ α (σ 58 10) p q (-1) x1) = 0) a b) → (∀ b : Int, 0 ≤ b → b < u4943 → ¬ (fun p q : Int => ¬ p = q ∧ qbit x1 p = 1 ∧ qbit x1 q = 1 ∧ ¬ f (qNVc σ α (σ 58 10) p q (-1) x1) = 0) u4639 b) → qCaN (α4945 60) (α4945 61) (σ 58 12) (fun p q => qnF (qTb (α 24)) (α 28) (α 29) (α 31) (α 30) (α 33) (σ 27 6) (σ 27 7) p q (σ 58 11)) → qCaN (α4945 62) (α4945 63) (σ 58 12) (fun p q => qbs (qhF (α 35) (α 36) (α 37) (α 40) (qcv (α 41)) (qlw (α 22)) p q (σ 58 11)) (σ 34 7 : Int).toNat) → qr_W (qe L xs vb) (d + 4) qx_e104 (fun r w' => ∃ α', w' = qw σ α' κ ρ ∧ qI σ α' κ ρ ∧ qFr [] [53, 57, 59, 60, 61, 62, 63, 85] σ α σ α' ∧ ∃ v : Int, r = some (.int (qz v)) ∧ ((-1) ≤ v ∧ v ≤ 3131) ∧ (v = -1 ∨ (0 ≤ v ∧ v / 100 ≤ 31 ∧ v % 100 ≤ 31 ∧ ¬ v / 100 = v % 100)) ∧ qFst (fun p q : Int => ¬ p = q ∧ qbit x1 p = 1 ∧ qbit x1 q = 1 ∧ ¬ f (qNVc σ α (σ 58 10) p q (-1) x1) = 0) (σ 17 6) v ∧ qCaN (α' 60) (α' 61) (σ 58 12) (fun p q => qnF (qTb (α 24)) (α 28) (α 29) (α 31) (α 30) (α 33) (σ 27 6) (σ 27 7) p q (σ 58 11)) ∧ qCaN (α' 62) (α' 63) (σ 58 12) (fun p q => qbs (qhF (α 35) (α 36) (α 37) (α 40) (qcv (α 41)) (qlw (α 22)) p q (σ 58 11)) (σ 34 7 : Int).toNat)) (27, ls, [], qw σ α4945 κ ρ, 0, 0) := by
            intro n
            induction n with
            | zero => intro ls u4943 α4945 hm g4939 g4940 g4941 g4942 hf4948 hI4946 hF4947 hx4949 hx4950 hx4951 hx4952; exact False.elim (by omega)
            | succ n ih4954 =>
              intro ls u4943 α4945 hm g4939 g4940 g4941 g4942 hf4948 hI4946 hF4947 hx4949 hx4950 hx4951 hx4952
              refine qr_iload 29 rfl g4942 rfl ?_
              refine qr_aload_n 30 rfl g4939 rfl ?_
              refine qr_get 33 rfl rfl rfl (by decide) rfl ?_
              refine qr_get 36 rfl rfl rfl (by decide) rfl ?_
              refine qr_icmp_ge 81 39 rfl rfl rfl (by omega) (by omega) (fun h4955 => ?_) (fun h4955 => ?_)
              · skip
                refine qr_iinc _ 84 rfl g4941 (by decide) rfl rfl ?_
                refine qr_goto 2 rfl rfl ?_
                exact ih4649 _ (u4639 + 1) α4945 (by omega) (qm_gk g4939 (by decide) (Or.inl (by decide))) (qm_gk g4940 (by decide) (Or.inl (by decide))) (qm_ge _ _ _) (by omega) hI4946 hF4947 (qfs_o hx4645 (fun b h1 h2 => hx4950 b h1 (by omega))) hx4951 hx4952
              · skip
                refine qr_iload_n 40 rfl g4941 rfl ?_
                refine qr_iload 42 rfl g4942 rfl ?_
                refine qr_icmp_eq 75 45 rfl rfl rfl (by omega) (by omega) (fun h4956 => ?_) (fun h4956 => ?_)
                · skip
                  refine qr_iinc _ 78 rfl g4942 (by decide) rfl rfl ?_
                  refine qr_goto 27 rfl rfl ?_
                  exact ih4954 _ (u4943 + 1) α4945 (by omega) (qm_gk g4939 (by decide) (Or.inl (by decide))) (qm_gk g4940 (by decide) (Or.inl (by decide))) (qm_gk g4941 (by decide) (Or.inr rfl)) (qm_ge _ _ _) (by omega) hI4946 hF4947 hx4645 (qfs_i hx4950 (fun hc => hc.1 (by omega))) hx4951 hx4952
                · skip
                  refine qr_lload_n 46 rfl g4940 rfl ?_
                  refine qr_iload 48 rfl g4942 rfl ?_
                  refine qr_callN 51 rfl rfl rfl (sf_50b (d := d + 3) hI4946 (by omega) (by omega)) ?_
                  rintro _ _ ⟨rfl, v4957, rfl, hv4957, hp4958⟩
                  show qr_W (qe L xs vb) (d + 4) qx_e104 _ (51, _, [.int (qz v4957)], qw σ α4945 κ ρ, 0, 0)
                  refine qr_if_eq 75 54 rfl rfl rfl (by omega) (fun h4959 => ?_) (fun h4959 => ?_)
                  · skip
                    refine qr_iinc _ 78 rfl g4942 (by decide) rfl rfl ?_
                    refine qr_goto 27 rfl rfl ?_
                    exact ih4954 _ (u4943 + 1) α4945 (by omega) (qm_gk g4939 (by decide) (Or.inl (by decide))) (qm_gk g4940 (by decide) (Or.inl (by decide))) (qm_gk g4941 (by decide) (Or.inr rfl)) (qm_ge _ _ _) (by omega) hI4946 hF4947 hx4645 (qfs_i hx4950 (fun hc => absurd hc.2.2.1 (by omega))) hx4951 hx4952
                  · skip
                    refine qr_aload_n 55 rfl g4939 rfl ?_
                    refine qr_iconst 56 rfl rfl ?_
                    refine qr_iload_n 57 rfl g4941 rfl ?_
                    refine qr_iload 59 rfl g4942 rfl ?_
                    refine qr_iconst 60 rfl rfl ?_
                    refine qr_lload_n 61 rfl g4940 rfl ?_
                    have hs4960 : (-9223372036854775808) ≤ σ 27 6 ∧ σ 27 6 ≤ 9223372036854775807 := hI4946.1 27 6
                    have hs4961 : 0 ≤ σ 27 7 ∧ σ 27 7 ≤ 40 := hI4946.1 27 7
                    have hs4962 : 0 ≤ σ 34 7 ∧ σ 34 7 ≤ 60 := hI4946.1 34 7
                    have hs4963 : (-2147483648) ≤ σ 58 11 ∧ σ 58 11 ≤ 2147483647 := hI4946.1 58 11
                    have hs4964 : (-2147483648) ≤ σ 58 12 ∧ σ 58 12 ≤ 2147483647 := hI4946.1 58 12
                    refine qr_callN 64 rfl rfl rfl (sf_90_58x (d := d + 0) hI4946 (by omega) (by omega) (by omega) (by omega) (by omega) (by omega) (qPW_fr hF4947 (by decide) (by decide) p0) (by rw [hF4947.2 24 (by decide), hF4947.2 28 (by decide), hF4947.2 29 (by decide), hF4947.2 30 (by decide), hF4947.2 31 (by decide), hF4947.2 33 (by decide)]; exact hx4951) (by rw [hF4947.2 22 (by decide), hF4947.2 35 (by decide), hF4947.2 36 (by decide), hF4947.2 37 (by decide), hF4947.2 40 (by decide), hF4947.2 41 (by decide)]; exact hx4952) (qZp_fr hF4947 (by decide) (by decide) p3)) ?_
                    rintro _ _ ⟨α4969, rfl, hI4970, hG4971, v4965, rfl, hv4965, hx4966, hx4967, hx4968⟩
                    have hF4972 : qFr [] [53, 57, 59, 60, 61, 62, 63, 85] σ α σ α4969 := qFr_t hF4947 hG4971 (by decide) (by decide)
                    rw [hF4947.2 24 (by decide), hF4947.2 28 (by decide), hF4947.2 29 (by decide), hF4947.2 30 (by decide), hF4947.2 31 (by decide), hF4947.2 33 (by decide)] at hx4967
                    rw [hF4947.2 22 (by decide), hF4947.2 35 (by decide), hF4947.2 36 (by decide), hF4947.2 37 (by decide), hF4947.2 40 (by decide), hF4947.2 41 (by decide)] at hx4968
                    show qr_W (qe L xs vb) (d + 4) qx_e104 _ (64, _, [.int (qz v4965)], qw σ α4969 κ ρ, 0, 0)
                    rw [qNVc_fr hF4947 (by decide) (by decide)] at hx4966
                    refine qr_if_eq 75 67 rfl rfl rfl (by omega) (fun h4973 => ?_) (fun h4973 => ?_)
                    · skip
                      refine qr_iinc _ 78 rfl g4942 (by decide) rfl rfl ?_
                      refine qr_goto 27 rfl rfl ?_
                      exact ih4954 _ (u4943 + 1) α4969 (by omega) (qm_gk g4939 (by decide) (Or.inl (by decide))) (qm_gk g4940 (by decide) (Or.inl (by decide))) (qm_gk g4941 (by decide) (Or.inr rfl)) (qm_ge _ _ _) (by omega) hI4970 hF4972 hx4645 (qfs_i hx4950 (fun hc => hc.2.2.2 (by rw [← hx4966]; omega))) hx4967 hx4968
                    · skip
                      refine qr_bipush 69 rfl (by decide) rfl ?_
                      refine qr_iload_n 70 rfl g4941 rfl ?_
                      refine qr_imul 71 rfl rfl ?_
                      refine qr_iload 73 rfl g4942 rfl ?_
                      refine qr_iadd 74 rfl rfl ?_
                      refine qr_retI rfl rfl (by decide) (by decide) ?_
                      exact ⟨_, rfl, hI4970, hF4972, ((100 * u4639) + u4943), rfl, by omega, by omega, (qFst_hit (p := u4639) (q := u4943) (by omega) (by omega) (by omega) (by omega) ⟨by omega, by omega, by omega, by rw [← hx4966]; omega⟩ hx4949 hx4950), hx4967, hx4968⟩
          exact hL4953 ((32 - 0 + 1 : Int)).toNat _ 0 α4641 (by omega) (qm_gk g4636 (by decide) (Or.inl (by decide))) (qm_gk g4637 (by decide) (Or.inl (by decide))) (qm_gk g4638 (by decide) (Or.inr rfl)) (qm_ge _ _ _) (by omega) hI4642 hF4643 hx4645 qfs_j hx4646 hx4647
        · skip
          refine qr_goto 81 rfl rfl ?_
          refine qr_iinc _ 84 rfl g4638 (by decide) rfl rfl ?_
          refine qr_goto 2 rfl rfl ?_
          exact ih4649 _ (u4639 + 1) α4641 (by omega) (qm_gk g4636 (by decide) (Or.inl (by decide))) (qm_gk g4637 (by decide) (Or.inl (by decide))) (qm_ge _ _ _) (by omega) hI4642 hF4643 (qfs_o hx4645 (fun b h1 h2 hc => absurd hc.2.1 (by omega))) hx4646 hx4647
  exact hL4648 ((32 - 0 + 1 : Int)).toNat _ 0 α (by omega) rfl rfl rfl (by omega) hI hF0 qfs_0 p1 p2

set_option maxHeartbeats 4000000 in
set_option maxRecDepth 20000 in
/-- OneRoof$Telling.firstHelp -/
theorem sf_137_70x {L : Nat} {xs : Nat → Int} {vb : Bool} {d : Nat} {σ α : Nat → Nat → Int} {κ : Nat → Option Nat} {ρ : Nat} {f : (Nat → Int) → Int} (hI : qI σ α κ ρ) (p0 : qPW σ α κ (1 : Int).toNat f) (p1 : qCaN (α 60) (α 61) (σ 58 12) (fun p q => qnF (qTb (α 24)) (α 28) (α 29) (α 31) (α 30) (α 33) (σ 27 6) (σ 27 7) p q (σ 58 11))) (p2 : qCaN (α 62) (α 63) (σ 58 12) (fun p q => qbs (qhF (α 35) (α 36) (α 37) (α 40) (qcv (α 41)) (qlw (α 22)) p q (σ 58 11)) (σ 34 7 : Int).toNat)) (p3 : qZp σ α) : qm_T (qe L xs vb) (d + 5) 137 [.ref 70] (qw σ α κ ρ) (fun r w' => ∃ α', w' = qw σ α' κ ρ ∧ qI σ α' κ ρ ∧ qFr [] [53, 57, 59, 60, 61, 62, 63, 85] σ α σ α' ∧ ∃ v : Int, r = some (.int (qz v)) ∧ ((-1) ≤ v ∧ v ≤ 3131) ∧ (v = -1 ∨ (0 ≤ v ∧ v / 100 ≤ 31 ∧ v % 100 ≤ 31 ∧ ¬ v / 100 = v % 100)) ∧ qFst (fun p s : Int => ¬ p = s ∧ qbit (σ 70 3) p = 1 ∧ qbit (ql_and (σ 70 3) (σ 70 6)) s = 1 ∧ ∃ i : Nat, (i : Int) < (σ 70 2) ∧ (fun i : Nat => (α 71) i / 100 = s ∧ ¬ f (qNVc σ α (σ 58 10) p s ((α 71) i % 100) (σ 70 3)) = 0) i) (σ 17 6) v ∧ qCaN (α' 60) (α' 61) (σ 58 12) (fun p q => qnF (qTb (α 24)) (α 28) (α 29) (α 31) (α 30) (α 33) (σ 27 6) (σ 27 7) p q (σ 58 11)) ∧ qCaN (α' 62) (α' 63) (σ 58 12) (fun p q => qbs (qhF (α 35) (α 36) (α 37) (α 40) (qcv (α 41)) (qlw (α 22)) p q (σ 58 11)) (σ 34 7 : Int).toNat)) := by
  refine qr_start (d := d + 4) qv_e137 (Nat.le_of_ble_eq_true rfl) ?_
  show qr_W (qe L xs vb) (d + 4) qx_e137 _ (0, [(0, .ref 70)], [], _, 0, 0)
  have hF0 := qFr_rf [] [53, 57, 59, 60, 61, 62, 63, 85] σ α
  have hz58_12 : (-2147483648) ≤ σ 58 12 ∧ σ 58 12 ≤ 2147483647 := hI.1 58 12
  have hz27_6 : (-9223372036854775808) ≤ σ 27 6 ∧ σ 27 6 ≤ 9223372036854775807 := hI.1 27 6
  have hz27_7 : 0 ≤ σ 27 7 ∧ σ 27 7 ≤ 40 := hI.1 27 7
  have hz58_11 : (-2147483648) ≤ σ 58 11 ∧ σ 58 11 ≤ 2147483647 := hI.1 58 11
  have hz34_7 : 0 ≤ σ 34 7 ∧ σ 34 7 ≤ 60 := hI.1 34 7
  have hz58_10 : (-9223372036854775808) ≤ σ 58 10 ∧ σ 58 10 ≤ 9223372036854775807 := hI.1 58 10
  have hz17_6 : 0 ≤ σ 17 6 ∧ σ 17 6 ≤ 32 := hI.1 17 6
  have hz70_2 : 0 ≤ σ 70 2 ∧ σ 70 2 ≤ 31 := hI.1 70 2
  have hz70_3 : (-9223372036854775808) ≤ σ 70 3 ∧ σ 70 3 ≤ 9223372036854775807 := hI.1 70 3
  have hz70_6 : (-9223372036854775808) ≤ σ 70 6 ∧ σ 70 6 ≤ 9223372036854775807 := hI.1 70 6
  refine qr_iconst 1 rfl rfl ?_
  refine qr_istore_n _ 2 rfl (by decide) rfl rfl ?_
  have hL88523 : ∀ (n : Nat) (ls : qm_L) (u88513 : Int) (α88515 : Nat → Nat → Int), 32 - u88513 < (n : Int) → qm_get ls 0 = some (.ref 70) → qm_get ls 1 = some (.int (qz u88513)) → (0 ≤ u88513 ∧ u88513 ≤ 32) → qI σ α88515 κ ρ → qFr [] [53, 57, 59, 60, 61, 62, 63, 85] σ α σ α88515 → α88515 71 = (α 71) → (∀ a b : Int, 0 ≤ a → a < u88513 → 0 ≤ b → b < (σ 17 6) → ¬ (fun p s : Int => ¬ p = s ∧ qbit (σ 70 3) p = 1 ∧ qbit (ql_and (σ 70 3) (σ 70 6)) s = 1 ∧ ∃ i : Nat, (i : Int) < (σ 70 2) ∧ (fun i : Nat => (α 71) i / 100 = s ∧ ¬ f (qNVc σ α (σ 58 10) p s ((α 71) i % 100) (σ 70 3)) = 0) i) a b) → qCaN (α88515 60) (α88515 61) (σ 58 12) (fun p q => qnF (qTb (α 24)) (α 28) (α 29) (α 31) (α 30) (α 33) (σ 27 6) (σ 27 7) p q (σ 58 11)) → qCaN (α88515 62) (α88515 63) (σ 58 12) (fun p q => qbs (qhF (α 35) (α 36) (α 37) (α 40) (qcv (α 41)) (qlw (α 22)) p q (σ 58 11)) (σ 34 7 : Int).toNat) → qr_W (qe L xs vb) (d + 4) qx_e137 (fun r w' => ∃ α', w' = qw σ α' κ ρ ∧ qI σ α' κ ρ ∧ qFr [] [53, 57, 59, 60, 61, 62, 63, 85] σ α σ α' ∧ ∃ v : Int, r = some (.int (qz v)) ∧ ((-1) ≤ v ∧ v ≤ 3131) ∧ (v = -1 ∨ (0 ≤ v ∧ v / 100 ≤ 31 ∧ v % 100 ≤ 31 ∧ ¬ v / 100 = v % 100)) ∧ qFst (fun p s : Int => ¬ p = s ∧ qbit (σ 70 3) p = 1 ∧ qbit (ql_and (σ 70 3) (σ 70 6)) s = 1 ∧ ∃ i : Nat, (i : Int) < (σ 70 2) ∧ (fun i : Nat => (α 71) i / 100 = s ∧ ¬ f (qNVc σ α (σ 58 10) p s ((α 71) i % 100) (σ 70 3)) = 0) i) (σ 17 6) v ∧ qCaN (α' 60) (α' 61) (σ 58 12) (fun p q => qnF (qTb (α 24)) (α 28) (α 29) (α 31) (α 30) (α 33) (σ 27 6) (σ 27 7) p q (σ 58 11)) ∧ qCaN (α' 62) (α' 63) (σ 58 12) (fun p q => qbs (qhF (α 35) (α 36) (α 37) (α 40) (qcv (α 41)) (qlw (α 22)) p q (σ 58 11)) (σ 34 7 : Int).toNat)) (2, ls, [], qw σ α88515 κ ρ, 0, 0) := by
    intro n
    induction n with
    | zero => intro ls u88513 α88515 hm g88511 g88512 hf88519 hI88516 hF88517 hk88518 hx88520 hx88521 hx88522; exact False.elim (by omega)
    | succ n ih88524 =>
      intro ls u88513 α88515 hm g88511 g88512 hf88519 hI88516 hF88517 hk88518 hx88520 hx88521 hx88522
      refine qr_iload_n 3 rfl g88512 rfl ?_
      refine qr_aload_n 4 rfl g88511 rfl ?_
      refine qr_get 7 rfl rfl rfl (by decide) rfl ?_
      refine qr_get 10 rfl rfl rfl (by decide) rfl ?_
      refine qr_get 13 rfl rfl rfl (by decide) rfl ?_
      refine qr_icmp_ge 144 16 rfl rfl rfl (by omega) (by omega) (fun h88525 => ?_) (fun h88525 => ?_)
      · skip
        refine qr_iconst 145 rfl rfl ?_
        refine qr_retI rfl rfl (by decide) (by decide) ?_
        exact ⟨_, rfl, hI88516, hF88517, (-1), rfl, by omega, by omega, (qFst_no rfl (by omega) hx88520), hx88521, hx88522⟩
      · skip
        refine qr_iconst 17 rfl rfl ?_
        refine qr_istore_n _ 18 rfl (by decide) rfl rfl ?_
        have hL94090 : ∀ (n : Nat) (ls : qm_L) (u94079 : Int) (α94081 : Nat → Nat → Int), 32 - u94079 < (n : Int) → qm_get ls 0 = some (.ref 70) → qm_get ls 1 = some (.int (qz u88513)) → qm_get ls 2 = some (.int (qz u94079)) → (0 ≤ u94079 ∧ u94079 ≤ 32) → qI σ α94081 κ ρ → qFr [] [53, 57, 59, 60, 61, 62, 63, 85] σ α σ α94081 → α94081 71 = (α 71) → (∀ a b : Int, 0 ≤ a → a < u88513 → 0 ≤ b → b < (σ 17 6) → ¬ (fun p s : Int => ¬ p = s ∧ qbit (σ 70 3) p = 1 ∧ qbit (ql_and (σ 70 3) (σ 70 6)) s = 1 ∧ ∃ i : Nat, (i : Int) < (σ 70 2) ∧ (fun i : Nat => (α 71) i / 100 = s ∧ ¬ f (qNVc σ α (σ 58 10) p s ((α 71) i % 100) (σ 70 3)) = 0) i) a b) → (∀ b : Int, 0 ≤ b → b < u94079 → ¬ (fun p s : Int => ¬ p = s ∧ qbit (σ 70 3) p = 1 ∧ qbit (ql_and (σ 70 3) (σ 70 6)) s = 1 ∧ ∃ i : Nat, (i : Int) < (σ 70 2) ∧ (fun i : Nat => (α 71) i / 100 = s ∧ ¬ f (qNVc σ α (σ 58 10) p s ((α 71) i % 100) (σ 70 3)) = 0) i) u88513 b) → qCaN (α94081 60) (α94081 61) (σ 58 12) (fun p q => qnF (qTb (α 24)) (α 28) (α 29) (α 31) (α 30) (α 33) (σ 27 6) (σ 27 7) p q (σ 58 11)) → qCaN (α94081 62) (α94081 63) (σ 58 12) (fun p q => qbs (qhF (α 35) (α 36) (α 37) (α 40) (qcv (α 41)) (qlw (α 22)) p q (σ 58 11)) (σ 34 7 : Int).toNat) → qr_W (qe L xs vb) (d + 4) qx_e137 (fun r w' => ∃ α', w' = qw σ α' κ ρ ∧ qI σ α' κ ρ ∧ qFr [] [53, 57, 59, 60, 61, 62, 63, 85] σ α σ α' ∧ ∃ v : Int, r = some (.int (qz v)) ∧ ((-1) ≤ v ∧ v ≤ 3131) ∧ (v = -1 ∨ (0 ≤ v ∧ v / 100 ≤ 31 ∧ v % 100 ≤ 31 ∧ ¬ v / 100 = v % 100)) ∧ qFst (fun p s : Int => ¬ p = s ∧ qbit (σ 70 3) p = 1 ∧ qbit (ql_and (σ 70 3) (σ 70 6)) s = 1 ∧ ∃ i : Nat, (i : Int) < (σ 70 2) ∧ (fun i : Nat => (α 71) i / 100 = s ∧ ¬ f (qNVc σ α (σ 58 10) p s ((α 71) i % 100) (σ 70 3)) = 0) i) (σ 17 6) v ∧ qCaN (α' 60) (α' 61) (σ 58 12) (fun p q => qnF (qTb (α 24)) (α 28) (α 29) (α 31) (α 30) (α 33) (σ 27 6) (σ 27 7) p q (σ 58 11)) ∧ qCaN (α' 62) (α' 63) (σ 58 12) (fun p q => qbs (qhF (α 35) (α 36) (α 37) (α 40) (qcv (α 41)) (qlw (α 22)) p q (σ 58 11)) (σ 34 7 : Int).toNat)) (18, ls, [], qw σ α94081 κ ρ, 0, 0) := by
          intro n
          induction n with
          | zero => intro ls u94079 α94081 hm g94076 g94077 g94078 hf94085 hI94082 hF94083 hk94084 hx94086 hx94087 hx94088 hx94089; exact False.elim (by omega)
          | succ n ih94091 =>
            intro ls u94079 α94081 hm g94076 g94077 g94078 hf94085 hI94082 hF94083 hk94084 hx94086 hx94087 hx94088 hx94089
            refine qr_iload_n 19 rfl g94078 rfl ?_
            refine qr_aload_n 20 rfl g94076 rfl ?_
            refine qr_get 23 rfl rfl rfl (by decide) rfl ?_
            refine qr_get 26 rfl rfl rfl (by decide) rfl ?_
            refine qr_get 29 rfl rfl rfl (by decide) rfl ?_
            refine qr_icmp_ge 138 32 rfl rfl rfl (by omega) (by omega) (fun h94092 => ?_) (fun h94092 => ?_)
            · skip
              refine qr_iinc _ 141 rfl g94077 (by decide) rfl rfl ?_
              refine qr_goto 2 rfl rfl ?_
              exact ih88524 _ (u88513 + 1) α94081 (by omega) (qm_gk g94076 (by decide) (Or.inr rfl)) (qm_ge _ _ _) (by omega) hI94082 hF94083 hk94084 (qfs_o hx88520 (fun b h1 h2 => hx94087 b h1 (by omega))) hx94088 hx94089
            · skip
              refine qr_iload_n 33 rfl g94077 rfl ?_
              refine qr_iload_n 34 rfl g94078 rfl ?_
              refine qr_icmp_eq 132 37 rfl rfl rfl (by omega) (by omega) (fun h94093 => ?_) (fun h94093 => ?_)
              · skip
                refine qr_iinc _ 135 rfl g94078 (by decide) rfl rfl ?_
                refine qr_goto 18 rfl rfl ?_
                exact ih94091 _ (u94079 + 1) α94081 (by omega) (qm_gk g94076 (by decide) (Or.inl (by decide))) (qm_gk g94077 (by decide) (Or.inr rfl)) (qm_ge _ _ _) (by omega) hI94082 hF94083 hk94084 hx88520 (qfs_i hx94087 (fun hc => hc.1 (by omega))) hx94088 hx94089
              · skip
                refine qr_aload_n 38 rfl g94076 rfl ?_
                refine qr_get 41 rfl rfl rfl (by decide) rfl ?_
                refine qr_iload_n 42 rfl g94077 rfl ?_
                refine qr_callN 45 rfl rfl rfl (sf_50b (d := d + 3) hI94082 (by omega) (by omega)) ?_
                rintro _ _ ⟨rfl, v94094, rfl, hv94094, hp94095⟩
                show qr_W (qe L xs vb) (d + 4) qx_e137 _ (45, _, [.int (qz v94094)], qw σ α94081 κ ρ, 0, 0)
                refine qr_if_eq 132 48 rfl rfl rfl (by omega) (fun h94096 => ?_) (fun h94096 => ?_)
                · skip
                  refine qr_iinc _ 135 rfl g94078 (by decide) rfl rfl ?_
                  refine qr_goto 18 rfl rfl ?_
                  exact ih94091 _ (u94079 + 1) α94081 (by omega) (qm_gk g94076 (by decide) (Or.inl (by decide))) (qm_gk g94077 (by decide) (Or.inr rfl)) (qm_ge _ _ _) (by omega) hI94082 hF94083 hk94084 hx88520 (qfs_i hx94087 (fun hc => absurd hc.2.1 (by omega))) hx94088 hx94089
                · skip
                  refine qr_aload_n 49 rfl g94076 rfl ?_
                  refine qr_get 52 rfl rfl rfl (by decide) rfl ?_
                  refine qr_aload_n 53 rfl g94076 rfl ?_
                  refine qr_get 56 rfl rfl rfl (by decide) rfl ?_
                  refine qr_land 57 rfl rfl ?_
                  refine qy_canlE (fun v94097 hv94097 hev94097 => ?_)
                  refine qr_iload_n 58 rfl g94078 rfl ?_
                  refine qr_callN 61 rfl rfl rfl (sf_50b (d := d + 3) hI94082 (by omega) (by omega)) ?_
                  rintro _ _ ⟨rfl, v94098, rfl, hv94098, hp94099⟩
                  show qr_W (qe L xs vb) (d + 4) qx_e137 _ (61, _, [.int (qz v94098)], qw σ α94081 κ ρ, 0, 0)
                  rw [ql_val hev94097 (by omega) (ql_and_r _ _)] at hp94099
                  refine qr_if_ne 67 64 rfl rfl rfl (by omega) (fun h94100 => ?_) (fun h94100 => ?_)
                  · skip
                    refine qr_iconst 68 rfl rfl ?_
                    refine qr_istore_n _ 69 rfl (by decide) rfl rfl ?_
                    have hL94453 : ∀ (n : Nat) (ls : qm_L) (u94441 : Int) (α94443 : Nat → Nat → Int), 31 - u94441 < (n : Int) → qm_get ls 0 = some (.ref 70) → qm_get ls 1 = some (.int (qz u88513)) → qm_get ls 2 = some (.int (qz u94079)) → qm_get ls 3 = some (.int (qz u94441)) → (0 ≤ u94441 ∧ u94441 ≤ 31) → qI σ α94443 κ ρ → qFr [] [53, 57, 59, 60, 61, 62, 63, 85] σ α σ α94443 → α94443 71 = (α 71) → (∀ a b : Int, 0 ≤ a → a < u88513 → 0 ≤ b → b < (σ 17 6) → ¬ (fun p s : Int => ¬ p = s ∧ qbit (σ 70 3) p = 1 ∧ qbit (ql_and (σ 70 3) (σ 70 6)) s = 1 ∧ ∃ i : Nat, (i : Int) < (σ 70 2) ∧ (fun i : Nat => (α 71) i / 100 = s ∧ ¬ f (qNVc σ α (σ 58 10) p s ((α 71) i % 100) (σ 70 3)) = 0) i) a b) → (∀ b : Int, 0 ≤ b → b < u94079 → ¬ (fun p s : Int => ¬ p = s ∧ qbit (σ 70 3) p = 1 ∧ qbit (ql_and (σ 70 3) (σ 70 6)) s = 1 ∧ ∃ i : Nat, (i : Int) < (σ 70 2) ∧ (fun i : Nat => (α 71) i / 100 = s ∧ ¬ f (qNVc σ α (σ 58 10) p s ((α 71) i % 100) (σ 70 3)) = 0) i) u88513 b) → (∀ i : Nat, (i : Int) < u94441 → ¬ (fun i : Nat => (α 71) i / 100 = u94079 ∧ ¬ f (qNVc σ α (σ 58 10) u88513 u94079 ((α 71) i % 100) (σ 70 3)) = 0) i) → qCaN (α94443 60) (α94443 61) (σ 58 12) (fun p q => qnF (qTb (α 24)) (α 28) (α 29) (α 31) (α 30) (α 33) (σ 27 6) (σ 27 7) p q (σ 58 11)) → qCaN (α94443 62) (α94443 63) (σ 58 12) (fun p q => qbs (qhF (α 35) (α 36) (α 37) (α 40) (qcv (α 41)) (qlw (α 22)) p q (σ 58 11)) (σ 34 7 : Int).toNat) → qr_W (qe L xs vb) (d + 4) qx_e137 (fun r w' => ∃ α', w' = qw σ α' κ ρ ∧ qI σ α' κ ρ ∧ qFr [] [53, 57, 59, 60, 61, 62, 63, 85] σ α σ α' ∧ ∃ v : Int, r = some (.int (qz v)) ∧ ((-1) ≤ v ∧ v ≤ 3131) ∧ (v = -1 ∨ (0 ≤ v ∧ v / 100 ≤ 31 ∧ v % 100 ≤ 31 ∧ ¬ v / 100 = v % 100)) ∧ qFst (fun p s : Int => ¬ p = s ∧ qbit (σ 70 3) p = 1 ∧ qbit (ql_and (σ 70 3) (σ 70 6)) s = 1 ∧ ∃ i : Nat, (i : Int) < (σ 70 2) ∧ (fun i : Nat => (α 71) i / 100 = s ∧ ¬ f (qNVc σ α (σ 58 10) p s ((α 71) i % 100) (σ 70 3)) = 0) i) (σ 17 6) v ∧ qCaN (α' 60) (α' 61) (σ 58 12) (fun p q => qnF (qTb (α 24)) (α 28) (α 29) (α 31) (α 30) (α 33) (σ 27 6) (σ 27 7) p q (σ 58 11)) ∧ qCaN (α' 62) (α' 63) (σ 58 12) (fun p q => qbs (qhF (α 35) (α 36) (α 37) (α 40) (qcv (α 41)) (qlw (α 22)) p q (σ 58 11)) (σ 34 7 : Int).toNat)) (69, ls, [], qw σ α94443 κ ρ, 0, 0) := by
                      intro n
                      induction n with
                      | zero => intro ls u94441 α94443 hm g94437 g94438 g94439 g94440 hf94447 hI94444 hF94445 hk94446 hx94448 hx94449 hx94450 hx94451 hx94452; exact False.elim (by omega)
                      | succ n ih94454 =>
                        intro ls u94441 α94443 hm g94437 g94438 g94439 g94440 hf94447 hI94444 hF94445 hk94446 hx94448 hx94449 hx94450 hx94451 hx94452
                        refine qr_iload_n 70 rfl g94440 rfl ?_
                        refine qr_aload_n 71 rfl g94437 rfl ?_
                        refine qr_get 74 rfl rfl rfl (by decide) rfl ?_
                        refine qr_icmp_ge 132 77 rfl rfl rfl (by omega) (by omega) (fun h94455 => ?_) (fun h94455 => ?_)
                        · skip
                          refine qr_iinc _ 135 rfl g94439 (by decide) rfl rfl ?_
                          refine qr_goto 18 rfl rfl ?_
                          exact ih94091 _ (u94079 + 1) α94443 (by omega) (qm_gk g94437 (by decide) (Or.inl (by decide))) (qm_gk g94438 (by decide) (Or.inr rfl)) (qm_ge _ _ _) (by omega) hI94444 hF94445 hk94446 hx88520 (qfs_i hx94087 (fun hc => by obtain ⟨_, _, _, i, hi, h1⟩ := hc; exact hx94450 i (by omega) h1)) hx94451 hx94452
                        · skip
                          refine qr_aload_n 78 rfl g94437 rfl ?_
                          refine qr_get 81 rfl rfl rfl (by decide) rfl ?_
                          refine qr_iload_n 82 rfl g94440 rfl ?_
                          refine qr_iaload 83 rfl rfl (by omega) (by decide) rfl ?_
                          refine qr_topI (fun v94456 hv94456 => ?_)
                          have hs94457 : 0 ≤ v94456 ∧ v94456 ≤ 3131 := by rw [hv94456]; exact hI94444.2.1 71 _ (show _ < 31 by omega)
                          have hrv94456 : v94456 = (α 71) (u94441 : Int).toNat := hv94456.trans (congrFun hk94446 _)
                          have hs94458 : v94456 % 100 ≤ 31 := by rw [hv94456]; exact hI94444.2.2.2.2.1 71 (Or.inl rfl) _ (by omega)
                          refine qr_bipush 85 rfl (by decide) rfl ?_
                          refine qr_idiv 86 rfl (by omega) (by omega) rfl ?_
                          refine qr_iload_n 87 rfl g94439 rfl ?_
                          refine qr_icmp_eq 93 90 rfl rfl rfl (by omega) (by omega) (fun h94459 => ?_) (fun h94459 => ?_)
                          · skip
                            refine qr_aload_n 94 rfl g94437 rfl ?_
                            refine qr_get 97 rfl rfl rfl (by decide) rfl ?_
                            refine qr_iconst 98 rfl rfl ?_
                            refine qr_iload_n 99 rfl g94438 rfl ?_
                            refine qr_iload_n 100 rfl g94439 rfl ?_
                            refine qr_aload_n 101 rfl g94437 rfl ?_
                            refine qr_get 104 rfl rfl rfl (by decide) rfl ?_
                            refine qr_iload_n 105 rfl g94440 rfl ?_
                            refine qr_iaload 106 rfl rfl (by omega) (by decide) rfl ?_
                            refine qr_topI (fun v94460 hv94460 => ?_)
                            have hs94461 : 0 ≤ v94460 ∧ v94460 ≤ 3131 := by rw [hv94460]; exact hI94444.2.1 71 _ (show _ < 31 by omega)
                            have hrv94460 : v94460 = (α 71) (u94441 : Int).toNat := hv94460.trans (congrFun hk94446 _)
                            have hs94462 : v94460 % 100 ≤ 31 := by rw [hv94460]; exact hI94444.2.2.2.2.1 71 (Or.inl rfl) _ (by omega)
                            refine qr_bipush 108 rfl (by decide) rfl ?_
                            refine qr_irem 109 rfl (by omega) (by omega) rfl ?_
                            refine qr_aload_n 110 rfl g94437 rfl ?_
                            refine qr_get 113 rfl rfl rfl (by decide) rfl ?_
                            have hs94463 : (-9223372036854775808) ≤ σ 27 6 ∧ σ 27 6 ≤ 9223372036854775807 := hI94444.1 27 6
                            have hs94464 : 0 ≤ σ 27 7 ∧ σ 27 7 ≤ 40 := hI94444.1 27 7
                            have hs94465 : 0 ≤ σ 34 7 ∧ σ 34 7 ≤ 60 := hI94444.1 34 7
                            have hs94466 : (-2147483648) ≤ σ 58 11 ∧ σ 58 11 ≤ 2147483647 := hI94444.1 58 11
                            have hs94467 : (-2147483648) ≤ σ 58 12 ∧ σ 58 12 ≤ 2147483647 := hI94444.1 58 12
                            refine qr_callN 116 rfl rfl rfl (sf_90_58x (d := d + 0) hI94444 (by omega) (by omega) (by omega) (by omega) (by omega) (by omega) (qPW_fr hF94445 (by decide) (by decide) p0) (by rw [hF94445.2 24 (by decide), hF94445.2 28 (by decide), hF94445.2 29 (by decide), hF94445.2 30 (by decide), hF94445.2 31 (by decide), hF94445.2 33 (by decide)]; exact hx94451) (by rw [hF94445.2 22 (by decide), hF94445.2 35 (by decide), hF94445.2 36 (by decide), hF94445.2 37 (by decide), hF94445.2 40 (by decide), hF94445.2 41 (by decide)]; exact hx94452) (qZp_fr hF94445 (by decide) (by decide) p3)) ?_
                            rintro _ _ ⟨α94472, rfl, hI94473, hG94474, v94468, rfl, hv94468, hx94469, hx94470, hx94471⟩
                            have hF94475 : qFr [] [53, 57, 59, 60, 61, 62, 63, 85] σ α σ α94472 := qFr_t hF94445 hG94474 (by decide) (by decide)
                            rw [hF94445.2 24 (by decide), hF94445.2 28 (by decide), hF94445.2 29 (by decide), hF94445.2 30 (by decide), hF94445.2 31 (by decide), hF94445.2 33 (by decide)] at hx94470
                            rw [hF94445.2 22 (by decide), hF94445.2 35 (by decide), hF94445.2 36 (by decide), hF94445.2 37 (by decide), hF94445.2 40 (by decide), hF94445.2 41 (by decide)] at hx94471
                            show qr_W (qe L xs vb) (d + 4) qx_e137 _ (116, _, [.int (qz v94468)], qw σ α94472 κ ρ, 0, 0)
                            rw [qNVc_fr hF94445 (by decide) (by decide)] at hx94469
                            refine qr_if_eq 126 119 rfl rfl rfl (by omega) (fun h94476 => ?_) (fun h94476 => ?_)
                            · skip
                              refine qr_iinc _ 129 rfl g94440 (by decide) rfl rfl ?_
                              refine qr_goto 69 rfl rfl ?_
                              exact ih94454 _ (u94441 + 1) α94472 (by omega) (qm_gk g94437 (by decide) (Or.inl (by decide))) (qm_gk g94438 (by decide) (Or.inl (by decide))) (qm_gk g94439 (by decide) (Or.inr rfl)) (qm_ge _ _ _) (by omega) hI94473 hF94475 ((hG94474.2 71 (by decide)).trans hk94446) hx88520 hx94087 (qfs_n (by omega) hx94450 (fun hc => hc.2 (by rw [show (α 71) (u94441 : Int).toNat = v94460 from hrv94460.symm, ← hx94469]; omega))) hx94470 hx94471
                            · skip
                              refine qr_bipush 121 rfl (by decide) rfl ?_
                              refine qr_iload_n 122 rfl g94438 rfl ?_
                              refine qr_imul 123 rfl rfl ?_
                              refine qr_iload_n 124 rfl g94439 rfl ?_
                              refine qr_iadd 125 rfl rfl ?_
                              refine qr_retI rfl rfl (by decide) (by decide) ?_
                              exact ⟨_, rfl, hI94473, hF94475, ((100 * u88513) + u94079), rfl, by omega, by omega, (qFst_hit (p := u88513) (q := u94079) (by omega) (by omega) (by omega) (by omega) ⟨by omega, by omega, by omega, (u94441 : Int).toNat, by omega, by omega, by rw [show (α 71) (u94441 : Int).toNat = v94460 from hrv94460.symm, ← hx94469]; omega⟩ hx94086 hx94087), hx94470, hx94471⟩
                          · skip
                            refine qr_goto 126 rfl rfl ?_
                            refine qr_iinc _ 129 rfl g94440 (by decide) rfl rfl ?_
                            refine qr_goto 69 rfl rfl ?_
                            exact ih94454 _ (u94441 + 1) α94443 (by omega) (qm_gk g94437 (by decide) (Or.inl (by decide))) (qm_gk g94438 (by decide) (Or.inl (by decide))) (qm_gk g94439 (by decide) (Or.inr rfl)) (qm_ge _ _ _) (by omega) hI94444 hF94445 hk94446 hx88520 hx94087 (qfs_n (by omega) hx94450 (fun hc => absurd hc.1 (by omega))) hx94451 hx94452
                    exact hL94453 ((31 - 0 + 1 : Int)).toNat _ 0 α94081 (by omega) (qm_gk g94076 (by decide) (Or.inl (by decide))) (qm_gk g94077 (by decide) (Or.inl (by decide))) (qm_gk g94078 (by decide) (Or.inr rfl)) (qm_ge _ _ _) (by omega) hI94082 hF94083 hk94084 hx88520 hx94087 qfs_k hx94088 hx94089
                  · skip
                    refine qr_goto 132 rfl rfl ?_
                    refine qr_iinc _ 135 rfl g94078 (by decide) rfl rfl ?_
                    refine qr_goto 18 rfl rfl ?_
                    exact ih94091 _ (u94079 + 1) α94081 (by omega) (qm_gk g94076 (by decide) (Or.inl (by decide))) (qm_gk g94077 (by decide) (Or.inr rfl)) (qm_ge _ _ _) (by omega) hI94082 hF94083 hk94084 hx88520 (qfs_i hx94087 (fun hc => absurd hc.2.2.1 (by omega))) hx94088 hx94089
        exact hL94090 ((32 - 0 + 1 : Int)).toNat _ 0 α88515 (by omega) (qm_gk g88511 (by decide) (Or.inl (by decide))) (qm_gk g88512 (by decide) (Or.inr rfl)) (qm_ge _ _ _) (by omega) hI88516 hF88517 hk88518 hx88520 qfs_j hx88521 hx88522
  exact hL88523 ((32 - 0 + 1 : Int)).toNat _ 0 α (by omega) rfl rfl (by omega) hI hF0 rfl qfs_0 p1 p2

set_option maxHeartbeats 4000000 in
set_option maxRecDepth 20000 in
/-- OneRoof$Telling.firstHelp -/
theorem sf_137_73x {L : Nat} {xs : Nat → Int} {vb : Bool} {d : Nat} {σ α : Nat → Nat → Int} {κ : Nat → Option Nat} {ρ : Nat} {f : (Nat → Int) → Int} (hI : qI σ α κ ρ) (p0 : qPW σ α κ (1 : Int).toNat f) (p1 : qCaN (α 60) (α 61) (σ 58 12) (fun p q => qnF (qTb (α 24)) (α 28) (α 29) (α 31) (α 30) (α 33) (σ 27 6) (σ 27 7) p q (σ 58 11))) (p2 : qCaN (α 62) (α 63) (σ 58 12) (fun p q => qbs (qhF (α 35) (α 36) (α 37) (α 40) (qcv (α 41)) (qlw (α 22)) p q (σ 58 11)) (σ 34 7 : Int).toNat)) (p3 : qZp σ α) : qm_T (qe L xs vb) (d + 5) 137 [.ref 73] (qw σ α κ ρ) (fun r w' => ∃ α', w' = qw σ α' κ ρ ∧ qI σ α' κ ρ ∧ qFr [] [53, 57, 59, 60, 61, 62, 63, 85] σ α σ α' ∧ ∃ v : Int, r = some (.int (qz v)) ∧ ((-1) ≤ v ∧ v ≤ 3131) ∧ (v = -1 ∨ (0 ≤ v ∧ v / 100 ≤ 31 ∧ v % 100 ≤ 31 ∧ ¬ v / 100 = v % 100)) ∧ qFst (fun p s : Int => ¬ p = s ∧ qbit (σ 73 3) p = 1 ∧ qbit (ql_and (σ 73 3) (σ 73 6)) s = 1 ∧ ∃ i : Nat, (i : Int) < (σ 73 2) ∧ (fun i : Nat => (α 74) i / 100 = s ∧ ¬ f (qNVc σ α (σ 58 10) p s ((α 74) i % 100) (σ 73 3)) = 0) i) (σ 17 6) v ∧ qCaN (α' 60) (α' 61) (σ 58 12) (fun p q => qnF (qTb (α 24)) (α 28) (α 29) (α 31) (α 30) (α 33) (σ 27 6) (σ 27 7) p q (σ 58 11)) ∧ qCaN (α' 62) (α' 63) (σ 58 12) (fun p q => qbs (qhF (α 35) (α 36) (α 37) (α 40) (qcv (α 41)) (qlw (α 22)) p q (σ 58 11)) (σ 34 7 : Int).toNat)) := by
  refine qr_start (d := d + 4) qv_e137 (Nat.le_of_ble_eq_true rfl) ?_
  show qr_W (qe L xs vb) (d + 4) qx_e137 _ (0, [(0, .ref 73)], [], _, 0, 0)
  have hF0 := qFr_rf [] [53, 57, 59, 60, 61, 62, 63, 85] σ α
  have hz58_12 : (-2147483648) ≤ σ 58 12 ∧ σ 58 12 ≤ 2147483647 := hI.1 58 12
  have hz27_6 : (-9223372036854775808) ≤ σ 27 6 ∧ σ 27 6 ≤ 9223372036854775807 := hI.1 27 6
  have hz27_7 : 0 ≤ σ 27 7 ∧ σ 27 7 ≤ 40 := hI.1 27 7
  have hz58_11 : (-2147483648) ≤ σ 58 11 ∧ σ 58 11 ≤ 2147483647 := hI.1 58 11
  have hz34_7 : 0 ≤ σ 34 7 ∧ σ 34 7 ≤ 60 := hI.1 34 7
  have hz58_10 : (-9223372036854775808) ≤ σ 58 10 ∧ σ 58 10 ≤ 9223372036854775807 := hI.1 58 10
  have hz17_6 : 0 ≤ σ 17 6 ∧ σ 17 6 ≤ 32 := hI.1 17 6
  have hz73_2 : 0 ≤ σ 73 2 ∧ σ 73 2 ≤ 31 := hI.1 73 2
  have hz73_3 : (-9223372036854775808) ≤ σ 73 3 ∧ σ 73 3 ≤ 9223372036854775807 := hI.1 73 3
  have hz73_6 : (-9223372036854775808) ≤ σ 73 6 ∧ σ 73 6 ≤ 9223372036854775807 := hI.1 73 6
  refine qr_iconst 1 rfl rfl ?_
  refine qr_istore_n _ 2 rfl (by decide) rfl rfl ?_
  have hL88523 : ∀ (n : Nat) (ls : qm_L) (u88513 : Int) (α88515 : Nat → Nat → Int), 32 - u88513 < (n : Int) → qm_get ls 0 = some (.ref 73) → qm_get ls 1 = some (.int (qz u88513)) → (0 ≤ u88513 ∧ u88513 ≤ 32) → qI σ α88515 κ ρ → qFr [] [53, 57, 59, 60, 61, 62, 63, 85] σ α σ α88515 → α88515 74 = (α 74) → (∀ a b : Int, 0 ≤ a → a < u88513 → 0 ≤ b → b < (σ 17 6) → ¬ (fun p s : Int => ¬ p = s ∧ qbit (σ 73 3) p = 1 ∧ qbit (ql_and (σ 73 3) (σ 73 6)) s = 1 ∧ ∃ i : Nat, (i : Int) < (σ 73 2) ∧ (fun i : Nat => (α 74) i / 100 = s ∧ ¬ f (qNVc σ α (σ 58 10) p s ((α 74) i % 100) (σ 73 3)) = 0) i) a b) → qCaN (α88515 60) (α88515 61) (σ 58 12) (fun p q => qnF (qTb (α 24)) (α 28) (α 29) (α 31) (α 30) (α 33) (σ 27 6) (σ 27 7) p q (σ 58 11)) → qCaN (α88515 62) (α88515 63) (σ 58 12) (fun p q => qbs (qhF (α 35) (α 36) (α 37) (α 40) (qcv (α 41)) (qlw (α 22)) p q (σ 58 11)) (σ 34 7 : Int).toNat) → qr_W (qe L xs vb) (d + 4) qx_e137 (fun r w' => ∃ α', w' = qw σ α' κ ρ ∧ qI σ α' κ ρ ∧ qFr [] [53, 57, 59, 60, 61, 62, 63, 85] σ α σ α' ∧ ∃ v : Int, r = some (.int (qz v)) ∧ ((-1) ≤ v ∧ v ≤ 3131) ∧ (v = -1 ∨ (0 ≤ v ∧ v / 100 ≤ 31 ∧ v % 100 ≤ 31 ∧ ¬ v / 100 = v % 100)) ∧ qFst (fun p s : Int => ¬ p = s ∧ qbit (σ 73 3) p = 1 ∧ qbit (ql_and (σ 73 3) (σ 73 6)) s = 1 ∧ ∃ i : Nat, (i : Int) < (σ 73 2) ∧ (fun i : Nat => (α 74) i / 100 = s ∧ ¬ f (qNVc σ α (σ 58 10) p s ((α 74) i % 100) (σ 73 3)) = 0) i) (σ 17 6) v ∧ qCaN (α' 60) (α' 61) (σ 58 12) (fun p q => qnF (qTb (α 24)) (α 28) (α 29) (α 31) (α 30) (α 33) (σ 27 6) (σ 27 7) p q (σ 58 11)) ∧ qCaN (α' 62) (α' 63) (σ 58 12) (fun p q => qbs (qhF (α 35) (α 36) (α 37) (α 40) (qcv (α 41)) (qlw (α 22)) p q (σ 58 11)) (σ 34 7 : Int).toNat)) (2, ls, [], qw σ α88515 κ ρ, 0, 0) := by
    intro n
    induction n with
    | zero => intro ls u88513 α88515 hm g88511 g88512 hf88519 hI88516 hF88517 hk88518 hx88520 hx88521 hx88522; exact False.elim (by omega)
    | succ n ih88524 =>
      intro ls u88513 α88515 hm g88511 g88512 hf88519 hI88516 hF88517 hk88518 hx88520 hx88521 hx88522
      refine qr_iload_n 3 rfl g88512 rfl ?_
      refine qr_aload_n 4 rfl g88511 rfl ?_
      refine qr_get 7 rfl rfl rfl (by decide) rfl ?_
      refine qr_get 10 rfl rfl rfl (by decide) rfl ?_
      refine qr_get 13 rfl rfl rfl (by decide) rfl ?_
      refine qr_icmp_ge 144 16 rfl rfl rfl (by omega) (by omega) (fun h88525 => ?_) (fun h88525 => ?_)
      · skip
        refine qr_iconst 145 rfl rfl ?_
        refine qr_retI rfl rfl (by decide) (by decide) ?_
        exact ⟨_, rfl, hI88516, hF88517, (-1), rfl, by omega, by omega, (qFst_no rfl (by omega) hx88520), hx88521, hx88522⟩
      · skip
        refine qr_iconst 17 rfl rfl ?_
        refine qr_istore_n _ 18 rfl (by decide) rfl rfl ?_
        have hL94090 : ∀ (n : Nat) (ls : qm_L) (u94079 : Int) (α94081 : Nat → Nat → Int), 32 - u94079 < (n : Int) → qm_get ls 0 = some (.ref 73) → qm_get ls 1 = some (.int (qz u88513)) → qm_get ls 2 = some (.int (qz u94079)) → (0 ≤ u94079 ∧ u94079 ≤ 32) → qI σ α94081 κ ρ → qFr [] [53, 57, 59, 60, 61, 62, 63, 85] σ α σ α94081 → α94081 74 = (α 74) → (∀ a b : Int, 0 ≤ a → a < u88513 → 0 ≤ b → b < (σ 17 6) → ¬ (fun p s : Int => ¬ p = s ∧ qbit (σ 73 3) p = 1 ∧ qbit (ql_and (σ 73 3) (σ 73 6)) s = 1 ∧ ∃ i : Nat, (i : Int) < (σ 73 2) ∧ (fun i : Nat => (α 74) i / 100 = s ∧ ¬ f (qNVc σ α (σ 58 10) p s ((α 74) i % 100) (σ 73 3)) = 0) i) a b) → (∀ b : Int, 0 ≤ b → b < u94079 → ¬ (fun p s : Int => ¬ p = s ∧ qbit (σ 73 3) p = 1 ∧ qbit (ql_and (σ 73 3) (σ 73 6)) s = 1 ∧ ∃ i : Nat, (i : Int) < (σ 73 2) ∧ (fun i : Nat => (α 74) i / 100 = s ∧ ¬ f (qNVc σ α (σ 58 10) p s ((α 74) i % 100) (σ 73 3)) = 0) i) u88513 b) → qCaN (α94081 60) (α94081 61) (σ 58 12) (fun p q => qnF (qTb (α 24)) (α 28) (α 29) (α 31) (α 30) (α 33) (σ 27 6) (σ 27 7) p q (σ 58 11)) → qCaN (α94081 62) (α94081 63) (σ 58 12) (fun p q => qbs (qhF (α 35) (α 36) (α 37) (α 40) (qcv (α 41)) (qlw (α 22)) p q (σ 58 11)) (σ 34 7 : Int).toNat) → qr_W (qe L xs vb) (d + 4) qx_e137 (fun r w' => ∃ α', w' = qw σ α' κ ρ ∧ qI σ α' κ ρ ∧ qFr [] [53, 57, 59, 60, 61, 62, 63, 85] σ α σ α' ∧ ∃ v : Int, r = some (.int (qz v)) ∧ ((-1) ≤ v ∧ v ≤ 3131) ∧ (v = -1 ∨ (0 ≤ v ∧ v / 100 ≤ 31 ∧ v % 100 ≤ 31 ∧ ¬ v / 100 = v % 100)) ∧ qFst (fun p s : Int => ¬ p = s ∧ qbit (σ 73 3) p = 1 ∧ qbit (ql_and (σ 73 3) (σ 73 6)) s = 1 ∧ ∃ i : Nat, (i : Int) < (σ 73 2) ∧ (fun i : Nat => (α 74) i / 100 = s ∧ ¬ f (qNVc σ α (σ 58 10) p s ((α 74) i % 100) (σ 73 3)) = 0) i) (σ 17 6) v ∧ qCaN (α' 60) (α' 61) (σ 58 12) (fun p q => qnF (qTb (α 24)) (α 28) (α 29) (α 31) (α 30) (α 33) (σ 27 6) (σ 27 7) p q (σ 58 11)) ∧ qCaN (α' 62) (α' 63) (σ 58 12) (fun p q => qbs (qhF (α 35) (α 36) (α 37) (α 40) (qcv (α 41)) (qlw (α 22)) p q (σ 58 11)) (σ 34 7 : Int).toNat)) (18, ls, [], qw σ α94081 κ ρ, 0, 0) := by
          intro n
          induction n with
          | zero => intro ls u94079 α94081 hm g94076 g94077 g94078 hf94085 hI94082 hF94083 hk94084 hx94086 hx94087 hx94088 hx94089; exact False.elim (by omega)
          | succ n ih94091 =>
            intro ls u94079 α94081 hm g94076 g94077 g94078 hf94085 hI94082 hF94083 hk94084 hx94086 hx94087 hx94088 hx94089
            refine qr_iload_n 19 rfl g94078 rfl ?_
            refine qr_aload_n 20 rfl g94076 rfl ?_
            refine qr_get 23 rfl rfl rfl (by decide) rfl ?_
            refine qr_get 26 rfl rfl rfl (by decide) rfl ?_
            refine qr_get 29 rfl rfl rfl (by decide) rfl ?_
            refine qr_icmp_ge 138 32 rfl rfl rfl (by omega) (by omega) (fun h94092 => ?_) (fun h94092 => ?_)
            · skip
              refine qr_iinc _ 141 rfl g94077 (by decide) rfl rfl ?_
              refine qr_goto 2 rfl rfl ?_
              exact ih88524 _ (u88513 + 1) α94081 (by omega) (qm_gk g94076 (by decide) (Or.inr rfl)) (qm_ge _ _ _) (by omega) hI94082 hF94083 hk94084 (qfs_o hx88520 (fun b h1 h2 => hx94087 b h1 (by omega))) hx94088 hx94089
            · skip
              refine qr_iload_n 33 rfl g94077 rfl ?_
              refine qr_iload_n 34 rfl g94078 rfl ?_
              refine qr_icmp_eq 132 37 rfl rfl rfl (by omega) (by omega) (fun h94093 => ?_) (fun h94093 => ?_)
              · skip
                refine qr_iinc _ 135 rfl g94078 (by decide) rfl rfl ?_
                refine qr_goto 18 rfl rfl ?_
                exact ih94091 _ (u94079 + 1) α94081 (by omega) (qm_gk g94076 (by decide) (Or.inl (by decide))) (qm_gk g94077 (by decide) (Or.inr rfl)) (qm_ge _ _ _) (by omega) hI94082 hF94083 hk94084 hx88520 (qfs_i hx94087 (fun hc => hc.1 (by omega))) hx94088 hx94089
              · skip
                refine qr_aload_n 38 rfl g94076 rfl ?_
                refine qr_get 41 rfl rfl rfl (by decide) rfl ?_
                refine qr_iload_n 42 rfl g94077 rfl ?_
                refine qr_callN 45 rfl rfl rfl (sf_50b (d := d + 3) hI94082 (by omega) (by omega)) ?_
                rintro _ _ ⟨rfl, v94094, rfl, hv94094, hp94095⟩
                show qr_W (qe L xs vb) (d + 4) qx_e137 _ (45, _, [.int (qz v94094)], qw σ α94081 κ ρ, 0, 0)
                refine qr_if_eq 132 48 rfl rfl rfl (by omega) (fun h94096 => ?_) (fun h94096 => ?_)
                · skip
                  refine qr_iinc _ 135 rfl g94078 (by decide) rfl rfl ?_
                  refine qr_goto 18 rfl rfl ?_
                  exact ih94091 _ (u94079 + 1) α94081 (by omega) (qm_gk g94076 (by decide) (Or.inl (by decide))) (qm_gk g94077 (by decide) (Or.inr rfl)) (qm_ge _ _ _) (by omega) hI94082 hF94083 hk94084 hx88520 (qfs_i hx94087 (fun hc => absurd hc.2.1 (by omega))) hx94088 hx94089
                · skip
                  refine qr_aload_n 49 rfl g94076 rfl ?_
                  refine qr_get 52 rfl rfl rfl (by decide) rfl ?_
                  refine qr_aload_n 53 rfl g94076 rfl ?_
                  refine qr_get 56 rfl rfl rfl (by decide) rfl ?_
                  refine qr_land 57 rfl rfl ?_
                  refine qy_canlE (fun v94097 hv94097 hev94097 => ?_)
                  refine qr_iload_n 58 rfl g94078 rfl ?_
                  refine qr_callN 61 rfl rfl rfl (sf_50b (d := d + 3) hI94082 (by omega) (by omega)) ?_
                  rintro _ _ ⟨rfl, v94098, rfl, hv94098, hp94099⟩
                  show qr_W (qe L xs vb) (d + 4) qx_e137 _ (61, _, [.int (qz v94098)], qw σ α94081 κ ρ, 0, 0)
                  rw [ql_val hev94097 (by omega) (ql_and_r _ _)] at hp94099
                  refine qr_if_ne 67 64 rfl rfl rfl (by omega) (fun h94100 => ?_) (fun h94100 => ?_)
                  · skip
                    refine qr_iconst 68 rfl rfl ?_
                    refine qr_istore_n _ 69 rfl (by decide) rfl rfl ?_
                    have hL94453 : ∀ (n : Nat) (ls : qm_L) (u94441 : Int) (α94443 : Nat → Nat → Int), 31 - u94441 < (n : Int) → qm_get ls 0 = some (.ref 73) → qm_get ls 1 = some (.int (qz u88513)) → qm_get ls 2 = some (.int (qz u94079)) → qm_get ls 3 = some (.int (qz u94441)) → (0 ≤ u94441 ∧ u94441 ≤ 31) → qI σ α94443 κ ρ → qFr [] [53, 57, 59, 60, 61, 62, 63, 85] σ α σ α94443 → α94443 74 = (α 74) → (∀ a b : Int, 0 ≤ a → a < u88513 → 0 ≤ b → b < (σ 17 6) → ¬ (fun p s : Int => ¬ p = s ∧ qbit (σ 73 3) p = 1 ∧ qbit (ql_and (σ 73 3) (σ 73 6)) s = 1 ∧ ∃ i : Nat, (i : Int) < (σ 73 2) ∧ (fun i : Nat => (α 74) i / 100 = s ∧ ¬ f (qNVc σ α (σ 58 10) p s ((α 74) i % 100) (σ 73 3)) = 0) i) a b) → (∀ b : Int, 0 ≤ b → b < u94079 → ¬ (fun p s : Int => ¬ p = s ∧ qbit (σ 73 3) p = 1 ∧ qbit (ql_and (σ 73 3) (σ 73 6)) s = 1 ∧ ∃ i : Nat, (i : Int) < (σ 73 2) ∧ (fun i : Nat => (α 74) i / 100 = s ∧ ¬ f (qNVc σ α (σ 58 10) p s ((α 74) i % 100) (σ 73 3)) = 0) i) u88513 b) → (∀ i : Nat, (i : Int) < u94441 → ¬ (fun i : Nat => (α 74) i / 100 = u94079 ∧ ¬ f (qNVc σ α (σ 58 10) u88513 u94079 ((α 74) i % 100) (σ 73 3)) = 0) i) → qCaN (α94443 60) (α94443 61) (σ 58 12) (fun p q => qnF (qTb (α 24)) (α 28) (α 29) (α 31) (α 30) (α 33) (σ 27 6) (σ 27 7) p q (σ 58 11)) → qCaN (α94443 62) (α94443 63) (σ 58 12) (fun p q => qbs (qhF (α 35) (α 36) (α 37) (α 40) (qcv (α 41)) (qlw (α 22)) p q (σ 58 11)) (σ 34 7 : Int).toNat) → qr_W (qe L xs vb) (d + 4) qx_e137 (fun r w' => ∃ α', w' = qw σ α' κ ρ ∧ qI σ α' κ ρ ∧ qFr [] [53, 57, 59, 60, 61, 62, 63, 85] σ α σ α' ∧ ∃ v : Int, r = some (.int (qz v)) ∧ ((-1) ≤ v ∧ v ≤ 3131) ∧ (v = -1 ∨ (0 ≤ v ∧ v / 100 ≤ 31 ∧ v % 100 ≤ 31 ∧ ¬ v / 100 = v % 100)) ∧ qFst (fun p s : Int => ¬ p = s ∧ qbit (σ 73 3) p = 1 ∧ qbit (ql_and (σ 73 3) (σ 73 6)) s = 1 ∧ ∃ i : Nat, (i : Int) < (σ 73 2) ∧ (fun i : Nat => (α 74) i / 100 = s ∧ ¬ f (qNVc σ α (σ 58 10) p s ((α 74) i % 100) (σ 73 3)) = 0) i) (σ 17 6) v ∧ qCaN (α' 60) (α' 61) (σ 58 12) (fun p q => qnF (qTb (α 24)) (α 28) (α 29) (α 31) (α 30) (α 33) (σ 27 6) (σ 27 7) p q (σ 58 11)) ∧ qCaN (α' 62) (α' 63) (σ 58 12) (fun p q => qbs (qhF (α 35) (α 36) (α 37) (α 40) (qcv (α 41)) (qlw (α 22)) p q (σ 58 11)) (σ 34 7 : Int).toNat)) (69, ls, [], qw σ α94443 κ ρ, 0, 0) := by
                      intro n
                      induction n with
                      | zero => intro ls u94441 α94443 hm g94437 g94438 g94439 g94440 hf94447 hI94444 hF94445 hk94446 hx94448 hx94449 hx94450 hx94451 hx94452; exact False.elim (by omega)
                      | succ n ih94454 =>
                        intro ls u94441 α94443 hm g94437 g94438 g94439 g94440 hf94447 hI94444 hF94445 hk94446 hx94448 hx94449 hx94450 hx94451 hx94452
                        refine qr_iload_n 70 rfl g94440 rfl ?_
                        refine qr_aload_n 71 rfl g94437 rfl ?_
                        refine qr_get 74 rfl rfl rfl (by decide) rfl ?_
                        refine qr_icmp_ge 132 77 rfl rfl rfl (by omega) (by omega) (fun h94455 => ?_) (fun h94455 => ?_)
                        · skip
                          refine qr_iinc _ 135 rfl g94439 (by decide) rfl rfl ?_
                          refine qr_goto 18 rfl rfl ?_
                          exact ih94091 _ (u94079 + 1) α94443 (by omega) (qm_gk g94437 (by decide) (Or.inl (by decide))) (qm_gk g94438 (by decide) (Or.inr rfl)) (qm_ge _ _ _) (by omega) hI94444 hF94445 hk94446 hx88520 (qfs_i hx94087 (fun hc => by obtain ⟨_, _, _, i, hi, h1⟩ := hc; exact hx94450 i (by omega) h1)) hx94451 hx94452
                        · skip
                          refine qr_aload_n 78 rfl g94437 rfl ?_
                          refine qr_get 81 rfl rfl rfl (by decide) rfl ?_
                          refine qr_iload_n 82 rfl g94440 rfl ?_
                          refine qr_iaload 83 rfl rfl (by omega) (by decide) rfl ?_
                          refine qr_topI (fun v94456 hv94456 => ?_)
                          have hs94457 : 0 ≤ v94456 ∧ v94456 ≤ 3131 := by rw [hv94456]; exact hI94444.2.1 74 _ (show _ < 31 by omega)
                          have hrv94456 : v94456 = (α 74) (u94441 : Int).toNat := hv94456.trans (congrFun hk94446 _)
                          have hs94458 : v94456 % 100 ≤ 31 := by rw [hv94456]; exact hI94444.2.2.2.2.1 74 (Or.inr rfl) _ (by omega)
                          refine qr_bipush 85 rfl (by decide) rfl ?_
                          refine qr_idiv 86 rfl (by omega) (by omega) rfl ?_
                          refine qr_iload_n 87 rfl g94439 rfl ?_
                          refine qr_icmp_eq 93 90 rfl rfl rfl (by omega) (by omega) (fun h94459 => ?_) (fun h94459 => ?_)
                          · skip
                            refine qr_aload_n 94 rfl g94437 rfl ?_
                            refine qr_get 97 rfl rfl rfl (by decide) rfl ?_
                            refine qr_iconst 98 rfl rfl ?_
                            refine qr_iload_n 99 rfl g94438 rfl ?_
                            refine qr_iload_n 100 rfl g94439 rfl ?_
                            refine qr_aload_n 101 rfl g94437 rfl ?_
                            refine qr_get 104 rfl rfl rfl (by decide) rfl ?_
                            refine qr_iload_n 105 rfl g94440 rfl ?_
                            refine qr_iaload 106 rfl rfl (by omega) (by decide) rfl ?_
                            refine qr_topI (fun v94460 hv94460 => ?_)
                            have hs94461 : 0 ≤ v94460 ∧ v94460 ≤ 3131 := by rw [hv94460]; exact hI94444.2.1 74 _ (show _ < 31 by omega)
                            have hrv94460 : v94460 = (α 74) (u94441 : Int).toNat := hv94460.trans (congrFun hk94446 _)
                            have hs94462 : v94460 % 100 ≤ 31 := by rw [hv94460]; exact hI94444.2.2.2.2.1 74 (Or.inr rfl) _ (by omega)
                            refine qr_bipush 108 rfl (by decide) rfl ?_
                            refine qr_irem 109 rfl (by omega) (by omega) rfl ?_
                            refine qr_aload_n 110 rfl g94437 rfl ?_
                            refine qr_get 113 rfl rfl rfl (by decide) rfl ?_
                            have hs94463 : (-9223372036854775808) ≤ σ 27 6 ∧ σ 27 6 ≤ 9223372036854775807 := hI94444.1 27 6
                            have hs94464 : 0 ≤ σ 27 7 ∧ σ 27 7 ≤ 40 := hI94444.1 27 7
                            have hs94465 : 0 ≤ σ 34 7 ∧ σ 34 7 ≤ 60 := hI94444.1 34 7
                            have hs94466 : (-2147483648) ≤ σ 58 11 ∧ σ 58 11 ≤ 2147483647 := hI94444.1 58 11
                            have hs94467 : (-2147483648) ≤ σ 58 12 ∧ σ 58 12 ≤ 2147483647 := hI94444.1 58 12
                            refine qr_callN 116 rfl rfl rfl (sf_90_58x (d := d + 0) hI94444 (by omega) (by omega) (by omega) (by omega) (by omega) (by omega) (qPW_fr hF94445 (by decide) (by decide) p0) (by rw [hF94445.2 24 (by decide), hF94445.2 28 (by decide), hF94445.2 29 (by decide), hF94445.2 30 (by decide), hF94445.2 31 (by decide), hF94445.2 33 (by decide)]; exact hx94451) (by rw [hF94445.2 22 (by decide), hF94445.2 35 (by decide), hF94445.2 36 (by decide), hF94445.2 37 (by decide), hF94445.2 40 (by decide), hF94445.2 41 (by decide)]; exact hx94452) (qZp_fr hF94445 (by decide) (by decide) p3)) ?_
                            rintro _ _ ⟨α94472, rfl, hI94473, hG94474, v94468, rfl, hv94468, hx94469, hx94470, hx94471⟩
                            have hF94475 : qFr [] [53, 57, 59, 60, 61, 62, 63, 85] σ α σ α94472 := qFr_t hF94445 hG94474 (by decide) (by decide)
                            rw [hF94445.2 24 (by decide), hF94445.2 28 (by decide), hF94445.2 29 (by decide), hF94445.2 30 (by decide), hF94445.2 31 (by decide), hF94445.2 33 (by decide)] at hx94470
                            rw [hF94445.2 22 (by decide), hF94445.2 35 (by decide), hF94445.2 36 (by decide), hF94445.2 37 (by decide), hF94445.2 40 (by decide), hF94445.2 41 (by decide)] at hx94471
                            show qr_W (qe L xs vb) (d + 4) qx_e137 _ (116, _, [.int (qz v94468)], qw σ α94472 κ ρ, 0, 0)
                            rw [qNVc_fr hF94445 (by decide) (by decide)] at hx94469
                            refine qr_if_eq 126 119 rfl rfl rfl (by omega) (fun h94476 => ?_) (fun h94476 => ?_)
                            · skip
                              refine qr_iinc _ 129 rfl g94440 (by decide) rfl rfl ?_
                              refine qr_goto 69 rfl rfl ?_
                              exact ih94454 _ (u94441 + 1) α94472 (by omega) (qm_gk g94437 (by decide) (Or.inl (by decide))) (qm_gk g94438 (by decide) (Or.inl (by decide))) (qm_gk g94439 (by decide) (Or.inr rfl)) (qm_ge _ _ _) (by omega) hI94473 hF94475 ((hG94474.2 74 (by decide)).trans hk94446) hx88520 hx94087 (qfs_n (by omega) hx94450 (fun hc => hc.2 (by rw [show (α 74) (u94441 : Int).toNat = v94460 from hrv94460.symm, ← hx94469]; omega))) hx94470 hx94471
                            · skip
                              refine qr_bipush 121 rfl (by decide) rfl ?_
                              refine qr_iload_n 122 rfl g94438 rfl ?_
                              refine qr_imul 123 rfl rfl ?_
                              refine qr_iload_n 124 rfl g94439 rfl ?_
                              refine qr_iadd 125 rfl rfl ?_
                              refine qr_retI rfl rfl (by decide) (by decide) ?_
                              exact ⟨_, rfl, hI94473, hF94475, ((100 * u88513) + u94079), rfl, by omega, by omega, (qFst_hit (p := u88513) (q := u94079) (by omega) (by omega) (by omega) (by omega) ⟨by omega, by omega, by omega, (u94441 : Int).toNat, by omega, by omega, by rw [show (α 74) (u94441 : Int).toNat = v94460 from hrv94460.symm, ← hx94469]; omega⟩ hx94086 hx94087), hx94470, hx94471⟩
                          · skip
                            refine qr_goto 126 rfl rfl ?_
                            refine qr_iinc _ 129 rfl g94440 (by decide) rfl rfl ?_
                            refine qr_goto 69 rfl rfl ?_
                            exact ih94454 _ (u94441 + 1) α94443 (by omega) (qm_gk g94437 (by decide) (Or.inl (by decide))) (qm_gk g94438 (by decide) (Or.inl (by decide))) (qm_gk g94439 (by decide) (Or.inr rfl)) (qm_ge _ _ _) (by omega) hI94444 hF94445 hk94446 hx88520 hx94087 (qfs_n (by omega) hx94450 (fun hc => absurd hc.1 (by omega))) hx94451 hx94452
                    exact hL94453 ((31 - 0 + 1 : Int)).toNat _ 0 α94081 (by omega) (qm_gk g94076 (by decide) (Or.inl (by decide))) (qm_gk g94077 (by decide) (Or.inl (by decide))) (qm_gk g94078 (by decide) (Or.inr rfl)) (qm_ge _ _ _) (by omega) hI94082 hF94083 hk94084 hx88520 hx94087 qfs_k hx94088 hx94089
                  · skip
                    refine qr_goto 132 rfl rfl ?_
                    refine qr_iinc _ 135 rfl g94078 (by decide) rfl rfl ?_
                    refine qr_goto 18 rfl rfl ?_
                    exact ih94091 _ (u94079 + 1) α94081 (by omega) (qm_gk g94076 (by decide) (Or.inl (by decide))) (qm_gk g94077 (by decide) (Or.inr rfl)) (qm_ge _ _ _) (by omega) hI94082 hF94083 hk94084 hx88520 (qfs_i hx94087 (fun hc => absurd hc.2.2.1 (by omega))) hx94088 hx94089
        exact hL94090 ((32 - 0 + 1 : Int)).toNat _ 0 α88515 (by omega) (qm_gk g88511 (by decide) (Or.inl (by decide))) (qm_gk g88512 (by decide) (Or.inr rfl)) (qm_ge _ _ _) (by omega) hI88516 hF88517 hk88518 hx88520 qfs_j hx88521 hx88522
  exact hL88523 ((32 - 0 + 1 : Int)).toNat _ 0 α (by omega) rfl rfl (by omega) hI hF0 rfl qfs_0 p1 p2
